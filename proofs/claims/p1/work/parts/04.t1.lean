theorem dX0_clear_0 : decode cX0_clear 0 = .ok (.iconst 0, 1) := by decide +kernel
theorem dX0_clear_1 : decode cX0_clear 1 = .ok (.istore_n 1, 1) := by decide +kernel
theorem dX0_clear_12 : decode cX0_clear 12 = .ok (.iload_n 1, 1) := by decide +kernel
theorem dX0_clear_13 : decode cX0_clear 13 = .ok (.iconst 0, 1) := by decide +kernel
theorem dX0_clear_14 : decode cX0_clear 14 = .ok (.iastore, 1) := by decide +kernel
theorem dX0_clear_15 : decode cX0_clear 15 = .ok (.iinc 1 1, 3) := by decide +kernel
theorem dX0_clear_18 : decode cX0_clear 18 = .ok (.goto (-16), 3) := by decide +kernel
theorem dX0_clear_2 : decode cX0_clear 2 = .ok (.iload_n 1, 1) := by decide +kernel
theorem dX0_clear_21 : decode cX0_clear 21 = .ok (.aload_n 0, 1) := by decide +kernel
theorem dX0_clear_22 : decode cX0_clear 22 = .ok (.iconst 0, 1) := by decide +kernel
theorem dX0_clear_23 : decode cX0_clear 23 = .ok (.putfield 15, 3) := by decide +kernel
theorem dX0_clear_26 : decode cX0_clear 26 = .ok (.aload_n 0, 1) := by decide +kernel
theorem dX0_clear_27 : decode cX0_clear 27 = .ok (.iconst 0, 1) := by decide +kernel
theorem dX0_clear_28 : decode cX0_clear 28 = .ok (.putfield 19, 3) := by decide +kernel
theorem dX0_clear_3 : decode cX0_clear 3 = .ok (.bipush 31, 2) := by decide +kernel
theorem dX0_clear_31 : decode cX0_clear 31 = .ok (.return_, 1) := by decide +kernel
theorem dX0_clear_5 : decode cX0_clear 5 = .ok (.if_icmp .ge 16, 3) := by decide +kernel
theorem dX0_clear_8 : decode cX0_clear 8 = .ok (.aload_n 0, 1) := by decide +kernel
theorem dX0_clear_9 : decode cX0_clear 9 = .ok (.getfield 9, 3) := by decide +kernel
theorem dX0_has_0 : decode cX0_has 0 = .ok (.iload_n 1, 1) := by decide +kernel
theorem dX0_has_1 : decode cX0_has 1 = .ok (.ifCond .lt 22, 3) := by decide +kernel
theorem dX0_has_10 : decode cX0_has 10 = .ok (.aload_n 0, 1) := by decide +kernel
theorem dX0_has_11 : decode cX0_has 11 = .ok (.getfield 9, 3) := by decide +kernel
theorem dX0_has_14 : decode cX0_has 14 = .ok (.iload_n 1, 1) := by decide +kernel
theorem dX0_has_15 : decode cX0_has 15 = .ok (.iaload, 1) := by decide +kernel
theorem dX0_has_16 : decode cX0_has 16 = .ok (.ifCond .le 7, 3) := by decide +kernel
theorem dX0_has_23 : decode cX0_has 23 = .ok (.iconst 0, 1) := by decide +kernel
theorem dX0_has_24 : decode cX0_has 24 = .ok (.ireturn, 1) := by decide +kernel
theorem dX0_has_4 : decode cX0_has 4 = .ok (.iload_n 1, 1) := by decide +kernel
theorem dX0_has_5 : decode cX0_has 5 = .ok (.bipush 31, 2) := by decide +kernel
theorem dX0_has_7 : decode cX0_has 7 = .ok (.if_icmp .ge 16, 3) := by decide +kernel
theorem dX0_init_0 : decode cX0_init 0 = .ok (.aload_n 0, 1) := by decide +kernel
theorem dX0_init_1 : decode cX0_init 1 = .ok (.invokespecial 3, 3) := by decide +kernel
theorem dX0_init_12 : decode cX0_init 12 = .ok (.aload_n 0, 1) := by decide +kernel
theorem dX0_init_13 : decode cX0_init 13 = .ok (.iconst 0, 1) := by decide +kernel
theorem dX0_init_14 : decode cX0_init 14 = .ok (.putfield 15, 3) := by decide +kernel
theorem dX0_init_17 : decode cX0_init 17 = .ok (.aload_n 0, 1) := by decide +kernel
theorem dX0_init_18 : decode cX0_init 18 = .ok (.iconst 0, 1) := by decide +kernel
theorem dX0_init_19 : decode cX0_init 19 = .ok (.putfield 19, 3) := by decide +kernel
theorem dX0_init_22 : decode cX0_init 22 = .ok (.return_, 1) := by decide +kernel
theorem dX0_init_4 : decode cX0_init 4 = .ok (.aload_n 0, 1) := by decide +kernel
theorem dX0_init_5 : decode cX0_init 5 = .ok (.bipush 31, 2) := by decide +kernel
theorem dX0_init_7 : decode cX0_init 7 = .ok (.newarray .int, 2) := by decide +kernel
theorem dX0_init_9 : decode cX0_init 9 = .ok (.putfield 9, 3) := by decide +kernel
theorem dX0_weightOf_0 : decode cX0_weightOf 0 = .ok (.aload_n 0, 1) := by decide +kernel
theorem dX0_weightOf_1 : decode cX0_weightOf 1 = .ok (.iload_n 1, 1) := by decide +kernel
theorem dX0_weightOf_2 : decode cX0_weightOf 2 = .ok (.invokevirtual 22, 3) := by decide +kernel
theorem dX0_weightOf_25 : decode cX0_weightOf 25 = .ok (.iconst 0, 1) := by decide +kernel
theorem dX0_weightOf_26 : decode cX0_weightOf 26 = .ok (.ireturn, 1) := by decide +kernel
theorem dX0_weightOf_5 : decode cX0_weightOf 5 = .ok (.ifCond .eq 20, 3) := by decide +kernel
theorem dX1_init_0 : decode cX1_init 0 = .ok (.aload_n 0, 1) := by decide +kernel
theorem dX1_init_1 : decode cX1_init 1 = .ok (.invokespecial 3, 3) := by decide +kernel
theorem dX1_init_10 : decode cX1_init 10 = .ok (.iconst (-1), 1) := by decide +kernel
theorem dX1_init_11 : decode cX1_init 11 = .ok (.putfield 15, 3) := by decide +kernel
theorem dX1_init_14 : decode cX1_init 14 = .ok (.aload_n 0, 1) := by decide +kernel
theorem dX1_init_15 : decode cX1_init 15 = .ok (.iconst 0, 1) := by decide +kernel
theorem dX1_init_16 : decode cX1_init 16 = .ok (.putfield 18, 3) := by decide +kernel
theorem dX1_init_19 : decode cX1_init 19 = .ok (.aload_n 0, 1) := by decide +kernel
theorem dX1_init_20 : decode cX1_init 20 = .ok (.iconst (-1), 1) := by decide +kernel
theorem dX1_init_21 : decode cX1_init 21 = .ok (.putfield 21, 3) := by decide +kernel
theorem dX1_init_24 : decode cX1_init 24 = .ok (.aload_n 0, 1) := by decide +kernel
theorem dX1_init_25 : decode cX1_init 25 = .ok (.iconst 0, 1) := by decide +kernel
theorem dX1_init_26 : decode cX1_init 26 = .ok (.putfield 24, 3) := by decide +kernel
theorem dX1_init_29 : decode cX1_init 29 = .ok (.aload_n 0, 1) := by decide +kernel
theorem dX1_init_30 : decode cX1_init 30 = .ok (.iconst 0, 1) := by decide +kernel
theorem dX1_init_31 : decode cX1_init 31 = .ok (.putfield 27, 3) := by decide +kernel
theorem dX1_init_34 : decode cX1_init 34 = .ok (.aload_n 0, 1) := by decide +kernel
theorem dX1_init_35 : decode cX1_init 35 = .ok (.iconst 0, 1) := by decide +kernel
theorem dX1_init_36 : decode cX1_init 36 = .ok (.putfield 31, 3) := by decide +kernel
theorem dX1_init_39 : decode cX1_init 39 = .ok (.return_, 1) := by decide +kernel
theorem dX1_init_4 : decode cX1_init 4 = .ok (.aload_n 0, 1) := by decide +kernel
theorem dX1_init_5 : decode cX1_init 5 = .ok (.iconst 0, 1) := by decide +kernel
theorem dX1_init_6 : decode cX1_init 6 = .ok (.putfield 9, 3) := by decide +kernel
theorem dX1_init_9 : decode cX1_init 9 = .ok (.aload_n 0, 1) := by decide +kernel
theorem dX2_init_0 : decode cX2_init 0 = .ok (.aload_n 0, 1) := by decide +kernel
theorem dX2_init_1 : decode cX2_init 1 = .ok (.invokespecial 3, 3) := by decide +kernel
theorem dX2_init_10 : decode cX2_init 10 = .ok (.putfield 11, 3) := by decide +kernel
theorem dX2_init_13 : decode cX2_init 13 = .ok (.aload_n 0, 1) := by decide +kernel
theorem dX2_init_14 : decode cX2_init 14 = .ok (.sipush 456, 3) := by decide +kernel
theorem dX2_init_17 : decode cX2_init 17 = .ok (.newarray .int, 2) := by decide +kernel
theorem dX2_init_19 : decode cX2_init 19 = .ok (.putfield 15, 3) := by decide +kernel
theorem dX2_init_22 : decode cX2_init 22 = .ok (.aload_n 0, 1) := by decide +kernel
theorem dX2_init_23 : decode cX2_init 23 = .ok (.sipush 456, 3) := by decide +kernel
theorem dX2_init_26 : decode cX2_init 26 = .ok (.newarray .int, 2) := by decide +kernel
theorem dX2_init_28 : decode cX2_init 28 = .ok (.putfield 18, 3) := by decide +kernel
theorem dX2_init_31 : decode cX2_init 31 = .ok (.aload_n 0, 1) := by decide +kernel
theorem dX2_init_32 : decode cX2_init 32 = .ok (.sipush 456, 3) := by decide +kernel
theorem dX2_init_35 : decode cX2_init 35 = .ok (.newarray .int, 2) := by decide +kernel
theorem dX2_init_37 : decode cX2_init 37 = .ok (.putfield 21, 3) := by decide +kernel
theorem dX2_init_4 : decode cX2_init 4 = .ok (.aload_n 0, 1) := by decide +kernel
theorem dX2_init_40 : decode cX2_init 40 = .ok (.aload_n 0, 1) := by decide +kernel
theorem dX2_init_41 : decode cX2_init 41 = .ok (.sipush 456, 3) := by decide +kernel
theorem dX2_init_44 : decode cX2_init 44 = .ok (.newarray .int, 2) := by decide +kernel
theorem dX2_init_46 : decode cX2_init 46 = .ok (.putfield 24, 3) := by decide +kernel
theorem dX2_init_49 : decode cX2_init 49 = .ok (.aload_n 0, 1) := by decide +kernel
theorem dX2_init_5 : decode cX2_init 5 = .ok (.sipush 456, 3) := by decide +kernel
theorem dX2_init_50 : decode cX2_init 50 = .ok (.iconst 0, 1) := by decide +kernel
theorem dX2_init_51 : decode cX2_init 51 = .ok (.putfield 27, 3) := by decide +kernel
theorem dX2_init_54 : decode cX2_init 54 = .ok (.return_, 1) := by decide +kernel
theorem dX2_init_8 : decode cX2_init 8 = .ok (.newarray .int, 2) := by decide +kernel
theorem dX4_init_0 : decode cX4_init 0 = .ok (.aload_n 0, 1) := by decide +kernel
theorem dX4_init_1 : decode cX4_init 1 = .ok (.invokespecial 3, 3) := by decide +kernel
theorem dX4_init_10 : decode cX4_init 10 = .ok (.iconst (-1), 1) := by decide +kernel
theorem dX4_init_11 : decode cX4_init 11 = .ok (.putfield 15, 3) := by decide +kernel
theorem dX4_init_14 : decode cX4_init 14 = .ok (.aload_n 0, 1) := by decide +kernel
theorem dX4_init_15 : decode cX4_init 15 = .ok (.iconst (-1), 1) := by decide +kernel
theorem dX4_init_16 : decode cX4_init 16 = .ok (.putfield 18, 3) := by decide +kernel
theorem dX4_init_19 : decode cX4_init 19 = .ok (.aload_n 0, 1) := by decide +kernel
theorem dX4_init_20 : decode cX4_init 20 = .ok (.iconst 0, 1) := by decide +kernel
theorem dX4_init_21 : decode cX4_init 21 = .ok (.putfield 21, 3) := by decide +kernel
theorem dX4_init_24 : decode cX4_init 24 = .ok (.aload_n 0, 1) := by decide +kernel
theorem dX4_init_25 : decode cX4_init 25 = .ok (.iconst 0, 1) := by decide +kernel
theorem dX4_init_26 : decode cX4_init 26 = .ok (.putfield 24, 3) := by decide +kernel
theorem dX4_init_29 : decode cX4_init 29 = .ok (.aload_n 0, 1) := by decide +kernel
theorem dX4_init_30 : decode cX4_init 30 = .ok (.iconst 0, 1) := by decide +kernel
theorem dX4_init_31 : decode cX4_init 31 = .ok (.putfield 27, 3) := by decide +kernel
theorem dX4_init_34 : decode cX4_init 34 = .ok (.aload_n 0, 1) := by decide +kernel
theorem dX4_init_35 : decode cX4_init 35 = .ok (.iconst 0, 1) := by decide +kernel
theorem dX4_init_36 : decode cX4_init 36 = .ok (.putfield 30, 3) := by decide +kernel
theorem dX4_init_39 : decode cX4_init 39 = .ok (.return_, 1) := by decide +kernel
theorem dX4_init_4 : decode cX4_init 4 = .ok (.aload_n 0, 1) := by decide +kernel
theorem dX4_init_5 : decode cX4_init 5 = .ok (.iconst 0, 1) := by decide +kernel
theorem dX4_init_6 : decode cX4_init 6 = .ok (.putfield 9, 3) := by decide +kernel
theorem dX4_init_9 : decode cX4_init 9 = .ok (.aload_n 0, 1) := by decide +kernel
theorem gX0_weightOf_X0_has : GoodIn wsX0_weightOf (wsV RX0 22 RX0 yX0_has wsX0_has) := goodIn_app (goodIn_of _ (by decide +kernel)) ggX0_weightOf_X0_has
set_option maxHeartbeats 4000000 in
set_option maxRecDepth 100000 in
theorem k1_X4_init (l : Launch) (D : va_G) (c : Nat → ClassId) (sz : Nat) (a0 : Nat) : Met l yX4_init wsX4_init ({ frames := 1, cells := 0, slots := 0, locals := 12 }) (q1_P D c [(a0, .inr (4, [.int 0, .int 0, .int 0, .int 0, .int 0, .int 0, .int 0]))] sz [.ref a0]) (q1_v D [(a0, .inr (4, [.int 0, .int 0, .int 0, .int 0, .int 0, .int 0, .int 0]))] sz (fun u => [(a0, .inr (4, [.int 0, .int (-1), .int (-1), .int 0, .int 0, .int 0, .int 0]))])) 0 0 (va_A [(a0, .inr (4, [.int 0, .int 0, .int 0, .int 0, .int 0, .int 0, .int 0]))] sz) := by
  refine q1_of_v (cc := cX4_init) (maxL := 1) (by decide) rfl (Nat.le_of_ble_eq_true rfl) (fun p e s m args below meth cd A Q ls hx hb hml hown hts hin hA hS hP hD hK hN hl hret => ?_)
  have hown : s.vm.findClass RX4 = some m.cls := hown
  obtain ⟨H, eH⟩ : ∃ z, z = s.heap := ⟨_, rfl⟩
  have hP : va_P D vwCl [(a0, .inr (4, [.int 0, .int 0, .int 0, .int 0, .int 0, .int 0, .int 0]))] H := by rw [eH]; exact hP
  have hS : va_S A s.heap H [] := by rw [eH]; exact hS
  rw [← eH]
  have iX4 : ∀ w ∈ wsX40, w ∈ wsX4_init := fun w h => List.mem_cons_of_mem _ (List.mem_append_right _ h)
  have hl : lv_has ls 1 [(0, .ref a0)] := hl
  refine lv_aload_n hx hb dX4_init_0 rfl (lv_at hl 0 rfl) ?_
  refine W.objInit hx hb hown (hts (.methodLink RX4 3 objectInit) (List.mem_of_getElem? (i := 1) rfl)) (hts (.instanceMethod objectInit) (List.mem_of_getElem? (i := 2) rfl)) (hts (.code objectInit ⟨#[0xb1]⟩ 1 none) (List.mem_of_getElem? (i := 3) rfl)) rfl (by rw [hml]; exact hl.1) rfl dX4_init_1 (Nat.le_of_ble_eq_true rfl) (Nat.le_of_ble_eq_true rfl) ?_
  refine W.eq (g2 := F0 m 4 ls []) rfl ?_
  refine lv_aload_n hx hb dX4_init_4 rfl (lv_at hl 0 rfl) ?_
  refine lv_iconst (v := 0) hx hb dX4_init_5 (by decide) ?_
  refine va_put (D := D) (ci := 4) (v := .int 0) (ty := .int) (C := RX4) (T := TX4) (N := 7) hx hb hts iX4 tyX4 tyX4_ok nmX4 hown hK hP hD hS 0 rfl rfl 0 (by decide) (hts (.fieldLink RX4 9 "ShortTeller$Piece" "kind" "I") (List.mem_of_getElem? (i := 4) rfl)) (fun _ h9 => h9) rfl (by decide +kernel) rfl rfl (Nat.le_of_ble_eq_true rfl) dX4_init_6 (fun H locs hP hD hS => ?_)
  have hP : va_P D vwCl [(a0, .inr (4, [.int 0, .int 0, .int 0, .int 0, .int 0, .int 0, .int 0]))] H := hP
  have hD : va_D A [(a0, .inr (4, [.int 0, .int 0, .int 0, .int 0, .int 0, .int 0, .int 0]))] := hD
  refine lv_aload_n hx hb dX4_init_9 rfl (lv_at hl 0 rfl) ?_
  refine lv_iconst (v := -1) hx hb dX4_init_10 (by decide) ?_
  refine va_put (D := D) (ci := 4) (v := .int (-1)) (ty := .int) (C := RX4) (T := TX4) (N := 7) hx hb hts iX4 tyX4 tyX4_ok nmX4 hown hK hP hD hS 0 rfl rfl 1 (by decide) (hts (.fieldLink RX4 15 "ShortTeller$Piece" "within" "I") (List.mem_of_getElem? (i := 5) rfl)) (fun _ h9 => h9) rfl (by decide +kernel) rfl rfl (Nat.le_of_ble_eq_true rfl) dX4_init_11 (fun H locs hP hD hS => ?_)
  have hP : va_P D vwCl [(a0, .inr (4, [.int 0, .int (-1), .int 0, .int 0, .int 0, .int 0, .int 0]))] H := hP
  have hD : va_D A [(a0, .inr (4, [.int 0, .int (-1), .int 0, .int 0, .int 0, .int 0, .int 0]))] := hD
  refine lv_aload_n hx hb dX4_init_14 rfl (lv_at hl 0 rfl) ?_
  refine lv_iconst (v := -1) hx hb dX4_init_15 (by decide) ?_
  refine va_put (D := D) (ci := 4) (v := .int (-1)) (ty := .int) (C := RX4) (T := TX4) (N := 7) hx hb hts iX4 tyX4 tyX4_ok nmX4 hown hK hP hD hS 0 rfl rfl 2 (by decide) (hts (.fieldLink RX4 18 "ShortTeller$Piece" "list" "I") (List.mem_of_getElem? (i := 6) rfl)) (fun _ h9 => h9) rfl (by decide +kernel) rfl rfl (Nat.le_of_ble_eq_true rfl) dX4_init_16 (fun H locs hP hD hS => ?_)
  have hP : va_P D vwCl [(a0, .inr (4, [.int 0, .int (-1), .int (-1), .int 0, .int 0, .int 0, .int 0]))] H := hP
  have hD : va_D A [(a0, .inr (4, [.int 0, .int (-1), .int (-1), .int 0, .int 0, .int 0, .int 0]))] := hD
  refine lv_aload_n hx hb dX4_init_19 rfl (lv_at hl 0 rfl) ?_
  refine lv_iconst (v := 0) hx hb dX4_init_20 (by decide) ?_
  refine va_put (D := D) (ci := 4) (v := .int 0) (ty := .int) (C := RX4) (T := TX4) (N := 7) hx hb hts iX4 tyX4 tyX4_ok nmX4 hown hK hP hD hS 0 rfl rfl 3 (by decide) (hts (.fieldLink RX4 21 "ShortTeller$Piece" "words" "I") (List.mem_of_getElem? (i := 7) rfl)) (fun _ h9 => h9) rfl (by decide +kernel) rfl rfl (Nat.le_of_ble_eq_true rfl) dX4_init_21 (fun H locs hP hD hS => ?_)
  have hP : va_P D vwCl [(a0, .inr (4, [.int 0, .int (-1), .int (-1), .int 0, .int 0, .int 0, .int 0]))] H := hP
  have hD : va_D A [(a0, .inr (4, [.int 0, .int (-1), .int (-1), .int 0, .int 0, .int 0, .int 0]))] := hD
  refine lv_aload_n hx hb dX4_init_24 rfl (lv_at hl 0 rfl) ?_
  refine lv_iconst (v := 0) hx hb dX4_init_25 (by decide) ?_
  refine va_put (D := D) (ci := 4) (v := .int 0) (ty := .int) (C := RX4) (T := TX4) (N := 7) hx hb hts iX4 tyX4 tyX4_ok nmX4 hown hK hP hD hS 0 rfl rfl 4 (by decide) (hts (.fieldLink RX4 24 "ShortTeller$Piece" "facts" "I") (List.mem_of_getElem? (i := 8) rfl)) (fun _ h9 => h9) rfl (by decide +kernel) rfl rfl (Nat.le_of_ble_eq_true rfl) dX4_init_26 (fun H locs hP hD hS => ?_)
  have hP : va_P D vwCl [(a0, .inr (4, [.int 0, .int (-1), .int (-1), .int 0, .int 0, .int 0, .int 0]))] H := hP
  have hD : va_D A [(a0, .inr (4, [.int 0, .int (-1), .int (-1), .int 0, .int 0, .int 0, .int 0]))] := hD
  refine lv_aload_n hx hb dX4_init_29 rfl (lv_at hl 0 rfl) ?_
  refine lv_iconst (v := 0) hx hb dX4_init_30 (by decide) ?_
  refine va_put (D := D) (ci := 4) (v := .int 0) (ty := .int) (C := RX4) (T := TX4) (N := 7) hx hb hts iX4 tyX4 tyX4_ok nmX4 hown hK hP hD hS 0 rfl rfl 5 (by decide) (hts (.fieldLink RX4 27 "ShortTeller$Piece" "keep" "I") (List.mem_of_getElem? (i := 9) rfl)) (fun _ h9 => h9) rfl (by decide +kernel) rfl rfl (Nat.le_of_ble_eq_true rfl) dX4_init_31 (fun H locs hP hD hS => ?_)
  have hP : va_P D vwCl [(a0, .inr (4, [.int 0, .int (-1), .int (-1), .int 0, .int 0, .int 0, .int 0]))] H := hP
  have hD : va_D A [(a0, .inr (4, [.int 0, .int (-1), .int (-1), .int 0, .int 0, .int 0, .int 0]))] := hD
  refine lv_aload_n hx hb dX4_init_34 rfl (lv_at hl 0 rfl) ?_
  refine lv_iconst (v := 0) hx hb dX4_init_35 (by decide) ?_
  refine va_put (D := D) (ci := 4) (v := .int 0) (ty := .int) (C := RX4) (T := TX4) (N := 7) hx hb hts iX4 tyX4 tyX4_ok nmX4 hown hK hP hD hS 0 rfl rfl 6 (by decide) (hts (.fieldLink RX4 30 "ShortTeller$Piece" "signs" "I") (List.mem_of_getElem? (i := 10) rfl)) (fun _ h9 => h9) rfl (by decide +kernel) rfl rfl (Nat.le_of_ble_eq_true rfl) dX4_init_36 (fun H locs hP hD hS => ?_)
  have hP : va_P D vwCl [(a0, .inr (4, [.int 0, .int (-1), .int (-1), .int 0, .int 0, .int 0, .int 0]))] H := hP
  have hD : va_D A [(a0, .inr (4, [.int 0, .int (-1), .int (-1), .int 0, .int 0, .int 0, .int 0]))] := hD
  refine W.widen (k := 0) (n := 0) (Nat.le_of_ble_eq_true rfl) (Nat.le_of_ble_eq_true rfl) ?_
  exact hret (q1_u [] []) _ _ _ _ dX4_init_39 hP hD hS
set_option maxHeartbeats 4000000 in
set_option maxRecDepth 100000 in
theorem k2_X1_init (l : Launch) (D : va_G) (c : Nat → ClassId) (sz : Nat) (a0 : Nat) : Met l yX1_init wsX1_init ({ frames := 1, cells := 0, slots := 0, locals := 12 }) (q1_P D c [(a0, .inr (1, [.int 0, .int 0, .int 0, .int 0, .int 0, .int 0, .int 0]))] sz [.ref a0]) (q1_v D [(a0, .inr (1, [.int 0, .int 0, .int 0, .int 0, .int 0, .int 0, .int 0]))] sz (fun u => [(a0, .inr (1, [.int 0, .int (-1), .int 0, .int (-1), .int 0, .int 0, .int 0]))])) 0 0 (va_A [(a0, .inr (1, [.int 0, .int 0, .int 0, .int 0, .int 0, .int 0, .int 0]))] sz) := by
  refine q1_of_v (cc := cX1_init) (maxL := 1) (by decide) rfl (Nat.le_of_ble_eq_true rfl) (fun p e s m args below meth cd A Q ls hx hb hml hown hts hin hA hS hP hD hK hN hl hret => ?_)
  have hown : s.vm.findClass RX1 = some m.cls := hown
  obtain ⟨H, eH⟩ : ∃ z, z = s.heap := ⟨_, rfl⟩
  have hP : va_P D vwCl [(a0, .inr (1, [.int 0, .int 0, .int 0, .int 0, .int 0, .int 0, .int 0]))] H := by rw [eH]; exact hP
  have hS : va_S A s.heap H [] := by rw [eH]; exact hS
  rw [← eH]
  have iX1 : ∀ w ∈ wsX10, w ∈ wsX1_init := fun w h => List.mem_cons_of_mem _ (List.mem_append_right _ h)
  have hl : lv_has ls 1 [(0, .ref a0)] := hl
  refine lv_aload_n hx hb dX1_init_0 rfl (lv_at hl 0 rfl) ?_
  refine W.objInit hx hb hown (hts (.methodLink RX1 3 objectInit) (List.mem_of_getElem? (i := 1) rfl)) (hts (.instanceMethod objectInit) (List.mem_of_getElem? (i := 2) rfl)) (hts (.code objectInit ⟨#[0xb1]⟩ 1 none) (List.mem_of_getElem? (i := 3) rfl)) rfl (by rw [hml]; exact hl.1) rfl dX1_init_1 (Nat.le_of_ble_eq_true rfl) (Nat.le_of_ble_eq_true rfl) ?_
  refine W.eq (g2 := F0 m 4 ls []) rfl ?_
  refine lv_aload_n hx hb dX1_init_4 rfl (lv_at hl 0 rfl) ?_
  refine lv_iconst (v := 0) hx hb dX1_init_5 (by decide) ?_
  refine va_put (D := D) (ci := 1) (v := .int 0) (ty := .int) (C := RX1) (T := TX1) (N := 7) hx hb hts iX1 tyX1 tyX1_ok nmX1 hown hK hP hD hS 0 rfl rfl 0 (by decide) (hts (.fieldLink RX1 9 "ShortTeller$Frame" "kind" "I") (List.mem_of_getElem? (i := 4) rfl)) (fun _ h9 => h9) rfl (by decide +kernel) rfl rfl (Nat.le_of_ble_eq_true rfl) dX1_init_6 (fun H locs hP hD hS => ?_)
  have hP : va_P D vwCl [(a0, .inr (1, [.int 0, .int 0, .int 0, .int 0, .int 0, .int 0, .int 0]))] H := hP
  have hD : va_D A [(a0, .inr (1, [.int 0, .int 0, .int 0, .int 0, .int 0, .int 0, .int 0]))] := hD
  refine lv_aload_n hx hb dX1_init_9 rfl (lv_at hl 0 rfl) ?_
  refine lv_iconst (v := -1) hx hb dX1_init_10 (by decide) ?_
  refine va_put (D := D) (ci := 1) (v := .int (-1)) (ty := .int) (C := RX1) (T := TX1) (N := 7) hx hb hts iX1 tyX1 tyX1_ok nmX1 hown hK hP hD hS 0 rfl rfl 1 (by decide) (hts (.fieldLink RX1 15 "ShortTeller$Frame" "piece" "I") (List.mem_of_getElem? (i := 5) rfl)) (fun _ h9 => h9) rfl (by decide +kernel) rfl rfl (Nat.le_of_ble_eq_true rfl) dX1_init_11 (fun H locs hP hD hS => ?_)
  have hP : va_P D vwCl [(a0, .inr (1, [.int 0, .int (-1), .int 0, .int 0, .int 0, .int 0, .int 0]))] H := hP
  have hD : va_D A [(a0, .inr (1, [.int 0, .int (-1), .int 0, .int 0, .int 0, .int 0, .int 0]))] := hD
  refine lv_aload_n hx hb dX1_init_14 rfl (lv_at hl 0 rfl) ?_
  refine lv_iconst (v := 0) hx hb dX1_init_15 (by decide) ?_
  refine va_put (D := D) (ci := 1) (v := .int 0) (ty := .int) (C := RX1) (T := TX1) (N := 7) hx hb hts iX1 tyX1 tyX1_ok nmX1 hown hK hP hD hS 0 rfl rfl 2 (by decide) (hts (.fieldLink RX1 18 "ShortTeller$Frame" "start" "I") (List.mem_of_getElem? (i := 6) rfl)) (fun _ h9 => h9) rfl (by decide +kernel) rfl rfl (Nat.le_of_ble_eq_true rfl) dX1_init_16 (fun H locs hP hD hS => ?_)
  have hP : va_P D vwCl [(a0, .inr (1, [.int 0, .int (-1), .int 0, .int 0, .int 0, .int 0, .int 0]))] H := hP
  have hD : va_D A [(a0, .inr (1, [.int 0, .int (-1), .int 0, .int 0, .int 0, .int 0, .int 0]))] := hD
  refine lv_aload_n hx hb dX1_init_19 rfl (lv_at hl 0 rfl) ?_
  refine lv_iconst (v := -1) hx hb dX1_init_20 (by decide) ?_
  refine va_put (D := D) (ci := 1) (v := .int (-1)) (ty := .int) (C := RX1) (T := TX1) (N := 7) hx hb hts iX1 tyX1 tyX1_ok nmX1 hown hK hP hD hS 0 rfl rfl 3 (by decide) (hts (.fieldLink RX1 21 "ShortTeller$Frame" "list" "I") (List.mem_of_getElem? (i := 7) rfl)) (fun _ h9 => h9) rfl (by decide +kernel) rfl rfl (Nat.le_of_ble_eq_true rfl) dX1_init_21 (fun H locs hP hD hS => ?_)
  have hP : va_P D vwCl [(a0, .inr (1, [.int 0, .int (-1), .int 0, .int (-1), .int 0, .int 0, .int 0]))] H := hP
  have hD : va_D A [(a0, .inr (1, [.int 0, .int (-1), .int 0, .int (-1), .int 0, .int 0, .int 0]))] := hD
  refine lv_aload_n hx hb dX1_init_24 rfl (lv_at hl 0 rfl) ?_
  refine lv_iconst (v := 0) hx hb dX1_init_25 (by decide) ?_
  refine va_put (D := D) (ci := 1) (v := .int 0) (ty := .int) (C := RX1) (T := TX1) (N := 7) hx hb hts iX1 tyX1 tyX1_ok nmX1 hown hK hP hD hS 0 rfl rfl 4 (by decide) (hts (.fieldLink RX1 24 "ShortTeller$Frame" "items" "I") (List.mem_of_getElem? (i := 8) rfl)) (fun _ h9 => h9) rfl (by decide +kernel) rfl rfl (Nat.le_of_ble_eq_true rfl) dX1_init_26 (fun H locs hP hD hS => ?_)
  have hP : va_P D vwCl [(a0, .inr (1, [.int 0, .int (-1), .int 0, .int (-1), .int 0, .int 0, .int 0]))] H := hP
  have hD : va_D A [(a0, .inr (1, [.int 0, .int (-1), .int 0, .int (-1), .int 0, .int 0, .int 0]))] := hD
  refine lv_aload_n hx hb dX1_init_29 rfl (lv_at hl 0 rfl) ?_
  refine lv_iconst (v := 0) hx hb dX1_init_30 (by decide) ?_
  refine va_put (D := D) (ci := 1) (v := .int 0) (ty := .boolean) (C := RX1) (T := TX1) (N := 7) hx hb hts iX1 tyX1 tyX1_ok nmX1 hown hK hP hD hS 0 rfl rfl 5 (by decide) (hts (.fieldLink RX1 27 "ShortTeller$Frame" "begun" "Z") (List.mem_of_getElem? (i := 9) rfl)) (fun _ h9 => h9) rfl (by decide +kernel) rfl rfl (Nat.le_of_ble_eq_true rfl) dX1_init_31 (fun H locs hP hD hS => ?_)
  have hP : va_P D vwCl [(a0, .inr (1, [.int 0, .int (-1), .int 0, .int (-1), .int 0, .int 0, .int 0]))] H := hP
  have hD : va_D A [(a0, .inr (1, [.int 0, .int (-1), .int 0, .int (-1), .int 0, .int 0, .int 0]))] := hD
  refine lv_aload_n hx hb dX1_init_34 rfl (lv_at hl 0 rfl) ?_
  refine lv_iconst (v := 0) hx hb dX1_init_35 (by decide) ?_
  refine va_put (D := D) (ci := 1) (v := .int 0) (ty := .boolean) (C := RX1) (T := TX1) (N := 7) hx hb hts iX1 tyX1 tyX1_ok nmX1 hown hK hP hD hS 0 rfl rfl 6 (by decide) (hts (.fieldLink RX1 31 "ShortTeller$Frame" "worded" "Z") (List.mem_of_getElem? (i := 10) rfl)) (fun _ h9 => h9) rfl (by decide +kernel) rfl rfl (Nat.le_of_ble_eq_true rfl) dX1_init_36 (fun H locs hP hD hS => ?_)
  have hP : va_P D vwCl [(a0, .inr (1, [.int 0, .int (-1), .int 0, .int (-1), .int 0, .int 0, .int 0]))] H := hP
  have hD : va_D A [(a0, .inr (1, [.int 0, .int (-1), .int 0, .int (-1), .int 0, .int 0, .int 0]))] := hD
  refine W.widen (k := 0) (n := 0) (Nat.le_of_ble_eq_true rfl) (Nat.le_of_ble_eq_true rfl) ?_
  exact hret (q1_u [] []) _ _ _ _ dX1_init_39 hP hD hS
set_option maxHeartbeats 4000000 in
set_option maxRecDepth 100000 in
theorem k3_X0_init (l : Launch) (D : va_G) (c : Nat → ClassId) (sz : Nat) (a0 : Nat) : Met l yX0_init wsX0_init ({ frames := 1, cells := 1, slots := 31, locals := 12 }) (q1_P D c [(a0, .inr (0, [.null, .int 0, .int 0]))] sz [.ref a0]) (q1_v D [(a0, .inr (0, [.null, .int 0, .int 0]))] sz (fun u => [(a0, .inr (0, [.ref (u.1 0), .int 0, .int 0])), ((u.1 0), .inl (c 0, 31, .inl (fun _ => 0)))])) 1 31 (va_A [(a0, .inr (0, [.null, .int 0, .int 0]))] sz) := by
  refine q1_of_v (cc := cX0_init) (maxL := 1) (by decide) rfl (Nat.le_of_ble_eq_true rfl) (fun p e s m args below meth cd A Q ls hx hb hml hown hts hin hA hS hP hD hK hN hl hret => ?_)
  have hown : s.vm.findClass RX0 = some m.cls := hown
  obtain ⟨H, eH⟩ : ∃ z, z = s.heap := ⟨_, rfl⟩
  have hP : va_P D vwCl [(a0, .inr (0, [.null, .int 0, .int 0]))] H := by rw [eH]; exact hP
  have hS : va_S A s.heap H [] := by rw [eH]; exact hS
  rw [← eH]
  have iX0 : ∀ w ∈ wsX00, w ∈ wsX0_init := fun w h => List.mem_cons_of_mem _ (List.mem_append_right _ h)
  have hl : lv_has ls 1 [(0, .ref a0)] := hl
  refine lv_aload_n hx hb dX0_init_0 rfl (lv_at hl 0 rfl) ?_
  refine W.objInit hx hb hown (hts (.methodLink RX0 3 objectInit) (List.mem_of_getElem? (i := 1) rfl)) (hts (.instanceMethod objectInit) (List.mem_of_getElem? (i := 2) rfl)) (hts (.code objectInit ⟨#[0xb1]⟩ 1 none) (List.mem_of_getElem? (i := 3) rfl)) rfl (by rw [hml]; exact hl.1) rfl dX0_init_1 (Nat.le_of_ble_eq_true rfl) (Nat.le_of_ble_eq_true rfl) ?_
  refine W.eq (g2 := F0 m 4 ls []) rfl ?_
  refine lv_aload_n hx hb dX0_init_4 rfl (lv_at hl 0 rfl) ?_
  refine lv_bipush (v := 31) hx hb dX0_init_5 (by decide) ?_
  refine q1_newa (a0 := (31, .inl (fun _ => 0))) (N := 31) (atype := .int) (ty := .int) (c := c) hx hb 0 rfl (fun _ h => nomatch h) (hts (.arrayClass .int) (List.mem_of_getElem? (i := 4) rfl)) rfl hK hP hD hS hA (fun _ => rfl) (by decide) (by decide) (by decide) (Nat.le_of_ble_eq_true rfl) (Nat.le_of_ble_eq_true rfl) dX0_init_7 (fun q1 H hP hD hS => ?_)
  have hP : va_P D vwCl [(a0, .inr (0, [.null, .int 0, .int 0])), (q1, .inl (c 0, 31, .inl (fun _ => 0)))] H := hP
  have hD : va_D A [(a0, .inr (0, [.null, .int 0, .int 0])), (q1, .inl (c 0, 31, .inl (fun _ => 0)))] := hD
  refine W.widen (k := 1) (n := 31) (Nat.le_of_ble_eq_true rfl) (Nat.le_of_ble_eq_true rfl) ?_
  refine va_putF (D := D) (ci := 0) (v := .ref q1) (ty := .array .int) (C := RX0) (T := TX0) (N := 3) hx hb hts iX0 tyX0 tyX0_ok nmX0 hown hK hP hD hS 0 rfl rfl 0 (by decide) (hts (.fieldLink RX0 9 "ShortTeller$Facts" "places" "[I") (List.mem_of_getElem? (i := 5) rfl)) (fun _ h9 => h9) rfl hin rfl (by decide +kernel) rfl rfl (Nat.le_of_ble_eq_true rfl) dX0_init_9 (fun H locs hP hD hS => ?_)
  have hP : va_P D vwCl [(a0, .inr (0, [.ref q1, .int 0, .int 0])), (q1, .inl (c 0, 31, .inl (fun _ => 0)))] H := hP
  have hD : va_D A [(a0, .inr (0, [.ref q1, .int 0, .int 0])), (q1, .inl (c 0, 31, .inl (fun _ => 0)))] := hD
  refine lv_aload_n hx hb dX0_init_12 rfl (lv_at hl 0 rfl) ?_
  refine lv_iconst (v := 0) hx hb dX0_init_13 (by decide) ?_
  refine va_put (D := D) (ci := 0) (v := .int 0) (ty := .int) (C := RX0) (T := TX0) (N := 3) hx hb hts iX0 tyX0 tyX0_ok nmX0 hown hK hP hD hS 0 rfl rfl 1 (by decide) (hts (.fieldLink RX0 15 "ShortTeller$Facts" "inText" "I") (List.mem_of_getElem? (i := 6) rfl)) (fun _ h9 => h9) rfl (by decide +kernel) rfl rfl (Nat.le_of_ble_eq_true rfl) dX0_init_14 (fun H locs hP hD hS => ?_)
  have hP : va_P D vwCl [(a0, .inr (0, [.ref q1, .int 0, .int 0])), (q1, .inl (c 0, 31, .inl (fun _ => 0)))] H := hP
  have hD : va_D A [(a0, .inr (0, [.ref q1, .int 0, .int 0])), (q1, .inl (c 0, 31, .inl (fun _ => 0)))] := hD
  refine lv_aload_n hx hb dX0_init_17 rfl (lv_at hl 0 rfl) ?_
  refine lv_iconst (v := 0) hx hb dX0_init_18 (by decide) ?_
  refine va_put (D := D) (ci := 0) (v := .int 0) (ty := .int) (C := RX0) (T := TX0) (N := 3) hx hb hts iX0 tyX0 tyX0_ok nmX0 hown hK hP hD hS 0 rfl rfl 2 (by decide) (hts (.fieldLink RX0 19 "ShortTeller$Facts" "known" "I") (List.mem_of_getElem? (i := 7) rfl)) (fun _ h9 => h9) rfl (by decide +kernel) rfl rfl (Nat.le_of_ble_eq_true rfl) dX0_init_19 (fun H locs hP hD hS => ?_)
  have hP : va_P D vwCl [(a0, .inr (0, [.ref q1, .int 0, .int 0])), (q1, .inl (c 0, 31, .inl (fun _ => 0)))] H := hP
  have hD : va_D A [(a0, .inr (0, [.ref q1, .int 0, .int 0])), (q1, .inl (c 0, 31, .inl (fun _ => 0)))] := hD
  refine W.widen (k := 1) (n := 31) (Nat.le_of_ble_eq_true rfl) (Nat.le_of_ble_eq_true rfl) ?_
  exact hret (q1_u [q1] []) _ _ _ _ dX0_init_22 hP hD hS
set_option maxHeartbeats 4000000 in
set_option maxRecDepth 100000 in
theorem k4_X2_init (l : Launch) (D : va_G) (c : Nat → ClassId) (sz : Nat) (a0 : Nat) : Met l yX2_init wsX2_init ({ frames := 1, cells := 5, slots := 2280, locals := 12 }) (q1_P D c [(a0, .inr (2, [.null, .null, .null, .null, .null, .int 0]))] sz [.ref a0]) (q1_v D [(a0, .inr (2, [.null, .null, .null, .null, .null, .int 0]))] sz (fun u => [(a0, .inr (2, [.ref (u.1 0), .ref (u.1 1), .ref (u.1 2), .ref (u.1 3), .ref (u.1 4), .int 0])), ((u.1 0), .inl (c 0, 456, .inl (fun _ => 0))), ((u.1 1), .inl (c 0, 456, .inl (fun _ => 0))), ((u.1 2), .inl (c 0, 456, .inl (fun _ => 0))), ((u.1 3), .inl (c 0, 456, .inl (fun _ => 0))), ((u.1 4), .inl (c 0, 456, .inl (fun _ => 0)))])) 5 2280 (va_A [(a0, .inr (2, [.null, .null, .null, .null, .null, .int 0]))] sz) := by
  refine q1_of_v (cc := cX2_init) (maxL := 1) (by decide) rfl (Nat.le_of_ble_eq_true rfl) (fun p e s m args below meth cd A Q ls hx hb hml hown hts hin hA hS hP hD hK hN hl hret => ?_)
  have hown : s.vm.findClass RX2 = some m.cls := hown
  obtain ⟨H, eH⟩ : ∃ z, z = s.heap := ⟨_, rfl⟩
  have hP : va_P D vwCl [(a0, .inr (2, [.null, .null, .null, .null, .null, .int 0]))] H := by rw [eH]; exact hP
  have hS : va_S A s.heap H [] := by rw [eH]; exact hS
  rw [← eH]
  have iX2 : ∀ w ∈ wsX20, w ∈ wsX2_init := fun w h => List.mem_cons_of_mem _ (List.mem_append_right _ h)
  have hl : lv_has ls 1 [(0, .ref a0)] := hl
  refine lv_aload_n hx hb dX2_init_0 rfl (lv_at hl 0 rfl) ?_
  refine W.objInit hx hb hown (hts (.methodLink RX2 3 objectInit) (List.mem_of_getElem? (i := 1) rfl)) (hts (.instanceMethod objectInit) (List.mem_of_getElem? (i := 2) rfl)) (hts (.code objectInit ⟨#[0xb1]⟩ 1 none) (List.mem_of_getElem? (i := 3) rfl)) rfl (by rw [hml]; exact hl.1) rfl dX2_init_1 (Nat.le_of_ble_eq_true rfl) (Nat.le_of_ble_eq_true rfl) ?_
  refine W.eq (g2 := F0 m 4 ls []) rfl ?_
  refine lv_aload_n hx hb dX2_init_4 rfl (lv_at hl 0 rfl) ?_
  refine lv_sipush (v := 456) hx hb dX2_init_5 (by decide) ?_
  refine q1_newa (a0 := (456, .inl (fun _ => 0))) (N := 456) (atype := .int) (ty := .int) (c := c) hx hb 0 rfl (fun _ h => nomatch h) (hts (.arrayClass .int) (List.mem_of_getElem? (i := 4) rfl)) rfl hK hP hD hS hA (fun _ => rfl) (by decide) (by decide) (by decide) (Nat.le_of_ble_eq_true rfl) (Nat.le_of_ble_eq_true rfl) dX2_init_8 (fun q1 H hP hD hS => ?_)
  have hP : va_P D vwCl [(a0, .inr (2, [.null, .null, .null, .null, .null, .int 0])), (q1, .inl (c 0, 456, .inl (fun _ => 0)))] H := hP
  have hD : va_D A [(a0, .inr (2, [.null, .null, .null, .null, .null, .int 0])), (q1, .inl (c 0, 456, .inl (fun _ => 0)))] := hD
  refine W.widen (k := 1) (n := 456) (Nat.le_of_ble_eq_true rfl) (Nat.le_of_ble_eq_true rfl) ?_
  refine va_putF (D := D) (ci := 2) (v := .ref q1) (ty := .array .int) (C := RX2) (T := TX2) (N := 6) hx hb hts iX2 tyX2 tyX2_ok nmX2 hown hK hP hD hS 0 rfl rfl 0 (by decide) (hts (.fieldLink RX2 11 "ShortTeller$Marks" "kind" "[I") (List.mem_of_getElem? (i := 5) rfl)) (fun _ h9 => h9) rfl hin rfl (by decide +kernel) rfl rfl (Nat.le_of_ble_eq_true rfl) dX2_init_10 (fun H locs hP hD hS => ?_)
  have hP : va_P D vwCl [(a0, .inr (2, [.ref q1, .null, .null, .null, .null, .int 0])), (q1, .inl (c 0, 456, .inl (fun _ => 0)))] H := hP
  have hD : va_D A [(a0, .inr (2, [.ref q1, .null, .null, .null, .null, .int 0])), (q1, .inl (c 0, 456, .inl (fun _ => 0)))] := hD
  refine lv_aload_n hx hb dX2_init_13 rfl (lv_at hl 0 rfl) ?_
  refine lv_sipush (v := 456) hx hb dX2_init_14 (by decide) ?_
  refine q1_newa (a0 := (456, .inl (fun _ => 0))) (N := 456) (atype := .int) (ty := .int) (c := c) hx hb 0 rfl (fun _ h => nomatch h) (hts (.arrayClass .int) (List.mem_of_getElem? (i := 4) rfl)) rfl hK hP hD hS hA (fun _ => rfl) (by decide) (by decide) (by decide) (Nat.le_of_ble_eq_true rfl) (Nat.le_of_ble_eq_true rfl) dX2_init_17 (fun q2 H hP hD hS => ?_)
  have hP : va_P D vwCl [(a0, .inr (2, [.ref q1, .null, .null, .null, .null, .int 0])), (q1, .inl (c 0, 456, .inl (fun _ => 0))), (q2, .inl (c 0, 456, .inl (fun _ => 0)))] H := hP
  have hD : va_D A [(a0, .inr (2, [.ref q1, .null, .null, .null, .null, .int 0])), (q1, .inl (c 0, 456, .inl (fun _ => 0))), (q2, .inl (c 0, 456, .inl (fun _ => 0)))] := hD
  refine W.widen (k := 2) (n := 912) (Nat.le_of_ble_eq_true rfl) (Nat.le_of_ble_eq_true rfl) ?_
  refine va_putF (D := D) (ci := 2) (v := .ref q2) (ty := .array .int) (C := RX2) (T := TX2) (N := 6) hx hb hts iX2 tyX2 tyX2_ok nmX2 hown hK hP hD hS 0 rfl rfl 1 (by decide) (hts (.fieldLink RX2 15 "ShortTeller$Marks" "piece" "[I") (List.mem_of_getElem? (i := 6) rfl)) (fun _ h9 => h9) rfl hin rfl (by decide +kernel) rfl rfl (Nat.le_of_ble_eq_true rfl) dX2_init_19 (fun H locs hP hD hS => ?_)
  have hP : va_P D vwCl [(a0, .inr (2, [.ref q1, .ref q2, .null, .null, .null, .int 0])), (q1, .inl (c 0, 456, .inl (fun _ => 0))), (q2, .inl (c 0, 456, .inl (fun _ => 0)))] H := hP
  have hD : va_D A [(a0, .inr (2, [.ref q1, .ref q2, .null, .null, .null, .int 0])), (q1, .inl (c 0, 456, .inl (fun _ => 0))), (q2, .inl (c 0, 456, .inl (fun _ => 0)))] := hD
  refine lv_aload_n hx hb dX2_init_22 rfl (lv_at hl 0 rfl) ?_
  refine lv_sipush (v := 456) hx hb dX2_init_23 (by decide) ?_
  refine q1_newa (a0 := (456, .inl (fun _ => 0))) (N := 456) (atype := .int) (ty := .int) (c := c) hx hb 0 rfl (fun _ h => nomatch h) (hts (.arrayClass .int) (List.mem_of_getElem? (i := 4) rfl)) rfl hK hP hD hS hA (fun _ => rfl) (by decide) (by decide) (by decide) (Nat.le_of_ble_eq_true rfl) (Nat.le_of_ble_eq_true rfl) dX2_init_26 (fun q3 H hP hD hS => ?_)
  have hP : va_P D vwCl [(a0, .inr (2, [.ref q1, .ref q2, .null, .null, .null, .int 0])), (q1, .inl (c 0, 456, .inl (fun _ => 0))), (q2, .inl (c 0, 456, .inl (fun _ => 0))), (q3, .inl (c 0, 456, .inl (fun _ => 0)))] H := hP
  have hD : va_D A [(a0, .inr (2, [.ref q1, .ref q2, .null, .null, .null, .int 0])), (q1, .inl (c 0, 456, .inl (fun _ => 0))), (q2, .inl (c 0, 456, .inl (fun _ => 0))), (q3, .inl (c 0, 456, .inl (fun _ => 0)))] := hD
  refine W.widen (k := 3) (n := 1368) (Nat.le_of_ble_eq_true rfl) (Nat.le_of_ble_eq_true rfl) ?_
  refine va_putF (D := D) (ci := 2) (v := .ref q3) (ty := .array .int) (C := RX2) (T := TX2) (N := 6) hx hb hts iX2 tyX2 tyX2_ok nmX2 hown hK hP hD hS 0 rfl rfl 2 (by decide) (hts (.fieldLink RX2 18 "ShortTeller$Marks" "at" "[I") (List.mem_of_getElem? (i := 7) rfl)) (fun _ h9 => h9) rfl hin rfl (by decide +kernel) rfl rfl (Nat.le_of_ble_eq_true rfl) dX2_init_28 (fun H locs hP hD hS => ?_)
  have hP : va_P D vwCl [(a0, .inr (2, [.ref q1, .ref q2, .ref q3, .null, .null, .int 0])), (q1, .inl (c 0, 456, .inl (fun _ => 0))), (q2, .inl (c 0, 456, .inl (fun _ => 0))), (q3, .inl (c 0, 456, .inl (fun _ => 0)))] H := hP
  have hD : va_D A [(a0, .inr (2, [.ref q1, .ref q2, .ref q3, .null, .null, .int 0])), (q1, .inl (c 0, 456, .inl (fun _ => 0))), (q2, .inl (c 0, 456, .inl (fun _ => 0))), (q3, .inl (c 0, 456, .inl (fun _ => 0)))] := hD
  refine lv_aload_n hx hb dX2_init_31 rfl (lv_at hl 0 rfl) ?_
  refine lv_sipush (v := 456) hx hb dX2_init_32 (by decide) ?_
  refine q1_newa (a0 := (456, .inl (fun _ => 0))) (N := 456) (atype := .int) (ty := .int) (c := c) hx hb 0 rfl (fun _ h => nomatch h) (hts (.arrayClass .int) (List.mem_of_getElem? (i := 4) rfl)) rfl hK hP hD hS hA (fun _ => rfl) (by decide) (by decide) (by decide) (Nat.le_of_ble_eq_true rfl) (Nat.le_of_ble_eq_true rfl) dX2_init_35 (fun q4 H hP hD hS => ?_)
  have hP : va_P D vwCl [(a0, .inr (2, [.ref q1, .ref q2, .ref q3, .null, .null, .int 0])), (q1, .inl (c 0, 456, .inl (fun _ => 0))), (q2, .inl (c 0, 456, .inl (fun _ => 0))), (q3, .inl (c 0, 456, .inl (fun _ => 0))), (q4, .inl (c 0, 456, .inl (fun _ => 0)))] H := hP
  have hD : va_D A [(a0, .inr (2, [.ref q1, .ref q2, .ref q3, .null, .null, .int 0])), (q1, .inl (c 0, 456, .inl (fun _ => 0))), (q2, .inl (c 0, 456, .inl (fun _ => 0))), (q3, .inl (c 0, 456, .inl (fun _ => 0))), (q4, .inl (c 0, 456, .inl (fun _ => 0)))] := hD
  refine W.widen (k := 4) (n := 1824) (Nat.le_of_ble_eq_true rfl) (Nat.le_of_ble_eq_true rfl) ?_
  refine va_putF (D := D) (ci := 2) (v := .ref q4) (ty := .array .int) (C := RX2) (T := TX2) (N := 6) hx hb hts iX2 tyX2 tyX2_ok nmX2 hown hK hP hD hS 0 rfl rfl 3 (by decide) (hts (.fieldLink RX2 21 "ShortTeller$Marks" "size" "[I") (List.mem_of_getElem? (i := 8) rfl)) (fun _ h9 => h9) rfl hin rfl (by decide +kernel) rfl rfl (Nat.le_of_ble_eq_true rfl) dX2_init_37 (fun H locs hP hD hS => ?_)
  have hP : va_P D vwCl [(a0, .inr (2, [.ref q1, .ref q2, .ref q3, .ref q4, .null, .int 0])), (q1, .inl (c 0, 456, .inl (fun _ => 0))), (q2, .inl (c 0, 456, .inl (fun _ => 0))), (q3, .inl (c 0, 456, .inl (fun _ => 0))), (q4, .inl (c 0, 456, .inl (fun _ => 0)))] H := hP
  have hD : va_D A [(a0, .inr (2, [.ref q1, .ref q2, .ref q3, .ref q4, .null, .int 0])), (q1, .inl (c 0, 456, .inl (fun _ => 0))), (q2, .inl (c 0, 456, .inl (fun _ => 0))), (q3, .inl (c 0, 456, .inl (fun _ => 0))), (q4, .inl (c 0, 456, .inl (fun _ => 0)))] := hD
  refine lv_aload_n hx hb dX2_init_40 rfl (lv_at hl 0 rfl) ?_
  refine lv_sipush (v := 456) hx hb dX2_init_41 (by decide) ?_
  refine q1_newa (a0 := (456, .inl (fun _ => 0))) (N := 456) (atype := .int) (ty := .int) (c := c) hx hb 0 rfl (fun _ h => nomatch h) (hts (.arrayClass .int) (List.mem_of_getElem? (i := 4) rfl)) rfl hK hP hD hS hA (fun _ => rfl) (by decide) (by decide) (by decide) (Nat.le_of_ble_eq_true rfl) (Nat.le_of_ble_eq_true rfl) dX2_init_44 (fun q5 H hP hD hS => ?_)
  have hP : va_P D vwCl [(a0, .inr (2, [.ref q1, .ref q2, .ref q3, .ref q4, .null, .int 0])), (q1, .inl (c 0, 456, .inl (fun _ => 0))), (q2, .inl (c 0, 456, .inl (fun _ => 0))), (q3, .inl (c 0, 456, .inl (fun _ => 0))), (q4, .inl (c 0, 456, .inl (fun _ => 0))), (q5, .inl (c 0, 456, .inl (fun _ => 0)))] H := hP
  have hD : va_D A [(a0, .inr (2, [.ref q1, .ref q2, .ref q3, .ref q4, .null, .int 0])), (q1, .inl (c 0, 456, .inl (fun _ => 0))), (q2, .inl (c 0, 456, .inl (fun _ => 0))), (q3, .inl (c 0, 456, .inl (fun _ => 0))), (q4, .inl (c 0, 456, .inl (fun _ => 0))), (q5, .inl (c 0, 456, .inl (fun _ => 0)))] := hD
  refine W.widen (k := 5) (n := 2280) (Nat.le_of_ble_eq_true rfl) (Nat.le_of_ble_eq_true rfl) ?_
  refine va_putF (D := D) (ci := 2) (v := .ref q5) (ty := .array .int) (C := RX2) (T := TX2) (N := 6) hx hb hts iX2 tyX2 tyX2_ok nmX2 hown hK hP hD hS 0 rfl rfl 4 (by decide) (hts (.fieldLink RX2 24 "ShortTeller$Marks" "name" "[I") (List.mem_of_getElem? (i := 9) rfl)) (fun _ h9 => h9) rfl hin rfl (by decide +kernel) rfl rfl (Nat.le_of_ble_eq_true rfl) dX2_init_46 (fun H locs hP hD hS => ?_)
  have hP : va_P D vwCl [(a0, .inr (2, [.ref q1, .ref q2, .ref q3, .ref q4, .ref q5, .int 0])), (q1, .inl (c 0, 456, .inl (fun _ => 0))), (q2, .inl (c 0, 456, .inl (fun _ => 0))), (q3, .inl (c 0, 456, .inl (fun _ => 0))), (q4, .inl (c 0, 456, .inl (fun _ => 0))), (q5, .inl (c 0, 456, .inl (fun _ => 0)))] H := hP
  have hD : va_D A [(a0, .inr (2, [.ref q1, .ref q2, .ref q3, .ref q4, .ref q5, .int 0])), (q1, .inl (c 0, 456, .inl (fun _ => 0))), (q2, .inl (c 0, 456, .inl (fun _ => 0))), (q3, .inl (c 0, 456, .inl (fun _ => 0))), (q4, .inl (c 0, 456, .inl (fun _ => 0))), (q5, .inl (c 0, 456, .inl (fun _ => 0)))] := hD
  refine lv_aload_n hx hb dX2_init_49 rfl (lv_at hl 0 rfl) ?_
  refine lv_iconst (v := 0) hx hb dX2_init_50 (by decide) ?_
  refine va_put (D := D) (ci := 2) (v := .int 0) (ty := .int) (C := RX2) (T := TX2) (N := 6) hx hb hts iX2 tyX2 tyX2_ok nmX2 hown hK hP hD hS 0 rfl rfl 5 (by decide) (hts (.fieldLink RX2 27 "ShortTeller$Marks" "used" "I") (List.mem_of_getElem? (i := 10) rfl)) (fun _ h9 => h9) rfl (by decide +kernel) rfl rfl (Nat.le_of_ble_eq_true rfl) dX2_init_51 (fun H locs hP hD hS => ?_)
  have hP : va_P D vwCl [(a0, .inr (2, [.ref q1, .ref q2, .ref q3, .ref q4, .ref q5, .int 0])), (q1, .inl (c 0, 456, .inl (fun _ => 0))), (q2, .inl (c 0, 456, .inl (fun _ => 0))), (q3, .inl (c 0, 456, .inl (fun _ => 0))), (q4, .inl (c 0, 456, .inl (fun _ => 0))), (q5, .inl (c 0, 456, .inl (fun _ => 0)))] H := hP
  have hD : va_D A [(a0, .inr (2, [.ref q1, .ref q2, .ref q3, .ref q4, .ref q5, .int 0])), (q1, .inl (c 0, 456, .inl (fun _ => 0))), (q2, .inl (c 0, 456, .inl (fun _ => 0))), (q3, .inl (c 0, 456, .inl (fun _ => 0))), (q4, .inl (c 0, 456, .inl (fun _ => 0))), (q5, .inl (c 0, 456, .inl (fun _ => 0)))] := hD
  refine W.widen (k := 5) (n := 2280) (Nat.le_of_ble_eq_true rfl) (Nat.le_of_ble_eq_true rfl) ?_
  exact hret (q1_u [q1, q2, q3, q4, q5] []) _ _ _ _ dX2_init_54 hP hD hS
set_option maxHeartbeats 4000000 in
set_option maxRecDepth 100000 in
theorem k5_X0_has (l : Launch) (D : va_G) (c : Nat → ClassId) (sz : Nat) (a0 : Nat) (x0 : Int32) (a1 : Nat) (g0 : ¬ x0 < (0 : Int32)) (g1 : ¬ (31 : Int32) ≤ x0) (g2 : ¬ x0 < 0) (g3 : x0.toNatClampNeg < 31) : Met l yX0_has wsX0_has ({ frames := 0, cells := 0, slots := 0, locals := 0 }) (q1_P D c [(a0, .inr (0, [.ref a1, .int 0, .int 0])), (a1, .inl (c 0, 31, .inl (fun _ => 0)))] sz [.ref a0, .int x0]) (q1_i D [(a0, .inr (0, [.ref a1, .int 0, .int 0])), (a1, .inl (c 0, 31, .inl (fun _ => 0)))] sz (0) (fun u => [(a0, .inr (0, [.ref a1, .int 0, .int 0])), (a1, .inl (c 0, 31, .inl (fun _ => 0)))])) 0 0 (va_A [(a0, .inr (0, [.ref a1, .int 0, .int 0])), (a1, .inl (c 0, 31, .inl (fun _ => 0)))] sz) := by
  refine q1_of_i (ty := .boolean) rfl (cc := cX0_has) (maxL := 2) (by decide) rfl (Nat.le_of_ble_eq_true rfl) (fun p e s m args below meth cd A Q ls hx hb hml hown hts hin hA hS hP hD hK hN hl hret => ?_)
  have hown : s.vm.findClass RX0 = some m.cls := hown
  obtain ⟨H, eH⟩ : ∃ z, z = s.heap := ⟨_, rfl⟩
  have hP : va_P D vwCl [(a0, .inr (0, [.ref a1, .int 0, .int 0])), (a1, .inl (c 0, 31, .inl (fun _ => 0)))] H := by rw [eH]; exact hP
  have hS : va_S A s.heap H [] := by rw [eH]; exact hS
  rw [← eH]
  have iX0 : ∀ w ∈ wsX00, w ∈ wsX0_has := fun w h => List.mem_cons_of_mem _ (List.mem_append_right _ h)
  have hl : lv_has ls 2 [(0, .ref a0), (1, .int x0)] := hl
  refine lv_iload_n hx hb dX0_has_0 rfl (lv_at hl 1 rfl) ?_
  refine lv_if_lt (tgt := 23) hx hb dX0_has_1 (by decide) (fun h9 => absurd h9 g0) (fun _ => ?_)
  refine lv_iload_n hx hb dX0_has_4 rfl (lv_at hl 1 rfl) ?_
  refine lv_bipush (v := 31) hx hb dX0_has_5 (by decide) ?_
  refine lv_icmp_ge (tgt := 23) hx hb dX0_has_7 (by decide) (fun h9 => absurd h9 g1) (fun _ => ?_)
  refine lv_aload_n hx hb dX0_has_10 rfl (lv_at hl 0 rfl) ?_
  refine va_get (D := D) (ci := 0) (v := .ref a1) (C := RX0) (T := TX0) (N := 3) hx hb hts iX0 hown hK hP 0 rfl rfl 0 (by decide) (hts (.fieldLink RX0 9 "ShortTeller$Facts" "places" "[I") (List.mem_of_getElem? (i := 1) rfl)) (fun _ h9 => h9) rfl dX0_has_11 ?_
  refine lv_iload_n hx hb dX0_has_14 rfl (lv_at hl 1 rfl) ?_
  refine q1_iald (c := c) (K := x0.toNatClampNeg) (v := 0) hx hb hK hP 1 rfl rfl g2 g3 rfl dX0_has_15 ?_
  refine lv_if_le (tgt := 23) hx hb dX0_has_16 (by decide) (fun _ => ?_) (fun h9 => absurd (by decide) h9)
  refine lv_iconst (v := 0) hx hb dX0_has_23 (by decide) ?_
  refine W.widen (k := 0) (n := 0) (Nat.le_of_ble_eq_true rfl) (Nat.le_of_ble_eq_true rfl) ?_
  exact hret (q1_u [] []) _ _ _ _ dX0_has_24 hP hD hS
set_option maxHeartbeats 4000000 in
set_option maxRecDepth 100000 in
theorem k6_X0_weightOf (l : Launch) (D : va_G) (c : Nat → ClassId) (sz : Nat) (a0 : Nat) (x0 : Int32) (a1 : Nat) (g0 : ¬ x0 < (0 : Int32)) (g1 : ¬ (31 : Int32) ≤ x0) (g2 : ¬ x0 < 0) (g3 : x0.toNatClampNeg < 31) : Met l yX0_weightOf wsX0_weightOf ({ frames := 1, cells := 0, slots := 0, locals := 21 }) (q1_P D c [(a0, .inr (0, [.ref a1, .int 0, .int 0])), (a1, .inl (c 0, 31, .inl (fun _ => 0)))] sz [.ref a0, .int x0]) (q1_i D [(a0, .inr (0, [.ref a1, .int 0, .int 0])), (a1, .inl (c 0, 31, .inl (fun _ => 0)))] sz (0) (fun u => [(a0, .inr (0, [.ref a1, .int 0, .int 0])), (a1, .inl (c 0, 31, .inl (fun _ => 0)))])) 0 0 (va_A [(a0, .inr (0, [.ref a1, .int 0, .int 0])), (a1, .inl (c 0, 31, .inl (fun _ => 0)))] sz) := by
  refine q1_of_i (ty := .int) rfl (cc := cX0_weightOf) (maxL := 2) (by decide) rfl (Nat.le_of_ble_eq_true rfl) (fun p e s m args below meth cd A Q ls hx hb hml hown hts hin hA hS hP hD hK hN hl hret => ?_)
  have hown : s.vm.findClass RX0 = some m.cls := hown
  obtain ⟨H, eH⟩ : ∃ z, z = s.heap := ⟨_, rfl⟩
  have hP : va_P D vwCl [(a0, .inr (0, [.ref a1, .int 0, .int 0])), (a1, .inl (c 0, 31, .inl (fun _ => 0)))] H := by rw [eH]; exact hP
  have hS : va_S A s.heap H [] := by rw [eH]; exact hS
  rw [← eH]
  have hl : lv_has ls 2 [(0, .ref a0), (1, .int x0)] := hl
  refine lv_aload_n hx hb dX0_weightOf_0 rfl (lv_at hl 0 rfl) ?_
  refine lv_iload_n hx hb dX0_weightOf_1 rfl (lv_at hl 1 rfl) ?_
  have hPc := hP.sub (ws' := [(a0, .inr (0, [.ref a1, .int 0, .int 0])), (a1, .inl (c 0, 31, .inl (fun _ => 0)))]) [0, 1] rfl
  have hDc := hD.sub (ws' := [(a0, .inr (0, [.ref a1, .int 0, .int 0])), (a1, .inl (c 0, 31, .inl (fun _ => 0)))]) [0, 1] (by decide) rfl
  refine q1_ci (wr := []) (va_runV (As := [.int x0]) (rest := []) ⟨hx, hb, hml, hown, hts⟩ (k5_X0_has l D c H.size a0 x0 a1 g0 g1 g2 g3) (cwV 1 hts gX0_weightOf_X0_has rfl rfl rfl (by decide +kernel) ⟨Nat.le_of_ble_eq_true rfl, Nat.le_of_ble_eq_true rfl⟩) (q1_preV (c := c) (ci := 0) (q0 := 0) hPc hK hDc hN rfl rfl) rfl rfl hl.1 rfl (lv_room (Nat.le_of_ble_eq_true rfl)) dX0_weightOf_2 ⟨Nat.le_of_ble_eq_true rfl, Nat.le_of_ble_eq_true rfl⟩) hP hD hS hA [0, 1] [] rfl rfl (by decide) (by decide) (fun u2x0 H locs hP hD hS => ?_)
  have hP : va_P D vwCl [(a0, .inr (0, [.ref a1, .int 0, .int 0])), (a1, .inl (c 0, 31, .inl (fun _ => 0)))] H := hP
  have hD : va_D A [(a0, .inr (0, [.ref a1, .int 0, .int 0])), (a1, .inl (c 0, 31, .inl (fun _ => 0)))] := hD
  refine lv_if_eq (tgt := 25) hx hb dX0_weightOf_5 (by decide) (fun _ => ?_) (fun h9 => absurd (by decide) h9)
  refine lv_iconst (v := 0) hx hb dX0_weightOf_25 (by decide) ?_
  refine W.widen (k := 0) (n := 0) (Nat.le_of_ble_eq_true rfl) (Nat.le_of_ble_eq_true rfl) ?_
  exact hret (q1_u [] []) _ _ _ _ dX0_weightOf_26 hP hD hS
set_option maxHeartbeats 4000000 in
set_option maxRecDepth 100000 in
theorem k7_X0_clear (l : Launch) (D : va_G) (c : Nat → ClassId) (sz : Nat) (a0 : Nat) (a1 : Nat) : Met l yX0_clear wsX0_clear ({ frames := 0, cells := 0, slots := 0, locals := 0 }) (q1_P D c [(a0, .inr (0, [.ref a1, .int 0, .int 0])), (a1, .inl (c 0, 31, .inl (fun _ => 0)))] sz [.ref a0]) (q1_v D [(a0, .inr (0, [.ref a1, .int 0, .int 0])), (a1, .inl (c 0, 31, .inl (fun _ => 0)))] sz (fun u => [(a0, .inr (0, [.ref a1, .int 0, .int 0])), (a1, .inl (c 0, 31, .inl (fun _ => 0)))])) 0 0 (va_A [(a0, .inr (0, [.ref a1, .int 0, .int 0])), (a1, .inl (c 0, 31, .inl (fun _ => 0)))] sz) := by
  refine q1_of_v (cc := cX0_clear) (maxL := 2) (by decide) rfl (Nat.le_of_ble_eq_true rfl) (fun p e s m args below meth cd A Q ls hx hb hml hown hts hin hA hS hP hD hK hN hl hret => ?_)
  have hown : s.vm.findClass RX0 = some m.cls := hown
  obtain ⟨H, eH⟩ : ∃ z, z = s.heap := ⟨_, rfl⟩
  have hP : va_P D vwCl [(a0, .inr (0, [.ref a1, .int 0, .int 0])), (a1, .inl (c 0, 31, .inl (fun _ => 0)))] H := by rw [eH]; exact hP
  have hS : va_S A s.heap H [] := by rw [eH]; exact hS
  rw [← eH]
  have iX0 : ∀ w ∈ wsX00, w ∈ wsX0_clear := fun w h => List.mem_cons_of_mem _ (List.mem_append_right _ h)
  have hl : lv_has ls 2 [(0, .ref a0)] := hl
  refine lv_iconst (v := 0) hx hb dX0_clear_0 (by decide) ?_
  refine lv_istore_n (lv' := [(1, .int 0), (0, .ref a0)]) hx hb dX0_clear_1 rfl hl (by decide) rfl (fun ls hl => ?_)
  refine lv_iload_n hx hb dX0_clear_2 rfl (lv_at hl 0 rfl) ?_
  refine lv_bipush (v := 31) hx hb dX0_clear_3 (by decide) ?_
  refine lv_icmp_ge (tgt := 21) hx hb dX0_clear_5 (by decide) (fun h9 => absurd h9 (by decide)) (fun _ => ?_)
  refine lv_aload_n hx hb dX0_clear_8 rfl (lv_at hl 1 rfl) ?_
  refine va_get (D := D) (ci := 0) (v := .ref a1) (C := RX0) (T := TX0) (N := 3) hx hb hts iX0 hown hK hP 0 rfl rfl 0 (by decide) (hts (.fieldLink RX0 9 "ShortTeller$Facts" "places" "[I") (List.mem_of_getElem? (i := 1) rfl)) (fun _ h9 => h9) rfl dX0_clear_9 ?_
  refine lv_iload_n hx hb dX0_clear_12 rfl (lv_at hl 0 rfl) ?_
  refine lv_iconst (v := 0) hx hb dX0_clear_13 (by decide) ?_
  refine q1_iast (c := c) (K := 0) (F := fun _ => 0) hx hb hK hP hD hS 1 rfl (by decide) (by decide) (by decide) (q1_upds rfl) dX0_clear_14 (fun H locs hP hD hS => ?_)
  have hP : va_P D vwCl [(a0, .inr (0, [.ref a1, .int 0, .int 0])), (a1, .inl (c 0, 31, .inl (fun _ => 0)))] H := hP
  have hD : va_D A [(a0, .inr (0, [.ref a1, .int 0, .int 0])), (a1, .inl (c 0, 31, .inl (fun _ => 0)))] := hD
  refine lv_iinc (v := 1) (lv' := [(1, .int 1), (0, .ref a0)]) hx hb dX0_clear_15 hl (k := 0) rfl (by decide) (by decide) rfl (fun ls hl => ?_)
  refine lv_goto (tgt := 2) hx hb dX0_clear_18 (by decide) ?_
  refine lv_iload_n hx hb dX0_clear_2 rfl (lv_at hl 0 rfl) ?_
  refine lv_bipush (v := 31) hx hb dX0_clear_3 (by decide) ?_
  refine lv_icmp_ge (tgt := 21) hx hb dX0_clear_5 (by decide) (fun h9 => absurd h9 (by decide)) (fun _ => ?_)
  refine lv_aload_n hx hb dX0_clear_8 rfl (lv_at hl 1 rfl) ?_
  refine va_get (D := D) (ci := 0) (v := .ref a1) (C := RX0) (T := TX0) (N := 3) hx hb hts iX0 hown hK hP 0 rfl rfl 0 (by decide) (hts (.fieldLink RX0 9 "ShortTeller$Facts" "places" "[I") (List.mem_of_getElem? (i := 1) rfl)) (fun _ h9 => h9) rfl dX0_clear_9 ?_
  refine lv_iload_n hx hb dX0_clear_12 rfl (lv_at hl 0 rfl) ?_
  refine lv_iconst (v := 0) hx hb dX0_clear_13 (by decide) ?_
  refine q1_iast (c := c) (K := 1) (F := fun _ => 0) hx hb hK hP hD hS 1 rfl (by decide) (by decide) (by decide) (q1_upds rfl) dX0_clear_14 (fun H locs hP hD hS => ?_)
  have hP : va_P D vwCl [(a0, .inr (0, [.ref a1, .int 0, .int 0])), (a1, .inl (c 0, 31, .inl (fun _ => 0)))] H := hP
  have hD : va_D A [(a0, .inr (0, [.ref a1, .int 0, .int 0])), (a1, .inl (c 0, 31, .inl (fun _ => 0)))] := hD
  refine lv_iinc (v := 2) (lv' := [(1, .int 2), (0, .ref a0)]) hx hb dX0_clear_15 hl (k := 0) rfl (by decide) (by decide) rfl (fun ls hl => ?_)
  refine lv_goto (tgt := 2) hx hb dX0_clear_18 (by decide) ?_
  refine lv_iload_n hx hb dX0_clear_2 rfl (lv_at hl 0 rfl) ?_
  refine lv_bipush (v := 31) hx hb dX0_clear_3 (by decide) ?_
  refine lv_icmp_ge (tgt := 21) hx hb dX0_clear_5 (by decide) (fun h9 => absurd h9 (by decide)) (fun _ => ?_)
  refine lv_aload_n hx hb dX0_clear_8 rfl (lv_at hl 1 rfl) ?_
  refine va_get (D := D) (ci := 0) (v := .ref a1) (C := RX0) (T := TX0) (N := 3) hx hb hts iX0 hown hK hP 0 rfl rfl 0 (by decide) (hts (.fieldLink RX0 9 "ShortTeller$Facts" "places" "[I") (List.mem_of_getElem? (i := 1) rfl)) (fun _ h9 => h9) rfl dX0_clear_9 ?_
  refine lv_iload_n hx hb dX0_clear_12 rfl (lv_at hl 0 rfl) ?_
  refine lv_iconst (v := 0) hx hb dX0_clear_13 (by decide) ?_
  refine q1_iast (c := c) (K := 2) (F := fun _ => 0) hx hb hK hP hD hS 1 rfl (by decide) (by decide) (by decide) (q1_upds rfl) dX0_clear_14 (fun H locs hP hD hS => ?_)
  have hP : va_P D vwCl [(a0, .inr (0, [.ref a1, .int 0, .int 0])), (a1, .inl (c 0, 31, .inl (fun _ => 0)))] H := hP
  have hD : va_D A [(a0, .inr (0, [.ref a1, .int 0, .int 0])), (a1, .inl (c 0, 31, .inl (fun _ => 0)))] := hD
  refine lv_iinc (v := 3) (lv' := [(1, .int 3), (0, .ref a0)]) hx hb dX0_clear_15 hl (k := 0) rfl (by decide) (by decide) rfl (fun ls hl => ?_)
  refine lv_goto (tgt := 2) hx hb dX0_clear_18 (by decide) ?_
  refine lv_iload_n hx hb dX0_clear_2 rfl (lv_at hl 0 rfl) ?_
  refine lv_bipush (v := 31) hx hb dX0_clear_3 (by decide) ?_
  refine lv_icmp_ge (tgt := 21) hx hb dX0_clear_5 (by decide) (fun h9 => absurd h9 (by decide)) (fun _ => ?_)
  refine lv_aload_n hx hb dX0_clear_8 rfl (lv_at hl 1 rfl) ?_
  refine va_get (D := D) (ci := 0) (v := .ref a1) (C := RX0) (T := TX0) (N := 3) hx hb hts iX0 hown hK hP 0 rfl rfl 0 (by decide) (hts (.fieldLink RX0 9 "ShortTeller$Facts" "places" "[I") (List.mem_of_getElem? (i := 1) rfl)) (fun _ h9 => h9) rfl dX0_clear_9 ?_
  refine lv_iload_n hx hb dX0_clear_12 rfl (lv_at hl 0 rfl) ?_
  refine lv_iconst (v := 0) hx hb dX0_clear_13 (by decide) ?_
  refine q1_iast (c := c) (K := 3) (F := fun _ => 0) hx hb hK hP hD hS 1 rfl (by decide) (by decide) (by decide) (q1_upds rfl) dX0_clear_14 (fun H locs hP hD hS => ?_)
  have hP : va_P D vwCl [(a0, .inr (0, [.ref a1, .int 0, .int 0])), (a1, .inl (c 0, 31, .inl (fun _ => 0)))] H := hP
  have hD : va_D A [(a0, .inr (0, [.ref a1, .int 0, .int 0])), (a1, .inl (c 0, 31, .inl (fun _ => 0)))] := hD
  refine lv_iinc (v := 4) (lv' := [(1, .int 4), (0, .ref a0)]) hx hb dX0_clear_15 hl (k := 0) rfl (by decide) (by decide) rfl (fun ls hl => ?_)
  refine lv_goto (tgt := 2) hx hb dX0_clear_18 (by decide) ?_
  refine lv_iload_n hx hb dX0_clear_2 rfl (lv_at hl 0 rfl) ?_
  refine lv_bipush (v := 31) hx hb dX0_clear_3 (by decide) ?_
  refine lv_icmp_ge (tgt := 21) hx hb dX0_clear_5 (by decide) (fun h9 => absurd h9 (by decide)) (fun _ => ?_)
  refine lv_aload_n hx hb dX0_clear_8 rfl (lv_at hl 1 rfl) ?_
  refine va_get (D := D) (ci := 0) (v := .ref a1) (C := RX0) (T := TX0) (N := 3) hx hb hts iX0 hown hK hP 0 rfl rfl 0 (by decide) (hts (.fieldLink RX0 9 "ShortTeller$Facts" "places" "[I") (List.mem_of_getElem? (i := 1) rfl)) (fun _ h9 => h9) rfl dX0_clear_9 ?_
  refine lv_iload_n hx hb dX0_clear_12 rfl (lv_at hl 0 rfl) ?_
  refine lv_iconst (v := 0) hx hb dX0_clear_13 (by decide) ?_
  refine q1_iast (c := c) (K := 4) (F := fun _ => 0) hx hb hK hP hD hS 1 rfl (by decide) (by decide) (by decide) (q1_upds rfl) dX0_clear_14 (fun H locs hP hD hS => ?_)
  have hP : va_P D vwCl [(a0, .inr (0, [.ref a1, .int 0, .int 0])), (a1, .inl (c 0, 31, .inl (fun _ => 0)))] H := hP
  have hD : va_D A [(a0, .inr (0, [.ref a1, .int 0, .int 0])), (a1, .inl (c 0, 31, .inl (fun _ => 0)))] := hD
  refine lv_iinc (v := 5) (lv' := [(1, .int 5), (0, .ref a0)]) hx hb dX0_clear_15 hl (k := 0) rfl (by decide) (by decide) rfl (fun ls hl => ?_)
  refine lv_goto (tgt := 2) hx hb dX0_clear_18 (by decide) ?_
  refine lv_iload_n hx hb dX0_clear_2 rfl (lv_at hl 0 rfl) ?_
  refine lv_bipush (v := 31) hx hb dX0_clear_3 (by decide) ?_
  refine lv_icmp_ge (tgt := 21) hx hb dX0_clear_5 (by decide) (fun h9 => absurd h9 (by decide)) (fun _ => ?_)
  refine lv_aload_n hx hb dX0_clear_8 rfl (lv_at hl 1 rfl) ?_
  refine va_get (D := D) (ci := 0) (v := .ref a1) (C := RX0) (T := TX0) (N := 3) hx hb hts iX0 hown hK hP 0 rfl rfl 0 (by decide) (hts (.fieldLink RX0 9 "ShortTeller$Facts" "places" "[I") (List.mem_of_getElem? (i := 1) rfl)) (fun _ h9 => h9) rfl dX0_clear_9 ?_
  refine lv_iload_n hx hb dX0_clear_12 rfl (lv_at hl 0 rfl) ?_
  refine lv_iconst (v := 0) hx hb dX0_clear_13 (by decide) ?_
  refine q1_iast (c := c) (K := 5) (F := fun _ => 0) hx hb hK hP hD hS 1 rfl (by decide) (by decide) (by decide) (q1_upds rfl) dX0_clear_14 (fun H locs hP hD hS => ?_)
  have hP : va_P D vwCl [(a0, .inr (0, [.ref a1, .int 0, .int 0])), (a1, .inl (c 0, 31, .inl (fun _ => 0)))] H := hP
  have hD : va_D A [(a0, .inr (0, [.ref a1, .int 0, .int 0])), (a1, .inl (c 0, 31, .inl (fun _ => 0)))] := hD
  refine lv_iinc (v := 6) (lv' := [(1, .int 6), (0, .ref a0)]) hx hb dX0_clear_15 hl (k := 0) rfl (by decide) (by decide) rfl (fun ls hl => ?_)
  refine lv_goto (tgt := 2) hx hb dX0_clear_18 (by decide) ?_
  refine lv_iload_n hx hb dX0_clear_2 rfl (lv_at hl 0 rfl) ?_
  refine lv_bipush (v := 31) hx hb dX0_clear_3 (by decide) ?_
  refine lv_icmp_ge (tgt := 21) hx hb dX0_clear_5 (by decide) (fun h9 => absurd h9 (by decide)) (fun _ => ?_)
  refine lv_aload_n hx hb dX0_clear_8 rfl (lv_at hl 1 rfl) ?_
  refine va_get (D := D) (ci := 0) (v := .ref a1) (C := RX0) (T := TX0) (N := 3) hx hb hts iX0 hown hK hP 0 rfl rfl 0 (by decide) (hts (.fieldLink RX0 9 "ShortTeller$Facts" "places" "[I") (List.mem_of_getElem? (i := 1) rfl)) (fun _ h9 => h9) rfl dX0_clear_9 ?_
  refine lv_iload_n hx hb dX0_clear_12 rfl (lv_at hl 0 rfl) ?_
  refine lv_iconst (v := 0) hx hb dX0_clear_13 (by decide) ?_
  refine q1_iast (c := c) (K := 6) (F := fun _ => 0) hx hb hK hP hD hS 1 rfl (by decide) (by decide) (by decide) (q1_upds rfl) dX0_clear_14 (fun H locs hP hD hS => ?_)
  have hP : va_P D vwCl [(a0, .inr (0, [.ref a1, .int 0, .int 0])), (a1, .inl (c 0, 31, .inl (fun _ => 0)))] H := hP
  have hD : va_D A [(a0, .inr (0, [.ref a1, .int 0, .int 0])), (a1, .inl (c 0, 31, .inl (fun _ => 0)))] := hD
  refine lv_iinc (v := 7) (lv' := [(1, .int 7), (0, .ref a0)]) hx hb dX0_clear_15 hl (k := 0) rfl (by decide) (by decide) rfl (fun ls hl => ?_)
  refine lv_goto (tgt := 2) hx hb dX0_clear_18 (by decide) ?_
  refine lv_iload_n hx hb dX0_clear_2 rfl (lv_at hl 0 rfl) ?_
  refine lv_bipush (v := 31) hx hb dX0_clear_3 (by decide) ?_
  refine lv_icmp_ge (tgt := 21) hx hb dX0_clear_5 (by decide) (fun h9 => absurd h9 (by decide)) (fun _ => ?_)
  refine lv_aload_n hx hb dX0_clear_8 rfl (lv_at hl 1 rfl) ?_
  refine va_get (D := D) (ci := 0) (v := .ref a1) (C := RX0) (T := TX0) (N := 3) hx hb hts iX0 hown hK hP 0 rfl rfl 0 (by decide) (hts (.fieldLink RX0 9 "ShortTeller$Facts" "places" "[I") (List.mem_of_getElem? (i := 1) rfl)) (fun _ h9 => h9) rfl dX0_clear_9 ?_
  refine lv_iload_n hx hb dX0_clear_12 rfl (lv_at hl 0 rfl) ?_
  refine lv_iconst (v := 0) hx hb dX0_clear_13 (by decide) ?_
  refine q1_iast (c := c) (K := 7) (F := fun _ => 0) hx hb hK hP hD hS 1 rfl (by decide) (by decide) (by decide) (q1_upds rfl) dX0_clear_14 (fun H locs hP hD hS => ?_)
  have hP : va_P D vwCl [(a0, .inr (0, [.ref a1, .int 0, .int 0])), (a1, .inl (c 0, 31, .inl (fun _ => 0)))] H := hP
  have hD : va_D A [(a0, .inr (0, [.ref a1, .int 0, .int 0])), (a1, .inl (c 0, 31, .inl (fun _ => 0)))] := hD
  refine lv_iinc (v := 8) (lv' := [(1, .int 8), (0, .ref a0)]) hx hb dX0_clear_15 hl (k := 0) rfl (by decide) (by decide) rfl (fun ls hl => ?_)
  refine lv_goto (tgt := 2) hx hb dX0_clear_18 (by decide) ?_
  refine lv_iload_n hx hb dX0_clear_2 rfl (lv_at hl 0 rfl) ?_
  refine lv_bipush (v := 31) hx hb dX0_clear_3 (by decide) ?_
  refine lv_icmp_ge (tgt := 21) hx hb dX0_clear_5 (by decide) (fun h9 => absurd h9 (by decide)) (fun _ => ?_)
  refine lv_aload_n hx hb dX0_clear_8 rfl (lv_at hl 1 rfl) ?_
  refine va_get (D := D) (ci := 0) (v := .ref a1) (C := RX0) (T := TX0) (N := 3) hx hb hts iX0 hown hK hP 0 rfl rfl 0 (by decide) (hts (.fieldLink RX0 9 "ShortTeller$Facts" "places" "[I") (List.mem_of_getElem? (i := 1) rfl)) (fun _ h9 => h9) rfl dX0_clear_9 ?_
  refine lv_iload_n hx hb dX0_clear_12 rfl (lv_at hl 0 rfl) ?_
  refine lv_iconst (v := 0) hx hb dX0_clear_13 (by decide) ?_
  refine q1_iast (c := c) (K := 8) (F := fun _ => 0) hx hb hK hP hD hS 1 rfl (by decide) (by decide) (by decide) (q1_upds rfl) dX0_clear_14 (fun H locs hP hD hS => ?_)
  have hP : va_P D vwCl [(a0, .inr (0, [.ref a1, .int 0, .int 0])), (a1, .inl (c 0, 31, .inl (fun _ => 0)))] H := hP
  have hD : va_D A [(a0, .inr (0, [.ref a1, .int 0, .int 0])), (a1, .inl (c 0, 31, .inl (fun _ => 0)))] := hD
  refine lv_iinc (v := 9) (lv' := [(1, .int 9), (0, .ref a0)]) hx hb dX0_clear_15 hl (k := 0) rfl (by decide) (by decide) rfl (fun ls hl => ?_)
  refine lv_goto (tgt := 2) hx hb dX0_clear_18 (by decide) ?_
  refine lv_iload_n hx hb dX0_clear_2 rfl (lv_at hl 0 rfl) ?_
  refine lv_bipush (v := 31) hx hb dX0_clear_3 (by decide) ?_
  refine lv_icmp_ge (tgt := 21) hx hb dX0_clear_5 (by decide) (fun h9 => absurd h9 (by decide)) (fun _ => ?_)
  refine lv_aload_n hx hb dX0_clear_8 rfl (lv_at hl 1 rfl) ?_
  refine va_get (D := D) (ci := 0) (v := .ref a1) (C := RX0) (T := TX0) (N := 3) hx hb hts iX0 hown hK hP 0 rfl rfl 0 (by decide) (hts (.fieldLink RX0 9 "ShortTeller$Facts" "places" "[I") (List.mem_of_getElem? (i := 1) rfl)) (fun _ h9 => h9) rfl dX0_clear_9 ?_
  refine lv_iload_n hx hb dX0_clear_12 rfl (lv_at hl 0 rfl) ?_
  refine lv_iconst (v := 0) hx hb dX0_clear_13 (by decide) ?_
  refine q1_iast (c := c) (K := 9) (F := fun _ => 0) hx hb hK hP hD hS 1 rfl (by decide) (by decide) (by decide) (q1_upds rfl) dX0_clear_14 (fun H locs hP hD hS => ?_)
  have hP : va_P D vwCl [(a0, .inr (0, [.ref a1, .int 0, .int 0])), (a1, .inl (c 0, 31, .inl (fun _ => 0)))] H := hP
  have hD : va_D A [(a0, .inr (0, [.ref a1, .int 0, .int 0])), (a1, .inl (c 0, 31, .inl (fun _ => 0)))] := hD
  refine lv_iinc (v := 10) (lv' := [(1, .int 10), (0, .ref a0)]) hx hb dX0_clear_15 hl (k := 0) rfl (by decide) (by decide) rfl (fun ls hl => ?_)
  refine lv_goto (tgt := 2) hx hb dX0_clear_18 (by decide) ?_
  refine lv_iload_n hx hb dX0_clear_2 rfl (lv_at hl 0 rfl) ?_
  refine lv_bipush (v := 31) hx hb dX0_clear_3 (by decide) ?_
  refine lv_icmp_ge (tgt := 21) hx hb dX0_clear_5 (by decide) (fun h9 => absurd h9 (by decide)) (fun _ => ?_)
  refine lv_aload_n hx hb dX0_clear_8 rfl (lv_at hl 1 rfl) ?_
  refine va_get (D := D) (ci := 0) (v := .ref a1) (C := RX0) (T := TX0) (N := 3) hx hb hts iX0 hown hK hP 0 rfl rfl 0 (by decide) (hts (.fieldLink RX0 9 "ShortTeller$Facts" "places" "[I") (List.mem_of_getElem? (i := 1) rfl)) (fun _ h9 => h9) rfl dX0_clear_9 ?_
  refine lv_iload_n hx hb dX0_clear_12 rfl (lv_at hl 0 rfl) ?_
  refine lv_iconst (v := 0) hx hb dX0_clear_13 (by decide) ?_
  refine q1_iast (c := c) (K := 10) (F := fun _ => 0) hx hb hK hP hD hS 1 rfl (by decide) (by decide) (by decide) (q1_upds rfl) dX0_clear_14 (fun H locs hP hD hS => ?_)
  have hP : va_P D vwCl [(a0, .inr (0, [.ref a1, .int 0, .int 0])), (a1, .inl (c 0, 31, .inl (fun _ => 0)))] H := hP
  have hD : va_D A [(a0, .inr (0, [.ref a1, .int 0, .int 0])), (a1, .inl (c 0, 31, .inl (fun _ => 0)))] := hD
  refine lv_iinc (v := 11) (lv' := [(1, .int 11), (0, .ref a0)]) hx hb dX0_clear_15 hl (k := 0) rfl (by decide) (by decide) rfl (fun ls hl => ?_)
  refine lv_goto (tgt := 2) hx hb dX0_clear_18 (by decide) ?_
  refine lv_iload_n hx hb dX0_clear_2 rfl (lv_at hl 0 rfl) ?_
  refine lv_bipush (v := 31) hx hb dX0_clear_3 (by decide) ?_
  refine lv_icmp_ge (tgt := 21) hx hb dX0_clear_5 (by decide) (fun h9 => absurd h9 (by decide)) (fun _ => ?_)
  refine lv_aload_n hx hb dX0_clear_8 rfl (lv_at hl 1 rfl) ?_
  refine va_get (D := D) (ci := 0) (v := .ref a1) (C := RX0) (T := TX0) (N := 3) hx hb hts iX0 hown hK hP 0 rfl rfl 0 (by decide) (hts (.fieldLink RX0 9 "ShortTeller$Facts" "places" "[I") (List.mem_of_getElem? (i := 1) rfl)) (fun _ h9 => h9) rfl dX0_clear_9 ?_
  refine lv_iload_n hx hb dX0_clear_12 rfl (lv_at hl 0 rfl) ?_
  refine lv_iconst (v := 0) hx hb dX0_clear_13 (by decide) ?_
  refine q1_iast (c := c) (K := 11) (F := fun _ => 0) hx hb hK hP hD hS 1 rfl (by decide) (by decide) (by decide) (q1_upds rfl) dX0_clear_14 (fun H locs hP hD hS => ?_)
  have hP : va_P D vwCl [(a0, .inr (0, [.ref a1, .int 0, .int 0])), (a1, .inl (c 0, 31, .inl (fun _ => 0)))] H := hP
  have hD : va_D A [(a0, .inr (0, [.ref a1, .int 0, .int 0])), (a1, .inl (c 0, 31, .inl (fun _ => 0)))] := hD
  refine lv_iinc (v := 12) (lv' := [(1, .int 12), (0, .ref a0)]) hx hb dX0_clear_15 hl (k := 0) rfl (by decide) (by decide) rfl (fun ls hl => ?_)
  refine lv_goto (tgt := 2) hx hb dX0_clear_18 (by decide) ?_
  refine lv_iload_n hx hb dX0_clear_2 rfl (lv_at hl 0 rfl) ?_
  refine lv_bipush (v := 31) hx hb dX0_clear_3 (by decide) ?_
  refine lv_icmp_ge (tgt := 21) hx hb dX0_clear_5 (by decide) (fun h9 => absurd h9 (by decide)) (fun _ => ?_)
  refine lv_aload_n hx hb dX0_clear_8 rfl (lv_at hl 1 rfl) ?_
  refine va_get (D := D) (ci := 0) (v := .ref a1) (C := RX0) (T := TX0) (N := 3) hx hb hts iX0 hown hK hP 0 rfl rfl 0 (by decide) (hts (.fieldLink RX0 9 "ShortTeller$Facts" "places" "[I") (List.mem_of_getElem? (i := 1) rfl)) (fun _ h9 => h9) rfl dX0_clear_9 ?_
  refine lv_iload_n hx hb dX0_clear_12 rfl (lv_at hl 0 rfl) ?_
  refine lv_iconst (v := 0) hx hb dX0_clear_13 (by decide) ?_
  refine q1_iast (c := c) (K := 12) (F := fun _ => 0) hx hb hK hP hD hS 1 rfl (by decide) (by decide) (by decide) (q1_upds rfl) dX0_clear_14 (fun H locs hP hD hS => ?_)
  have hP : va_P D vwCl [(a0, .inr (0, [.ref a1, .int 0, .int 0])), (a1, .inl (c 0, 31, .inl (fun _ => 0)))] H := hP
  have hD : va_D A [(a0, .inr (0, [.ref a1, .int 0, .int 0])), (a1, .inl (c 0, 31, .inl (fun _ => 0)))] := hD
  refine lv_iinc (v := 13) (lv' := [(1, .int 13), (0, .ref a0)]) hx hb dX0_clear_15 hl (k := 0) rfl (by decide) (by decide) rfl (fun ls hl => ?_)
  refine lv_goto (tgt := 2) hx hb dX0_clear_18 (by decide) ?_
  refine lv_iload_n hx hb dX0_clear_2 rfl (lv_at hl 0 rfl) ?_
  refine lv_bipush (v := 31) hx hb dX0_clear_3 (by decide) ?_
  refine lv_icmp_ge (tgt := 21) hx hb dX0_clear_5 (by decide) (fun h9 => absurd h9 (by decide)) (fun _ => ?_)
  refine lv_aload_n hx hb dX0_clear_8 rfl (lv_at hl 1 rfl) ?_
  refine va_get (D := D) (ci := 0) (v := .ref a1) (C := RX0) (T := TX0) (N := 3) hx hb hts iX0 hown hK hP 0 rfl rfl 0 (by decide) (hts (.fieldLink RX0 9 "ShortTeller$Facts" "places" "[I") (List.mem_of_getElem? (i := 1) rfl)) (fun _ h9 => h9) rfl dX0_clear_9 ?_
  refine lv_iload_n hx hb dX0_clear_12 rfl (lv_at hl 0 rfl) ?_
  refine lv_iconst (v := 0) hx hb dX0_clear_13 (by decide) ?_
  refine q1_iast (c := c) (K := 13) (F := fun _ => 0) hx hb hK hP hD hS 1 rfl (by decide) (by decide) (by decide) (q1_upds rfl) dX0_clear_14 (fun H locs hP hD hS => ?_)
  have hP : va_P D vwCl [(a0, .inr (0, [.ref a1, .int 0, .int 0])), (a1, .inl (c 0, 31, .inl (fun _ => 0)))] H := hP
  have hD : va_D A [(a0, .inr (0, [.ref a1, .int 0, .int 0])), (a1, .inl (c 0, 31, .inl (fun _ => 0)))] := hD
  refine lv_iinc (v := 14) (lv' := [(1, .int 14), (0, .ref a0)]) hx hb dX0_clear_15 hl (k := 0) rfl (by decide) (by decide) rfl (fun ls hl => ?_)
  refine lv_goto (tgt := 2) hx hb dX0_clear_18 (by decide) ?_
  refine lv_iload_n hx hb dX0_clear_2 rfl (lv_at hl 0 rfl) ?_
  refine lv_bipush (v := 31) hx hb dX0_clear_3 (by decide) ?_
  refine lv_icmp_ge (tgt := 21) hx hb dX0_clear_5 (by decide) (fun h9 => absurd h9 (by decide)) (fun _ => ?_)
  refine lv_aload_n hx hb dX0_clear_8 rfl (lv_at hl 1 rfl) ?_
  refine va_get (D := D) (ci := 0) (v := .ref a1) (C := RX0) (T := TX0) (N := 3) hx hb hts iX0 hown hK hP 0 rfl rfl 0 (by decide) (hts (.fieldLink RX0 9 "ShortTeller$Facts" "places" "[I") (List.mem_of_getElem? (i := 1) rfl)) (fun _ h9 => h9) rfl dX0_clear_9 ?_
  refine lv_iload_n hx hb dX0_clear_12 rfl (lv_at hl 0 rfl) ?_
  refine lv_iconst (v := 0) hx hb dX0_clear_13 (by decide) ?_
  refine q1_iast (c := c) (K := 14) (F := fun _ => 0) hx hb hK hP hD hS 1 rfl (by decide) (by decide) (by decide) (q1_upds rfl) dX0_clear_14 (fun H locs hP hD hS => ?_)
  have hP : va_P D vwCl [(a0, .inr (0, [.ref a1, .int 0, .int 0])), (a1, .inl (c 0, 31, .inl (fun _ => 0)))] H := hP
  have hD : va_D A [(a0, .inr (0, [.ref a1, .int 0, .int 0])), (a1, .inl (c 0, 31, .inl (fun _ => 0)))] := hD
  refine lv_iinc (v := 15) (lv' := [(1, .int 15), (0, .ref a0)]) hx hb dX0_clear_15 hl (k := 0) rfl (by decide) (by decide) rfl (fun ls hl => ?_)
  refine lv_goto (tgt := 2) hx hb dX0_clear_18 (by decide) ?_
  refine lv_iload_n hx hb dX0_clear_2 rfl (lv_at hl 0 rfl) ?_
  refine lv_bipush (v := 31) hx hb dX0_clear_3 (by decide) ?_
  refine lv_icmp_ge (tgt := 21) hx hb dX0_clear_5 (by decide) (fun h9 => absurd h9 (by decide)) (fun _ => ?_)
  refine lv_aload_n hx hb dX0_clear_8 rfl (lv_at hl 1 rfl) ?_
  refine va_get (D := D) (ci := 0) (v := .ref a1) (C := RX0) (T := TX0) (N := 3) hx hb hts iX0 hown hK hP 0 rfl rfl 0 (by decide) (hts (.fieldLink RX0 9 "ShortTeller$Facts" "places" "[I") (List.mem_of_getElem? (i := 1) rfl)) (fun _ h9 => h9) rfl dX0_clear_9 ?_
  refine lv_iload_n hx hb dX0_clear_12 rfl (lv_at hl 0 rfl) ?_
  refine lv_iconst (v := 0) hx hb dX0_clear_13 (by decide) ?_
  refine q1_iast (c := c) (K := 15) (F := fun _ => 0) hx hb hK hP hD hS 1 rfl (by decide) (by decide) (by decide) (q1_upds rfl) dX0_clear_14 (fun H locs hP hD hS => ?_)
  have hP : va_P D vwCl [(a0, .inr (0, [.ref a1, .int 0, .int 0])), (a1, .inl (c 0, 31, .inl (fun _ => 0)))] H := hP
  have hD : va_D A [(a0, .inr (0, [.ref a1, .int 0, .int 0])), (a1, .inl (c 0, 31, .inl (fun _ => 0)))] := hD
  refine lv_iinc (v := 16) (lv' := [(1, .int 16), (0, .ref a0)]) hx hb dX0_clear_15 hl (k := 0) rfl (by decide) (by decide) rfl (fun ls hl => ?_)
  refine lv_goto (tgt := 2) hx hb dX0_clear_18 (by decide) ?_
  refine lv_iload_n hx hb dX0_clear_2 rfl (lv_at hl 0 rfl) ?_
  refine lv_bipush (v := 31) hx hb dX0_clear_3 (by decide) ?_
  refine lv_icmp_ge (tgt := 21) hx hb dX0_clear_5 (by decide) (fun h9 => absurd h9 (by decide)) (fun _ => ?_)
  refine lv_aload_n hx hb dX0_clear_8 rfl (lv_at hl 1 rfl) ?_
  refine va_get (D := D) (ci := 0) (v := .ref a1) (C := RX0) (T := TX0) (N := 3) hx hb hts iX0 hown hK hP 0 rfl rfl 0 (by decide) (hts (.fieldLink RX0 9 "ShortTeller$Facts" "places" "[I") (List.mem_of_getElem? (i := 1) rfl)) (fun _ h9 => h9) rfl dX0_clear_9 ?_
  refine lv_iload_n hx hb dX0_clear_12 rfl (lv_at hl 0 rfl) ?_
  refine lv_iconst (v := 0) hx hb dX0_clear_13 (by decide) ?_
  refine q1_iast (c := c) (K := 16) (F := fun _ => 0) hx hb hK hP hD hS 1 rfl (by decide) (by decide) (by decide) (q1_upds rfl) dX0_clear_14 (fun H locs hP hD hS => ?_)
  have hP : va_P D vwCl [(a0, .inr (0, [.ref a1, .int 0, .int 0])), (a1, .inl (c 0, 31, .inl (fun _ => 0)))] H := hP
  have hD : va_D A [(a0, .inr (0, [.ref a1, .int 0, .int 0])), (a1, .inl (c 0, 31, .inl (fun _ => 0)))] := hD
  refine lv_iinc (v := 17) (lv' := [(1, .int 17), (0, .ref a0)]) hx hb dX0_clear_15 hl (k := 0) rfl (by decide) (by decide) rfl (fun ls hl => ?_)
  refine lv_goto (tgt := 2) hx hb dX0_clear_18 (by decide) ?_
  refine lv_iload_n hx hb dX0_clear_2 rfl (lv_at hl 0 rfl) ?_
  refine lv_bipush (v := 31) hx hb dX0_clear_3 (by decide) ?_
  refine lv_icmp_ge (tgt := 21) hx hb dX0_clear_5 (by decide) (fun h9 => absurd h9 (by decide)) (fun _ => ?_)
  refine lv_aload_n hx hb dX0_clear_8 rfl (lv_at hl 1 rfl) ?_
  refine va_get (D := D) (ci := 0) (v := .ref a1) (C := RX0) (T := TX0) (N := 3) hx hb hts iX0 hown hK hP 0 rfl rfl 0 (by decide) (hts (.fieldLink RX0 9 "ShortTeller$Facts" "places" "[I") (List.mem_of_getElem? (i := 1) rfl)) (fun _ h9 => h9) rfl dX0_clear_9 ?_
  refine lv_iload_n hx hb dX0_clear_12 rfl (lv_at hl 0 rfl) ?_
  refine lv_iconst (v := 0) hx hb dX0_clear_13 (by decide) ?_
  refine q1_iast (c := c) (K := 17) (F := fun _ => 0) hx hb hK hP hD hS 1 rfl (by decide) (by decide) (by decide) (q1_upds rfl) dX0_clear_14 (fun H locs hP hD hS => ?_)
  have hP : va_P D vwCl [(a0, .inr (0, [.ref a1, .int 0, .int 0])), (a1, .inl (c 0, 31, .inl (fun _ => 0)))] H := hP
  have hD : va_D A [(a0, .inr (0, [.ref a1, .int 0, .int 0])), (a1, .inl (c 0, 31, .inl (fun _ => 0)))] := hD
  refine lv_iinc (v := 18) (lv' := [(1, .int 18), (0, .ref a0)]) hx hb dX0_clear_15 hl (k := 0) rfl (by decide) (by decide) rfl (fun ls hl => ?_)
  refine lv_goto (tgt := 2) hx hb dX0_clear_18 (by decide) ?_
  refine lv_iload_n hx hb dX0_clear_2 rfl (lv_at hl 0 rfl) ?_
  refine lv_bipush (v := 31) hx hb dX0_clear_3 (by decide) ?_
  refine lv_icmp_ge (tgt := 21) hx hb dX0_clear_5 (by decide) (fun h9 => absurd h9 (by decide)) (fun _ => ?_)
  refine lv_aload_n hx hb dX0_clear_8 rfl (lv_at hl 1 rfl) ?_
  refine va_get (D := D) (ci := 0) (v := .ref a1) (C := RX0) (T := TX0) (N := 3) hx hb hts iX0 hown hK hP 0 rfl rfl 0 (by decide) (hts (.fieldLink RX0 9 "ShortTeller$Facts" "places" "[I") (List.mem_of_getElem? (i := 1) rfl)) (fun _ h9 => h9) rfl dX0_clear_9 ?_
  refine lv_iload_n hx hb dX0_clear_12 rfl (lv_at hl 0 rfl) ?_
  refine lv_iconst (v := 0) hx hb dX0_clear_13 (by decide) ?_
  refine q1_iast (c := c) (K := 18) (F := fun _ => 0) hx hb hK hP hD hS 1 rfl (by decide) (by decide) (by decide) (q1_upds rfl) dX0_clear_14 (fun H locs hP hD hS => ?_)
  have hP : va_P D vwCl [(a0, .inr (0, [.ref a1, .int 0, .int 0])), (a1, .inl (c 0, 31, .inl (fun _ => 0)))] H := hP
  have hD : va_D A [(a0, .inr (0, [.ref a1, .int 0, .int 0])), (a1, .inl (c 0, 31, .inl (fun _ => 0)))] := hD
  refine lv_iinc (v := 19) (lv' := [(1, .int 19), (0, .ref a0)]) hx hb dX0_clear_15 hl (k := 0) rfl (by decide) (by decide) rfl (fun ls hl => ?_)
  refine lv_goto (tgt := 2) hx hb dX0_clear_18 (by decide) ?_
  refine lv_iload_n hx hb dX0_clear_2 rfl (lv_at hl 0 rfl) ?_
  refine lv_bipush (v := 31) hx hb dX0_clear_3 (by decide) ?_
  refine lv_icmp_ge (tgt := 21) hx hb dX0_clear_5 (by decide) (fun h9 => absurd h9 (by decide)) (fun _ => ?_)
  refine lv_aload_n hx hb dX0_clear_8 rfl (lv_at hl 1 rfl) ?_
  refine va_get (D := D) (ci := 0) (v := .ref a1) (C := RX0) (T := TX0) (N := 3) hx hb hts iX0 hown hK hP 0 rfl rfl 0 (by decide) (hts (.fieldLink RX0 9 "ShortTeller$Facts" "places" "[I") (List.mem_of_getElem? (i := 1) rfl)) (fun _ h9 => h9) rfl dX0_clear_9 ?_
  refine lv_iload_n hx hb dX0_clear_12 rfl (lv_at hl 0 rfl) ?_
  refine lv_iconst (v := 0) hx hb dX0_clear_13 (by decide) ?_
  refine q1_iast (c := c) (K := 19) (F := fun _ => 0) hx hb hK hP hD hS 1 rfl (by decide) (by decide) (by decide) (q1_upds rfl) dX0_clear_14 (fun H locs hP hD hS => ?_)
  have hP : va_P D vwCl [(a0, .inr (0, [.ref a1, .int 0, .int 0])), (a1, .inl (c 0, 31, .inl (fun _ => 0)))] H := hP
  have hD : va_D A [(a0, .inr (0, [.ref a1, .int 0, .int 0])), (a1, .inl (c 0, 31, .inl (fun _ => 0)))] := hD
  refine lv_iinc (v := 20) (lv' := [(1, .int 20), (0, .ref a0)]) hx hb dX0_clear_15 hl (k := 0) rfl (by decide) (by decide) rfl (fun ls hl => ?_)
  refine lv_goto (tgt := 2) hx hb dX0_clear_18 (by decide) ?_
  refine lv_iload_n hx hb dX0_clear_2 rfl (lv_at hl 0 rfl) ?_
  refine lv_bipush (v := 31) hx hb dX0_clear_3 (by decide) ?_
  refine lv_icmp_ge (tgt := 21) hx hb dX0_clear_5 (by decide) (fun h9 => absurd h9 (by decide)) (fun _ => ?_)
  refine lv_aload_n hx hb dX0_clear_8 rfl (lv_at hl 1 rfl) ?_
  refine va_get (D := D) (ci := 0) (v := .ref a1) (C := RX0) (T := TX0) (N := 3) hx hb hts iX0 hown hK hP 0 rfl rfl 0 (by decide) (hts (.fieldLink RX0 9 "ShortTeller$Facts" "places" "[I") (List.mem_of_getElem? (i := 1) rfl)) (fun _ h9 => h9) rfl dX0_clear_9 ?_
  refine lv_iload_n hx hb dX0_clear_12 rfl (lv_at hl 0 rfl) ?_
  refine lv_iconst (v := 0) hx hb dX0_clear_13 (by decide) ?_
  refine q1_iast (c := c) (K := 20) (F := fun _ => 0) hx hb hK hP hD hS 1 rfl (by decide) (by decide) (by decide) (q1_upds rfl) dX0_clear_14 (fun H locs hP hD hS => ?_)
  have hP : va_P D vwCl [(a0, .inr (0, [.ref a1, .int 0, .int 0])), (a1, .inl (c 0, 31, .inl (fun _ => 0)))] H := hP
  have hD : va_D A [(a0, .inr (0, [.ref a1, .int 0, .int 0])), (a1, .inl (c 0, 31, .inl (fun _ => 0)))] := hD
  refine lv_iinc (v := 21) (lv' := [(1, .int 21), (0, .ref a0)]) hx hb dX0_clear_15 hl (k := 0) rfl (by decide) (by decide) rfl (fun ls hl => ?_)
  refine lv_goto (tgt := 2) hx hb dX0_clear_18 (by decide) ?_
  refine lv_iload_n hx hb dX0_clear_2 rfl (lv_at hl 0 rfl) ?_
  refine lv_bipush (v := 31) hx hb dX0_clear_3 (by decide) ?_
  refine lv_icmp_ge (tgt := 21) hx hb dX0_clear_5 (by decide) (fun h9 => absurd h9 (by decide)) (fun _ => ?_)
  refine lv_aload_n hx hb dX0_clear_8 rfl (lv_at hl 1 rfl) ?_
  refine va_get (D := D) (ci := 0) (v := .ref a1) (C := RX0) (T := TX0) (N := 3) hx hb hts iX0 hown hK hP 0 rfl rfl 0 (by decide) (hts (.fieldLink RX0 9 "ShortTeller$Facts" "places" "[I") (List.mem_of_getElem? (i := 1) rfl)) (fun _ h9 => h9) rfl dX0_clear_9 ?_
  refine lv_iload_n hx hb dX0_clear_12 rfl (lv_at hl 0 rfl) ?_
  refine lv_iconst (v := 0) hx hb dX0_clear_13 (by decide) ?_
  refine q1_iast (c := c) (K := 21) (F := fun _ => 0) hx hb hK hP hD hS 1 rfl (by decide) (by decide) (by decide) (q1_upds rfl) dX0_clear_14 (fun H locs hP hD hS => ?_)
  have hP : va_P D vwCl [(a0, .inr (0, [.ref a1, .int 0, .int 0])), (a1, .inl (c 0, 31, .inl (fun _ => 0)))] H := hP
  have hD : va_D A [(a0, .inr (0, [.ref a1, .int 0, .int 0])), (a1, .inl (c 0, 31, .inl (fun _ => 0)))] := hD
  refine lv_iinc (v := 22) (lv' := [(1, .int 22), (0, .ref a0)]) hx hb dX0_clear_15 hl (k := 0) rfl (by decide) (by decide) rfl (fun ls hl => ?_)
  refine lv_goto (tgt := 2) hx hb dX0_clear_18 (by decide) ?_
  refine lv_iload_n hx hb dX0_clear_2 rfl (lv_at hl 0 rfl) ?_
  refine lv_bipush (v := 31) hx hb dX0_clear_3 (by decide) ?_
  refine lv_icmp_ge (tgt := 21) hx hb dX0_clear_5 (by decide) (fun h9 => absurd h9 (by decide)) (fun _ => ?_)
  refine lv_aload_n hx hb dX0_clear_8 rfl (lv_at hl 1 rfl) ?_
  refine va_get (D := D) (ci := 0) (v := .ref a1) (C := RX0) (T := TX0) (N := 3) hx hb hts iX0 hown hK hP 0 rfl rfl 0 (by decide) (hts (.fieldLink RX0 9 "ShortTeller$Facts" "places" "[I") (List.mem_of_getElem? (i := 1) rfl)) (fun _ h9 => h9) rfl dX0_clear_9 ?_
  refine lv_iload_n hx hb dX0_clear_12 rfl (lv_at hl 0 rfl) ?_
  refine lv_iconst (v := 0) hx hb dX0_clear_13 (by decide) ?_
  refine q1_iast (c := c) (K := 22) (F := fun _ => 0) hx hb hK hP hD hS 1 rfl (by decide) (by decide) (by decide) (q1_upds rfl) dX0_clear_14 (fun H locs hP hD hS => ?_)
  have hP : va_P D vwCl [(a0, .inr (0, [.ref a1, .int 0, .int 0])), (a1, .inl (c 0, 31, .inl (fun _ => 0)))] H := hP
  have hD : va_D A [(a0, .inr (0, [.ref a1, .int 0, .int 0])), (a1, .inl (c 0, 31, .inl (fun _ => 0)))] := hD
  refine lv_iinc (v := 23) (lv' := [(1, .int 23), (0, .ref a0)]) hx hb dX0_clear_15 hl (k := 0) rfl (by decide) (by decide) rfl (fun ls hl => ?_)
  refine lv_goto (tgt := 2) hx hb dX0_clear_18 (by decide) ?_
  refine lv_iload_n hx hb dX0_clear_2 rfl (lv_at hl 0 rfl) ?_
  refine lv_bipush (v := 31) hx hb dX0_clear_3 (by decide) ?_
  refine lv_icmp_ge (tgt := 21) hx hb dX0_clear_5 (by decide) (fun h9 => absurd h9 (by decide)) (fun _ => ?_)
  refine lv_aload_n hx hb dX0_clear_8 rfl (lv_at hl 1 rfl) ?_
  refine va_get (D := D) (ci := 0) (v := .ref a1) (C := RX0) (T := TX0) (N := 3) hx hb hts iX0 hown hK hP 0 rfl rfl 0 (by decide) (hts (.fieldLink RX0 9 "ShortTeller$Facts" "places" "[I") (List.mem_of_getElem? (i := 1) rfl)) (fun _ h9 => h9) rfl dX0_clear_9 ?_
  refine lv_iload_n hx hb dX0_clear_12 rfl (lv_at hl 0 rfl) ?_
  refine lv_iconst (v := 0) hx hb dX0_clear_13 (by decide) ?_
  refine q1_iast (c := c) (K := 23) (F := fun _ => 0) hx hb hK hP hD hS 1 rfl (by decide) (by decide) (by decide) (q1_upds rfl) dX0_clear_14 (fun H locs hP hD hS => ?_)
  have hP : va_P D vwCl [(a0, .inr (0, [.ref a1, .int 0, .int 0])), (a1, .inl (c 0, 31, .inl (fun _ => 0)))] H := hP
  have hD : va_D A [(a0, .inr (0, [.ref a1, .int 0, .int 0])), (a1, .inl (c 0, 31, .inl (fun _ => 0)))] := hD
  refine lv_iinc (v := 24) (lv' := [(1, .int 24), (0, .ref a0)]) hx hb dX0_clear_15 hl (k := 0) rfl (by decide) (by decide) rfl (fun ls hl => ?_)
  refine lv_goto (tgt := 2) hx hb dX0_clear_18 (by decide) ?_
  refine lv_iload_n hx hb dX0_clear_2 rfl (lv_at hl 0 rfl) ?_
  refine lv_bipush (v := 31) hx hb dX0_clear_3 (by decide) ?_
  refine lv_icmp_ge (tgt := 21) hx hb dX0_clear_5 (by decide) (fun h9 => absurd h9 (by decide)) (fun _ => ?_)
  refine lv_aload_n hx hb dX0_clear_8 rfl (lv_at hl 1 rfl) ?_
  refine va_get (D := D) (ci := 0) (v := .ref a1) (C := RX0) (T := TX0) (N := 3) hx hb hts iX0 hown hK hP 0 rfl rfl 0 (by decide) (hts (.fieldLink RX0 9 "ShortTeller$Facts" "places" "[I") (List.mem_of_getElem? (i := 1) rfl)) (fun _ h9 => h9) rfl dX0_clear_9 ?_
  refine lv_iload_n hx hb dX0_clear_12 rfl (lv_at hl 0 rfl) ?_
  refine lv_iconst (v := 0) hx hb dX0_clear_13 (by decide) ?_
  refine q1_iast (c := c) (K := 24) (F := fun _ => 0) hx hb hK hP hD hS 1 rfl (by decide) (by decide) (by decide) (q1_upds rfl) dX0_clear_14 (fun H locs hP hD hS => ?_)
  have hP : va_P D vwCl [(a0, .inr (0, [.ref a1, .int 0, .int 0])), (a1, .inl (c 0, 31, .inl (fun _ => 0)))] H := hP
  have hD : va_D A [(a0, .inr (0, [.ref a1, .int 0, .int 0])), (a1, .inl (c 0, 31, .inl (fun _ => 0)))] := hD
  refine lv_iinc (v := 25) (lv' := [(1, .int 25), (0, .ref a0)]) hx hb dX0_clear_15 hl (k := 0) rfl (by decide) (by decide) rfl (fun ls hl => ?_)
  refine lv_goto (tgt := 2) hx hb dX0_clear_18 (by decide) ?_
  refine lv_iload_n hx hb dX0_clear_2 rfl (lv_at hl 0 rfl) ?_
  refine lv_bipush (v := 31) hx hb dX0_clear_3 (by decide) ?_
  refine lv_icmp_ge (tgt := 21) hx hb dX0_clear_5 (by decide) (fun h9 => absurd h9 (by decide)) (fun _ => ?_)
  refine lv_aload_n hx hb dX0_clear_8 rfl (lv_at hl 1 rfl) ?_
  refine va_get (D := D) (ci := 0) (v := .ref a1) (C := RX0) (T := TX0) (N := 3) hx hb hts iX0 hown hK hP 0 rfl rfl 0 (by decide) (hts (.fieldLink RX0 9 "ShortTeller$Facts" "places" "[I") (List.mem_of_getElem? (i := 1) rfl)) (fun _ h9 => h9) rfl dX0_clear_9 ?_
  refine lv_iload_n hx hb dX0_clear_12 rfl (lv_at hl 0 rfl) ?_
  refine lv_iconst (v := 0) hx hb dX0_clear_13 (by decide) ?_
  refine q1_iast (c := c) (K := 25) (F := fun _ => 0) hx hb hK hP hD hS 1 rfl (by decide) (by decide) (by decide) (q1_upds rfl) dX0_clear_14 (fun H locs hP hD hS => ?_)
  have hP : va_P D vwCl [(a0, .inr (0, [.ref a1, .int 0, .int 0])), (a1, .inl (c 0, 31, .inl (fun _ => 0)))] H := hP
  have hD : va_D A [(a0, .inr (0, [.ref a1, .int 0, .int 0])), (a1, .inl (c 0, 31, .inl (fun _ => 0)))] := hD
  refine lv_iinc (v := 26) (lv' := [(1, .int 26), (0, .ref a0)]) hx hb dX0_clear_15 hl (k := 0) rfl (by decide) (by decide) rfl (fun ls hl => ?_)
  refine lv_goto (tgt := 2) hx hb dX0_clear_18 (by decide) ?_
  refine lv_iload_n hx hb dX0_clear_2 rfl (lv_at hl 0 rfl) ?_
  refine lv_bipush (v := 31) hx hb dX0_clear_3 (by decide) ?_
  refine lv_icmp_ge (tgt := 21) hx hb dX0_clear_5 (by decide) (fun h9 => absurd h9 (by decide)) (fun _ => ?_)
  refine lv_aload_n hx hb dX0_clear_8 rfl (lv_at hl 1 rfl) ?_
  refine va_get (D := D) (ci := 0) (v := .ref a1) (C := RX0) (T := TX0) (N := 3) hx hb hts iX0 hown hK hP 0 rfl rfl 0 (by decide) (hts (.fieldLink RX0 9 "ShortTeller$Facts" "places" "[I") (List.mem_of_getElem? (i := 1) rfl)) (fun _ h9 => h9) rfl dX0_clear_9 ?_
  refine lv_iload_n hx hb dX0_clear_12 rfl (lv_at hl 0 rfl) ?_
  refine lv_iconst (v := 0) hx hb dX0_clear_13 (by decide) ?_
  refine q1_iast (c := c) (K := 26) (F := fun _ => 0) hx hb hK hP hD hS 1 rfl (by decide) (by decide) (by decide) (q1_upds rfl) dX0_clear_14 (fun H locs hP hD hS => ?_)
  have hP : va_P D vwCl [(a0, .inr (0, [.ref a1, .int 0, .int 0])), (a1, .inl (c 0, 31, .inl (fun _ => 0)))] H := hP
  have hD : va_D A [(a0, .inr (0, [.ref a1, .int 0, .int 0])), (a1, .inl (c 0, 31, .inl (fun _ => 0)))] := hD
  refine lv_iinc (v := 27) (lv' := [(1, .int 27), (0, .ref a0)]) hx hb dX0_clear_15 hl (k := 0) rfl (by decide) (by decide) rfl (fun ls hl => ?_)
  refine lv_goto (tgt := 2) hx hb dX0_clear_18 (by decide) ?_
  refine lv_iload_n hx hb dX0_clear_2 rfl (lv_at hl 0 rfl) ?_
  refine lv_bipush (v := 31) hx hb dX0_clear_3 (by decide) ?_
  refine lv_icmp_ge (tgt := 21) hx hb dX0_clear_5 (by decide) (fun h9 => absurd h9 (by decide)) (fun _ => ?_)
  refine lv_aload_n hx hb dX0_clear_8 rfl (lv_at hl 1 rfl) ?_
  refine va_get (D := D) (ci := 0) (v := .ref a1) (C := RX0) (T := TX0) (N := 3) hx hb hts iX0 hown hK hP 0 rfl rfl 0 (by decide) (hts (.fieldLink RX0 9 "ShortTeller$Facts" "places" "[I") (List.mem_of_getElem? (i := 1) rfl)) (fun _ h9 => h9) rfl dX0_clear_9 ?_
  refine lv_iload_n hx hb dX0_clear_12 rfl (lv_at hl 0 rfl) ?_
  refine lv_iconst (v := 0) hx hb dX0_clear_13 (by decide) ?_
  refine q1_iast (c := c) (K := 27) (F := fun _ => 0) hx hb hK hP hD hS 1 rfl (by decide) (by decide) (by decide) (q1_upds rfl) dX0_clear_14 (fun H locs hP hD hS => ?_)
  have hP : va_P D vwCl [(a0, .inr (0, [.ref a1, .int 0, .int 0])), (a1, .inl (c 0, 31, .inl (fun _ => 0)))] H := hP
  have hD : va_D A [(a0, .inr (0, [.ref a1, .int 0, .int 0])), (a1, .inl (c 0, 31, .inl (fun _ => 0)))] := hD
  refine lv_iinc (v := 28) (lv' := [(1, .int 28), (0, .ref a0)]) hx hb dX0_clear_15 hl (k := 0) rfl (by decide) (by decide) rfl (fun ls hl => ?_)
  refine lv_goto (tgt := 2) hx hb dX0_clear_18 (by decide) ?_
  refine lv_iload_n hx hb dX0_clear_2 rfl (lv_at hl 0 rfl) ?_
  refine lv_bipush (v := 31) hx hb dX0_clear_3 (by decide) ?_
  refine lv_icmp_ge (tgt := 21) hx hb dX0_clear_5 (by decide) (fun h9 => absurd h9 (by decide)) (fun _ => ?_)
  refine lv_aload_n hx hb dX0_clear_8 rfl (lv_at hl 1 rfl) ?_
  refine va_get (D := D) (ci := 0) (v := .ref a1) (C := RX0) (T := TX0) (N := 3) hx hb hts iX0 hown hK hP 0 rfl rfl 0 (by decide) (hts (.fieldLink RX0 9 "ShortTeller$Facts" "places" "[I") (List.mem_of_getElem? (i := 1) rfl)) (fun _ h9 => h9) rfl dX0_clear_9 ?_
  refine lv_iload_n hx hb dX0_clear_12 rfl (lv_at hl 0 rfl) ?_
  refine lv_iconst (v := 0) hx hb dX0_clear_13 (by decide) ?_
  refine q1_iast (c := c) (K := 28) (F := fun _ => 0) hx hb hK hP hD hS 1 rfl (by decide) (by decide) (by decide) (q1_upds rfl) dX0_clear_14 (fun H locs hP hD hS => ?_)
  have hP : va_P D vwCl [(a0, .inr (0, [.ref a1, .int 0, .int 0])), (a1, .inl (c 0, 31, .inl (fun _ => 0)))] H := hP
  have hD : va_D A [(a0, .inr (0, [.ref a1, .int 0, .int 0])), (a1, .inl (c 0, 31, .inl (fun _ => 0)))] := hD
  refine lv_iinc (v := 29) (lv' := [(1, .int 29), (0, .ref a0)]) hx hb dX0_clear_15 hl (k := 0) rfl (by decide) (by decide) rfl (fun ls hl => ?_)
  refine lv_goto (tgt := 2) hx hb dX0_clear_18 (by decide) ?_
  refine lv_iload_n hx hb dX0_clear_2 rfl (lv_at hl 0 rfl) ?_
  refine lv_bipush (v := 31) hx hb dX0_clear_3 (by decide) ?_
  refine lv_icmp_ge (tgt := 21) hx hb dX0_clear_5 (by decide) (fun h9 => absurd h9 (by decide)) (fun _ => ?_)
  refine lv_aload_n hx hb dX0_clear_8 rfl (lv_at hl 1 rfl) ?_
  refine va_get (D := D) (ci := 0) (v := .ref a1) (C := RX0) (T := TX0) (N := 3) hx hb hts iX0 hown hK hP 0 rfl rfl 0 (by decide) (hts (.fieldLink RX0 9 "ShortTeller$Facts" "places" "[I") (List.mem_of_getElem? (i := 1) rfl)) (fun _ h9 => h9) rfl dX0_clear_9 ?_
  refine lv_iload_n hx hb dX0_clear_12 rfl (lv_at hl 0 rfl) ?_
  refine lv_iconst (v := 0) hx hb dX0_clear_13 (by decide) ?_
  refine q1_iast (c := c) (K := 29) (F := fun _ => 0) hx hb hK hP hD hS 1 rfl (by decide) (by decide) (by decide) (q1_upds rfl) dX0_clear_14 (fun H locs hP hD hS => ?_)
  have hP : va_P D vwCl [(a0, .inr (0, [.ref a1, .int 0, .int 0])), (a1, .inl (c 0, 31, .inl (fun _ => 0)))] H := hP
  have hD : va_D A [(a0, .inr (0, [.ref a1, .int 0, .int 0])), (a1, .inl (c 0, 31, .inl (fun _ => 0)))] := hD
  refine lv_iinc (v := 30) (lv' := [(1, .int 30), (0, .ref a0)]) hx hb dX0_clear_15 hl (k := 0) rfl (by decide) (by decide) rfl (fun ls hl => ?_)
  refine lv_goto (tgt := 2) hx hb dX0_clear_18 (by decide) ?_
  refine lv_iload_n hx hb dX0_clear_2 rfl (lv_at hl 0 rfl) ?_
  refine lv_bipush (v := 31) hx hb dX0_clear_3 (by decide) ?_
  refine lv_icmp_ge (tgt := 21) hx hb dX0_clear_5 (by decide) (fun h9 => absurd h9 (by decide)) (fun _ => ?_)
  refine lv_aload_n hx hb dX0_clear_8 rfl (lv_at hl 1 rfl) ?_
  refine va_get (D := D) (ci := 0) (v := .ref a1) (C := RX0) (T := TX0) (N := 3) hx hb hts iX0 hown hK hP 0 rfl rfl 0 (by decide) (hts (.fieldLink RX0 9 "ShortTeller$Facts" "places" "[I") (List.mem_of_getElem? (i := 1) rfl)) (fun _ h9 => h9) rfl dX0_clear_9 ?_
  refine lv_iload_n hx hb dX0_clear_12 rfl (lv_at hl 0 rfl) ?_
  refine lv_iconst (v := 0) hx hb dX0_clear_13 (by decide) ?_
  refine q1_iast (c := c) (K := 30) (F := fun _ => 0) hx hb hK hP hD hS 1 rfl (by decide) (by decide) (by decide) (q1_upds rfl) dX0_clear_14 (fun H locs hP hD hS => ?_)
  have hP : va_P D vwCl [(a0, .inr (0, [.ref a1, .int 0, .int 0])), (a1, .inl (c 0, 31, .inl (fun _ => 0)))] H := hP
  have hD : va_D A [(a0, .inr (0, [.ref a1, .int 0, .int 0])), (a1, .inl (c 0, 31, .inl (fun _ => 0)))] := hD
  refine lv_iinc (v := 31) (lv' := [(1, .int 31), (0, .ref a0)]) hx hb dX0_clear_15 hl (k := 0) rfl (by decide) (by decide) rfl (fun ls hl => ?_)
  refine lv_goto (tgt := 2) hx hb dX0_clear_18 (by decide) ?_
  refine lv_iload_n hx hb dX0_clear_2 rfl (lv_at hl 0 rfl) ?_
  refine lv_bipush (v := 31) hx hb dX0_clear_3 (by decide) ?_
  refine lv_icmp_ge (tgt := 21) hx hb dX0_clear_5 (by decide) (fun _ => ?_) (fun h9 => absurd (by decide) h9)
  refine lv_aload_n hx hb dX0_clear_21 rfl (lv_at hl 1 rfl) ?_
  refine lv_iconst (v := 0) hx hb dX0_clear_22 (by decide) ?_
  refine va_put (D := D) (ci := 0) (v := .int 0) (ty := .int) (C := RX0) (T := TX0) (N := 3) hx hb hts iX0 tyX0 tyX0_ok nmX0 hown hK hP hD hS 0 rfl rfl 1 (by decide) (hts (.fieldLink RX0 15 "ShortTeller$Facts" "inText" "I") (List.mem_of_getElem? (i := 2) rfl)) (fun _ h9 => h9) rfl (by decide +kernel) rfl rfl (Nat.le_of_ble_eq_true rfl) dX0_clear_23 (fun H locs hP hD hS => ?_)
  have hP : va_P D vwCl [(a0, .inr (0, [.ref a1, .int 0, .int 0])), (a1, .inl (c 0, 31, .inl (fun _ => 0)))] H := hP
  have hD : va_D A [(a0, .inr (0, [.ref a1, .int 0, .int 0])), (a1, .inl (c 0, 31, .inl (fun _ => 0)))] := hD
  refine lv_aload_n hx hb dX0_clear_26 rfl (lv_at hl 1 rfl) ?_
  refine lv_iconst (v := 0) hx hb dX0_clear_27 (by decide) ?_
  refine va_put (D := D) (ci := 0) (v := .int 0) (ty := .int) (C := RX0) (T := TX0) (N := 3) hx hb hts iX0 tyX0 tyX0_ok nmX0 hown hK hP hD hS 0 rfl rfl 2 (by decide) (hts (.fieldLink RX0 19 "ShortTeller$Facts" "known" "I") (List.mem_of_getElem? (i := 3) rfl)) (fun _ h9 => h9) rfl (by decide +kernel) rfl rfl (Nat.le_of_ble_eq_true rfl) dX0_clear_28 (fun H locs hP hD hS => ?_)
  have hP : va_P D vwCl [(a0, .inr (0, [.ref a1, .int 0, .int 0])), (a1, .inl (c 0, 31, .inl (fun _ => 0)))] H := hP
  have hD : va_D A [(a0, .inr (0, [.ref a1, .int 0, .int 0])), (a1, .inl (c 0, 31, .inl (fun _ => 0)))] := hD
  refine W.widen (k := 0) (n := 0) (Nat.le_of_ble_eq_true rfl) (Nat.le_of_ble_eq_true rfl) ?_
  exact hret (q1_u [] []) _ _ _ _ dX0_clear_31 hP hD hS
