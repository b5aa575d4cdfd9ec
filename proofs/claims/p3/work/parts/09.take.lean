theorem fb_subI {x y : Int32} (h1 : -2147483648 ≤ x.toInt - y.toInt) (h2 : x.toInt - y.toInt < 2147483648) : (x - y).toInt = x.toInt - y.toInt := by
  rw [Int32.toInt_sub, fb_bmod h1 h2]
theorem dX8_take_0 : decode cX8_take 0 = .ok (.aload_n 0, 1) := by decide +kernel
theorem dX8_take_1 : decode cX8_take 1 = .ok (.invokevirtual 72, 3) := by decide +kernel
theorem dX8_take_11 : decode cX8_take 11 = .ok (.iload_n 3, 1) := by decide +kernel
theorem dX8_take_12 : decode cX8_take 12 = .ok (.aload_n 0, 1) := by decide +kernel
theorem dX8_take_13 : decode cX8_take 13 = .ok (.getfield 9, 3) := by decide +kernel
theorem dX8_take_16 : decode cX8_take 16 = .ok (.arraylength, 1) := by decide +kernel
theorem dX8_take_17 : decode cX8_take 17 = .ok (.if_icmp .ge 34, 3) := by decide +kernel
theorem dX8_take_20 : decode cX8_take 20 = .ok (.iload_n 3, 1) := by decide +kernel
theorem dX8_take_21 : decode cX8_take 21 = .ok (.aload_n 1, 1) := by decide +kernel
theorem dX8_take_22 : decode cX8_take 22 = .ok (.arraylength, 1) := by decide +kernel
theorem dX8_take_23 : decode cX8_take 23 = .ok (.if_icmp .ge 28, 3) := by decide +kernel
theorem dX8_take_26 : decode cX8_take 26 = .ok (.aload_n 0, 1) := by decide +kernel
theorem dX8_take_27 : decode cX8_take 27 = .ok (.getfield 9, 3) := by decide +kernel
theorem dX8_take_30 : decode cX8_take 30 = .ok (.iload_n 3, 1) := by decide +kernel
theorem dX8_take_31 : decode cX8_take 31 = .ok (.aload_n 1, 1) := by decide +kernel
theorem dX8_take_32 : decode cX8_take 32 = .ok (.iload_n 3, 1) := by decide +kernel
theorem dX8_take_33 : decode cX8_take 33 = .ok (.iaload, 1) := by decide +kernel
theorem dX8_take_34 : decode cX8_take 34 = .ok (.iastore, 1) := by decide +kernel
theorem dX8_take_35 : decode cX8_take 35 = .ok (.aload_n 0, 1) := by decide +kernel
theorem dX8_take_36 : decode cX8_take 36 = .ok (.dup, 1) := by decide +kernel
theorem dX8_take_37 : decode cX8_take 37 = .ok (.getfield 15, 3) := by decide +kernel
theorem dX8_take_4 : decode cX8_take 4 = .ok (.iconst 0, 1) := by decide +kernel
theorem dX8_take_40 : decode cX8_take 40 = .ok (.iconst 1, 1) := by decide +kernel
theorem dX8_take_41 : decode cX8_take 41 = .ok (.iadd, 1) := by decide +kernel
theorem dX8_take_42 : decode cX8_take 42 = .ok (.putfield 15, 3) := by decide +kernel
theorem dX8_take_45 : decode cX8_take 45 = .ok (.iinc 3 1, 3) := by decide +kernel
theorem dX8_take_48 : decode cX8_take 48 = .ok (.goto (-42), 3) := by decide +kernel
theorem dX8_take_5 : decode cX8_take 5 = .ok (.istore_n 3, 1) := by decide +kernel
theorem dX8_take_51 : decode cX8_take 51 = .ok (.return_, 1) := by decide +kernel
theorem dX8_take_6 : decode cX8_take 6 = .ok (.iload_n 3, 1) := by decide +kernel
theorem dX8_take_7 : decode cX8_take 7 = .ok (.iload_n 2, 1) := by decide +kernel
theorem dX8_take_8 : decode cX8_take 8 = .ok (.if_icmp .ge 43, 3) := by decide +kernel
set_option maxRecDepth 20000 in
theorem ggX8_take_X8_clear : GoodIn wsX8_take wsX8_clear := goodIn_r _ [7, 2, 8, 9, 10, 11, 12, 13, 14, 15, 16, 17, 18, 19, 20, 21, 22, 23, 24, 25, 26, 27, 28, 29, 30, 31, 32, 33, 34, 35, 36, 37, 38, 39] (by decide +kernel) (by decide +kernel)
set_option maxRecDepth 20000 in
theorem gX8_take_X8_clear : GoodIn wsX8_take (wsV RX8 72 RX8 yX8_clear wsX8_clear) := goodIn_app (goodIn_of _ (by decide +kernel)) ggX8_take_X8_clear
set_option maxHeartbeats 4000000 in
set_option maxRecDepth 100000 in
theorem k201_X8_clear (l : Launch) (D : va_G) (c : Nat → ClassId) (sz : Nat) (a0 : Nat) (a1 : Nat) (x0 : Int32) (a2 : Nat) (x1 : Int32) (x2 : Int32) (x3 : Int32) (x4 : Int32) (x5 : Int32) (x6 : Int32) (a3 : Nat) (a4 : Nat) (x7 : Int32) (a5 : Nat) (a6 : Nat) (a7 : Nat) (x8 : Int32) (a8 : Nat) (a9 : Nat) (a10 : Nat) (a11 : Nat) (a12 : Nat) (x9 : Int32) : Met l yX8_clear wsX8_clear ({ frames := 0, cells := 0, slots := 0, locals := 0 }) (q1_P D c [(a0, .inr (8, [.ref a1, .int x0, .ref a2, .int x1, .int x2, .int x3, .int x4, .int x5, .int x6, .ref a3, .ref a4, .int x7, .ref a5, .ref a6, .ref a7, .int x8])), (a5, .inr (2, [.ref a8, .ref a9, .ref a10, .ref a11, .ref a12, .int x9]))] sz [.ref a0]) (q1_v D [(a0, .inr (8, [.ref a1, .int x0, .ref a2, .int x1, .int x2, .int x3, .int x4, .int x5, .int x6, .ref a3, .ref a4, .int x7, .ref a5, .ref a6, .ref a7, .int x8])), (a5, .inr (2, [.ref a8, .ref a9, .ref a10, .ref a11, .ref a12, .int x9]))] sz (fun u => [(a0, .inr (8, [.ref a1, .int 0, .ref a2, .int 0, .int 14, .int 0, .int 0, .int 0, .int 0, .ref a3, .ref a4, .int 0, .ref a5, .ref a6, .ref a7, .int 0])), (a5, .inr (2, [.ref a8, .ref a9, .ref a10, .ref a11, .ref a12, .int 0]))])) 0 0 (va_A [(a0, .inr (8, [.ref a1, .int x0, .ref a2, .int x1, .int x2, .int x3, .int x4, .int x5, .int x6, .ref a3, .ref a4, .int x7, .ref a5, .ref a6, .ref a7, .int x8])), (a5, .inr (2, [.ref a8, .ref a9, .ref a10, .ref a11, .ref a12, .int x9]))] sz) := by
  refine q1_of_v (cc := cX8_clear) (maxL := 1) (by decide) rfl (Nat.le_of_ble_eq_true rfl) (fun p e s m args below meth cd A Q ls hx hb hml hown hts hin hA hS hP hD hK hN hl hret => ?_)
  have hown : s.vm.findClass RX8 = some m.cls := hown
  obtain ⟨H, eH⟩ : ∃ z, z = s.heap := ⟨_, rfl⟩
  have hP : va_P D vwCl [(a0, .inr (8, [.ref a1, .int x0, .ref a2, .int x1, .int x2, .int x3, .int x4, .int x5, .int x6, .ref a3, .ref a4, .int x7, .ref a5, .ref a6, .ref a7, .int x8])), (a5, .inr (2, [.ref a8, .ref a9, .ref a10, .ref a11, .ref a12, .int x9]))] H := by rw [eH]; exact hP
  have hS : va_S A s.heap H [] := by rw [eH]; exact hS
  rw [← eH]
  have iX2 : ∀ w ∈ wsX20, w ∈ wsX8_clear := fun w h => List.mem_cons_of_mem _ (List.mem_append_right _ h)
  have iX8 : ∀ w ∈ wsX80, w ∈ wsX8_clear := fun w h => List.mem_cons_of_mem _ (List.mem_append_left _ (List.mem_append_right _ h))
  have hl : lv_has ls 1 [(0, .ref a0)] := hl
  refine lv_aload_n hx hb dX8_clear_0 rfl (lv_at hl 0 rfl) ?_
  refine lv_iconst (v := 0) hx hb dX8_clear_1 (by decide) ?_
  refine va_put (D := D) (ci := 8) (v := .int 0) (ty := .int) (C := RX8) (T := TX8) (N := 16) hx hb hts iX8 tyX8 tyX8_ok nmX8 hown hK hP hD hS 0 rfl rfl 1 (by decide) (hts (.fieldLink RX8 15 "ShortTeller$Story" "size" "I") (List.mem_of_getElem? (i := 1) rfl)) (fun _ h9 => h9) rfl (by decide +kernel) rfl rfl (Nat.le_of_ble_eq_true rfl) dX8_clear_2 (fun H locs hP hD hS => ?_)
  have hP : va_P D vwCl [(a0, .inr (8, [.ref a1, .int 0, .ref a2, .int x1, .int x2, .int x3, .int x4, .int x5, .int x6, .ref a3, .ref a4, .int x7, .ref a5, .ref a6, .ref a7, .int x8])), (a5, .inr (2, [.ref a8, .ref a9, .ref a10, .ref a11, .ref a12, .int x9]))] H := hP
  have hD : va_D A [(a0, .inr (8, [.ref a1, .int 0, .ref a2, .int x1, .int x2, .int x3, .int x4, .int x5, .int x6, .ref a3, .ref a4, .int x7, .ref a5, .ref a6, .ref a7, .int x8])), (a5, .inr (2, [.ref a8, .ref a9, .ref a10, .ref a11, .ref a12, .int x9]))] := hD
  refine lv_aload_n hx hb dX8_clear_5 rfl (lv_at hl 0 rfl) ?_
  refine lv_iconst (v := 0) hx hb dX8_clear_6 (by decide) ?_
  refine va_put (D := D) (ci := 8) (v := .int 0) (ty := .int) (C := RX8) (T := TX8) (N := 16) hx hb hts iX8 tyX8 tyX8_ok nmX8 hown hK hP hD hS 0 rfl rfl 3 (by decide) (hts (.fieldLink RX8 25 "ShortTeller$Story" "options" "I") (List.mem_of_getElem? (i := 2) rfl)) (fun _ h9 => h9) rfl (by decide +kernel) rfl rfl (Nat.le_of_ble_eq_true rfl) dX8_clear_7 (fun H locs hP hD hS => ?_)
  have hP : va_P D vwCl [(a0, .inr (8, [.ref a1, .int 0, .ref a2, .int 0, .int x2, .int x3, .int x4, .int x5, .int x6, .ref a3, .ref a4, .int x7, .ref a5, .ref a6, .ref a7, .int x8])), (a5, .inr (2, [.ref a8, .ref a9, .ref a10, .ref a11, .ref a12, .int x9]))] H := hP
  have hD : va_D A [(a0, .inr (8, [.ref a1, .int 0, .ref a2, .int 0, .int x2, .int x3, .int x4, .int x5, .int x6, .ref a3, .ref a4, .int x7, .ref a5, .ref a6, .ref a7, .int x8])), (a5, .inr (2, [.ref a8, .ref a9, .ref a10, .ref a11, .ref a12, .int x9]))] := hD
  refine lv_aload_n hx hb dX8_clear_10 rfl (lv_at hl 0 rfl) ?_
  refine lv_bipush (v := 14) hx hb dX8_clear_11 (by decide) ?_
  refine va_put (D := D) (ci := 8) (v := .int 14) (ty := .int) (C := RX8) (T := TX8) (N := 16) hx hb hts iX8 tyX8 tyX8_ok nmX8 hown hK hP hD hS 0 rfl rfl 4 (by decide) (hts (.fieldLink RX8 28 "ShortTeller$Story" "headingsEnd" "I") (List.mem_of_getElem? (i := 3) rfl)) (fun _ h9 => h9) rfl (by decide +kernel) rfl rfl (Nat.le_of_ble_eq_true rfl) dX8_clear_13 (fun H locs hP hD hS => ?_)
  have hP : va_P D vwCl [(a0, .inr (8, [.ref a1, .int 0, .ref a2, .int 0, .int 14, .int x3, .int x4, .int x5, .int x6, .ref a3, .ref a4, .int x7, .ref a5, .ref a6, .ref a7, .int x8])), (a5, .inr (2, [.ref a8, .ref a9, .ref a10, .ref a11, .ref a12, .int x9]))] H := hP
  have hD : va_D A [(a0, .inr (8, [.ref a1, .int 0, .ref a2, .int 0, .int 14, .int x3, .int x4, .int x5, .int x6, .ref a3, .ref a4, .int x7, .ref a5, .ref a6, .ref a7, .int x8])), (a5, .inr (2, [.ref a8, .ref a9, .ref a10, .ref a11, .ref a12, .int x9]))] := hD
  refine lv_aload_n hx hb dX8_clear_16 rfl (lv_at hl 0 rfl) ?_
  refine lv_iconst (v := 0) hx hb dX8_clear_17 (by decide) ?_
  refine va_put (D := D) (ci := 8) (v := .int 0) (ty := .int) (C := RX8) (T := TX8) (N := 16) hx hb hts iX8 tyX8 tyX8_ok nmX8 hown hK hP hD hS 0 rfl rfl 5 (by decide) (hts (.fieldLink RX8 31 "ShortTeller$Story" "headingMarks" "I") (List.mem_of_getElem? (i := 4) rfl)) (fun _ h9 => h9) rfl (by decide +kernel) rfl rfl (Nat.le_of_ble_eq_true rfl) dX8_clear_18 (fun H locs hP hD hS => ?_)
  have hP : va_P D vwCl [(a0, .inr (8, [.ref a1, .int 0, .ref a2, .int 0, .int 14, .int 0, .int x4, .int x5, .int x6, .ref a3, .ref a4, .int x7, .ref a5, .ref a6, .ref a7, .int x8])), (a5, .inr (2, [.ref a8, .ref a9, .ref a10, .ref a11, .ref a12, .int x9]))] H := hP
  have hD : va_D A [(a0, .inr (8, [.ref a1, .int 0, .ref a2, .int 0, .int 14, .int 0, .int x4, .int x5, .int x6, .ref a3, .ref a4, .int x7, .ref a5, .ref a6, .ref a7, .int x8])), (a5, .inr (2, [.ref a8, .ref a9, .ref a10, .ref a11, .ref a12, .int x9]))] := hD
  refine lv_aload_n hx hb dX8_clear_21 rfl (lv_at hl 0 rfl) ?_
  refine lv_iconst (v := 0) hx hb dX8_clear_22 (by decide) ?_
  refine va_put (D := D) (ci := 8) (v := .int 0) (ty := .int) (C := RX8) (T := TX8) (N := 16) hx hb hts iX8 tyX8 tyX8_ok nmX8 hown hK hP hD hS 0 rfl rfl 6 (by decide) (hts (.fieldLink RX8 34 "ShortTeller$Story" "sentences" "I") (List.mem_of_getElem? (i := 5) rfl)) (fun _ h9 => h9) rfl (by decide +kernel) rfl rfl (Nat.le_of_ble_eq_true rfl) dX8_clear_23 (fun H locs hP hD hS => ?_)
  have hP : va_P D vwCl [(a0, .inr (8, [.ref a1, .int 0, .ref a2, .int 0, .int 14, .int 0, .int 0, .int x5, .int x6, .ref a3, .ref a4, .int x7, .ref a5, .ref a6, .ref a7, .int x8])), (a5, .inr (2, [.ref a8, .ref a9, .ref a10, .ref a11, .ref a12, .int x9]))] H := hP
  have hD : va_D A [(a0, .inr (8, [.ref a1, .int 0, .ref a2, .int 0, .int 14, .int 0, .int 0, .int x5, .int x6, .ref a3, .ref a4, .int x7, .ref a5, .ref a6, .ref a7, .int x8])), (a5, .inr (2, [.ref a8, .ref a9, .ref a10, .ref a11, .ref a12, .int x9]))] := hD
  refine lv_aload_n hx hb dX8_clear_26 rfl (lv_at hl 0 rfl) ?_
  refine lv_iconst (v := 0) hx hb dX8_clear_27 (by decide) ?_
  refine va_put (D := D) (ci := 8) (v := .int 0) (ty := .int) (C := RX8) (T := TX8) (N := 16) hx hb hts iX8 tyX8 tyX8_ok nmX8 hown hK hP hD hS 0 rfl rfl 7 (by decide) (hts (.fieldLink RX8 37 "ShortTeller$Story" "headings" "I") (List.mem_of_getElem? (i := 6) rfl)) (fun _ h9 => h9) rfl (by decide +kernel) rfl rfl (Nat.le_of_ble_eq_true rfl) dX8_clear_28 (fun H locs hP hD hS => ?_)
  have hP : va_P D vwCl [(a0, .inr (8, [.ref a1, .int 0, .ref a2, .int 0, .int 14, .int 0, .int 0, .int 0, .int x6, .ref a3, .ref a4, .int x7, .ref a5, .ref a6, .ref a7, .int x8])), (a5, .inr (2, [.ref a8, .ref a9, .ref a10, .ref a11, .ref a12, .int x9]))] H := hP
  have hD : va_D A [(a0, .inr (8, [.ref a1, .int 0, .ref a2, .int 0, .int 14, .int 0, .int 0, .int 0, .int x6, .ref a3, .ref a4, .int x7, .ref a5, .ref a6, .ref a7, .int x8])), (a5, .inr (2, [.ref a8, .ref a9, .ref a10, .ref a11, .ref a12, .int x9]))] := hD
  refine lv_aload_n hx hb dX8_clear_31 rfl (lv_at hl 0 rfl) ?_
  refine lv_iconst (v := 0) hx hb dX8_clear_32 (by decide) ?_
  refine va_put (D := D) (ci := 8) (v := .int 0) (ty := .int) (C := RX8) (T := TX8) (N := 16) hx hb hts iX8 tyX8 tyX8_ok nmX8 hown hK hP hD hS 0 rfl rfl 8 (by decide) (hts (.fieldLink RX8 40 "ShortTeller$Story" "words" "I") (List.mem_of_getElem? (i := 7) rfl)) (fun _ h9 => h9) rfl (by decide +kernel) rfl rfl (Nat.le_of_ble_eq_true rfl) dX8_clear_33 (fun H locs hP hD hS => ?_)
  have hP : va_P D vwCl [(a0, .inr (8, [.ref a1, .int 0, .ref a2, .int 0, .int 14, .int 0, .int 0, .int 0, .int 0, .ref a3, .ref a4, .int x7, .ref a5, .ref a6, .ref a7, .int x8])), (a5, .inr (2, [.ref a8, .ref a9, .ref a10, .ref a11, .ref a12, .int x9]))] H := hP
  have hD : va_D A [(a0, .inr (8, [.ref a1, .int 0, .ref a2, .int 0, .int 14, .int 0, .int 0, .int 0, .int 0, .ref a3, .ref a4, .int x7, .ref a5, .ref a6, .ref a7, .int x8])), (a5, .inr (2, [.ref a8, .ref a9, .ref a10, .ref a11, .ref a12, .int x9]))] := hD
  refine lv_aload_n hx hb dX8_clear_36 rfl (lv_at hl 0 rfl) ?_
  refine lv_iconst (v := 0) hx hb dX8_clear_37 (by decide) ?_
  refine va_put (D := D) (ci := 8) (v := .int 0) (ty := .int) (C := RX8) (T := TX8) (N := 16) hx hb hts iX8 tyX8 tyX8_ok nmX8 hown hK hP hD hS 0 rfl rfl 11 (by decide) (hts (.fieldLink RX8 49 "ShortTeller$Story" "lists" "I") (List.mem_of_getElem? (i := 8) rfl)) (fun _ h9 => h9) rfl (by decide +kernel) rfl rfl (Nat.le_of_ble_eq_true rfl) dX8_clear_38 (fun H locs hP hD hS => ?_)
  have hP : va_P D vwCl [(a0, .inr (8, [.ref a1, .int 0, .ref a2, .int 0, .int 14, .int 0, .int 0, .int 0, .int 0, .ref a3, .ref a4, .int 0, .ref a5, .ref a6, .ref a7, .int x8])), (a5, .inr (2, [.ref a8, .ref a9, .ref a10, .ref a11, .ref a12, .int x9]))] H := hP
  have hD : va_D A [(a0, .inr (8, [.ref a1, .int 0, .ref a2, .int 0, .int 14, .int 0, .int 0, .int 0, .int 0, .ref a3, .ref a4, .int 0, .ref a5, .ref a6, .ref a7, .int x8])), (a5, .inr (2, [.ref a8, .ref a9, .ref a10, .ref a11, .ref a12, .int x9]))] := hD
  refine lv_aload_n hx hb dX8_clear_41 rfl (lv_at hl 0 rfl) ?_
  refine va_get (D := D) (ci := 8) (v := .ref a5) (C := RX8) (T := TX8) (N := 16) hx hb hts iX8 hown hK hP 0 rfl rfl 12 (by decide) (hts (.fieldLink RX8 55 "ShortTeller$Story" "marks" "LShortTeller$Marks;") (List.mem_of_getElem? (i := 9) rfl)) (fun _ h9 => h9) rfl dX8_clear_42 ?_
  refine lv_iconst (v := 0) hx hb dX8_clear_45 (by decide) ?_
  refine va_put (D := D) (ci := 2) (v := .int 0) (ty := .int) (C := RX2) (T := TX2) (N := 6) hx hb hts iX2 tyX2 tyX2_ok nmX2 hown hK hP hD hS 1 rfl rfl 5 (by decide) (hts (.fieldLink RX8 69 "ShortTeller$Marks" "used" "I") (List.mem_of_getElem? (i := 10) rfl)) (fun _ h9 => h9) rfl (by decide +kernel) rfl rfl (Nat.le_of_ble_eq_true rfl) dX8_clear_46 (fun H locs hP hD hS => ?_)
  have hP : va_P D vwCl [(a0, .inr (8, [.ref a1, .int 0, .ref a2, .int 0, .int 14, .int 0, .int 0, .int 0, .int 0, .ref a3, .ref a4, .int 0, .ref a5, .ref a6, .ref a7, .int x8])), (a5, .inr (2, [.ref a8, .ref a9, .ref a10, .ref a11, .ref a12, .int 0]))] H := hP
  have hD : va_D A [(a0, .inr (8, [.ref a1, .int 0, .ref a2, .int 0, .int 14, .int 0, .int 0, .int 0, .int 0, .ref a3, .ref a4, .int 0, .ref a5, .ref a6, .ref a7, .int x8])), (a5, .inr (2, [.ref a8, .ref a9, .ref a10, .ref a11, .ref a12, .int 0]))] := hD
  refine lv_aload_n hx hb dX8_clear_49 rfl (lv_at hl 0 rfl) ?_
  refine lv_iconst (v := 0) hx hb dX8_clear_50 (by decide) ?_
  refine va_put (D := D) (ci := 8) (v := .int 0) (ty := .int) (C := RX8) (T := TX8) (N := 16) hx hb hts iX8 tyX8 tyX8_ok nmX8 hown hK hP hD hS 0 rfl rfl 15 (by decide) (hts (.fieldLink RX8 65 "ShortTeller$Story" "names" "I") (List.mem_of_getElem? (i := 11) rfl)) (fun _ h9 => h9) rfl (by decide +kernel) rfl rfl (Nat.le_of_ble_eq_true rfl) dX8_clear_51 (fun H locs hP hD hS => ?_)
  have hP : va_P D vwCl [(a0, .inr (8, [.ref a1, .int 0, .ref a2, .int 0, .int 14, .int 0, .int 0, .int 0, .int 0, .ref a3, .ref a4, .int 0, .ref a5, .ref a6, .ref a7, .int 0])), (a5, .inr (2, [.ref a8, .ref a9, .ref a10, .ref a11, .ref a12, .int 0]))] H := hP
  have hD : va_D A [(a0, .inr (8, [.ref a1, .int 0, .ref a2, .int 0, .int 14, .int 0, .int 0, .int 0, .int 0, .ref a3, .ref a4, .int 0, .ref a5, .ref a6, .ref a7, .int 0])), (a5, .inr (2, [.ref a8, .ref a9, .ref a10, .ref a11, .ref a12, .int 0]))] := hD
  refine W.widen (k := 0) (n := 0) (Nat.le_of_ble_eq_true rfl) (Nat.le_of_ble_eq_true rfl) ?_
  exact hret (q1_u [] []) _ _ _ _ dX8_clear_54 hP hD hS
set_option maxHeartbeats 4000000 in
set_option maxRecDepth 100000 in
theorem s_take (l : Launch) (D : va_G) (c : Nat → ClassId) (sz : Nat) (a0 : Nat) (t0 : Nat) (b_signs : Nat) (b_pieces : Nat) (b_listItems : Nat) (b_listWithin : Nat) (b_marks : Nat) (b_nameAt : Nat) (b_nameSize : Nat) (c0 : Nat) (c1 : Nat) (c2 : Nat) (c3 : Nat) (c4 : Nat) (v_size : Int32) (v_options : Int32) (v_headingsEnd : Int32) (v_headingMarks : Int32) (v_sentences : Int32) (v_headings : Int32) (v_words : Int32) (v_lists : Int32) (v_names : Int32) (w_used : Int32) (x0 : Int32) (f0 : Nat → Int32) (f1 : Nat → Int32) : Met l yX8_take wsX8_take ({ frames := 1, cells := 0, slots := 0, locals := 20 }) (q1_P D c [(a0, .inr (8, [.ref b_signs, .int v_size, .ref b_pieces, .int v_options, .int v_headingsEnd, .int v_headingMarks, .int v_sentences, .int v_headings, .int v_words, .ref b_listItems, .ref b_listWithin, .int v_lists, .ref b_marks, .ref b_nameAt, .ref b_nameSize, .int v_names])), (b_marks, .inr (2, [.ref c0, .ref c1, .ref c2, .ref c3, .ref c4, .int w_used])), (b_signs, .inl (c 0, 800, .inl (f0))), (t0, .inl (c 0, 800, .inl (f1)))] sz [.ref a0, .ref t0, .int x0]) (q2_v D [(a0, .inr (8, [.ref b_signs, .int v_size, .ref b_pieces, .int v_options, .int v_headingsEnd, .int v_headingMarks, .int v_sentences, .int v_headings, .int v_words, .ref b_listItems, .ref b_listWithin, .int v_lists, .ref b_marks, .ref b_nameAt, .ref b_nameSize, .int v_names])), (b_marks, .inr (2, [.ref c0, .ref c1, .ref c2, .ref c3, .ref c4, .int w_used])), (b_signs, .inl (c 0, 800, .inl (f0))), (t0, .inl (c 0, 800, .inl (f1)))] sz (fun u => 0 ≤ (u.2.1 0).toInt ∧ (u.2.1 0).toInt ≤ 800 ∧ u.2.1 1 = 0 ∧ u.2.1 2 = 14 ∧ u.2.1 7 = 0 ∧ u.2.1 8 = 0 ∧ u.2.1 9 = 0) (fun u => [(a0, .inr (8, [.ref b_signs, .int (u.2.1 0), .ref b_pieces, .int (u.2.1 1), .int (u.2.1 2), .int (u.2.1 3), .int (u.2.1 4), .int (u.2.1 5), .int (u.2.1 6), .ref b_listItems, .ref b_listWithin, .int (u.2.1 7), .ref b_marks, .ref b_nameAt, .ref b_nameSize, .int (u.2.1 8)])), (b_marks, .inr (2, [.ref c0, .ref c1, .ref c2, .ref c3, .ref c4, .int (u.2.1 9)])), (b_signs, .inl (c 0, 800, .inl (u.2.2 0))), (t0, .inl (c 0, 800, .inl (f1)))])) 0 0 (va_A [(a0, .inr (8, [.ref b_signs, .int v_size, .ref b_pieces, .int v_options, .int v_headingsEnd, .int v_headingMarks, .int v_sentences, .int v_headings, .int v_words, .ref b_listItems, .ref b_listWithin, .int v_lists, .ref b_marks, .ref b_nameAt, .ref b_nameSize, .int v_names])), (b_marks, .inr (2, [.ref c0, .ref c1, .ref c2, .ref c3, .ref c4, .int w_used])), (b_signs, .inl (c 0, 800, .inl (f0))), (t0, .inl (c 0, 800, .inl (f1)))] sz) := by
  refine q2_of_v (cc := cX8_take) (maxL := 4) (by decide) rfl (Nat.le_of_ble_eq_true rfl) (fun p e s m args below meth cd A Q ls hx hb hml hown hts hin hA hS hP hD hK hN hl hret => ?_)
  have hown : s.vm.findClass RX8 = some m.cls := hown
  obtain ⟨H, eH⟩ : ∃ z, z = s.heap := ⟨_, rfl⟩
  have hP : va_P D vwCl [(a0, .inr (8, [.ref b_signs, .int v_size, .ref b_pieces, .int v_options, .int v_headingsEnd, .int v_headingMarks, .int v_sentences, .int v_headings, .int v_words, .ref b_listItems, .ref b_listWithin, .int v_lists, .ref b_marks, .ref b_nameAt, .ref b_nameSize, .int v_names])), (b_marks, .inr (2, [.ref c0, .ref c1, .ref c2, .ref c3, .ref c4, .int w_used])), (b_signs, .inl (c 0, 800, .inl (f0))), (t0, .inl (c 0, 800, .inl (f1)))] H := by rw [eH]; exact hP
  have hS : va_S A s.heap H [] := by rw [eH]; exact hS
  rw [← eH]
  have iX8 : ∀ w ∈ wsX80, w ∈ wsX8_take := fun w h => List.mem_cons_of_mem _ (List.mem_append_left _ (List.mem_append_right _ h))
  have hl : lv_has ls 4 [(0, .ref a0), (1, .ref t0), (2, .int x0)] := hl
  refine lv_aload_n hx hb dX8_take_0 rfl (lv_at hl 0 rfl) ?_
  have hPc := hP.sub (ws' := [(a0, .inr (8, [.ref b_signs, .int v_size, .ref b_pieces, .int v_options, .int v_headingsEnd, .int v_headingMarks, .int v_sentences, .int v_headings, .int v_words, .ref b_listItems, .ref b_listWithin, .int v_lists, .ref b_marks, .ref b_nameAt, .ref b_nameSize, .int v_names])), (b_marks, .inr (2, [.ref c0, .ref c1, .ref c2, .ref c3, .ref c4, .int w_used]))]) [0, 1] rfl
  have hDc := hD.sub (ws' := [(a0, .inr (8, [.ref b_signs, .int v_size, .ref b_pieces, .int v_options, .int v_headingsEnd, .int v_headingMarks, .int v_sentences, .int v_headings, .int v_words, .ref b_listItems, .ref b_listWithin, .int v_lists, .ref b_marks, .ref b_nameAt, .ref b_nameSize, .int v_names])), (b_marks, .inr (2, [.ref c0, .ref c1, .ref c2, .ref c3, .ref c4, .int w_used]))]) [0, 1] (by decide) rfl
  refine q1_cv (wr := [(b_signs, .inl (c 0, 800, .inl (f0))), (t0, .inl (c 0, 800, .inl (f1)))]) (va_runV (As := []) (rest := []) ⟨hx, hb, hml, hown, hts⟩ (k201_X8_clear l D c H.size a0 b_signs v_size b_pieces v_options v_headingsEnd v_headingMarks v_sentences v_headings v_words b_listItems b_listWithin v_lists b_marks b_nameAt b_nameSize v_names c0 c1 c2 c3 c4 w_used) (cwV 0 hts gX8_take_X8_clear rfl rfl rfl (by decide +kernel) ⟨Nat.le_of_ble_eq_true rfl, Nat.le_of_ble_eq_true rfl⟩) (q1_preV (c := c) (ci := 8) (q0 := 0) hPc hK hDc hN rfl rfl) rfl rfl hl.1 rfl (lv_room (Nat.le_of_ble_eq_true rfl)) dX8_take_1 ⟨Nat.le_of_ble_eq_true rfl, Nat.le_of_ble_eq_true rfl⟩) hP hD hS hA [0, 1] [2, 3] rfl rfl (by decide) (by decide) (fun u1x0 H locs hP hD hS => ?_)
  have hP : va_P D vwCl [(b_signs, .inl (c 0, 800, .inl (f0))), (t0, .inl (c 0, 800, .inl (f1))), (a0, .inr (8, [.ref b_signs, .int 0, .ref b_pieces, .int 0, .int 14, .int 0, .int 0, .int 0, .int 0, .ref b_listItems, .ref b_listWithin, .int 0, .ref b_marks, .ref b_nameAt, .ref b_nameSize, .int 0])), (b_marks, .inr (2, [.ref c0, .ref c1, .ref c2, .ref c3, .ref c4, .int 0]))] H := hP
  have hD : va_D A [(b_signs, .inl (c 0, 800, .inl (f0))), (t0, .inl (c 0, 800, .inl (f1))), (a0, .inr (8, [.ref b_signs, .int 0, .ref b_pieces, .int 0, .int 14, .int 0, .int 0, .int 0, .int 0, .ref b_listItems, .ref b_listWithin, .int 0, .ref b_marks, .ref b_nameAt, .ref b_nameSize, .int 0])), (b_marks, .inr (2, [.ref c0, .ref c1, .ref c2, .ref c3, .ref c4, .int 0]))] := hD
  refine lv_iconst (v := 0) hx hb dX8_take_4 (by decide) ?_
  refine lv_istore_n (lv' := [(3, .int 0), (0, .ref a0), (1, .ref t0), (2, .int x0)]) hx hb dX8_take_5 rfl hl (by decide) rfl (fun ls hl => ?_)
  have loop : ∀ (k : Nat) (s3 s_size : Int32) (s_f : Nat → Int32), 0 ≤ s3.toInt → s3.toInt ≤ 800 → s_size.toInt = s3.toInt → (800 - s3.toInt).toNat < k → ∀ (H : Heap) (locs : List Loc) (ls : Array Slot), va_P D vwCl [(b_signs, .inl (c 0, 800, .inl (s_f))), (t0, .inl (c 0, 800, .inl (f1))), (a0, .inr (8, [.ref b_signs, .int s_size, .ref b_pieces, .int 0, .int 14, .int 0, .int 0, .int 0, .int 0, .ref b_listItems, .ref b_listWithin, .int 0, .ref b_marks, .ref b_nameAt, .ref b_nameSize, .int 0])), (b_marks, .inr (2, [.ref c0, .ref c1, .ref c2, .ref c3, .ref c4, .int 0]))] H → va_D A [(b_signs, .inl (c 0, 800, .inl (s_f))), (t0, .inl (c 0, 800, .inl (f1))), (a0, .inr (8, [.ref b_signs, .int s_size, .ref b_pieces, .int 0, .int 14, .int 0, .int 0, .int 0, .int 0, .ref b_listItems, .ref b_listWithin, .int 0, .ref b_marks, .ref b_nameAt, .ref b_nameSize, .int 0])), (b_marks, .inr (2, [.ref c0, .ref c1, .ref c2, .ref c3, .ref c4, .int 0]))] → va_S A s.heap H locs → lv_has ls 4 [(3, .int s3), (0, .ref a0), (1, .ref t0), (2, .int x0)] → W p l e ({ frames := 1, cells := 0, slots := 0, locals := 20 }) s m args below meth cd H locs 0 0 Q (F0 m 6 ls []) := by
    intro k
    induction k with
    | zero => intro s3 s_size s_f j0 j1 j2 hm; exact absurd hm (Nat.not_lt_zero _)
    | succ k ih =>
      intro s3 s_size s_f j0 j1 j2 hm H locs ls hP hD hS hl
      refine lv_iload_n hx hb dX8_take_6 rfl (lv_at hl 0 rfl) ?_
      refine lv_iload_n hx hb dX8_take_7 rfl (lv_at hl 3 rfl) ?_
      refine lv_icmp_ge (tgt := 51) hx hb dX8_take_8 (by decide) (fun g1 => ?_) (fun g1 => ?_)
      · rw [z_le] at g1
        try simp only [z_lit0] at g1
        have hP := hP.sub (ws' := [(a0, .inr (8, [.ref b_signs, .int s_size, .ref b_pieces, .int 0, .int 14, .int 0, .int 0, .int 0, .int 0, .ref b_listItems, .ref b_listWithin, .int 0, .ref b_marks, .ref b_nameAt, .ref b_nameSize, .int 0])), (b_marks, .inr (2, [.ref c0, .ref c1, .ref c2, .ref c3, .ref c4, .int 0])), (b_signs, .inl (c 0, 800, .inl (s_f))), (t0, .inl (c 0, 800, .inl (f1)))]) [2, 3, 0, 1] rfl
        have hD := hD.sub (ws' := [(a0, .inr (8, [.ref b_signs, .int s_size, .ref b_pieces, .int 0, .int 14, .int 0, .int 0, .int 0, .int 0, .ref b_listItems, .ref b_listWithin, .int 0, .ref b_marks, .ref b_nameAt, .ref b_nameSize, .int 0])), (b_marks, .inr (2, [.ref c0, .ref c1, .ref c2, .ref c3, .ref c4, .int 0])), (b_signs, .inl (c 0, 800, .inl (s_f))), (t0, .inl (c 0, 800, .inl (f1)))]) [2, 3, 0, 1] (by decide) rfl
        refine W.widen (k := 0) (n := 0) (Nat.zero_le _) (Nat.zero_le _) ?_
        exact hret (q2_u [] [s_size, 0, 14, 0, 0, 0, 0, 0, 0, 0] [s_f]) _ _ _ _ (by exact ⟨(show 0 ≤ Int32.toInt (s_size) by omega), (show Int32.toInt (s_size) ≤ 800 by omega), rfl, rfl, rfl, rfl, rfl⟩) dX8_take_51 hP hD hS
      · rw [z_le] at g1
        try simp only [z_lit0] at g1
        refine lv_iload_n hx hb dX8_take_11 rfl (lv_at hl 0 rfl) ?_
        refine lv_aload_n hx hb dX8_take_12 rfl (lv_at hl 1 rfl) ?_
        refine va_get (D := D) (ci := 8) (v := .ref b_signs) (C := RX8) (T := TX8) (N := 16) hx hb hts iX8 hown hK hP 2 rfl rfl 0 (by decide) (hts (.fieldLink RX8 9 "ShortTeller$Story" "signs" "[I") (List.mem_of_getElem? (i := 1) rfl)) (fun _ h9 => h9) rfl dX8_take_13 ?_
        refine q1_alen (c := c) (v := 800) hx hb hK hP 0 0 rfl rfl (show Int32.ofNat 800 = 800 by decide) dX8_take_16 ?_
        refine lv_icmp_ge (tgt := 51) hx hb dX8_take_17 (by decide) (fun g2 => ?_) (fun g2 => ?_)
        · rw [z_le] at g2
          try simp only [z_lit0, show (800 : Int32).toInt = 800 by decide] at g2
          have hP := hP.sub (ws' := [(a0, .inr (8, [.ref b_signs, .int s_size, .ref b_pieces, .int 0, .int 14, .int 0, .int 0, .int 0, .int 0, .ref b_listItems, .ref b_listWithin, .int 0, .ref b_marks, .ref b_nameAt, .ref b_nameSize, .int 0])), (b_marks, .inr (2, [.ref c0, .ref c1, .ref c2, .ref c3, .ref c4, .int 0])), (b_signs, .inl (c 0, 800, .inl (s_f))), (t0, .inl (c 0, 800, .inl (f1)))]) [2, 3, 0, 1] rfl
          have hD := hD.sub (ws' := [(a0, .inr (8, [.ref b_signs, .int s_size, .ref b_pieces, .int 0, .int 14, .int 0, .int 0, .int 0, .int 0, .ref b_listItems, .ref b_listWithin, .int 0, .ref b_marks, .ref b_nameAt, .ref b_nameSize, .int 0])), (b_marks, .inr (2, [.ref c0, .ref c1, .ref c2, .ref c3, .ref c4, .int 0])), (b_signs, .inl (c 0, 800, .inl (s_f))), (t0, .inl (c 0, 800, .inl (f1)))]) [2, 3, 0, 1] (by decide) rfl
          refine W.widen (k := 0) (n := 0) (Nat.zero_le _) (Nat.zero_le _) ?_
          exact hret (q2_u [] [s_size, 0, 14, 0, 0, 0, 0, 0, 0, 0] [s_f]) _ _ _ _ (by exact ⟨(show 0 ≤ Int32.toInt (s_size) by omega), (show Int32.toInt (s_size) ≤ 800 by omega), rfl, rfl, rfl, rfl, rfl⟩) dX8_take_51 hP hD hS
        · rw [z_le] at g2
          try simp only [z_lit0, show (800 : Int32).toInt = 800 by decide] at g2
          refine lv_iload_n hx hb dX8_take_20 rfl (lv_at hl 0 rfl) ?_
          refine lv_aload_n hx hb dX8_take_21 rfl (lv_at hl 2 rfl) ?_
          refine q1_alen (c := c) (v := 800) hx hb hK hP 1 0 rfl rfl (show Int32.ofNat 800 = 800 by decide) dX8_take_22 ?_
          refine lv_icmp_ge (tgt := 51) hx hb dX8_take_23 (by decide) (fun g3 => ?_) (fun g3 => ?_)
          · rw [z_le] at g3
            try simp only [z_lit0, show (800 : Int32).toInt = 800 by decide] at g3
            have hP := hP.sub (ws' := [(a0, .inr (8, [.ref b_signs, .int s_size, .ref b_pieces, .int 0, .int 14, .int 0, .int 0, .int 0, .int 0, .ref b_listItems, .ref b_listWithin, .int 0, .ref b_marks, .ref b_nameAt, .ref b_nameSize, .int 0])), (b_marks, .inr (2, [.ref c0, .ref c1, .ref c2, .ref c3, .ref c4, .int 0])), (b_signs, .inl (c 0, 800, .inl (s_f))), (t0, .inl (c 0, 800, .inl (f1)))]) [2, 3, 0, 1] rfl
            have hD := hD.sub (ws' := [(a0, .inr (8, [.ref b_signs, .int s_size, .ref b_pieces, .int 0, .int 14, .int 0, .int 0, .int 0, .int 0, .ref b_listItems, .ref b_listWithin, .int 0, .ref b_marks, .ref b_nameAt, .ref b_nameSize, .int 0])), (b_marks, .inr (2, [.ref c0, .ref c1, .ref c2, .ref c3, .ref c4, .int 0])), (b_signs, .inl (c 0, 800, .inl (s_f))), (t0, .inl (c 0, 800, .inl (f1)))]) [2, 3, 0, 1] (by decide) rfl
            refine W.widen (k := 0) (n := 0) (Nat.zero_le _) (Nat.zero_le _) ?_
            exact hret (q2_u [] [s_size, 0, 14, 0, 0, 0, 0, 0, 0, 0] [s_f]) _ _ _ _ (by exact ⟨(show 0 ≤ Int32.toInt (s_size) by omega), (show Int32.toInt (s_size) ≤ 800 by omega), rfl, rfl, rfl, rfl, rfl⟩) dX8_take_51 hP hD hS
          · rw [z_le] at g3
            try simp only [z_lit0, show (800 : Int32).toInt = 800 by decide] at g3
            refine lv_aload_n hx hb dX8_take_26 rfl (lv_at hl 1 rfl) ?_
            refine va_get (D := D) (ci := 8) (v := .ref b_signs) (C := RX8) (T := TX8) (N := 16) hx hb hts iX8 hown hK hP 2 rfl rfl 0 (by decide) (hts (.fieldLink RX8 9 "ShortTeller$Story" "signs" "[I") (List.mem_of_getElem? (i := 1) rfl)) (fun _ h9 => h9) rfl dX8_take_27 ?_
            refine lv_iload_n hx hb dX8_take_30 rfl (lv_at hl 0 rfl) ?_
            refine lv_aload_n hx hb dX8_take_31 rfl (lv_at hl 2 rfl) ?_
            refine lv_iload_n hx hb dX8_take_32 rfl (lv_at hl 0 rfl) ?_
            refine va_iald hx hb hK hP 1 0 rfl rfl (q2_in (by omega) (by omega)) dX8_take_33 ?_
            refine lv_topi (fun n4 en4 => ?_)
            refine va_iast hx hb hK hP hD hS 0 0 rfl rfl (q2_in (by omega) (by omega)) dX8_take_34 (fun H locs hP hD hS => ?_)
            have hP : va_P D vwCl [(b_signs, .inl (c 0, 800, .inl (upd (s_f) s3.toNatClampNeg (n4)))), (t0, .inl (c 0, 800, .inl (f1))), (a0, .inr (8, [.ref b_signs, .int s_size, .ref b_pieces, .int 0, .int 14, .int 0, .int 0, .int 0, .int 0, .ref b_listItems, .ref b_listWithin, .int 0, .ref b_marks, .ref b_nameAt, .ref b_nameSize, .int 0])), (b_marks, .inr (2, [.ref c0, .ref c1, .ref c2, .ref c3, .ref c4, .int 0]))] H := hP
            have hD : va_D A [(b_signs, .inl (c 0, 800, .inl (upd (s_f) s3.toNatClampNeg (n4)))), (t0, .inl (c 0, 800, .inl (f1))), (a0, .inr (8, [.ref b_signs, .int s_size, .ref b_pieces, .int 0, .int 14, .int 0, .int 0, .int 0, .int 0, .ref b_listItems, .ref b_listWithin, .int 0, .ref b_marks, .ref b_nameAt, .ref b_nameSize, .int 0])), (b_marks, .inr (2, [.ref c0, .ref c1, .ref c2, .ref c3, .ref c4, .int 0]))] := hD
            obtain ⟨F5, eF5⟩ : ∃ z : Nat → Int32, z = upd (s_f) s3.toNatClampNeg (n4) := ⟨_, rfl⟩
            rw [← eF5] at hP hD
            clear eF5
            refine lv_aload_n hx hb dX8_take_35 rfl (lv_at hl 1 rfl) ?_
            refine lv_dup hx hb dX8_take_36 rfl ?_
            refine va_get (D := D) (ci := 8) (v := .int s_size) (C := RX8) (T := TX8) (N := 16) hx hb hts iX8 hown hK hP 2 rfl rfl 1 (by decide) (hts (.fieldLink RX8 15 "ShortTeller$Story" "size" "I") (List.mem_of_getElem? (i := 2) rfl)) (fun _ h9 => h9) rfl dX8_take_37 ?_
            refine lv_iconst (v := 1) hx hb dX8_take_40 (by decide) ?_
            refine lv_iadd hx hb dX8_take_41 ?_
            refine lv_topi (fun n6 en6 => ?_)
            have tn6 : n6.toInt = s_size.toInt + (1) := by rw [en6, fb_addI (by simp only [show (1 : Int32).toInt = 1 by decide]; omega) (by simp only [show (1 : Int32).toInt = 1 by decide]; omega)]; simp only [show (1 : Int32).toInt = 1 by decide] <;> omega
            refine va_put (D := D) (ci := 8) (v := .int n6) (ty := .int) (C := RX8) (T := TX8) (N := 16) hx hb hts iX8 tyX8 tyX8_ok nmX8 hown hK hP hD hS 2 rfl rfl 1 (by decide) (hts (.fieldLink RX8 15 "ShortTeller$Story" "size" "I") (List.mem_of_getElem? (i := 2) rfl)) (fun _ h9 => h9) rfl (by decide +kernel) rfl rfl (Nat.le_of_ble_eq_true rfl) dX8_take_42 (fun H locs hP hD hS => ?_)
            have hP : va_P D vwCl [(b_signs, .inl (c 0, 800, .inl (F5))), (t0, .inl (c 0, 800, .inl (f1))), (a0, .inr (8, [.ref b_signs, .int n6, .ref b_pieces, .int 0, .int 14, .int 0, .int 0, .int 0, .int 0, .ref b_listItems, .ref b_listWithin, .int 0, .ref b_marks, .ref b_nameAt, .ref b_nameSize, .int 0])), (b_marks, .inr (2, [.ref c0, .ref c1, .ref c2, .ref c3, .ref c4, .int 0]))] H := hP
            have hD : va_D A [(b_signs, .inl (c 0, 800, .inl (F5))), (t0, .inl (c 0, 800, .inl (f1))), (a0, .inr (8, [.ref b_signs, .int n6, .ref b_pieces, .int 0, .int 14, .int 0, .int 0, .int 0, .int 0, .ref b_listItems, .ref b_listWithin, .int 0, .ref b_marks, .ref b_nameAt, .ref b_nameSize, .int 0])), (b_marks, .inr (2, [.ref c0, .ref c1, .ref c2, .ref c3, .ref c4, .int 0]))] := hD
            obtain ⟨n7, en7⟩ : ∃ z : Int32, z = s3 + (1) := ⟨_, rfl⟩
            have tn7 : n7.toInt = s3.toInt + 1 := by rw [en7]; exact fb_addI (y := 1) (by simp only [show (1 : Int32).toInt = 1 by decide]; omega) (by simp only [show (1 : Int32).toInt = 1 by decide]; omega)
            refine lv_iinc (v := n7) (lv' := [(3, .int n7), (0, .ref a0), (1, .ref t0), (2, .int x0)]) hx hb dX8_take_45 hl (k := 0) rfl (by rw [en7]; rfl) (by decide) rfl (fun ls hl => ?_)
            refine lv_goto (tgt := 6) hx hb dX8_take_48 (by decide) ?_
            exact ih n7 n6 F5 (by omega) (by omega) (by omega) (by omega) _ _ _ hP hD hS (lv_sub hl [0, 1, 2, 3] rfl)
  exact loop _ (0) (0) f0 (by first | decide | omega | (simp only [z_lit0]; omega)) (by first | decide | omega | (simp only [z_lit0]; omega)) (by first | decide | omega | (simp only [z_lit0]; omega)) (Nat.lt_succ_self _) _ _ _ hP hD hS hl
