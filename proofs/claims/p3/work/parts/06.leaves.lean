theorem dX0_clear_0 : decode cX0_clear 0 = .ok (.iconst 0, 1) := by decide +kernel
theorem dX0_clear_1 : decode cX0_clear 1 = .ok (.istore_n 1, 1) := by decide +kernel
theorem dX0_clear_12 : decode cX0_clear 12 = .ok (.iload_n 1, 1) := by decide +kernel
theorem dX0_clear_13 : decode cX0_clear 13 = .ok (.iconst 0, 1) := by decide +kernel
theorem dX0_clear_14 : decode cX0_clear 14 = .ok (.iastore, 1) := by decide +kernel
theorem dX0_clear_15 : decode cX0_clear 15 = .ok (.iinc 1 1, 3) := by decide +kernel
theorem dX0_clear_18 : decode cX0_clear 18 = .ok (.goto (-16), 3) := by decide +kernel
theorem dX0_clear_2 : decode cX0_clear 2 = .ok (.iload_n 1, 1) := by decide +kernel
theorem dX0_clear_21 : decode cX0_clear 21 = .ok (.aload_n 0, 1) := by decide +kernel
theorem dX0_clear_22 : decode cX0_clear 22 = .ok (.iconst 0, 1) := by decide +kernel
theorem dX0_clear_23 : decode cX0_clear 23 = .ok (.putfield 15, 3) := by decide +kernel
theorem dX0_clear_26 : decode cX0_clear 26 = .ok (.aload_n 0, 1) := by decide +kernel
theorem dX0_clear_27 : decode cX0_clear 27 = .ok (.iconst 0, 1) := by decide +kernel
theorem dX0_clear_28 : decode cX0_clear 28 = .ok (.putfield 19, 3) := by decide +kernel
theorem dX0_clear_3 : decode cX0_clear 3 = .ok (.bipush 31, 2) := by decide +kernel
theorem dX0_clear_31 : decode cX0_clear 31 = .ok (.return_, 1) := by decide +kernel
theorem dX0_clear_5 : decode cX0_clear 5 = .ok (.if_icmp .ge 16, 3) := by decide +kernel
theorem dX0_clear_8 : decode cX0_clear 8 = .ok (.aload_n 0, 1) := by decide +kernel
theorem dX0_clear_9 : decode cX0_clear 9 = .ok (.getfield 9, 3) := by decide +kernel
theorem dX10_fault_0 : decode cX10_fault 0 = .ok (.aload_n 0, 1) := by decide +kernel
theorem dX10_fault_1 : decode cX10_fault 1 = .ok (.iconst 0, 1) := by decide +kernel
theorem dX10_fault_10 : decode cX10_fault 10 = .ok (.getfield 141, 3) := by decide +kernel
theorem dX10_fault_13 : decode cX10_fault 13 = .ok (.goto 16, 3) := by decide +kernel
theorem dX10_fault_16 : decode cX10_fault 16 = .ok (.iload_n 1, 1) := by decide +kernel
theorem dX10_fault_17 : decode cX10_fault 17 = .ok (.iconst 1, 1) := by decide +kernel
theorem dX10_fault_18 : decode cX10_fault 18 = .ok (.if_icmp .ne 10, 3) := by decide +kernel
theorem dX10_fault_2 : decode cX10_fault 2 = .ok (.putfield 135, 3) := by decide +kernel
theorem dX10_fault_21 : decode cX10_fault 21 = .ok (.aload_n 0, 1) := by decide +kernel
theorem dX10_fault_22 : decode cX10_fault 22 = .ok (.getfield 13, 3) := by decide +kernel
theorem dX10_fault_25 : decode cX10_fault 25 = .ok (.goto 4, 3) := by decide +kernel
theorem dX10_fault_28 : decode cX10_fault 28 = .ok (.iconst (-1), 1) := by decide +kernel
theorem dX10_fault_29 : decode cX10_fault 29 = .ok (.ireturn, 1) := by decide +kernel
theorem dX10_fault_5 : decode cX10_fault 5 = .ok (.iload_n 1, 1) := by decide +kernel
theorem dX10_fault_6 : decode cX10_fault 6 = .ok (.ifCond .ne 10, 3) := by decide +kernel
theorem dX10_fault_9 : decode cX10_fault 9 = .ok (.aload_n 0, 1) := by decide +kernel
theorem dX1_begin_0 : decode cX1_begin 0 = .ok (.aload_n 0, 1) := by decide +kernel
theorem dX1_begin_1 : decode cX1_begin 1 = .ok (.iload_n 1, 1) := by decide +kernel
theorem dX1_begin_10 : decode cX1_begin 10 = .ok (.aload_n 0, 1) := by decide +kernel
theorem dX1_begin_11 : decode cX1_begin 11 = .ok (.iload_n 3, 1) := by decide +kernel
theorem dX1_begin_12 : decode cX1_begin 12 = .ok (.putfield 18, 3) := by decide +kernel
theorem dX1_begin_15 : decode cX1_begin 15 = .ok (.aload_n 0, 1) := by decide +kernel
theorem dX1_begin_16 : decode cX1_begin 16 = .ok (.iconst (-1), 1) := by decide +kernel
theorem dX1_begin_17 : decode cX1_begin 17 = .ok (.putfield 21, 3) := by decide +kernel
theorem dX1_begin_2 : decode cX1_begin 2 = .ok (.putfield 9, 3) := by decide +kernel
theorem dX1_begin_20 : decode cX1_begin 20 = .ok (.aload_n 0, 1) := by decide +kernel
theorem dX1_begin_21 : decode cX1_begin 21 = .ok (.iconst 0, 1) := by decide +kernel
theorem dX1_begin_22 : decode cX1_begin 22 = .ok (.putfield 24, 3) := by decide +kernel
theorem dX1_begin_25 : decode cX1_begin 25 = .ok (.aload_n 0, 1) := by decide +kernel
theorem dX1_begin_26 : decode cX1_begin 26 = .ok (.iconst 0, 1) := by decide +kernel
theorem dX1_begin_27 : decode cX1_begin 27 = .ok (.putfield 27, 3) := by decide +kernel
theorem dX1_begin_30 : decode cX1_begin 30 = .ok (.aload_n 0, 1) := by decide +kernel
theorem dX1_begin_31 : decode cX1_begin 31 = .ok (.iconst 0, 1) := by decide +kernel
theorem dX1_begin_32 : decode cX1_begin 32 = .ok (.putfield 31, 3) := by decide +kernel
theorem dX1_begin_35 : decode cX1_begin 35 = .ok (.return_, 1) := by decide +kernel
theorem dX1_begin_5 : decode cX1_begin 5 = .ok (.aload_n 0, 1) := by decide +kernel
theorem dX1_begin_6 : decode cX1_begin 6 = .ok (.iload_n 2, 1) := by decide +kernel
theorem dX1_begin_7 : decode cX1_begin 7 = .ok (.putfield 15, 3) := by decide +kernel
theorem dX2_isMark_0 : decode cX2_isMark 0 = .ok (.iload_n 1, 1) := by decide +kernel
theorem dX2_isMark_1 : decode cX2_isMark 1 = .ok (.ifCond .lt 15, 3) := by decide +kernel
theorem dX2_isMark_12 : decode cX2_isMark 12 = .ok (.iconst 1, 1) := by decide +kernel
theorem dX2_isMark_13 : decode cX2_isMark 13 = .ok (.goto 4, 3) := by decide +kernel
theorem dX2_isMark_16 : decode cX2_isMark 16 = .ok (.iconst 0, 1) := by decide +kernel
theorem dX2_isMark_17 : decode cX2_isMark 17 = .ok (.ireturn, 1) := by decide +kernel
theorem dX2_isMark_4 : decode cX2_isMark 4 = .ok (.iload_n 1, 1) := by decide +kernel
theorem dX2_isMark_5 : decode cX2_isMark 5 = .ok (.aload_n 0, 1) := by decide +kernel
theorem dX2_isMark_6 : decode cX2_isMark 6 = .ok (.getfield 27, 3) := by decide +kernel
theorem dX2_isMark_9 : decode cX2_isMark 9 = .ok (.if_icmp .ge 7, 3) := by decide +kernel
theorem dX4_begin_0 : decode cX4_begin 0 = .ok (.aload_n 0, 1) := by decide +kernel
theorem dX4_begin_1 : decode cX4_begin 1 = .ok (.iload_n 1, 1) := by decide +kernel
theorem dX4_begin_10 : decode cX4_begin 10 = .ok (.aload_n 0, 1) := by decide +kernel
theorem dX4_begin_11 : decode cX4_begin 11 = .ok (.iconst (-1), 1) := by decide +kernel
theorem dX4_begin_12 : decode cX4_begin 12 = .ok (.putfield 18, 3) := by decide +kernel
theorem dX4_begin_15 : decode cX4_begin 15 = .ok (.aload_n 0, 1) := by decide +kernel
theorem dX4_begin_16 : decode cX4_begin 16 = .ok (.iconst 0, 1) := by decide +kernel
theorem dX4_begin_17 : decode cX4_begin 17 = .ok (.putfield 21, 3) := by decide +kernel
theorem dX4_begin_2 : decode cX4_begin 2 = .ok (.putfield 9, 3) := by decide +kernel
theorem dX4_begin_20 : decode cX4_begin 20 = .ok (.aload_n 0, 1) := by decide +kernel
theorem dX4_begin_21 : decode cX4_begin 21 = .ok (.iconst 0, 1) := by decide +kernel
theorem dX4_begin_22 : decode cX4_begin 22 = .ok (.putfield 24, 3) := by decide +kernel
theorem dX4_begin_25 : decode cX4_begin 25 = .ok (.aload_n 0, 1) := by decide +kernel
theorem dX4_begin_26 : decode cX4_begin 26 = .ok (.iload_n 3, 1) := by decide +kernel
theorem dX4_begin_27 : decode cX4_begin 27 = .ok (.putfield 27, 3) := by decide +kernel
theorem dX4_begin_30 : decode cX4_begin 30 = .ok (.aload_n 0, 1) := by decide +kernel
theorem dX4_begin_31 : decode cX4_begin 31 = .ok (.iconst 0, 1) := by decide +kernel
theorem dX4_begin_32 : decode cX4_begin 32 = .ok (.putfield 30, 3) := by decide +kernel
theorem dX4_begin_35 : decode cX4_begin 35 = .ok (.return_, 1) := by decide +kernel
theorem dX4_begin_5 : decode cX4_begin 5 = .ok (.aload_n 0, 1) := by decide +kernel
theorem dX4_begin_6 : decode cX4_begin 6 = .ok (.iload_n 2, 1) := by decide +kernel
theorem dX4_begin_7 : decode cX4_begin 7 = .ok (.putfield 15, 3) := by decide +kernel
theorem dX5_forget_0 : decode cX5_forget 0 = .ok (.aload_n 0, 1) := by decide +kernel
theorem dX5_forget_1 : decode cX5_forget 1 = .ok (.iconst 0, 1) := by decide +kernel
theorem dX5_forget_2 : decode cX5_forget 2 = .ok (.putfield 37, 3) := by decide +kernel
theorem dX5_forget_5 : decode cX5_forget 5 = .ok (.return_, 1) := by decide +kernel
theorem dX5_isPlace_0 : decode cX5_isPlace 0 = .ok (.iload_n 1, 1) := by decide +kernel
theorem dX5_isPlace_1 : decode cX5_isPlace 1 = .ok (.ifCond .lt 15, 3) := by decide +kernel
theorem dX5_isPlace_12 : decode cX5_isPlace 12 = .ok (.iconst 1, 1) := by decide +kernel
theorem dX5_isPlace_13 : decode cX5_isPlace 13 = .ok (.goto 4, 3) := by decide +kernel
theorem dX5_isPlace_16 : decode cX5_isPlace 16 = .ok (.iconst 0, 1) := by decide +kernel
theorem dX5_isPlace_17 : decode cX5_isPlace 17 = .ok (.ireturn, 1) := by decide +kernel
theorem dX5_isPlace_4 : decode cX5_isPlace 4 = .ok (.iload_n 1, 1) := by decide +kernel
theorem dX5_isPlace_5 : decode cX5_isPlace 5 = .ok (.aload_n 0, 1) := by decide +kernel
theorem dX5_isPlace_6 : decode cX5_isPlace 6 = .ok (.getfield 33, 3) := by decide +kernel
theorem dX5_isPlace_9 : decode cX5_isPlace 9 = .ok (.if_icmp .ge 7, 3) := by decide +kernel
theorem dX6_forget_0 : decode cX6_forget 0 = .ok (.aload_n 0, 1) := by decide +kernel
theorem dX6_forget_1 : decode cX6_forget 1 = .ok (.iconst (-1), 1) := by decide +kernel
theorem dX6_forget_2 : decode cX6_forget 2 = .ok (.putfield 19, 3) := by decide +kernel
theorem dX6_forget_5 : decode cX6_forget 5 = .ok (.return_, 1) := by decide +kernel
theorem dX6_holds_0 : decode cX6_holds 0 = .ok (.aload_n 0, 1) := by decide +kernel
theorem dX6_holds_1 : decode cX6_holds 1 = .ok (.getfield 19, 3) := by decide +kernel
theorem dX6_holds_12 : decode cX6_holds 12 = .ok (.iconst 0, 1) := by decide +kernel
theorem dX6_holds_13 : decode cX6_holds 13 = .ok (.ireturn, 1) := by decide +kernel
theorem dX6_holds_4 : decode cX6_holds 4 = .ok (.iload_n 1, 1) := by decide +kernel
theorem dX6_holds_5 : decode cX6_holds 5 = .ok (.if_icmp .ne 7, 3) := by decide +kernel
theorem dX6_holds_8 : decode cX6_holds 8 = .ok (.iconst 1, 1) := by decide +kernel
theorem dX6_holds_9 : decode cX6_holds 9 = .ok (.goto 4, 3) := by decide +kernel
theorem dX7_fail_0 : decode cX7_fail 0 = .ok (.aload_n 0, 1) := by decide +kernel
theorem dX7_fail_1 : decode cX7_fail 1 = .ok (.iload_n 1, 1) := by decide +kernel
theorem dX7_fail_10 : decode cX7_fail 10 = .ok (.return_, 1) := by decide +kernel
theorem dX7_fail_2 : decode cX7_fail 2 = .ok (.putfield 17, 3) := by decide +kernel
theorem dX7_fail_5 : decode cX7_fail 5 = .ok (.aload_n 0, 1) := by decide +kernel
theorem dX7_fail_6 : decode cX7_fail 6 = .ok (.iload_n 2, 1) := by decide +kernel
theorem dX7_fail_7 : decode cX7_fail 7 = .ok (.putfield 21, 3) := by decide +kernel
theorem dX8_clear_0 : decode cX8_clear 0 = .ok (.aload_n 0, 1) := by decide +kernel
theorem dX8_clear_1 : decode cX8_clear 1 = .ok (.iconst 0, 1) := by decide +kernel
theorem dX8_clear_10 : decode cX8_clear 10 = .ok (.aload_n 0, 1) := by decide +kernel
theorem dX8_clear_11 : decode cX8_clear 11 = .ok (.bipush 14, 2) := by decide +kernel
theorem dX8_clear_13 : decode cX8_clear 13 = .ok (.putfield 28, 3) := by decide +kernel
theorem dX8_clear_16 : decode cX8_clear 16 = .ok (.aload_n 0, 1) := by decide +kernel
theorem dX8_clear_17 : decode cX8_clear 17 = .ok (.iconst 0, 1) := by decide +kernel
theorem dX8_clear_18 : decode cX8_clear 18 = .ok (.putfield 31, 3) := by decide +kernel
theorem dX8_clear_2 : decode cX8_clear 2 = .ok (.putfield 15, 3) := by decide +kernel
theorem dX8_clear_21 : decode cX8_clear 21 = .ok (.aload_n 0, 1) := by decide +kernel
theorem dX8_clear_22 : decode cX8_clear 22 = .ok (.iconst 0, 1) := by decide +kernel
theorem dX8_clear_23 : decode cX8_clear 23 = .ok (.putfield 34, 3) := by decide +kernel
theorem dX8_clear_26 : decode cX8_clear 26 = .ok (.aload_n 0, 1) := by decide +kernel
theorem dX8_clear_27 : decode cX8_clear 27 = .ok (.iconst 0, 1) := by decide +kernel
theorem dX8_clear_28 : decode cX8_clear 28 = .ok (.putfield 37, 3) := by decide +kernel
theorem dX8_clear_31 : decode cX8_clear 31 = .ok (.aload_n 0, 1) := by decide +kernel
theorem dX8_clear_32 : decode cX8_clear 32 = .ok (.iconst 0, 1) := by decide +kernel
theorem dX8_clear_33 : decode cX8_clear 33 = .ok (.putfield 40, 3) := by decide +kernel
theorem dX8_clear_36 : decode cX8_clear 36 = .ok (.aload_n 0, 1) := by decide +kernel
theorem dX8_clear_37 : decode cX8_clear 37 = .ok (.iconst 0, 1) := by decide +kernel
theorem dX8_clear_38 : decode cX8_clear 38 = .ok (.putfield 49, 3) := by decide +kernel
theorem dX8_clear_41 : decode cX8_clear 41 = .ok (.aload_n 0, 1) := by decide +kernel
theorem dX8_clear_42 : decode cX8_clear 42 = .ok (.getfield 55, 3) := by decide +kernel
theorem dX8_clear_45 : decode cX8_clear 45 = .ok (.iconst 0, 1) := by decide +kernel
theorem dX8_clear_46 : decode cX8_clear 46 = .ok (.putfield 69, 3) := by decide +kernel
theorem dX8_clear_49 : decode cX8_clear 49 = .ok (.aload_n 0, 1) := by decide +kernel
theorem dX8_clear_5 : decode cX8_clear 5 = .ok (.aload_n 0, 1) := by decide +kernel
theorem dX8_clear_50 : decode cX8_clear 50 = .ok (.iconst 0, 1) := by decide +kernel
theorem dX8_clear_51 : decode cX8_clear 51 = .ok (.putfield 65, 3) := by decide +kernel
theorem dX8_clear_54 : decode cX8_clear 54 = .ok (.return_, 1) := by decide +kernel
theorem dX8_clear_6 : decode cX8_clear 6 = .ok (.iconst 0, 1) := by decide +kernel
theorem dX8_clear_7 : decode cX8_clear 7 = .ok (.putfield 25, 3) := by decide +kernel
theorem dX9_fault_0 : decode cX9_fault 0 = .ok (.iload_n 1, 1) := by decide +kernel
theorem dX9_fault_1 : decode cX9_fault 1 = .ok (.lookupswitch 43 #[(0, 27), (1, 35)], 27) := by decide +kernel
theorem dX9_fault_28 : decode cX9_fault 28 = .ok (.aload_n 0, 1) := by decide +kernel
theorem dX9_fault_29 : decode cX9_fault 29 = .ok (.getfield 36, 3) := by decide +kernel
theorem dX9_fault_32 : decode cX9_fault 32 = .ok (.getfield 79, 3) := by decide +kernel
theorem dX9_fault_35 : decode cX9_fault 35 = .ok (.ireturn, 1) := by decide +kernel
theorem dX9_fault_36 : decode cX9_fault 36 = .ok (.aload_n 0, 1) := by decide +kernel
theorem dX9_fault_37 : decode cX9_fault 37 = .ok (.getfield 36, 3) := by decide +kernel
theorem dX9_fault_40 : decode cX9_fault 40 = .ok (.getfield 93, 3) := by decide +kernel
theorem dX9_fault_43 : decode cX9_fault 43 = .ok (.ireturn, 1) := by decide +kernel
theorem dX9_fault_44 : decode cX9_fault 44 = .ok (.iconst (-1), 1) := by decide +kernel
theorem dX9_fault_45 : decode cX9_fault 45 = .ok (.ireturn, 1) := by decide +kernel
set_option maxHeartbeats 4000000 in
set_option maxRecDepth 100000 in
theorem k101_X0_clear (l : Launch) (D : va_G) (c : Nat → ClassId) (sz : Nat) (a0 : Nat) (a1 : Nat) (x0 : Int32) (x1 : Int32) (f0 : Nat → Int32) : Met l yX0_clear wsX0_clear ({ frames := 0, cells := 0, slots := 0, locals := 0 }) (q1_P D c [(a0, .inr (0, [.ref a1, .int x0, .int x1])), (a1, .inl (c 0, 31, .inl (f0)))] sz [.ref a0]) (q1_v D [(a0, .inr (0, [.ref a1, .int x0, .int x1])), (a1, .inl (c 0, 31, .inl (f0)))] sz (fun u => [(a0, .inr (0, [.ref a1, .int 0, .int 0])), (a1, .inl (c 0, 31, .inl (upd (upd (upd (upd (upd (upd (upd (upd (upd (upd (upd (upd (upd (upd (upd (upd (upd (upd (upd (upd (upd (upd (upd (upd (upd (upd (upd (upd (upd (upd (upd (f0) 0 (0)) 1 (0)) 2 (0)) 3 (0)) 4 (0)) 5 (0)) 6 (0)) 7 (0)) 8 (0)) 9 (0)) 10 (0)) 11 (0)) 12 (0)) 13 (0)) 14 (0)) 15 (0)) 16 (0)) 17 (0)) 18 (0)) 19 (0)) 20 (0)) 21 (0)) 22 (0)) 23 (0)) 24 (0)) 25 (0)) 26 (0)) 27 (0)) 28 (0)) 29 (0)) 30 (0))))])) 0 0 (va_A [(a0, .inr (0, [.ref a1, .int x0, .int x1])), (a1, .inl (c 0, 31, .inl (f0)))] sz) := by
  refine q1_of_v (cc := cX0_clear) (maxL := 2) (by decide) rfl (Nat.le_of_ble_eq_true rfl) (fun p e s m args below meth cd A Q ls hx hb hml hown hts hin hA hS hP hD hK hN hl hret => ?_)
  have hown : s.vm.findClass RX0 = some m.cls := hown
  obtain ⟨H, eH⟩ : ∃ z, z = s.heap := ⟨_, rfl⟩
  have hP : va_P D vwCl [(a0, .inr (0, [.ref a1, .int x0, .int x1])), (a1, .inl (c 0, 31, .inl (f0)))] H := by rw [eH]; exact hP
  have hS : va_S A s.heap H [] := by rw [eH]; exact hS
  rw [← eH]
  have iX0 : ∀ w ∈ wsX00, w ∈ wsX0_clear := fun w h => List.mem_cons_of_mem _ (List.mem_append_right _ h)
  have hl : lv_has ls 2 [(0, .ref a0)] := hl
  refine lv_iconst (v := 0) hx hb dX0_clear_0 (by decide) ?_
  refine lv_istore_n (lv' := [(1, .int 0), (0, .ref a0)]) hx hb dX0_clear_1 rfl hl (by decide) rfl (fun ls hl => ?_)
  refine lv_iload_n hx hb dX0_clear_2 rfl (lv_at hl 0 rfl) ?_
  refine lv_bipush (v := 31) hx hb dX0_clear_3 (by decide) ?_
  refine lv_icmp_ge (tgt := 21) hx hb dX0_clear_5 (by decide) (fun h9 => absurd h9 (by decide)) (fun _ => ?_)
  refine lv_aload_n hx hb dX0_clear_8 rfl (lv_at hl 1 rfl) ?_
  refine va_get (D := D) (ci := 0) (v := .ref a1) (C := RX0) (T := TX0) (N := 3) hx hb hts iX0 hown hK hP 0 rfl rfl 0 (by decide) (hts (.fieldLink RX0 9 "ShortTeller$Facts" "places" "[I") (List.mem_of_getElem? (i := 1) rfl)) (fun _ h9 => h9) rfl dX0_clear_9 ?_
  refine lv_iload_n hx hb dX0_clear_12 rfl (lv_at hl 0 rfl) ?_
  refine lv_iconst (v := 0) hx hb dX0_clear_13 (by decide) ?_
  refine q1_iast (c := c) (K := 0) (F := upd (f0) 0 (0)) hx hb hK hP hD hS 1 rfl (by decide) (by decide) (by decide) rfl dX0_clear_14 (fun H locs hP hD hS => ?_)
  have hP : va_P D vwCl [(a0, .inr (0, [.ref a1, .int x0, .int x1])), (a1, .inl (c 0, 31, .inl (upd (f0) 0 (0))))] H := hP
  have hD : va_D A [(a0, .inr (0, [.ref a1, .int x0, .int x1])), (a1, .inl (c 0, 31, .inl (upd (f0) 0 (0))))] := hD
  refine lv_iinc (v := 1) (lv' := [(1, .int 1), (0, .ref a0)]) hx hb dX0_clear_15 hl (k := 0) rfl (by decide) (by decide) rfl (fun ls hl => ?_)
  refine lv_goto (tgt := 2) hx hb dX0_clear_18 (by decide) ?_
  refine lv_iload_n hx hb dX0_clear_2 rfl (lv_at hl 0 rfl) ?_
  refine lv_bipush (v := 31) hx hb dX0_clear_3 (by decide) ?_
  refine lv_icmp_ge (tgt := 21) hx hb dX0_clear_5 (by decide) (fun h9 => absurd h9 (by decide)) (fun _ => ?_)
  refine lv_aload_n hx hb dX0_clear_8 rfl (lv_at hl 1 rfl) ?_
  refine va_get (D := D) (ci := 0) (v := .ref a1) (C := RX0) (T := TX0) (N := 3) hx hb hts iX0 hown hK hP 0 rfl rfl 0 (by decide) (hts (.fieldLink RX0 9 "ShortTeller$Facts" "places" "[I") (List.mem_of_getElem? (i := 1) rfl)) (fun _ h9 => h9) rfl dX0_clear_9 ?_
  refine lv_iload_n hx hb dX0_clear_12 rfl (lv_at hl 0 rfl) ?_
  refine lv_iconst (v := 0) hx hb dX0_clear_13 (by decide) ?_
  refine q1_iast (c := c) (K := 1) (F := upd (upd (f0) 0 (0)) 1 (0)) hx hb hK hP hD hS 1 rfl (by decide) (by decide) (by decide) rfl dX0_clear_14 (fun H locs hP hD hS => ?_)
  have hP : va_P D vwCl [(a0, .inr (0, [.ref a1, .int x0, .int x1])), (a1, .inl (c 0, 31, .inl (upd (upd (f0) 0 (0)) 1 (0))))] H := hP
  have hD : va_D A [(a0, .inr (0, [.ref a1, .int x0, .int x1])), (a1, .inl (c 0, 31, .inl (upd (upd (f0) 0 (0)) 1 (0))))] := hD
  refine lv_iinc (v := 2) (lv' := [(1, .int 2), (0, .ref a0)]) hx hb dX0_clear_15 hl (k := 0) rfl (by decide) (by decide) rfl (fun ls hl => ?_)
  refine lv_goto (tgt := 2) hx hb dX0_clear_18 (by decide) ?_
  refine lv_iload_n hx hb dX0_clear_2 rfl (lv_at hl 0 rfl) ?_
  refine lv_bipush (v := 31) hx hb dX0_clear_3 (by decide) ?_
  refine lv_icmp_ge (tgt := 21) hx hb dX0_clear_5 (by decide) (fun h9 => absurd h9 (by decide)) (fun _ => ?_)
  refine lv_aload_n hx hb dX0_clear_8 rfl (lv_at hl 1 rfl) ?_
  refine va_get (D := D) (ci := 0) (v := .ref a1) (C := RX0) (T := TX0) (N := 3) hx hb hts iX0 hown hK hP 0 rfl rfl 0 (by decide) (hts (.fieldLink RX0 9 "ShortTeller$Facts" "places" "[I") (List.mem_of_getElem? (i := 1) rfl)) (fun _ h9 => h9) rfl dX0_clear_9 ?_
  refine lv_iload_n hx hb dX0_clear_12 rfl (lv_at hl 0 rfl) ?_
  refine lv_iconst (v := 0) hx hb dX0_clear_13 (by decide) ?_
  refine q1_iast (c := c) (K := 2) (F := upd (upd (upd (f0) 0 (0)) 1 (0)) 2 (0)) hx hb hK hP hD hS 1 rfl (by decide) (by decide) (by decide) rfl dX0_clear_14 (fun H locs hP hD hS => ?_)
  have hP : va_P D vwCl [(a0, .inr (0, [.ref a1, .int x0, .int x1])), (a1, .inl (c 0, 31, .inl (upd (upd (upd (f0) 0 (0)) 1 (0)) 2 (0))))] H := hP
  have hD : va_D A [(a0, .inr (0, [.ref a1, .int x0, .int x1])), (a1, .inl (c 0, 31, .inl (upd (upd (upd (f0) 0 (0)) 1 (0)) 2 (0))))] := hD
  refine lv_iinc (v := 3) (lv' := [(1, .int 3), (0, .ref a0)]) hx hb dX0_clear_15 hl (k := 0) rfl (by decide) (by decide) rfl (fun ls hl => ?_)
  refine lv_goto (tgt := 2) hx hb dX0_clear_18 (by decide) ?_
  refine lv_iload_n hx hb dX0_clear_2 rfl (lv_at hl 0 rfl) ?_
  refine lv_bipush (v := 31) hx hb dX0_clear_3 (by decide) ?_
  refine lv_icmp_ge (tgt := 21) hx hb dX0_clear_5 (by decide) (fun h9 => absurd h9 (by decide)) (fun _ => ?_)
  refine lv_aload_n hx hb dX0_clear_8 rfl (lv_at hl 1 rfl) ?_
  refine va_get (D := D) (ci := 0) (v := .ref a1) (C := RX0) (T := TX0) (N := 3) hx hb hts iX0 hown hK hP 0 rfl rfl 0 (by decide) (hts (.fieldLink RX0 9 "ShortTeller$Facts" "places" "[I") (List.mem_of_getElem? (i := 1) rfl)) (fun _ h9 => h9) rfl dX0_clear_9 ?_
  refine lv_iload_n hx hb dX0_clear_12 rfl (lv_at hl 0 rfl) ?_
  refine lv_iconst (v := 0) hx hb dX0_clear_13 (by decide) ?_
  refine q1_iast (c := c) (K := 3) (F := upd (upd (upd (upd (f0) 0 (0)) 1 (0)) 2 (0)) 3 (0)) hx hb hK hP hD hS 1 rfl (by decide) (by decide) (by decide) rfl dX0_clear_14 (fun H locs hP hD hS => ?_)
  have hP : va_P D vwCl [(a0, .inr (0, [.ref a1, .int x0, .int x1])), (a1, .inl (c 0, 31, .inl (upd (upd (upd (upd (f0) 0 (0)) 1 (0)) 2 (0)) 3 (0))))] H := hP
  have hD : va_D A [(a0, .inr (0, [.ref a1, .int x0, .int x1])), (a1, .inl (c 0, 31, .inl (upd (upd (upd (upd (f0) 0 (0)) 1 (0)) 2 (0)) 3 (0))))] := hD
  refine lv_iinc (v := 4) (lv' := [(1, .int 4), (0, .ref a0)]) hx hb dX0_clear_15 hl (k := 0) rfl (by decide) (by decide) rfl (fun ls hl => ?_)
  refine lv_goto (tgt := 2) hx hb dX0_clear_18 (by decide) ?_
  refine lv_iload_n hx hb dX0_clear_2 rfl (lv_at hl 0 rfl) ?_
  refine lv_bipush (v := 31) hx hb dX0_clear_3 (by decide) ?_
  refine lv_icmp_ge (tgt := 21) hx hb dX0_clear_5 (by decide) (fun h9 => absurd h9 (by decide)) (fun _ => ?_)
  refine lv_aload_n hx hb dX0_clear_8 rfl (lv_at hl 1 rfl) ?_
  refine va_get (D := D) (ci := 0) (v := .ref a1) (C := RX0) (T := TX0) (N := 3) hx hb hts iX0 hown hK hP 0 rfl rfl 0 (by decide) (hts (.fieldLink RX0 9 "ShortTeller$Facts" "places" "[I") (List.mem_of_getElem? (i := 1) rfl)) (fun _ h9 => h9) rfl dX0_clear_9 ?_
  refine lv_iload_n hx hb dX0_clear_12 rfl (lv_at hl 0 rfl) ?_
  refine lv_iconst (v := 0) hx hb dX0_clear_13 (by decide) ?_
  refine q1_iast (c := c) (K := 4) (F := upd (upd (upd (upd (upd (f0) 0 (0)) 1 (0)) 2 (0)) 3 (0)) 4 (0)) hx hb hK hP hD hS 1 rfl (by decide) (by decide) (by decide) rfl dX0_clear_14 (fun H locs hP hD hS => ?_)
  have hP : va_P D vwCl [(a0, .inr (0, [.ref a1, .int x0, .int x1])), (a1, .inl (c 0, 31, .inl (upd (upd (upd (upd (upd (f0) 0 (0)) 1 (0)) 2 (0)) 3 (0)) 4 (0))))] H := hP
  have hD : va_D A [(a0, .inr (0, [.ref a1, .int x0, .int x1])), (a1, .inl (c 0, 31, .inl (upd (upd (upd (upd (upd (f0) 0 (0)) 1 (0)) 2 (0)) 3 (0)) 4 (0))))] := hD
  refine lv_iinc (v := 5) (lv' := [(1, .int 5), (0, .ref a0)]) hx hb dX0_clear_15 hl (k := 0) rfl (by decide) (by decide) rfl (fun ls hl => ?_)
  refine lv_goto (tgt := 2) hx hb dX0_clear_18 (by decide) ?_
  refine lv_iload_n hx hb dX0_clear_2 rfl (lv_at hl 0 rfl) ?_
  refine lv_bipush (v := 31) hx hb dX0_clear_3 (by decide) ?_
  refine lv_icmp_ge (tgt := 21) hx hb dX0_clear_5 (by decide) (fun h9 => absurd h9 (by decide)) (fun _ => ?_)
  refine lv_aload_n hx hb dX0_clear_8 rfl (lv_at hl 1 rfl) ?_
  refine va_get (D := D) (ci := 0) (v := .ref a1) (C := RX0) (T := TX0) (N := 3) hx hb hts iX0 hown hK hP 0 rfl rfl 0 (by decide) (hts (.fieldLink RX0 9 "ShortTeller$Facts" "places" "[I") (List.mem_of_getElem? (i := 1) rfl)) (fun _ h9 => h9) rfl dX0_clear_9 ?_
  refine lv_iload_n hx hb dX0_clear_12 rfl (lv_at hl 0 rfl) ?_
  refine lv_iconst (v := 0) hx hb dX0_clear_13 (by decide) ?_
  refine q1_iast (c := c) (K := 5) (F := upd (upd (upd (upd (upd (upd (f0) 0 (0)) 1 (0)) 2 (0)) 3 (0)) 4 (0)) 5 (0)) hx hb hK hP hD hS 1 rfl (by decide) (by decide) (by decide) rfl dX0_clear_14 (fun H locs hP hD hS => ?_)
  have hP : va_P D vwCl [(a0, .inr (0, [.ref a1, .int x0, .int x1])), (a1, .inl (c 0, 31, .inl (upd (upd (upd (upd (upd (upd (f0) 0 (0)) 1 (0)) 2 (0)) 3 (0)) 4 (0)) 5 (0))))] H := hP
  have hD : va_D A [(a0, .inr (0, [.ref a1, .int x0, .int x1])), (a1, .inl (c 0, 31, .inl (upd (upd (upd (upd (upd (upd (f0) 0 (0)) 1 (0)) 2 (0)) 3 (0)) 4 (0)) 5 (0))))] := hD
  refine lv_iinc (v := 6) (lv' := [(1, .int 6), (0, .ref a0)]) hx hb dX0_clear_15 hl (k := 0) rfl (by decide) (by decide) rfl (fun ls hl => ?_)
  refine lv_goto (tgt := 2) hx hb dX0_clear_18 (by decide) ?_
  refine lv_iload_n hx hb dX0_clear_2 rfl (lv_at hl 0 rfl) ?_
  refine lv_bipush (v := 31) hx hb dX0_clear_3 (by decide) ?_
  refine lv_icmp_ge (tgt := 21) hx hb dX0_clear_5 (by decide) (fun h9 => absurd h9 (by decide)) (fun _ => ?_)
  refine lv_aload_n hx hb dX0_clear_8 rfl (lv_at hl 1 rfl) ?_
  refine va_get (D := D) (ci := 0) (v := .ref a1) (C := RX0) (T := TX0) (N := 3) hx hb hts iX0 hown hK hP 0 rfl rfl 0 (by decide) (hts (.fieldLink RX0 9 "ShortTeller$Facts" "places" "[I") (List.mem_of_getElem? (i := 1) rfl)) (fun _ h9 => h9) rfl dX0_clear_9 ?_
  refine lv_iload_n hx hb dX0_clear_12 rfl (lv_at hl 0 rfl) ?_
  refine lv_iconst (v := 0) hx hb dX0_clear_13 (by decide) ?_
  refine q1_iast (c := c) (K := 6) (F := upd (upd (upd (upd (upd (upd (upd (f0) 0 (0)) 1 (0)) 2 (0)) 3 (0)) 4 (0)) 5 (0)) 6 (0)) hx hb hK hP hD hS 1 rfl (by decide) (by decide) (by decide) rfl dX0_clear_14 (fun H locs hP hD hS => ?_)
  have hP : va_P D vwCl [(a0, .inr (0, [.ref a1, .int x0, .int x1])), (a1, .inl (c 0, 31, .inl (upd (upd (upd (upd (upd (upd (upd (f0) 0 (0)) 1 (0)) 2 (0)) 3 (0)) 4 (0)) 5 (0)) 6 (0))))] H := hP
  have hD : va_D A [(a0, .inr (0, [.ref a1, .int x0, .int x1])), (a1, .inl (c 0, 31, .inl (upd (upd (upd (upd (upd (upd (upd (f0) 0 (0)) 1 (0)) 2 (0)) 3 (0)) 4 (0)) 5 (0)) 6 (0))))] := hD
  refine lv_iinc (v := 7) (lv' := [(1, .int 7), (0, .ref a0)]) hx hb dX0_clear_15 hl (k := 0) rfl (by decide) (by decide) rfl (fun ls hl => ?_)
  refine lv_goto (tgt := 2) hx hb dX0_clear_18 (by decide) ?_
  refine lv_iload_n hx hb dX0_clear_2 rfl (lv_at hl 0 rfl) ?_
  refine lv_bipush (v := 31) hx hb dX0_clear_3 (by decide) ?_
  refine lv_icmp_ge (tgt := 21) hx hb dX0_clear_5 (by decide) (fun h9 => absurd h9 (by decide)) (fun _ => ?_)
  refine lv_aload_n hx hb dX0_clear_8 rfl (lv_at hl 1 rfl) ?_
  refine va_get (D := D) (ci := 0) (v := .ref a1) (C := RX0) (T := TX0) (N := 3) hx hb hts iX0 hown hK hP 0 rfl rfl 0 (by decide) (hts (.fieldLink RX0 9 "ShortTeller$Facts" "places" "[I") (List.mem_of_getElem? (i := 1) rfl)) (fun _ h9 => h9) rfl dX0_clear_9 ?_
  refine lv_iload_n hx hb dX0_clear_12 rfl (lv_at hl 0 rfl) ?_
  refine lv_iconst (v := 0) hx hb dX0_clear_13 (by decide) ?_
  refine q1_iast (c := c) (K := 7) (F := upd (upd (upd (upd (upd (upd (upd (upd (f0) 0 (0)) 1 (0)) 2 (0)) 3 (0)) 4 (0)) 5 (0)) 6 (0)) 7 (0)) hx hb hK hP hD hS 1 rfl (by decide) (by decide) (by decide) rfl dX0_clear_14 (fun H locs hP hD hS => ?_)
  have hP : va_P D vwCl [(a0, .inr (0, [.ref a1, .int x0, .int x1])), (a1, .inl (c 0, 31, .inl (upd (upd (upd (upd (upd (upd (upd (upd (f0) 0 (0)) 1 (0)) 2 (0)) 3 (0)) 4 (0)) 5 (0)) 6 (0)) 7 (0))))] H := hP
  have hD : va_D A [(a0, .inr (0, [.ref a1, .int x0, .int x1])), (a1, .inl (c 0, 31, .inl (upd (upd (upd (upd (upd (upd (upd (upd (f0) 0 (0)) 1 (0)) 2 (0)) 3 (0)) 4 (0)) 5 (0)) 6 (0)) 7 (0))))] := hD
  refine lv_iinc (v := 8) (lv' := [(1, .int 8), (0, .ref a0)]) hx hb dX0_clear_15 hl (k := 0) rfl (by decide) (by decide) rfl (fun ls hl => ?_)
  refine lv_goto (tgt := 2) hx hb dX0_clear_18 (by decide) ?_
  refine lv_iload_n hx hb dX0_clear_2 rfl (lv_at hl 0 rfl) ?_
  refine lv_bipush (v := 31) hx hb dX0_clear_3 (by decide) ?_
  refine lv_icmp_ge (tgt := 21) hx hb dX0_clear_5 (by decide) (fun h9 => absurd h9 (by decide)) (fun _ => ?_)
  refine lv_aload_n hx hb dX0_clear_8 rfl (lv_at hl 1 rfl) ?_
  refine va_get (D := D) (ci := 0) (v := .ref a1) (C := RX0) (T := TX0) (N := 3) hx hb hts iX0 hown hK hP 0 rfl rfl 0 (by decide) (hts (.fieldLink RX0 9 "ShortTeller$Facts" "places" "[I") (List.mem_of_getElem? (i := 1) rfl)) (fun _ h9 => h9) rfl dX0_clear_9 ?_
  refine lv_iload_n hx hb dX0_clear_12 rfl (lv_at hl 0 rfl) ?_
  refine lv_iconst (v := 0) hx hb dX0_clear_13 (by decide) ?_
  refine q1_iast (c := c) (K := 8) (F := upd (upd (upd (upd (upd (upd (upd (upd (upd (f0) 0 (0)) 1 (0)) 2 (0)) 3 (0)) 4 (0)) 5 (0)) 6 (0)) 7 (0)) 8 (0)) hx hb hK hP hD hS 1 rfl (by decide) (by decide) (by decide) rfl dX0_clear_14 (fun H locs hP hD hS => ?_)
  have hP : va_P D vwCl [(a0, .inr (0, [.ref a1, .int x0, .int x1])), (a1, .inl (c 0, 31, .inl (upd (upd (upd (upd (upd (upd (upd (upd (upd (f0) 0 (0)) 1 (0)) 2 (0)) 3 (0)) 4 (0)) 5 (0)) 6 (0)) 7 (0)) 8 (0))))] H := hP
  have hD : va_D A [(a0, .inr (0, [.ref a1, .int x0, .int x1])), (a1, .inl (c 0, 31, .inl (upd (upd (upd (upd (upd (upd (upd (upd (upd (f0) 0 (0)) 1 (0)) 2 (0)) 3 (0)) 4 (0)) 5 (0)) 6 (0)) 7 (0)) 8 (0))))] := hD
  refine lv_iinc (v := 9) (lv' := [(1, .int 9), (0, .ref a0)]) hx hb dX0_clear_15 hl (k := 0) rfl (by decide) (by decide) rfl (fun ls hl => ?_)
  refine lv_goto (tgt := 2) hx hb dX0_clear_18 (by decide) ?_
  refine lv_iload_n hx hb dX0_clear_2 rfl (lv_at hl 0 rfl) ?_
  refine lv_bipush (v := 31) hx hb dX0_clear_3 (by decide) ?_
  refine lv_icmp_ge (tgt := 21) hx hb dX0_clear_5 (by decide) (fun h9 => absurd h9 (by decide)) (fun _ => ?_)
  refine lv_aload_n hx hb dX0_clear_8 rfl (lv_at hl 1 rfl) ?_
  refine va_get (D := D) (ci := 0) (v := .ref a1) (C := RX0) (T := TX0) (N := 3) hx hb hts iX0 hown hK hP 0 rfl rfl 0 (by decide) (hts (.fieldLink RX0 9 "ShortTeller$Facts" "places" "[I") (List.mem_of_getElem? (i := 1) rfl)) (fun _ h9 => h9) rfl dX0_clear_9 ?_
  refine lv_iload_n hx hb dX0_clear_12 rfl (lv_at hl 0 rfl) ?_
  refine lv_iconst (v := 0) hx hb dX0_clear_13 (by decide) ?_
  refine q1_iast (c := c) (K := 9) (F := upd (upd (upd (upd (upd (upd (upd (upd (upd (upd (f0) 0 (0)) 1 (0)) 2 (0)) 3 (0)) 4 (0)) 5 (0)) 6 (0)) 7 (0)) 8 (0)) 9 (0)) hx hb hK hP hD hS 1 rfl (by decide) (by decide) (by decide) rfl dX0_clear_14 (fun H locs hP hD hS => ?_)
  have hP : va_P D vwCl [(a0, .inr (0, [.ref a1, .int x0, .int x1])), (a1, .inl (c 0, 31, .inl (upd (upd (upd (upd (upd (upd (upd (upd (upd (upd (f0) 0 (0)) 1 (0)) 2 (0)) 3 (0)) 4 (0)) 5 (0)) 6 (0)) 7 (0)) 8 (0)) 9 (0))))] H := hP
  have hD : va_D A [(a0, .inr (0, [.ref a1, .int x0, .int x1])), (a1, .inl (c 0, 31, .inl (upd (upd (upd (upd (upd (upd (upd (upd (upd (upd (f0) 0 (0)) 1 (0)) 2 (0)) 3 (0)) 4 (0)) 5 (0)) 6 (0)) 7 (0)) 8 (0)) 9 (0))))] := hD
  refine lv_iinc (v := 10) (lv' := [(1, .int 10), (0, .ref a0)]) hx hb dX0_clear_15 hl (k := 0) rfl (by decide) (by decide) rfl (fun ls hl => ?_)
  refine lv_goto (tgt := 2) hx hb dX0_clear_18 (by decide) ?_
  refine lv_iload_n hx hb dX0_clear_2 rfl (lv_at hl 0 rfl) ?_
  refine lv_bipush (v := 31) hx hb dX0_clear_3 (by decide) ?_
  refine lv_icmp_ge (tgt := 21) hx hb dX0_clear_5 (by decide) (fun h9 => absurd h9 (by decide)) (fun _ => ?_)
  refine lv_aload_n hx hb dX0_clear_8 rfl (lv_at hl 1 rfl) ?_
  refine va_get (D := D) (ci := 0) (v := .ref a1) (C := RX0) (T := TX0) (N := 3) hx hb hts iX0 hown hK hP 0 rfl rfl 0 (by decide) (hts (.fieldLink RX0 9 "ShortTeller$Facts" "places" "[I") (List.mem_of_getElem? (i := 1) rfl)) (fun _ h9 => h9) rfl dX0_clear_9 ?_
  refine lv_iload_n hx hb dX0_clear_12 rfl (lv_at hl 0 rfl) ?_
  refine lv_iconst (v := 0) hx hb dX0_clear_13 (by decide) ?_
  refine q1_iast (c := c) (K := 10) (F := upd (upd (upd (upd (upd (upd (upd (upd (upd (upd (upd (f0) 0 (0)) 1 (0)) 2 (0)) 3 (0)) 4 (0)) 5 (0)) 6 (0)) 7 (0)) 8 (0)) 9 (0)) 10 (0)) hx hb hK hP hD hS 1 rfl (by decide) (by decide) (by decide) rfl dX0_clear_14 (fun H locs hP hD hS => ?_)
  have hP : va_P D vwCl [(a0, .inr (0, [.ref a1, .int x0, .int x1])), (a1, .inl (c 0, 31, .inl (upd (upd (upd (upd (upd (upd (upd (upd (upd (upd (upd (f0) 0 (0)) 1 (0)) 2 (0)) 3 (0)) 4 (0)) 5 (0)) 6 (0)) 7 (0)) 8 (0)) 9 (0)) 10 (0))))] H := hP
  have hD : va_D A [(a0, .inr (0, [.ref a1, .int x0, .int x1])), (a1, .inl (c 0, 31, .inl (upd (upd (upd (upd (upd (upd (upd (upd (upd (upd (upd (f0) 0 (0)) 1 (0)) 2 (0)) 3 (0)) 4 (0)) 5 (0)) 6 (0)) 7 (0)) 8 (0)) 9 (0)) 10 (0))))] := hD
  refine lv_iinc (v := 11) (lv' := [(1, .int 11), (0, .ref a0)]) hx hb dX0_clear_15 hl (k := 0) rfl (by decide) (by decide) rfl (fun ls hl => ?_)
  refine lv_goto (tgt := 2) hx hb dX0_clear_18 (by decide) ?_
  refine lv_iload_n hx hb dX0_clear_2 rfl (lv_at hl 0 rfl) ?_
  refine lv_bipush (v := 31) hx hb dX0_clear_3 (by decide) ?_
  refine lv_icmp_ge (tgt := 21) hx hb dX0_clear_5 (by decide) (fun h9 => absurd h9 (by decide)) (fun _ => ?_)
  refine lv_aload_n hx hb dX0_clear_8 rfl (lv_at hl 1 rfl) ?_
  refine va_get (D := D) (ci := 0) (v := .ref a1) (C := RX0) (T := TX0) (N := 3) hx hb hts iX0 hown hK hP 0 rfl rfl 0 (by decide) (hts (.fieldLink RX0 9 "ShortTeller$Facts" "places" "[I") (List.mem_of_getElem? (i := 1) rfl)) (fun _ h9 => h9) rfl dX0_clear_9 ?_
  refine lv_iload_n hx hb dX0_clear_12 rfl (lv_at hl 0 rfl) ?_
  refine lv_iconst (v := 0) hx hb dX0_clear_13 (by decide) ?_
  refine q1_iast (c := c) (K := 11) (F := upd (upd (upd (upd (upd (upd (upd (upd (upd (upd (upd (upd (f0) 0 (0)) 1 (0)) 2 (0)) 3 (0)) 4 (0)) 5 (0)) 6 (0)) 7 (0)) 8 (0)) 9 (0)) 10 (0)) 11 (0)) hx hb hK hP hD hS 1 rfl (by decide) (by decide) (by decide) rfl dX0_clear_14 (fun H locs hP hD hS => ?_)
  have hP : va_P D vwCl [(a0, .inr (0, [.ref a1, .int x0, .int x1])), (a1, .inl (c 0, 31, .inl (upd (upd (upd (upd (upd (upd (upd (upd (upd (upd (upd (upd (f0) 0 (0)) 1 (0)) 2 (0)) 3 (0)) 4 (0)) 5 (0)) 6 (0)) 7 (0)) 8 (0)) 9 (0)) 10 (0)) 11 (0))))] H := hP
  have hD : va_D A [(a0, .inr (0, [.ref a1, .int x0, .int x1])), (a1, .inl (c 0, 31, .inl (upd (upd (upd (upd (upd (upd (upd (upd (upd (upd (upd (upd (f0) 0 (0)) 1 (0)) 2 (0)) 3 (0)) 4 (0)) 5 (0)) 6 (0)) 7 (0)) 8 (0)) 9 (0)) 10 (0)) 11 (0))))] := hD
  refine lv_iinc (v := 12) (lv' := [(1, .int 12), (0, .ref a0)]) hx hb dX0_clear_15 hl (k := 0) rfl (by decide) (by decide) rfl (fun ls hl => ?_)
  refine lv_goto (tgt := 2) hx hb dX0_clear_18 (by decide) ?_
  refine lv_iload_n hx hb dX0_clear_2 rfl (lv_at hl 0 rfl) ?_
  refine lv_bipush (v := 31) hx hb dX0_clear_3 (by decide) ?_
  refine lv_icmp_ge (tgt := 21) hx hb dX0_clear_5 (by decide) (fun h9 => absurd h9 (by decide)) (fun _ => ?_)
  refine lv_aload_n hx hb dX0_clear_8 rfl (lv_at hl 1 rfl) ?_
  refine va_get (D := D) (ci := 0) (v := .ref a1) (C := RX0) (T := TX0) (N := 3) hx hb hts iX0 hown hK hP 0 rfl rfl 0 (by decide) (hts (.fieldLink RX0 9 "ShortTeller$Facts" "places" "[I") (List.mem_of_getElem? (i := 1) rfl)) (fun _ h9 => h9) rfl dX0_clear_9 ?_
  refine lv_iload_n hx hb dX0_clear_12 rfl (lv_at hl 0 rfl) ?_
  refine lv_iconst (v := 0) hx hb dX0_clear_13 (by decide) ?_
  refine q1_iast (c := c) (K := 12) (F := upd (upd (upd (upd (upd (upd (upd (upd (upd (upd (upd (upd (upd (f0) 0 (0)) 1 (0)) 2 (0)) 3 (0)) 4 (0)) 5 (0)) 6 (0)) 7 (0)) 8 (0)) 9 (0)) 10 (0)) 11 (0)) 12 (0)) hx hb hK hP hD hS 1 rfl (by decide) (by decide) (by decide) rfl dX0_clear_14 (fun H locs hP hD hS => ?_)
  have hP : va_P D vwCl [(a0, .inr (0, [.ref a1, .int x0, .int x1])), (a1, .inl (c 0, 31, .inl (upd (upd (upd (upd (upd (upd (upd (upd (upd (upd (upd (upd (upd (f0) 0 (0)) 1 (0)) 2 (0)) 3 (0)) 4 (0)) 5 (0)) 6 (0)) 7 (0)) 8 (0)) 9 (0)) 10 (0)) 11 (0)) 12 (0))))] H := hP
  have hD : va_D A [(a0, .inr (0, [.ref a1, .int x0, .int x1])), (a1, .inl (c 0, 31, .inl (upd (upd (upd (upd (upd (upd (upd (upd (upd (upd (upd (upd (upd (f0) 0 (0)) 1 (0)) 2 (0)) 3 (0)) 4 (0)) 5 (0)) 6 (0)) 7 (0)) 8 (0)) 9 (0)) 10 (0)) 11 (0)) 12 (0))))] := hD
  refine lv_iinc (v := 13) (lv' := [(1, .int 13), (0, .ref a0)]) hx hb dX0_clear_15 hl (k := 0) rfl (by decide) (by decide) rfl (fun ls hl => ?_)
  refine lv_goto (tgt := 2) hx hb dX0_clear_18 (by decide) ?_
  refine lv_iload_n hx hb dX0_clear_2 rfl (lv_at hl 0 rfl) ?_
  refine lv_bipush (v := 31) hx hb dX0_clear_3 (by decide) ?_
  refine lv_icmp_ge (tgt := 21) hx hb dX0_clear_5 (by decide) (fun h9 => absurd h9 (by decide)) (fun _ => ?_)
  refine lv_aload_n hx hb dX0_clear_8 rfl (lv_at hl 1 rfl) ?_
  refine va_get (D := D) (ci := 0) (v := .ref a1) (C := RX0) (T := TX0) (N := 3) hx hb hts iX0 hown hK hP 0 rfl rfl 0 (by decide) (hts (.fieldLink RX0 9 "ShortTeller$Facts" "places" "[I") (List.mem_of_getElem? (i := 1) rfl)) (fun _ h9 => h9) rfl dX0_clear_9 ?_
  refine lv_iload_n hx hb dX0_clear_12 rfl (lv_at hl 0 rfl) ?_
  refine lv_iconst (v := 0) hx hb dX0_clear_13 (by decide) ?_
  refine q1_iast (c := c) (K := 13) (F := upd (upd (upd (upd (upd (upd (upd (upd (upd (upd (upd (upd (upd (upd (f0) 0 (0)) 1 (0)) 2 (0)) 3 (0)) 4 (0)) 5 (0)) 6 (0)) 7 (0)) 8 (0)) 9 (0)) 10 (0)) 11 (0)) 12 (0)) 13 (0)) hx hb hK hP hD hS 1 rfl (by decide) (by decide) (by decide) rfl dX0_clear_14 (fun H locs hP hD hS => ?_)
  have hP : va_P D vwCl [(a0, .inr (0, [.ref a1, .int x0, .int x1])), (a1, .inl (c 0, 31, .inl (upd (upd (upd (upd (upd (upd (upd (upd (upd (upd (upd (upd (upd (upd (f0) 0 (0)) 1 (0)) 2 (0)) 3 (0)) 4 (0)) 5 (0)) 6 (0)) 7 (0)) 8 (0)) 9 (0)) 10 (0)) 11 (0)) 12 (0)) 13 (0))))] H := hP
  have hD : va_D A [(a0, .inr (0, [.ref a1, .int x0, .int x1])), (a1, .inl (c 0, 31, .inl (upd (upd (upd (upd (upd (upd (upd (upd (upd (upd (upd (upd (upd (upd (f0) 0 (0)) 1 (0)) 2 (0)) 3 (0)) 4 (0)) 5 (0)) 6 (0)) 7 (0)) 8 (0)) 9 (0)) 10 (0)) 11 (0)) 12 (0)) 13 (0))))] := hD
  refine lv_iinc (v := 14) (lv' := [(1, .int 14), (0, .ref a0)]) hx hb dX0_clear_15 hl (k := 0) rfl (by decide) (by decide) rfl (fun ls hl => ?_)
  refine lv_goto (tgt := 2) hx hb dX0_clear_18 (by decide) ?_
  refine lv_iload_n hx hb dX0_clear_2 rfl (lv_at hl 0 rfl) ?_
  refine lv_bipush (v := 31) hx hb dX0_clear_3 (by decide) ?_
  refine lv_icmp_ge (tgt := 21) hx hb dX0_clear_5 (by decide) (fun h9 => absurd h9 (by decide)) (fun _ => ?_)
  refine lv_aload_n hx hb dX0_clear_8 rfl (lv_at hl 1 rfl) ?_
  refine va_get (D := D) (ci := 0) (v := .ref a1) (C := RX0) (T := TX0) (N := 3) hx hb hts iX0 hown hK hP 0 rfl rfl 0 (by decide) (hts (.fieldLink RX0 9 "ShortTeller$Facts" "places" "[I") (List.mem_of_getElem? (i := 1) rfl)) (fun _ h9 => h9) rfl dX0_clear_9 ?_
  refine lv_iload_n hx hb dX0_clear_12 rfl (lv_at hl 0 rfl) ?_
  refine lv_iconst (v := 0) hx hb dX0_clear_13 (by decide) ?_
  refine q1_iast (c := c) (K := 14) (F := upd (upd (upd (upd (upd (upd (upd (upd (upd (upd (upd (upd (upd (upd (upd (f0) 0 (0)) 1 (0)) 2 (0)) 3 (0)) 4 (0)) 5 (0)) 6 (0)) 7 (0)) 8 (0)) 9 (0)) 10 (0)) 11 (0)) 12 (0)) 13 (0)) 14 (0)) hx hb hK hP hD hS 1 rfl (by decide) (by decide) (by decide) rfl dX0_clear_14 (fun H locs hP hD hS => ?_)
  have hP : va_P D vwCl [(a0, .inr (0, [.ref a1, .int x0, .int x1])), (a1, .inl (c 0, 31, .inl (upd (upd (upd (upd (upd (upd (upd (upd (upd (upd (upd (upd (upd (upd (upd (f0) 0 (0)) 1 (0)) 2 (0)) 3 (0)) 4 (0)) 5 (0)) 6 (0)) 7 (0)) 8 (0)) 9 (0)) 10 (0)) 11 (0)) 12 (0)) 13 (0)) 14 (0))))] H := hP
  have hD : va_D A [(a0, .inr (0, [.ref a1, .int x0, .int x1])), (a1, .inl (c 0, 31, .inl (upd (upd (upd (upd (upd (upd (upd (upd (upd (upd (upd (upd (upd (upd (upd (f0) 0 (0)) 1 (0)) 2 (0)) 3 (0)) 4 (0)) 5 (0)) 6 (0)) 7 (0)) 8 (0)) 9 (0)) 10 (0)) 11 (0)) 12 (0)) 13 (0)) 14 (0))))] := hD
  refine lv_iinc (v := 15) (lv' := [(1, .int 15), (0, .ref a0)]) hx hb dX0_clear_15 hl (k := 0) rfl (by decide) (by decide) rfl (fun ls hl => ?_)
  refine lv_goto (tgt := 2) hx hb dX0_clear_18 (by decide) ?_
  refine lv_iload_n hx hb dX0_clear_2 rfl (lv_at hl 0 rfl) ?_
  refine lv_bipush (v := 31) hx hb dX0_clear_3 (by decide) ?_
  refine lv_icmp_ge (tgt := 21) hx hb dX0_clear_5 (by decide) (fun h9 => absurd h9 (by decide)) (fun _ => ?_)
  refine lv_aload_n hx hb dX0_clear_8 rfl (lv_at hl 1 rfl) ?_
  refine va_get (D := D) (ci := 0) (v := .ref a1) (C := RX0) (T := TX0) (N := 3) hx hb hts iX0 hown hK hP 0 rfl rfl 0 (by decide) (hts (.fieldLink RX0 9 "ShortTeller$Facts" "places" "[I") (List.mem_of_getElem? (i := 1) rfl)) (fun _ h9 => h9) rfl dX0_clear_9 ?_
  refine lv_iload_n hx hb dX0_clear_12 rfl (lv_at hl 0 rfl) ?_
  refine lv_iconst (v := 0) hx hb dX0_clear_13 (by decide) ?_
  refine q1_iast (c := c) (K := 15) (F := upd (upd (upd (upd (upd (upd (upd (upd (upd (upd (upd (upd (upd (upd (upd (upd (f0) 0 (0)) 1 (0)) 2 (0)) 3 (0)) 4 (0)) 5 (0)) 6 (0)) 7 (0)) 8 (0)) 9 (0)) 10 (0)) 11 (0)) 12 (0)) 13 (0)) 14 (0)) 15 (0)) hx hb hK hP hD hS 1 rfl (by decide) (by decide) (by decide) rfl dX0_clear_14 (fun H locs hP hD hS => ?_)
  have hP : va_P D vwCl [(a0, .inr (0, [.ref a1, .int x0, .int x1])), (a1, .inl (c 0, 31, .inl (upd (upd (upd (upd (upd (upd (upd (upd (upd (upd (upd (upd (upd (upd (upd (upd (f0) 0 (0)) 1 (0)) 2 (0)) 3 (0)) 4 (0)) 5 (0)) 6 (0)) 7 (0)) 8 (0)) 9 (0)) 10 (0)) 11 (0)) 12 (0)) 13 (0)) 14 (0)) 15 (0))))] H := hP
  have hD : va_D A [(a0, .inr (0, [.ref a1, .int x0, .int x1])), (a1, .inl (c 0, 31, .inl (upd (upd (upd (upd (upd (upd (upd (upd (upd (upd (upd (upd (upd (upd (upd (upd (f0) 0 (0)) 1 (0)) 2 (0)) 3 (0)) 4 (0)) 5 (0)) 6 (0)) 7 (0)) 8 (0)) 9 (0)) 10 (0)) 11 (0)) 12 (0)) 13 (0)) 14 (0)) 15 (0))))] := hD
  refine lv_iinc (v := 16) (lv' := [(1, .int 16), (0, .ref a0)]) hx hb dX0_clear_15 hl (k := 0) rfl (by decide) (by decide) rfl (fun ls hl => ?_)
  refine lv_goto (tgt := 2) hx hb dX0_clear_18 (by decide) ?_
  refine lv_iload_n hx hb dX0_clear_2 rfl (lv_at hl 0 rfl) ?_
  refine lv_bipush (v := 31) hx hb dX0_clear_3 (by decide) ?_
  refine lv_icmp_ge (tgt := 21) hx hb dX0_clear_5 (by decide) (fun h9 => absurd h9 (by decide)) (fun _ => ?_)
  refine lv_aload_n hx hb dX0_clear_8 rfl (lv_at hl 1 rfl) ?_
  refine va_get (D := D) (ci := 0) (v := .ref a1) (C := RX0) (T := TX0) (N := 3) hx hb hts iX0 hown hK hP 0 rfl rfl 0 (by decide) (hts (.fieldLink RX0 9 "ShortTeller$Facts" "places" "[I") (List.mem_of_getElem? (i := 1) rfl)) (fun _ h9 => h9) rfl dX0_clear_9 ?_
  refine lv_iload_n hx hb dX0_clear_12 rfl (lv_at hl 0 rfl) ?_
  refine lv_iconst (v := 0) hx hb dX0_clear_13 (by decide) ?_
  refine q1_iast (c := c) (K := 16) (F := upd (upd (upd (upd (upd (upd (upd (upd (upd (upd (upd (upd (upd (upd (upd (upd (upd (f0) 0 (0)) 1 (0)) 2 (0)) 3 (0)) 4 (0)) 5 (0)) 6 (0)) 7 (0)) 8 (0)) 9 (0)) 10 (0)) 11 (0)) 12 (0)) 13 (0)) 14 (0)) 15 (0)) 16 (0)) hx hb hK hP hD hS 1 rfl (by decide) (by decide) (by decide) rfl dX0_clear_14 (fun H locs hP hD hS => ?_)
  have hP : va_P D vwCl [(a0, .inr (0, [.ref a1, .int x0, .int x1])), (a1, .inl (c 0, 31, .inl (upd (upd (upd (upd (upd (upd (upd (upd (upd (upd (upd (upd (upd (upd (upd (upd (upd (f0) 0 (0)) 1 (0)) 2 (0)) 3 (0)) 4 (0)) 5 (0)) 6 (0)) 7 (0)) 8 (0)) 9 (0)) 10 (0)) 11 (0)) 12 (0)) 13 (0)) 14 (0)) 15 (0)) 16 (0))))] H := hP
  have hD : va_D A [(a0, .inr (0, [.ref a1, .int x0, .int x1])), (a1, .inl (c 0, 31, .inl (upd (upd (upd (upd (upd (upd (upd (upd (upd (upd (upd (upd (upd (upd (upd (upd (upd (f0) 0 (0)) 1 (0)) 2 (0)) 3 (0)) 4 (0)) 5 (0)) 6 (0)) 7 (0)) 8 (0)) 9 (0)) 10 (0)) 11 (0)) 12 (0)) 13 (0)) 14 (0)) 15 (0)) 16 (0))))] := hD
  refine lv_iinc (v := 17) (lv' := [(1, .int 17), (0, .ref a0)]) hx hb dX0_clear_15 hl (k := 0) rfl (by decide) (by decide) rfl (fun ls hl => ?_)
  refine lv_goto (tgt := 2) hx hb dX0_clear_18 (by decide) ?_
  refine lv_iload_n hx hb dX0_clear_2 rfl (lv_at hl 0 rfl) ?_
  refine lv_bipush (v := 31) hx hb dX0_clear_3 (by decide) ?_
  refine lv_icmp_ge (tgt := 21) hx hb dX0_clear_5 (by decide) (fun h9 => absurd h9 (by decide)) (fun _ => ?_)
  refine lv_aload_n hx hb dX0_clear_8 rfl (lv_at hl 1 rfl) ?_
  refine va_get (D := D) (ci := 0) (v := .ref a1) (C := RX0) (T := TX0) (N := 3) hx hb hts iX0 hown hK hP 0 rfl rfl 0 (by decide) (hts (.fieldLink RX0 9 "ShortTeller$Facts" "places" "[I") (List.mem_of_getElem? (i := 1) rfl)) (fun _ h9 => h9) rfl dX0_clear_9 ?_
  refine lv_iload_n hx hb dX0_clear_12 rfl (lv_at hl 0 rfl) ?_
  refine lv_iconst (v := 0) hx hb dX0_clear_13 (by decide) ?_
  refine q1_iast (c := c) (K := 17) (F := upd (upd (upd (upd (upd (upd (upd (upd (upd (upd (upd (upd (upd (upd (upd (upd (upd (upd (f0) 0 (0)) 1 (0)) 2 (0)) 3 (0)) 4 (0)) 5 (0)) 6 (0)) 7 (0)) 8 (0)) 9 (0)) 10 (0)) 11 (0)) 12 (0)) 13 (0)) 14 (0)) 15 (0)) 16 (0)) 17 (0)) hx hb hK hP hD hS 1 rfl (by decide) (by decide) (by decide) rfl dX0_clear_14 (fun H locs hP hD hS => ?_)
  have hP : va_P D vwCl [(a0, .inr (0, [.ref a1, .int x0, .int x1])), (a1, .inl (c 0, 31, .inl (upd (upd (upd (upd (upd (upd (upd (upd (upd (upd (upd (upd (upd (upd (upd (upd (upd (upd (f0) 0 (0)) 1 (0)) 2 (0)) 3 (0)) 4 (0)) 5 (0)) 6 (0)) 7 (0)) 8 (0)) 9 (0)) 10 (0)) 11 (0)) 12 (0)) 13 (0)) 14 (0)) 15 (0)) 16 (0)) 17 (0))))] H := hP
  have hD : va_D A [(a0, .inr (0, [.ref a1, .int x0, .int x1])), (a1, .inl (c 0, 31, .inl (upd (upd (upd (upd (upd (upd (upd (upd (upd (upd (upd (upd (upd (upd (upd (upd (upd (upd (f0) 0 (0)) 1 (0)) 2 (0)) 3 (0)) 4 (0)) 5 (0)) 6 (0)) 7 (0)) 8 (0)) 9 (0)) 10 (0)) 11 (0)) 12 (0)) 13 (0)) 14 (0)) 15 (0)) 16 (0)) 17 (0))))] := hD
  refine lv_iinc (v := 18) (lv' := [(1, .int 18), (0, .ref a0)]) hx hb dX0_clear_15 hl (k := 0) rfl (by decide) (by decide) rfl (fun ls hl => ?_)
  refine lv_goto (tgt := 2) hx hb dX0_clear_18 (by decide) ?_
  refine lv_iload_n hx hb dX0_clear_2 rfl (lv_at hl 0 rfl) ?_
  refine lv_bipush (v := 31) hx hb dX0_clear_3 (by decide) ?_
  refine lv_icmp_ge (tgt := 21) hx hb dX0_clear_5 (by decide) (fun h9 => absurd h9 (by decide)) (fun _ => ?_)
  refine lv_aload_n hx hb dX0_clear_8 rfl (lv_at hl 1 rfl) ?_
  refine va_get (D := D) (ci := 0) (v := .ref a1) (C := RX0) (T := TX0) (N := 3) hx hb hts iX0 hown hK hP 0 rfl rfl 0 (by decide) (hts (.fieldLink RX0 9 "ShortTeller$Facts" "places" "[I") (List.mem_of_getElem? (i := 1) rfl)) (fun _ h9 => h9) rfl dX0_clear_9 ?_
  refine lv_iload_n hx hb dX0_clear_12 rfl (lv_at hl 0 rfl) ?_
  refine lv_iconst (v := 0) hx hb dX0_clear_13 (by decide) ?_
  refine q1_iast (c := c) (K := 18) (F := upd (upd (upd (upd (upd (upd (upd (upd (upd (upd (upd (upd (upd (upd (upd (upd (upd (upd (upd (f0) 0 (0)) 1 (0)) 2 (0)) 3 (0)) 4 (0)) 5 (0)) 6 (0)) 7 (0)) 8 (0)) 9 (0)) 10 (0)) 11 (0)) 12 (0)) 13 (0)) 14 (0)) 15 (0)) 16 (0)) 17 (0)) 18 (0)) hx hb hK hP hD hS 1 rfl (by decide) (by decide) (by decide) rfl dX0_clear_14 (fun H locs hP hD hS => ?_)
  have hP : va_P D vwCl [(a0, .inr (0, [.ref a1, .int x0, .int x1])), (a1, .inl (c 0, 31, .inl (upd (upd (upd (upd (upd (upd (upd (upd (upd (upd (upd (upd (upd (upd (upd (upd (upd (upd (upd (f0) 0 (0)) 1 (0)) 2 (0)) 3 (0)) 4 (0)) 5 (0)) 6 (0)) 7 (0)) 8 (0)) 9 (0)) 10 (0)) 11 (0)) 12 (0)) 13 (0)) 14 (0)) 15 (0)) 16 (0)) 17 (0)) 18 (0))))] H := hP
  have hD : va_D A [(a0, .inr (0, [.ref a1, .int x0, .int x1])), (a1, .inl (c 0, 31, .inl (upd (upd (upd (upd (upd (upd (upd (upd (upd (upd (upd (upd (upd (upd (upd (upd (upd (upd (upd (f0) 0 (0)) 1 (0)) 2 (0)) 3 (0)) 4 (0)) 5 (0)) 6 (0)) 7 (0)) 8 (0)) 9 (0)) 10 (0)) 11 (0)) 12 (0)) 13 (0)) 14 (0)) 15 (0)) 16 (0)) 17 (0)) 18 (0))))] := hD
  refine lv_iinc (v := 19) (lv' := [(1, .int 19), (0, .ref a0)]) hx hb dX0_clear_15 hl (k := 0) rfl (by decide) (by decide) rfl (fun ls hl => ?_)
  refine lv_goto (tgt := 2) hx hb dX0_clear_18 (by decide) ?_
  refine lv_iload_n hx hb dX0_clear_2 rfl (lv_at hl 0 rfl) ?_
  refine lv_bipush (v := 31) hx hb dX0_clear_3 (by decide) ?_
  refine lv_icmp_ge (tgt := 21) hx hb dX0_clear_5 (by decide) (fun h9 => absurd h9 (by decide)) (fun _ => ?_)
  refine lv_aload_n hx hb dX0_clear_8 rfl (lv_at hl 1 rfl) ?_
  refine va_get (D := D) (ci := 0) (v := .ref a1) (C := RX0) (T := TX0) (N := 3) hx hb hts iX0 hown hK hP 0 rfl rfl 0 (by decide) (hts (.fieldLink RX0 9 "ShortTeller$Facts" "places" "[I") (List.mem_of_getElem? (i := 1) rfl)) (fun _ h9 => h9) rfl dX0_clear_9 ?_
  refine lv_iload_n hx hb dX0_clear_12 rfl (lv_at hl 0 rfl) ?_
  refine lv_iconst (v := 0) hx hb dX0_clear_13 (by decide) ?_
  refine q1_iast (c := c) (K := 19) (F := upd (upd (upd (upd (upd (upd (upd (upd (upd (upd (upd (upd (upd (upd (upd (upd (upd (upd (upd (upd (f0) 0 (0)) 1 (0)) 2 (0)) 3 (0)) 4 (0)) 5 (0)) 6 (0)) 7 (0)) 8 (0)) 9 (0)) 10 (0)) 11 (0)) 12 (0)) 13 (0)) 14 (0)) 15 (0)) 16 (0)) 17 (0)) 18 (0)) 19 (0)) hx hb hK hP hD hS 1 rfl (by decide) (by decide) (by decide) rfl dX0_clear_14 (fun H locs hP hD hS => ?_)
  have hP : va_P D vwCl [(a0, .inr (0, [.ref a1, .int x0, .int x1])), (a1, .inl (c 0, 31, .inl (upd (upd (upd (upd (upd (upd (upd (upd (upd (upd (upd (upd (upd (upd (upd (upd (upd (upd (upd (upd (f0) 0 (0)) 1 (0)) 2 (0)) 3 (0)) 4 (0)) 5 (0)) 6 (0)) 7 (0)) 8 (0)) 9 (0)) 10 (0)) 11 (0)) 12 (0)) 13 (0)) 14 (0)) 15 (0)) 16 (0)) 17 (0)) 18 (0)) 19 (0))))] H := hP
  have hD : va_D A [(a0, .inr (0, [.ref a1, .int x0, .int x1])), (a1, .inl (c 0, 31, .inl (upd (upd (upd (upd (upd (upd (upd (upd (upd (upd (upd (upd (upd (upd (upd (upd (upd (upd (upd (upd (f0) 0 (0)) 1 (0)) 2 (0)) 3 (0)) 4 (0)) 5 (0)) 6 (0)) 7 (0)) 8 (0)) 9 (0)) 10 (0)) 11 (0)) 12 (0)) 13 (0)) 14 (0)) 15 (0)) 16 (0)) 17 (0)) 18 (0)) 19 (0))))] := hD
  refine lv_iinc (v := 20) (lv' := [(1, .int 20), (0, .ref a0)]) hx hb dX0_clear_15 hl (k := 0) rfl (by decide) (by decide) rfl (fun ls hl => ?_)
  refine lv_goto (tgt := 2) hx hb dX0_clear_18 (by decide) ?_
  refine lv_iload_n hx hb dX0_clear_2 rfl (lv_at hl 0 rfl) ?_
  refine lv_bipush (v := 31) hx hb dX0_clear_3 (by decide) ?_
  refine lv_icmp_ge (tgt := 21) hx hb dX0_clear_5 (by decide) (fun h9 => absurd h9 (by decide)) (fun _ => ?_)
  refine lv_aload_n hx hb dX0_clear_8 rfl (lv_at hl 1 rfl) ?_
  refine va_get (D := D) (ci := 0) (v := .ref a1) (C := RX0) (T := TX0) (N := 3) hx hb hts iX0 hown hK hP 0 rfl rfl 0 (by decide) (hts (.fieldLink RX0 9 "ShortTeller$Facts" "places" "[I") (List.mem_of_getElem? (i := 1) rfl)) (fun _ h9 => h9) rfl dX0_clear_9 ?_
  refine lv_iload_n hx hb dX0_clear_12 rfl (lv_at hl 0 rfl) ?_
  refine lv_iconst (v := 0) hx hb dX0_clear_13 (by decide) ?_
  refine q1_iast (c := c) (K := 20) (F := upd (upd (upd (upd (upd (upd (upd (upd (upd (upd (upd (upd (upd (upd (upd (upd (upd (upd (upd (upd (upd (f0) 0 (0)) 1 (0)) 2 (0)) 3 (0)) 4 (0)) 5 (0)) 6 (0)) 7 (0)) 8 (0)) 9 (0)) 10 (0)) 11 (0)) 12 (0)) 13 (0)) 14 (0)) 15 (0)) 16 (0)) 17 (0)) 18 (0)) 19 (0)) 20 (0)) hx hb hK hP hD hS 1 rfl (by decide) (by decide) (by decide) rfl dX0_clear_14 (fun H locs hP hD hS => ?_)
  have hP : va_P D vwCl [(a0, .inr (0, [.ref a1, .int x0, .int x1])), (a1, .inl (c 0, 31, .inl (upd (upd (upd (upd (upd (upd (upd (upd (upd (upd (upd (upd (upd (upd (upd (upd (upd (upd (upd (upd (upd (f0) 0 (0)) 1 (0)) 2 (0)) 3 (0)) 4 (0)) 5 (0)) 6 (0)) 7 (0)) 8 (0)) 9 (0)) 10 (0)) 11 (0)) 12 (0)) 13 (0)) 14 (0)) 15 (0)) 16 (0)) 17 (0)) 18 (0)) 19 (0)) 20 (0))))] H := hP
  have hD : va_D A [(a0, .inr (0, [.ref a1, .int x0, .int x1])), (a1, .inl (c 0, 31, .inl (upd (upd (upd (upd (upd (upd (upd (upd (upd (upd (upd (upd (upd (upd (upd (upd (upd (upd (upd (upd (upd (f0) 0 (0)) 1 (0)) 2 (0)) 3 (0)) 4 (0)) 5 (0)) 6 (0)) 7 (0)) 8 (0)) 9 (0)) 10 (0)) 11 (0)) 12 (0)) 13 (0)) 14 (0)) 15 (0)) 16 (0)) 17 (0)) 18 (0)) 19 (0)) 20 (0))))] := hD
  refine lv_iinc (v := 21) (lv' := [(1, .int 21), (0, .ref a0)]) hx hb dX0_clear_15 hl (k := 0) rfl (by decide) (by decide) rfl (fun ls hl => ?_)
  refine lv_goto (tgt := 2) hx hb dX0_clear_18 (by decide) ?_
  refine lv_iload_n hx hb dX0_clear_2 rfl (lv_at hl 0 rfl) ?_
  refine lv_bipush (v := 31) hx hb dX0_clear_3 (by decide) ?_
  refine lv_icmp_ge (tgt := 21) hx hb dX0_clear_5 (by decide) (fun h9 => absurd h9 (by decide)) (fun _ => ?_)
  refine lv_aload_n hx hb dX0_clear_8 rfl (lv_at hl 1 rfl) ?_
  refine va_get (D := D) (ci := 0) (v := .ref a1) (C := RX0) (T := TX0) (N := 3) hx hb hts iX0 hown hK hP 0 rfl rfl 0 (by decide) (hts (.fieldLink RX0 9 "ShortTeller$Facts" "places" "[I") (List.mem_of_getElem? (i := 1) rfl)) (fun _ h9 => h9) rfl dX0_clear_9 ?_
  refine lv_iload_n hx hb dX0_clear_12 rfl (lv_at hl 0 rfl) ?_
  refine lv_iconst (v := 0) hx hb dX0_clear_13 (by decide) ?_
  refine q1_iast (c := c) (K := 21) (F := upd (upd (upd (upd (upd (upd (upd (upd (upd (upd (upd (upd (upd (upd (upd (upd (upd (upd (upd (upd (upd (upd (f0) 0 (0)) 1 (0)) 2 (0)) 3 (0)) 4 (0)) 5 (0)) 6 (0)) 7 (0)) 8 (0)) 9 (0)) 10 (0)) 11 (0)) 12 (0)) 13 (0)) 14 (0)) 15 (0)) 16 (0)) 17 (0)) 18 (0)) 19 (0)) 20 (0)) 21 (0)) hx hb hK hP hD hS 1 rfl (by decide) (by decide) (by decide) rfl dX0_clear_14 (fun H locs hP hD hS => ?_)
  have hP : va_P D vwCl [(a0, .inr (0, [.ref a1, .int x0, .int x1])), (a1, .inl (c 0, 31, .inl (upd (upd (upd (upd (upd (upd (upd (upd (upd (upd (upd (upd (upd (upd (upd (upd (upd (upd (upd (upd (upd (upd (f0) 0 (0)) 1 (0)) 2 (0)) 3 (0)) 4 (0)) 5 (0)) 6 (0)) 7 (0)) 8 (0)) 9 (0)) 10 (0)) 11 (0)) 12 (0)) 13 (0)) 14 (0)) 15 (0)) 16 (0)) 17 (0)) 18 (0)) 19 (0)) 20 (0)) 21 (0))))] H := hP
  have hD : va_D A [(a0, .inr (0, [.ref a1, .int x0, .int x1])), (a1, .inl (c 0, 31, .inl (upd (upd (upd (upd (upd (upd (upd (upd (upd (upd (upd (upd (upd (upd (upd (upd (upd (upd (upd (upd (upd (upd (f0) 0 (0)) 1 (0)) 2 (0)) 3 (0)) 4 (0)) 5 (0)) 6 (0)) 7 (0)) 8 (0)) 9 (0)) 10 (0)) 11 (0)) 12 (0)) 13 (0)) 14 (0)) 15 (0)) 16 (0)) 17 (0)) 18 (0)) 19 (0)) 20 (0)) 21 (0))))] := hD
  refine lv_iinc (v := 22) (lv' := [(1, .int 22), (0, .ref a0)]) hx hb dX0_clear_15 hl (k := 0) rfl (by decide) (by decide) rfl (fun ls hl => ?_)
  refine lv_goto (tgt := 2) hx hb dX0_clear_18 (by decide) ?_
  refine lv_iload_n hx hb dX0_clear_2 rfl (lv_at hl 0 rfl) ?_
  refine lv_bipush (v := 31) hx hb dX0_clear_3 (by decide) ?_
  refine lv_icmp_ge (tgt := 21) hx hb dX0_clear_5 (by decide) (fun h9 => absurd h9 (by decide)) (fun _ => ?_)
  refine lv_aload_n hx hb dX0_clear_8 rfl (lv_at hl 1 rfl) ?_
  refine va_get (D := D) (ci := 0) (v := .ref a1) (C := RX0) (T := TX0) (N := 3) hx hb hts iX0 hown hK hP 0 rfl rfl 0 (by decide) (hts (.fieldLink RX0 9 "ShortTeller$Facts" "places" "[I") (List.mem_of_getElem? (i := 1) rfl)) (fun _ h9 => h9) rfl dX0_clear_9 ?_
  refine lv_iload_n hx hb dX0_clear_12 rfl (lv_at hl 0 rfl) ?_
  refine lv_iconst (v := 0) hx hb dX0_clear_13 (by decide) ?_
  refine q1_iast (c := c) (K := 22) (F := upd (upd (upd (upd (upd (upd (upd (upd (upd (upd (upd (upd (upd (upd (upd (upd (upd (upd (upd (upd (upd (upd (upd (f0) 0 (0)) 1 (0)) 2 (0)) 3 (0)) 4 (0)) 5 (0)) 6 (0)) 7 (0)) 8 (0)) 9 (0)) 10 (0)) 11 (0)) 12 (0)) 13 (0)) 14 (0)) 15 (0)) 16 (0)) 17 (0)) 18 (0)) 19 (0)) 20 (0)) 21 (0)) 22 (0)) hx hb hK hP hD hS 1 rfl (by decide) (by decide) (by decide) rfl dX0_clear_14 (fun H locs hP hD hS => ?_)
  have hP : va_P D vwCl [(a0, .inr (0, [.ref a1, .int x0, .int x1])), (a1, .inl (c 0, 31, .inl (upd (upd (upd (upd (upd (upd (upd (upd (upd (upd (upd (upd (upd (upd (upd (upd (upd (upd (upd (upd (upd (upd (upd (f0) 0 (0)) 1 (0)) 2 (0)) 3 (0)) 4 (0)) 5 (0)) 6 (0)) 7 (0)) 8 (0)) 9 (0)) 10 (0)) 11 (0)) 12 (0)) 13 (0)) 14 (0)) 15 (0)) 16 (0)) 17 (0)) 18 (0)) 19 (0)) 20 (0)) 21 (0)) 22 (0))))] H := hP
  have hD : va_D A [(a0, .inr (0, [.ref a1, .int x0, .int x1])), (a1, .inl (c 0, 31, .inl (upd (upd (upd (upd (upd (upd (upd (upd (upd (upd (upd (upd (upd (upd (upd (upd (upd (upd (upd (upd (upd (upd (upd (f0) 0 (0)) 1 (0)) 2 (0)) 3 (0)) 4 (0)) 5 (0)) 6 (0)) 7 (0)) 8 (0)) 9 (0)) 10 (0)) 11 (0)) 12 (0)) 13 (0)) 14 (0)) 15 (0)) 16 (0)) 17 (0)) 18 (0)) 19 (0)) 20 (0)) 21 (0)) 22 (0))))] := hD
  refine lv_iinc (v := 23) (lv' := [(1, .int 23), (0, .ref a0)]) hx hb dX0_clear_15 hl (k := 0) rfl (by decide) (by decide) rfl (fun ls hl => ?_)
  refine lv_goto (tgt := 2) hx hb dX0_clear_18 (by decide) ?_
  refine lv_iload_n hx hb dX0_clear_2 rfl (lv_at hl 0 rfl) ?_
  refine lv_bipush (v := 31) hx hb dX0_clear_3 (by decide) ?_
  refine lv_icmp_ge (tgt := 21) hx hb dX0_clear_5 (by decide) (fun h9 => absurd h9 (by decide)) (fun _ => ?_)
  refine lv_aload_n hx hb dX0_clear_8 rfl (lv_at hl 1 rfl) ?_
  refine va_get (D := D) (ci := 0) (v := .ref a1) (C := RX0) (T := TX0) (N := 3) hx hb hts iX0 hown hK hP 0 rfl rfl 0 (by decide) (hts (.fieldLink RX0 9 "ShortTeller$Facts" "places" "[I") (List.mem_of_getElem? (i := 1) rfl)) (fun _ h9 => h9) rfl dX0_clear_9 ?_
  refine lv_iload_n hx hb dX0_clear_12 rfl (lv_at hl 0 rfl) ?_
  refine lv_iconst (v := 0) hx hb dX0_clear_13 (by decide) ?_
  refine q1_iast (c := c) (K := 23) (F := upd (upd (upd (upd (upd (upd (upd (upd (upd (upd (upd (upd (upd (upd (upd (upd (upd (upd (upd (upd (upd (upd (upd (upd (f0) 0 (0)) 1 (0)) 2 (0)) 3 (0)) 4 (0)) 5 (0)) 6 (0)) 7 (0)) 8 (0)) 9 (0)) 10 (0)) 11 (0)) 12 (0)) 13 (0)) 14 (0)) 15 (0)) 16 (0)) 17 (0)) 18 (0)) 19 (0)) 20 (0)) 21 (0)) 22 (0)) 23 (0)) hx hb hK hP hD hS 1 rfl (by decide) (by decide) (by decide) rfl dX0_clear_14 (fun H locs hP hD hS => ?_)
  have hP : va_P D vwCl [(a0, .inr (0, [.ref a1, .int x0, .int x1])), (a1, .inl (c 0, 31, .inl (upd (upd (upd (upd (upd (upd (upd (upd (upd (upd (upd (upd (upd (upd (upd (upd (upd (upd (upd (upd (upd (upd (upd (upd (f0) 0 (0)) 1 (0)) 2 (0)) 3 (0)) 4 (0)) 5 (0)) 6 (0)) 7 (0)) 8 (0)) 9 (0)) 10 (0)) 11 (0)) 12 (0)) 13 (0)) 14 (0)) 15 (0)) 16 (0)) 17 (0)) 18 (0)) 19 (0)) 20 (0)) 21 (0)) 22 (0)) 23 (0))))] H := hP
  have hD : va_D A [(a0, .inr (0, [.ref a1, .int x0, .int x1])), (a1, .inl (c 0, 31, .inl (upd (upd (upd (upd (upd (upd (upd (upd (upd (upd (upd (upd (upd (upd (upd (upd (upd (upd (upd (upd (upd (upd (upd (upd (f0) 0 (0)) 1 (0)) 2 (0)) 3 (0)) 4 (0)) 5 (0)) 6 (0)) 7 (0)) 8 (0)) 9 (0)) 10 (0)) 11 (0)) 12 (0)) 13 (0)) 14 (0)) 15 (0)) 16 (0)) 17 (0)) 18 (0)) 19 (0)) 20 (0)) 21 (0)) 22 (0)) 23 (0))))] := hD
  refine lv_iinc (v := 24) (lv' := [(1, .int 24), (0, .ref a0)]) hx hb dX0_clear_15 hl (k := 0) rfl (by decide) (by decide) rfl (fun ls hl => ?_)
  refine lv_goto (tgt := 2) hx hb dX0_clear_18 (by decide) ?_
  refine lv_iload_n hx hb dX0_clear_2 rfl (lv_at hl 0 rfl) ?_
  refine lv_bipush (v := 31) hx hb dX0_clear_3 (by decide) ?_
  refine lv_icmp_ge (tgt := 21) hx hb dX0_clear_5 (by decide) (fun h9 => absurd h9 (by decide)) (fun _ => ?_)
  refine lv_aload_n hx hb dX0_clear_8 rfl (lv_at hl 1 rfl) ?_
  refine va_get (D := D) (ci := 0) (v := .ref a1) (C := RX0) (T := TX0) (N := 3) hx hb hts iX0 hown hK hP 0 rfl rfl 0 (by decide) (hts (.fieldLink RX0 9 "ShortTeller$Facts" "places" "[I") (List.mem_of_getElem? (i := 1) rfl)) (fun _ h9 => h9) rfl dX0_clear_9 ?_
  refine lv_iload_n hx hb dX0_clear_12 rfl (lv_at hl 0 rfl) ?_
  refine lv_iconst (v := 0) hx hb dX0_clear_13 (by decide) ?_
  refine q1_iast (c := c) (K := 24) (F := upd (upd (upd (upd (upd (upd (upd (upd (upd (upd (upd (upd (upd (upd (upd (upd (upd (upd (upd (upd (upd (upd (upd (upd (upd (f0) 0 (0)) 1 (0)) 2 (0)) 3 (0)) 4 (0)) 5 (0)) 6 (0)) 7 (0)) 8 (0)) 9 (0)) 10 (0)) 11 (0)) 12 (0)) 13 (0)) 14 (0)) 15 (0)) 16 (0)) 17 (0)) 18 (0)) 19 (0)) 20 (0)) 21 (0)) 22 (0)) 23 (0)) 24 (0)) hx hb hK hP hD hS 1 rfl (by decide) (by decide) (by decide) rfl dX0_clear_14 (fun H locs hP hD hS => ?_)
  have hP : va_P D vwCl [(a0, .inr (0, [.ref a1, .int x0, .int x1])), (a1, .inl (c 0, 31, .inl (upd (upd (upd (upd (upd (upd (upd (upd (upd (upd (upd (upd (upd (upd (upd (upd (upd (upd (upd (upd (upd (upd (upd (upd (upd (f0) 0 (0)) 1 (0)) 2 (0)) 3 (0)) 4 (0)) 5 (0)) 6 (0)) 7 (0)) 8 (0)) 9 (0)) 10 (0)) 11 (0)) 12 (0)) 13 (0)) 14 (0)) 15 (0)) 16 (0)) 17 (0)) 18 (0)) 19 (0)) 20 (0)) 21 (0)) 22 (0)) 23 (0)) 24 (0))))] H := hP
  have hD : va_D A [(a0, .inr (0, [.ref a1, .int x0, .int x1])), (a1, .inl (c 0, 31, .inl (upd (upd (upd (upd (upd (upd (upd (upd (upd (upd (upd (upd (upd (upd (upd (upd (upd (upd (upd (upd (upd (upd (upd (upd (upd (f0) 0 (0)) 1 (0)) 2 (0)) 3 (0)) 4 (0)) 5 (0)) 6 (0)) 7 (0)) 8 (0)) 9 (0)) 10 (0)) 11 (0)) 12 (0)) 13 (0)) 14 (0)) 15 (0)) 16 (0)) 17 (0)) 18 (0)) 19 (0)) 20 (0)) 21 (0)) 22 (0)) 23 (0)) 24 (0))))] := hD
  refine lv_iinc (v := 25) (lv' := [(1, .int 25), (0, .ref a0)]) hx hb dX0_clear_15 hl (k := 0) rfl (by decide) (by decide) rfl (fun ls hl => ?_)
  refine lv_goto (tgt := 2) hx hb dX0_clear_18 (by decide) ?_
  refine lv_iload_n hx hb dX0_clear_2 rfl (lv_at hl 0 rfl) ?_
  refine lv_bipush (v := 31) hx hb dX0_clear_3 (by decide) ?_
  refine lv_icmp_ge (tgt := 21) hx hb dX0_clear_5 (by decide) (fun h9 => absurd h9 (by decide)) (fun _ => ?_)
  refine lv_aload_n hx hb dX0_clear_8 rfl (lv_at hl 1 rfl) ?_
  refine va_get (D := D) (ci := 0) (v := .ref a1) (C := RX0) (T := TX0) (N := 3) hx hb hts iX0 hown hK hP 0 rfl rfl 0 (by decide) (hts (.fieldLink RX0 9 "ShortTeller$Facts" "places" "[I") (List.mem_of_getElem? (i := 1) rfl)) (fun _ h9 => h9) rfl dX0_clear_9 ?_
  refine lv_iload_n hx hb dX0_clear_12 rfl (lv_at hl 0 rfl) ?_
  refine lv_iconst (v := 0) hx hb dX0_clear_13 (by decide) ?_
  refine q1_iast (c := c) (K := 25) (F := upd (upd (upd (upd (upd (upd (upd (upd (upd (upd (upd (upd (upd (upd (upd (upd (upd (upd (upd (upd (upd (upd (upd (upd (upd (upd (f0) 0 (0)) 1 (0)) 2 (0)) 3 (0)) 4 (0)) 5 (0)) 6 (0)) 7 (0)) 8 (0)) 9 (0)) 10 (0)) 11 (0)) 12 (0)) 13 (0)) 14 (0)) 15 (0)) 16 (0)) 17 (0)) 18 (0)) 19 (0)) 20 (0)) 21 (0)) 22 (0)) 23 (0)) 24 (0)) 25 (0)) hx hb hK hP hD hS 1 rfl (by decide) (by decide) (by decide) rfl dX0_clear_14 (fun H locs hP hD hS => ?_)
  have hP : va_P D vwCl [(a0, .inr (0, [.ref a1, .int x0, .int x1])), (a1, .inl (c 0, 31, .inl (upd (upd (upd (upd (upd (upd (upd (upd (upd (upd (upd (upd (upd (upd (upd (upd (upd (upd (upd (upd (upd (upd (upd (upd (upd (upd (f0) 0 (0)) 1 (0)) 2 (0)) 3 (0)) 4 (0)) 5 (0)) 6 (0)) 7 (0)) 8 (0)) 9 (0)) 10 (0)) 11 (0)) 12 (0)) 13 (0)) 14 (0)) 15 (0)) 16 (0)) 17 (0)) 18 (0)) 19 (0)) 20 (0)) 21 (0)) 22 (0)) 23 (0)) 24 (0)) 25 (0))))] H := hP
  have hD : va_D A [(a0, .inr (0, [.ref a1, .int x0, .int x1])), (a1, .inl (c 0, 31, .inl (upd (upd (upd (upd (upd (upd (upd (upd (upd (upd (upd (upd (upd (upd (upd (upd (upd (upd (upd (upd (upd (upd (upd (upd (upd (upd (f0) 0 (0)) 1 (0)) 2 (0)) 3 (0)) 4 (0)) 5 (0)) 6 (0)) 7 (0)) 8 (0)) 9 (0)) 10 (0)) 11 (0)) 12 (0)) 13 (0)) 14 (0)) 15 (0)) 16 (0)) 17 (0)) 18 (0)) 19 (0)) 20 (0)) 21 (0)) 22 (0)) 23 (0)) 24 (0)) 25 (0))))] := hD
  refine lv_iinc (v := 26) (lv' := [(1, .int 26), (0, .ref a0)]) hx hb dX0_clear_15 hl (k := 0) rfl (by decide) (by decide) rfl (fun ls hl => ?_)
  refine lv_goto (tgt := 2) hx hb dX0_clear_18 (by decide) ?_
  refine lv_iload_n hx hb dX0_clear_2 rfl (lv_at hl 0 rfl) ?_
  refine lv_bipush (v := 31) hx hb dX0_clear_3 (by decide) ?_
  refine lv_icmp_ge (tgt := 21) hx hb dX0_clear_5 (by decide) (fun h9 => absurd h9 (by decide)) (fun _ => ?_)
  refine lv_aload_n hx hb dX0_clear_8 rfl (lv_at hl 1 rfl) ?_
  refine va_get (D := D) (ci := 0) (v := .ref a1) (C := RX0) (T := TX0) (N := 3) hx hb hts iX0 hown hK hP 0 rfl rfl 0 (by decide) (hts (.fieldLink RX0 9 "ShortTeller$Facts" "places" "[I") (List.mem_of_getElem? (i := 1) rfl)) (fun _ h9 => h9) rfl dX0_clear_9 ?_
  refine lv_iload_n hx hb dX0_clear_12 rfl (lv_at hl 0 rfl) ?_
  refine lv_iconst (v := 0) hx hb dX0_clear_13 (by decide) ?_
  refine q1_iast (c := c) (K := 26) (F := upd (upd (upd (upd (upd (upd (upd (upd (upd (upd (upd (upd (upd (upd (upd (upd (upd (upd (upd (upd (upd (upd (upd (upd (upd (upd (upd (f0) 0 (0)) 1 (0)) 2 (0)) 3 (0)) 4 (0)) 5 (0)) 6 (0)) 7 (0)) 8 (0)) 9 (0)) 10 (0)) 11 (0)) 12 (0)) 13 (0)) 14 (0)) 15 (0)) 16 (0)) 17 (0)) 18 (0)) 19 (0)) 20 (0)) 21 (0)) 22 (0)) 23 (0)) 24 (0)) 25 (0)) 26 (0)) hx hb hK hP hD hS 1 rfl (by decide) (by decide) (by decide) rfl dX0_clear_14 (fun H locs hP hD hS => ?_)
  have hP : va_P D vwCl [(a0, .inr (0, [.ref a1, .int x0, .int x1])), (a1, .inl (c 0, 31, .inl (upd (upd (upd (upd (upd (upd (upd (upd (upd (upd (upd (upd (upd (upd (upd (upd (upd (upd (upd (upd (upd (upd (upd (upd (upd (upd (upd (f0) 0 (0)) 1 (0)) 2 (0)) 3 (0)) 4 (0)) 5 (0)) 6 (0)) 7 (0)) 8 (0)) 9 (0)) 10 (0)) 11 (0)) 12 (0)) 13 (0)) 14 (0)) 15 (0)) 16 (0)) 17 (0)) 18 (0)) 19 (0)) 20 (0)) 21 (0)) 22 (0)) 23 (0)) 24 (0)) 25 (0)) 26 (0))))] H := hP
  have hD : va_D A [(a0, .inr (0, [.ref a1, .int x0, .int x1])), (a1, .inl (c 0, 31, .inl (upd (upd (upd (upd (upd (upd (upd (upd (upd (upd (upd (upd (upd (upd (upd (upd (upd (upd (upd (upd (upd (upd (upd (upd (upd (upd (upd (f0) 0 (0)) 1 (0)) 2 (0)) 3 (0)) 4 (0)) 5 (0)) 6 (0)) 7 (0)) 8 (0)) 9 (0)) 10 (0)) 11 (0)) 12 (0)) 13 (0)) 14 (0)) 15 (0)) 16 (0)) 17 (0)) 18 (0)) 19 (0)) 20 (0)) 21 (0)) 22 (0)) 23 (0)) 24 (0)) 25 (0)) 26 (0))))] := hD
  refine lv_iinc (v := 27) (lv' := [(1, .int 27), (0, .ref a0)]) hx hb dX0_clear_15 hl (k := 0) rfl (by decide) (by decide) rfl (fun ls hl => ?_)
  refine lv_goto (tgt := 2) hx hb dX0_clear_18 (by decide) ?_
  refine lv_iload_n hx hb dX0_clear_2 rfl (lv_at hl 0 rfl) ?_
  refine lv_bipush (v := 31) hx hb dX0_clear_3 (by decide) ?_
  refine lv_icmp_ge (tgt := 21) hx hb dX0_clear_5 (by decide) (fun h9 => absurd h9 (by decide)) (fun _ => ?_)
  refine lv_aload_n hx hb dX0_clear_8 rfl (lv_at hl 1 rfl) ?_
  refine va_get (D := D) (ci := 0) (v := .ref a1) (C := RX0) (T := TX0) (N := 3) hx hb hts iX0 hown hK hP 0 rfl rfl 0 (by decide) (hts (.fieldLink RX0 9 "ShortTeller$Facts" "places" "[I") (List.mem_of_getElem? (i := 1) rfl)) (fun _ h9 => h9) rfl dX0_clear_9 ?_
  refine lv_iload_n hx hb dX0_clear_12 rfl (lv_at hl 0 rfl) ?_
  refine lv_iconst (v := 0) hx hb dX0_clear_13 (by decide) ?_
  refine q1_iast (c := c) (K := 27) (F := upd (upd (upd (upd (upd (upd (upd (upd (upd (upd (upd (upd (upd (upd (upd (upd (upd (upd (upd (upd (upd (upd (upd (upd (upd (upd (upd (upd (f0) 0 (0)) 1 (0)) 2 (0)) 3 (0)) 4 (0)) 5 (0)) 6 (0)) 7 (0)) 8 (0)) 9 (0)) 10 (0)) 11 (0)) 12 (0)) 13 (0)) 14 (0)) 15 (0)) 16 (0)) 17 (0)) 18 (0)) 19 (0)) 20 (0)) 21 (0)) 22 (0)) 23 (0)) 24 (0)) 25 (0)) 26 (0)) 27 (0)) hx hb hK hP hD hS 1 rfl (by decide) (by decide) (by decide) rfl dX0_clear_14 (fun H locs hP hD hS => ?_)
  have hP : va_P D vwCl [(a0, .inr (0, [.ref a1, .int x0, .int x1])), (a1, .inl (c 0, 31, .inl (upd (upd (upd (upd (upd (upd (upd (upd (upd (upd (upd (upd (upd (upd (upd (upd (upd (upd (upd (upd (upd (upd (upd (upd (upd (upd (upd (upd (f0) 0 (0)) 1 (0)) 2 (0)) 3 (0)) 4 (0)) 5 (0)) 6 (0)) 7 (0)) 8 (0)) 9 (0)) 10 (0)) 11 (0)) 12 (0)) 13 (0)) 14 (0)) 15 (0)) 16 (0)) 17 (0)) 18 (0)) 19 (0)) 20 (0)) 21 (0)) 22 (0)) 23 (0)) 24 (0)) 25 (0)) 26 (0)) 27 (0))))] H := hP
  have hD : va_D A [(a0, .inr (0, [.ref a1, .int x0, .int x1])), (a1, .inl (c 0, 31, .inl (upd (upd (upd (upd (upd (upd (upd (upd (upd (upd (upd (upd (upd (upd (upd (upd (upd (upd (upd (upd (upd (upd (upd (upd (upd (upd (upd (upd (f0) 0 (0)) 1 (0)) 2 (0)) 3 (0)) 4 (0)) 5 (0)) 6 (0)) 7 (0)) 8 (0)) 9 (0)) 10 (0)) 11 (0)) 12 (0)) 13 (0)) 14 (0)) 15 (0)) 16 (0)) 17 (0)) 18 (0)) 19 (0)) 20 (0)) 21 (0)) 22 (0)) 23 (0)) 24 (0)) 25 (0)) 26 (0)) 27 (0))))] := hD
  refine lv_iinc (v := 28) (lv' := [(1, .int 28), (0, .ref a0)]) hx hb dX0_clear_15 hl (k := 0) rfl (by decide) (by decide) rfl (fun ls hl => ?_)
  refine lv_goto (tgt := 2) hx hb dX0_clear_18 (by decide) ?_
  refine lv_iload_n hx hb dX0_clear_2 rfl (lv_at hl 0 rfl) ?_
  refine lv_bipush (v := 31) hx hb dX0_clear_3 (by decide) ?_
  refine lv_icmp_ge (tgt := 21) hx hb dX0_clear_5 (by decide) (fun h9 => absurd h9 (by decide)) (fun _ => ?_)
  refine lv_aload_n hx hb dX0_clear_8 rfl (lv_at hl 1 rfl) ?_
  refine va_get (D := D) (ci := 0) (v := .ref a1) (C := RX0) (T := TX0) (N := 3) hx hb hts iX0 hown hK hP 0 rfl rfl 0 (by decide) (hts (.fieldLink RX0 9 "ShortTeller$Facts" "places" "[I") (List.mem_of_getElem? (i := 1) rfl)) (fun _ h9 => h9) rfl dX0_clear_9 ?_
  refine lv_iload_n hx hb dX0_clear_12 rfl (lv_at hl 0 rfl) ?_
  refine lv_iconst (v := 0) hx hb dX0_clear_13 (by decide) ?_
  refine q1_iast (c := c) (K := 28) (F := upd (upd (upd (upd (upd (upd (upd (upd (upd (upd (upd (upd (upd (upd (upd (upd (upd (upd (upd (upd (upd (upd (upd (upd (upd (upd (upd (upd (upd (f0) 0 (0)) 1 (0)) 2 (0)) 3 (0)) 4 (0)) 5 (0)) 6 (0)) 7 (0)) 8 (0)) 9 (0)) 10 (0)) 11 (0)) 12 (0)) 13 (0)) 14 (0)) 15 (0)) 16 (0)) 17 (0)) 18 (0)) 19 (0)) 20 (0)) 21 (0)) 22 (0)) 23 (0)) 24 (0)) 25 (0)) 26 (0)) 27 (0)) 28 (0)) hx hb hK hP hD hS 1 rfl (by decide) (by decide) (by decide) rfl dX0_clear_14 (fun H locs hP hD hS => ?_)
  have hP : va_P D vwCl [(a0, .inr (0, [.ref a1, .int x0, .int x1])), (a1, .inl (c 0, 31, .inl (upd (upd (upd (upd (upd (upd (upd (upd (upd (upd (upd (upd (upd (upd (upd (upd (upd (upd (upd (upd (upd (upd (upd (upd (upd (upd (upd (upd (upd (f0) 0 (0)) 1 (0)) 2 (0)) 3 (0)) 4 (0)) 5 (0)) 6 (0)) 7 (0)) 8 (0)) 9 (0)) 10 (0)) 11 (0)) 12 (0)) 13 (0)) 14 (0)) 15 (0)) 16 (0)) 17 (0)) 18 (0)) 19 (0)) 20 (0)) 21 (0)) 22 (0)) 23 (0)) 24 (0)) 25 (0)) 26 (0)) 27 (0)) 28 (0))))] H := hP
  have hD : va_D A [(a0, .inr (0, [.ref a1, .int x0, .int x1])), (a1, .inl (c 0, 31, .inl (upd (upd (upd (upd (upd (upd (upd (upd (upd (upd (upd (upd (upd (upd (upd (upd (upd (upd (upd (upd (upd (upd (upd (upd (upd (upd (upd (upd (upd (f0) 0 (0)) 1 (0)) 2 (0)) 3 (0)) 4 (0)) 5 (0)) 6 (0)) 7 (0)) 8 (0)) 9 (0)) 10 (0)) 11 (0)) 12 (0)) 13 (0)) 14 (0)) 15 (0)) 16 (0)) 17 (0)) 18 (0)) 19 (0)) 20 (0)) 21 (0)) 22 (0)) 23 (0)) 24 (0)) 25 (0)) 26 (0)) 27 (0)) 28 (0))))] := hD
  refine lv_iinc (v := 29) (lv' := [(1, .int 29), (0, .ref a0)]) hx hb dX0_clear_15 hl (k := 0) rfl (by decide) (by decide) rfl (fun ls hl => ?_)
  refine lv_goto (tgt := 2) hx hb dX0_clear_18 (by decide) ?_
  refine lv_iload_n hx hb dX0_clear_2 rfl (lv_at hl 0 rfl) ?_
  refine lv_bipush (v := 31) hx hb dX0_clear_3 (by decide) ?_
  refine lv_icmp_ge (tgt := 21) hx hb dX0_clear_5 (by decide) (fun h9 => absurd h9 (by decide)) (fun _ => ?_)
  refine lv_aload_n hx hb dX0_clear_8 rfl (lv_at hl 1 rfl) ?_
  refine va_get (D := D) (ci := 0) (v := .ref a1) (C := RX0) (T := TX0) (N := 3) hx hb hts iX0 hown hK hP 0 rfl rfl 0 (by decide) (hts (.fieldLink RX0 9 "ShortTeller$Facts" "places" "[I") (List.mem_of_getElem? (i := 1) rfl)) (fun _ h9 => h9) rfl dX0_clear_9 ?_
  refine lv_iload_n hx hb dX0_clear_12 rfl (lv_at hl 0 rfl) ?_
  refine lv_iconst (v := 0) hx hb dX0_clear_13 (by decide) ?_
  refine q1_iast (c := c) (K := 29) (F := upd (upd (upd (upd (upd (upd (upd (upd (upd (upd (upd (upd (upd (upd (upd (upd (upd (upd (upd (upd (upd (upd (upd (upd (upd (upd (upd (upd (upd (upd (f0) 0 (0)) 1 (0)) 2 (0)) 3 (0)) 4 (0)) 5 (0)) 6 (0)) 7 (0)) 8 (0)) 9 (0)) 10 (0)) 11 (0)) 12 (0)) 13 (0)) 14 (0)) 15 (0)) 16 (0)) 17 (0)) 18 (0)) 19 (0)) 20 (0)) 21 (0)) 22 (0)) 23 (0)) 24 (0)) 25 (0)) 26 (0)) 27 (0)) 28 (0)) 29 (0)) hx hb hK hP hD hS 1 rfl (by decide) (by decide) (by decide) rfl dX0_clear_14 (fun H locs hP hD hS => ?_)
  have hP : va_P D vwCl [(a0, .inr (0, [.ref a1, .int x0, .int x1])), (a1, .inl (c 0, 31, .inl (upd (upd (upd (upd (upd (upd (upd (upd (upd (upd (upd (upd (upd (upd (upd (upd (upd (upd (upd (upd (upd (upd (upd (upd (upd (upd (upd (upd (upd (upd (f0) 0 (0)) 1 (0)) 2 (0)) 3 (0)) 4 (0)) 5 (0)) 6 (0)) 7 (0)) 8 (0)) 9 (0)) 10 (0)) 11 (0)) 12 (0)) 13 (0)) 14 (0)) 15 (0)) 16 (0)) 17 (0)) 18 (0)) 19 (0)) 20 (0)) 21 (0)) 22 (0)) 23 (0)) 24 (0)) 25 (0)) 26 (0)) 27 (0)) 28 (0)) 29 (0))))] H := hP
  have hD : va_D A [(a0, .inr (0, [.ref a1, .int x0, .int x1])), (a1, .inl (c 0, 31, .inl (upd (upd (upd (upd (upd (upd (upd (upd (upd (upd (upd (upd (upd (upd (upd (upd (upd (upd (upd (upd (upd (upd (upd (upd (upd (upd (upd (upd (upd (upd (f0) 0 (0)) 1 (0)) 2 (0)) 3 (0)) 4 (0)) 5 (0)) 6 (0)) 7 (0)) 8 (0)) 9 (0)) 10 (0)) 11 (0)) 12 (0)) 13 (0)) 14 (0)) 15 (0)) 16 (0)) 17 (0)) 18 (0)) 19 (0)) 20 (0)) 21 (0)) 22 (0)) 23 (0)) 24 (0)) 25 (0)) 26 (0)) 27 (0)) 28 (0)) 29 (0))))] := hD
  refine lv_iinc (v := 30) (lv' := [(1, .int 30), (0, .ref a0)]) hx hb dX0_clear_15 hl (k := 0) rfl (by decide) (by decide) rfl (fun ls hl => ?_)
  refine lv_goto (tgt := 2) hx hb dX0_clear_18 (by decide) ?_
  refine lv_iload_n hx hb dX0_clear_2 rfl (lv_at hl 0 rfl) ?_
  refine lv_bipush (v := 31) hx hb dX0_clear_3 (by decide) ?_
  refine lv_icmp_ge (tgt := 21) hx hb dX0_clear_5 (by decide) (fun h9 => absurd h9 (by decide)) (fun _ => ?_)
  refine lv_aload_n hx hb dX0_clear_8 rfl (lv_at hl 1 rfl) ?_
  refine va_get (D := D) (ci := 0) (v := .ref a1) (C := RX0) (T := TX0) (N := 3) hx hb hts iX0 hown hK hP 0 rfl rfl 0 (by decide) (hts (.fieldLink RX0 9 "ShortTeller$Facts" "places" "[I") (List.mem_of_getElem? (i := 1) rfl)) (fun _ h9 => h9) rfl dX0_clear_9 ?_
  refine lv_iload_n hx hb dX0_clear_12 rfl (lv_at hl 0 rfl) ?_
  refine lv_iconst (v := 0) hx hb dX0_clear_13 (by decide) ?_
  refine q1_iast (c := c) (K := 30) (F := upd (upd (upd (upd (upd (upd (upd (upd (upd (upd (upd (upd (upd (upd (upd (upd (upd (upd (upd (upd (upd (upd (upd (upd (upd (upd (upd (upd (upd (upd (upd (f0) 0 (0)) 1 (0)) 2 (0)) 3 (0)) 4 (0)) 5 (0)) 6 (0)) 7 (0)) 8 (0)) 9 (0)) 10 (0)) 11 (0)) 12 (0)) 13 (0)) 14 (0)) 15 (0)) 16 (0)) 17 (0)) 18 (0)) 19 (0)) 20 (0)) 21 (0)) 22 (0)) 23 (0)) 24 (0)) 25 (0)) 26 (0)) 27 (0)) 28 (0)) 29 (0)) 30 (0)) hx hb hK hP hD hS 1 rfl (by decide) (by decide) (by decide) rfl dX0_clear_14 (fun H locs hP hD hS => ?_)
  have hP : va_P D vwCl [(a0, .inr (0, [.ref a1, .int x0, .int x1])), (a1, .inl (c 0, 31, .inl (upd (upd (upd (upd (upd (upd (upd (upd (upd (upd (upd (upd (upd (upd (upd (upd (upd (upd (upd (upd (upd (upd (upd (upd (upd (upd (upd (upd (upd (upd (upd (f0) 0 (0)) 1 (0)) 2 (0)) 3 (0)) 4 (0)) 5 (0)) 6 (0)) 7 (0)) 8 (0)) 9 (0)) 10 (0)) 11 (0)) 12 (0)) 13 (0)) 14 (0)) 15 (0)) 16 (0)) 17 (0)) 18 (0)) 19 (0)) 20 (0)) 21 (0)) 22 (0)) 23 (0)) 24 (0)) 25 (0)) 26 (0)) 27 (0)) 28 (0)) 29 (0)) 30 (0))))] H := hP
  have hD : va_D A [(a0, .inr (0, [.ref a1, .int x0, .int x1])), (a1, .inl (c 0, 31, .inl (upd (upd (upd (upd (upd (upd (upd (upd (upd (upd (upd (upd (upd (upd (upd (upd (upd (upd (upd (upd (upd (upd (upd (upd (upd (upd (upd (upd (upd (upd (upd (f0) 0 (0)) 1 (0)) 2 (0)) 3 (0)) 4 (0)) 5 (0)) 6 (0)) 7 (0)) 8 (0)) 9 (0)) 10 (0)) 11 (0)) 12 (0)) 13 (0)) 14 (0)) 15 (0)) 16 (0)) 17 (0)) 18 (0)) 19 (0)) 20 (0)) 21 (0)) 22 (0)) 23 (0)) 24 (0)) 25 (0)) 26 (0)) 27 (0)) 28 (0)) 29 (0)) 30 (0))))] := hD
  refine lv_iinc (v := 31) (lv' := [(1, .int 31), (0, .ref a0)]) hx hb dX0_clear_15 hl (k := 0) rfl (by decide) (by decide) rfl (fun ls hl => ?_)
  refine lv_goto (tgt := 2) hx hb dX0_clear_18 (by decide) ?_
  refine lv_iload_n hx hb dX0_clear_2 rfl (lv_at hl 0 rfl) ?_
  refine lv_bipush (v := 31) hx hb dX0_clear_3 (by decide) ?_
  refine lv_icmp_ge (tgt := 21) hx hb dX0_clear_5 (by decide) (fun _ => ?_) (fun h9 => absurd (by decide) h9)
  refine lv_aload_n hx hb dX0_clear_21 rfl (lv_at hl 1 rfl) ?_
  refine lv_iconst (v := 0) hx hb dX0_clear_22 (by decide) ?_
  refine va_put (D := D) (ci := 0) (v := .int 0) (ty := .int) (C := RX0) (T := TX0) (N := 3) hx hb hts iX0 tyX0 tyX0_ok nmX0 hown hK hP hD hS 0 rfl rfl 1 (by decide) (hts (.fieldLink RX0 15 "ShortTeller$Facts" "inText" "I") (List.mem_of_getElem? (i := 2) rfl)) (fun _ h9 => h9) rfl (by decide +kernel) rfl rfl (Nat.le_of_ble_eq_true rfl) dX0_clear_23 (fun H locs hP hD hS => ?_)
  have hP : va_P D vwCl [(a0, .inr (0, [.ref a1, .int 0, .int x1])), (a1, .inl (c 0, 31, .inl (upd (upd (upd (upd (upd (upd (upd (upd (upd (upd (upd (upd (upd (upd (upd (upd (upd (upd (upd (upd (upd (upd (upd (upd (upd (upd (upd (upd (upd (upd (upd (f0) 0 (0)) 1 (0)) 2 (0)) 3 (0)) 4 (0)) 5 (0)) 6 (0)) 7 (0)) 8 (0)) 9 (0)) 10 (0)) 11 (0)) 12 (0)) 13 (0)) 14 (0)) 15 (0)) 16 (0)) 17 (0)) 18 (0)) 19 (0)) 20 (0)) 21 (0)) 22 (0)) 23 (0)) 24 (0)) 25 (0)) 26 (0)) 27 (0)) 28 (0)) 29 (0)) 30 (0))))] H := hP
  have hD : va_D A [(a0, .inr (0, [.ref a1, .int 0, .int x1])), (a1, .inl (c 0, 31, .inl (upd (upd (upd (upd (upd (upd (upd (upd (upd (upd (upd (upd (upd (upd (upd (upd (upd (upd (upd (upd (upd (upd (upd (upd (upd (upd (upd (upd (upd (upd (upd (f0) 0 (0)) 1 (0)) 2 (0)) 3 (0)) 4 (0)) 5 (0)) 6 (0)) 7 (0)) 8 (0)) 9 (0)) 10 (0)) 11 (0)) 12 (0)) 13 (0)) 14 (0)) 15 (0)) 16 (0)) 17 (0)) 18 (0)) 19 (0)) 20 (0)) 21 (0)) 22 (0)) 23 (0)) 24 (0)) 25 (0)) 26 (0)) 27 (0)) 28 (0)) 29 (0)) 30 (0))))] := hD
  refine lv_aload_n hx hb dX0_clear_26 rfl (lv_at hl 1 rfl) ?_
  refine lv_iconst (v := 0) hx hb dX0_clear_27 (by decide) ?_
  refine va_put (D := D) (ci := 0) (v := .int 0) (ty := .int) (C := RX0) (T := TX0) (N := 3) hx hb hts iX0 tyX0 tyX0_ok nmX0 hown hK hP hD hS 0 rfl rfl 2 (by decide) (hts (.fieldLink RX0 19 "ShortTeller$Facts" "known" "I") (List.mem_of_getElem? (i := 3) rfl)) (fun _ h9 => h9) rfl (by decide +kernel) rfl rfl (Nat.le_of_ble_eq_true rfl) dX0_clear_28 (fun H locs hP hD hS => ?_)
  have hP : va_P D vwCl [(a0, .inr (0, [.ref a1, .int 0, .int 0])), (a1, .inl (c 0, 31, .inl (upd (upd (upd (upd (upd (upd (upd (upd (upd (upd (upd (upd (upd (upd (upd (upd (upd (upd (upd (upd (upd (upd (upd (upd (upd (upd (upd (upd (upd (upd (upd (f0) 0 (0)) 1 (0)) 2 (0)) 3 (0)) 4 (0)) 5 (0)) 6 (0)) 7 (0)) 8 (0)) 9 (0)) 10 (0)) 11 (0)) 12 (0)) 13 (0)) 14 (0)) 15 (0)) 16 (0)) 17 (0)) 18 (0)) 19 (0)) 20 (0)) 21 (0)) 22 (0)) 23 (0)) 24 (0)) 25 (0)) 26 (0)) 27 (0)) 28 (0)) 29 (0)) 30 (0))))] H := hP
  have hD : va_D A [(a0, .inr (0, [.ref a1, .int 0, .int 0])), (a1, .inl (c 0, 31, .inl (upd (upd (upd (upd (upd (upd (upd (upd (upd (upd (upd (upd (upd (upd (upd (upd (upd (upd (upd (upd (upd (upd (upd (upd (upd (upd (upd (upd (upd (upd (upd (f0) 0 (0)) 1 (0)) 2 (0)) 3 (0)) 4 (0)) 5 (0)) 6 (0)) 7 (0)) 8 (0)) 9 (0)) 10 (0)) 11 (0)) 12 (0)) 13 (0)) 14 (0)) 15 (0)) 16 (0)) 17 (0)) 18 (0)) 19 (0)) 20 (0)) 21 (0)) 22 (0)) 23 (0)) 24 (0)) 25 (0)) 26 (0)) 27 (0)) 28 (0)) 29 (0)) 30 (0))))] := hD
  refine W.widen (k := 0) (n := 0) (Nat.le_of_ble_eq_true rfl) (Nat.le_of_ble_eq_true rfl) ?_
  exact hret (q1_u [] []) _ _ _ _ dX0_clear_31 hP hD hS
set_option maxHeartbeats 4000000 in
set_option maxRecDepth 100000 in
theorem k102_X8_clear (l : Launch) (D : va_G) (c : Nat → ClassId) (sz : Nat) (a0 : Nat) (a1 : Nat) (x0 : Int32) (a2 : Nat) (x1 : Int32) (x2 : Int32) (x3 : Int32) (x4 : Int32) (x5 : Int32) (x6 : Int32) (a3 : Nat) (a4 : Nat) (x7 : Int32) (a5 : Nat) (a6 : Nat) (a7 : Nat) (x8 : Int32) (a8 : Nat) (a9 : Nat) (a10 : Nat) (a11 : Nat) (a12 : Nat) (x9 : Int32) : Met l yX8_clear wsX8_clear ({ frames := 0, cells := 0, slots := 0, locals := 0 }) (q1_P D c [(a0, .inr (8, [.ref a1, .int x0, .ref a2, .int x1, .int x2, .int x3, .int x4, .int x5, .int x6, .ref a3, .ref a4, .int x7, .ref a5, .ref a6, .ref a7, .int x8])), (a5, .inr (2, [.ref a8, .ref a9, .ref a10, .ref a11, .ref a12, .int x9]))] sz [.ref a0]) (q1_v D [(a0, .inr (8, [.ref a1, .int x0, .ref a2, .int x1, .int x2, .int x3, .int x4, .int x5, .int x6, .ref a3, .ref a4, .int x7, .ref a5, .ref a6, .ref a7, .int x8])), (a5, .inr (2, [.ref a8, .ref a9, .ref a10, .ref a11, .ref a12, .int x9]))] sz (fun u => [(a0, .inr (8, [.ref a1, .int 0, .ref a2, .int 0, .int 14, .int 0, .int 0, .int 0, .int 0, .ref a3, .ref a4, .int 0, .ref a5, .ref a6, .ref a7, .int 0])), (a5, .inr (2, [.ref a8, .ref a9, .ref a10, .ref a11, .ref a12, .int 0]))])) 0 0 (va_A [(a0, .inr (8, [.ref a1, .int x0, .ref a2, .int x1, .int x2, .int x3, .int x4, .int x5, .int x6, .ref a3, .ref a4, .int x7, .ref a5, .ref a6, .ref a7, .int x8])), (a5, .inr (2, [.ref a8, .ref a9, .ref a10, .ref a11, .ref a12, .int x9]))] sz) := by
  refine q1_of_v (cc := cX8_clear) (maxL := 1) (by decide) rfl (Nat.le_of_ble_eq_true rfl) (fun p e s m args below meth cd A Q ls hx hb hml hown hts hin hA hS hP hD hK hN hl hret => ?_)
  have hown : s.vm.findClass RX8 = some m.cls := hown
  obtain ⟨H, eH⟩ : ∃ z, z = s.heap := ⟨_, rfl⟩
  have hP : va_P D vwCl [(a0, .inr (8, [.ref a1, .int x0, .ref a2, .int x1, .int x2, .int x3, .int x4, .int x5, .int x6, .ref a3, .ref a4, .int x7, .ref a5, .ref a6, .ref a7, .int x8])), (a5, .inr (2, [.ref a8, .ref a9, .ref a10, .ref a11, .ref a12, .int x9]))] H := by rw [eH]; exact hP
  have hS : va_S A s.heap H [] := by rw [eH]; exact hS
  rw [← eH]
  have iX2 : ∀ w ∈ wsX20, w ∈ wsX8_clear := fun w h => List.mem_cons_of_mem _ (List.mem_append_right _ h)
  have iX8 : ∀ w ∈ wsX80, w ∈ wsX8_clear := fun w h => List.mem_cons_of_mem _ (List.mem_append_left _ (List.mem_append_right _ h))
  have hl : lv_has ls 1 [(0, .ref a0)] := hl
  refine lv_aload_n hx hb dX8_clear_0 rfl (lv_at hl 0 rfl) ?_
  refine lv_iconst (v := 0) hx hb dX8_clear_1 (by decide) ?_
  refine va_put (D := D) (ci := 8) (v := .int 0) (ty := .int) (C := RX8) (T := TX8) (N := 16) hx hb hts iX8 tyX8 tyX8_ok nmX8 hown hK hP hD hS 0 rfl rfl 1 (by decide) (hts (.fieldLink RX8 15 "ShortTeller$Story" "size" "I") (List.mem_of_getElem? (i := 1) rfl)) (fun _ h9 => h9) rfl (by decide +kernel) rfl rfl (Nat.le_of_ble_eq_true rfl) dX8_clear_2 (fun H locs hP hD hS => ?_)
  have hP : va_P D vwCl [(a0, .inr (8, [.ref a1, .int 0, .ref a2, .int x1, .int x2, .int x3, .int x4, .int x5, .int x6, .ref a3, .ref a4, .int x7, .ref a5, .ref a6, .ref a7, .int x8])), (a5, .inr (2, [.ref a8, .ref a9, .ref a10, .ref a11, .ref a12, .int x9]))] H := hP
  have hD : va_D A [(a0, .inr (8, [.ref a1, .int 0, .ref a2, .int x1, .int x2, .int x3, .int x4, .int x5, .int x6, .ref a3, .ref a4, .int x7, .ref a5, .ref a6, .ref a7, .int x8])), (a5, .inr (2, [.ref a8, .ref a9, .ref a10, .ref a11, .ref a12, .int x9]))] := hD
  refine lv_aload_n hx hb dX8_clear_5 rfl (lv_at hl 0 rfl) ?_
  refine lv_iconst (v := 0) hx hb dX8_clear_6 (by decide) ?_
  refine va_put (D := D) (ci := 8) (v := .int 0) (ty := .int) (C := RX8) (T := TX8) (N := 16) hx hb hts iX8 tyX8 tyX8_ok nmX8 hown hK hP hD hS 0 rfl rfl 3 (by decide) (hts (.fieldLink RX8 25 "ShortTeller$Story" "options" "I") (List.mem_of_getElem? (i := 2) rfl)) (fun _ h9 => h9) rfl (by decide +kernel) rfl rfl (Nat.le_of_ble_eq_true rfl) dX8_clear_7 (fun H locs hP hD hS => ?_)
  have hP : va_P D vwCl [(a0, .inr (8, [.ref a1, .int 0, .ref a2, .int 0, .int x2, .int x3, .int x4, .int x5, .int x6, .ref a3, .ref a4, .int x7, .ref a5, .ref a6, .ref a7, .int x8])), (a5, .inr (2, [.ref a8, .ref a9, .ref a10, .ref a11, .ref a12, .int x9]))] H := hP
  have hD : va_D A [(a0, .inr (8, [.ref a1, .int 0, .ref a2, .int 0, .int x2, .int x3, .int x4, .int x5, .int x6, .ref a3, .ref a4, .int x7, .ref a5, .ref a6, .ref a7, .int x8])), (a5, .inr (2, [.ref a8, .ref a9, .ref a10, .ref a11, .ref a12, .int x9]))] := hD
  refine lv_aload_n hx hb dX8_clear_10 rfl (lv_at hl 0 rfl) ?_
  refine lv_bipush (v := 14) hx hb dX8_clear_11 (by decide) ?_
  refine va_put (D := D) (ci := 8) (v := .int 14) (ty := .int) (C := RX8) (T := TX8) (N := 16) hx hb hts iX8 tyX8 tyX8_ok nmX8 hown hK hP hD hS 0 rfl rfl 4 (by decide) (hts (.fieldLink RX8 28 "ShortTeller$Story" "headingsEnd" "I") (List.mem_of_getElem? (i := 3) rfl)) (fun _ h9 => h9) rfl (by decide +kernel) rfl rfl (Nat.le_of_ble_eq_true rfl) dX8_clear_13 (fun H locs hP hD hS => ?_)
  have hP : va_P D vwCl [(a0, .inr (8, [.ref a1, .int 0, .ref a2, .int 0, .int 14, .int x3, .int x4, .int x5, .int x6, .ref a3, .ref a4, .int x7, .ref a5, .ref a6, .ref a7, .int x8])), (a5, .inr (2, [.ref a8, .ref a9, .ref a10, .ref a11, .ref a12, .int x9]))] H := hP
  have hD : va_D A [(a0, .inr (8, [.ref a1, .int 0, .ref a2, .int 0, .int 14, .int x3, .int x4, .int x5, .int x6, .ref a3, .ref a4, .int x7, .ref a5, .ref a6, .ref a7, .int x8])), (a5, .inr (2, [.ref a8, .ref a9, .ref a10, .ref a11, .ref a12, .int x9]))] := hD
  refine lv_aload_n hx hb dX8_clear_16 rfl (lv_at hl 0 rfl) ?_
  refine lv_iconst (v := 0) hx hb dX8_clear_17 (by decide) ?_
  refine va_put (D := D) (ci := 8) (v := .int 0) (ty := .int) (C := RX8) (T := TX8) (N := 16) hx hb hts iX8 tyX8 tyX8_ok nmX8 hown hK hP hD hS 0 rfl rfl 5 (by decide) (hts (.fieldLink RX8 31 "ShortTeller$Story" "headingMarks" "I") (List.mem_of_getElem? (i := 4) rfl)) (fun _ h9 => h9) rfl (by decide +kernel) rfl rfl (Nat.le_of_ble_eq_true rfl) dX8_clear_18 (fun H locs hP hD hS => ?_)
  have hP : va_P D vwCl [(a0, .inr (8, [.ref a1, .int 0, .ref a2, .int 0, .int 14, .int 0, .int x4, .int x5, .int x6, .ref a3, .ref a4, .int x7, .ref a5, .ref a6, .ref a7, .int x8])), (a5, .inr (2, [.ref a8, .ref a9, .ref a10, .ref a11, .ref a12, .int x9]))] H := hP
  have hD : va_D A [(a0, .inr (8, [.ref a1, .int 0, .ref a2, .int 0, .int 14, .int 0, .int x4, .int x5, .int x6, .ref a3, .ref a4, .int x7, .ref a5, .ref a6, .ref a7, .int x8])), (a5, .inr (2, [.ref a8, .ref a9, .ref a10, .ref a11, .ref a12, .int x9]))] := hD
  refine lv_aload_n hx hb dX8_clear_21 rfl (lv_at hl 0 rfl) ?_
  refine lv_iconst (v := 0) hx hb dX8_clear_22 (by decide) ?_
  refine va_put (D := D) (ci := 8) (v := .int 0) (ty := .int) (C := RX8) (T := TX8) (N := 16) hx hb hts iX8 tyX8 tyX8_ok nmX8 hown hK hP hD hS 0 rfl rfl 6 (by decide) (hts (.fieldLink RX8 34 "ShortTeller$Story" "sentences" "I") (List.mem_of_getElem? (i := 5) rfl)) (fun _ h9 => h9) rfl (by decide +kernel) rfl rfl (Nat.le_of_ble_eq_true rfl) dX8_clear_23 (fun H locs hP hD hS => ?_)
  have hP : va_P D vwCl [(a0, .inr (8, [.ref a1, .int 0, .ref a2, .int 0, .int 14, .int 0, .int 0, .int x5, .int x6, .ref a3, .ref a4, .int x7, .ref a5, .ref a6, .ref a7, .int x8])), (a5, .inr (2, [.ref a8, .ref a9, .ref a10, .ref a11, .ref a12, .int x9]))] H := hP
  have hD : va_D A [(a0, .inr (8, [.ref a1, .int 0, .ref a2, .int 0, .int 14, .int 0, .int 0, .int x5, .int x6, .ref a3, .ref a4, .int x7, .ref a5, .ref a6, .ref a7, .int x8])), (a5, .inr (2, [.ref a8, .ref a9, .ref a10, .ref a11, .ref a12, .int x9]))] := hD
  refine lv_aload_n hx hb dX8_clear_26 rfl (lv_at hl 0 rfl) ?_
  refine lv_iconst (v := 0) hx hb dX8_clear_27 (by decide) ?_
  refine va_put (D := D) (ci := 8) (v := .int 0) (ty := .int) (C := RX8) (T := TX8) (N := 16) hx hb hts iX8 tyX8 tyX8_ok nmX8 hown hK hP hD hS 0 rfl rfl 7 (by decide) (hts (.fieldLink RX8 37 "ShortTeller$Story" "headings" "I") (List.mem_of_getElem? (i := 6) rfl)) (fun _ h9 => h9) rfl (by decide +kernel) rfl rfl (Nat.le_of_ble_eq_true rfl) dX8_clear_28 (fun H locs hP hD hS => ?_)
  have hP : va_P D vwCl [(a0, .inr (8, [.ref a1, .int 0, .ref a2, .int 0, .int 14, .int 0, .int 0, .int 0, .int x6, .ref a3, .ref a4, .int x7, .ref a5, .ref a6, .ref a7, .int x8])), (a5, .inr (2, [.ref a8, .ref a9, .ref a10, .ref a11, .ref a12, .int x9]))] H := hP
  have hD : va_D A [(a0, .inr (8, [.ref a1, .int 0, .ref a2, .int 0, .int 14, .int 0, .int 0, .int 0, .int x6, .ref a3, .ref a4, .int x7, .ref a5, .ref a6, .ref a7, .int x8])), (a5, .inr (2, [.ref a8, .ref a9, .ref a10, .ref a11, .ref a12, .int x9]))] := hD
  refine lv_aload_n hx hb dX8_clear_31 rfl (lv_at hl 0 rfl) ?_
  refine lv_iconst (v := 0) hx hb dX8_clear_32 (by decide) ?_
  refine va_put (D := D) (ci := 8) (v := .int 0) (ty := .int) (C := RX8) (T := TX8) (N := 16) hx hb hts iX8 tyX8 tyX8_ok nmX8 hown hK hP hD hS 0 rfl rfl 8 (by decide) (hts (.fieldLink RX8 40 "ShortTeller$Story" "words" "I") (List.mem_of_getElem? (i := 7) rfl)) (fun _ h9 => h9) rfl (by decide +kernel) rfl rfl (Nat.le_of_ble_eq_true rfl) dX8_clear_33 (fun H locs hP hD hS => ?_)
  have hP : va_P D vwCl [(a0, .inr (8, [.ref a1, .int 0, .ref a2, .int 0, .int 14, .int 0, .int 0, .int 0, .int 0, .ref a3, .ref a4, .int x7, .ref a5, .ref a6, .ref a7, .int x8])), (a5, .inr (2, [.ref a8, .ref a9, .ref a10, .ref a11, .ref a12, .int x9]))] H := hP
  have hD : va_D A [(a0, .inr (8, [.ref a1, .int 0, .ref a2, .int 0, .int 14, .int 0, .int 0, .int 0, .int 0, .ref a3, .ref a4, .int x7, .ref a5, .ref a6, .ref a7, .int x8])), (a5, .inr (2, [.ref a8, .ref a9, .ref a10, .ref a11, .ref a12, .int x9]))] := hD
  refine lv_aload_n hx hb dX8_clear_36 rfl (lv_at hl 0 rfl) ?_
  refine lv_iconst (v := 0) hx hb dX8_clear_37 (by decide) ?_
  refine va_put (D := D) (ci := 8) (v := .int 0) (ty := .int) (C := RX8) (T := TX8) (N := 16) hx hb hts iX8 tyX8 tyX8_ok nmX8 hown hK hP hD hS 0 rfl rfl 11 (by decide) (hts (.fieldLink RX8 49 "ShortTeller$Story" "lists" "I") (List.mem_of_getElem? (i := 8) rfl)) (fun _ h9 => h9) rfl (by decide +kernel) rfl rfl (Nat.le_of_ble_eq_true rfl) dX8_clear_38 (fun H locs hP hD hS => ?_)
  have hP : va_P D vwCl [(a0, .inr (8, [.ref a1, .int 0, .ref a2, .int 0, .int 14, .int 0, .int 0, .int 0, .int 0, .ref a3, .ref a4, .int 0, .ref a5, .ref a6, .ref a7, .int x8])), (a5, .inr (2, [.ref a8, .ref a9, .ref a10, .ref a11, .ref a12, .int x9]))] H := hP
  have hD : va_D A [(a0, .inr (8, [.ref a1, .int 0, .ref a2, .int 0, .int 14, .int 0, .int 0, .int 0, .int 0, .ref a3, .ref a4, .int 0, .ref a5, .ref a6, .ref a7, .int x8])), (a5, .inr (2, [.ref a8, .ref a9, .ref a10, .ref a11, .ref a12, .int x9]))] := hD
  refine lv_aload_n hx hb dX8_clear_41 rfl (lv_at hl 0 rfl) ?_
  refine va_get (D := D) (ci := 8) (v := .ref a5) (C := RX8) (T := TX8) (N := 16) hx hb hts iX8 hown hK hP 0 rfl rfl 12 (by decide) (hts (.fieldLink RX8 55 "ShortTeller$Story" "marks" "LShortTeller$Marks;") (List.mem_of_getElem? (i := 9) rfl)) (fun _ h9 => h9) rfl dX8_clear_42 ?_
  refine lv_iconst (v := 0) hx hb dX8_clear_45 (by decide) ?_
  refine va_put (D := D) (ci := 2) (v := .int 0) (ty := .int) (C := RX2) (T := TX2) (N := 6) hx hb hts iX2 tyX2 tyX2_ok nmX2 hown hK hP hD hS 1 rfl rfl 5 (by decide) (hts (.fieldLink RX8 69 "ShortTeller$Marks" "used" "I") (List.mem_of_getElem? (i := 10) rfl)) (fun _ h9 => h9) rfl (by decide +kernel) rfl rfl (Nat.le_of_ble_eq_true rfl) dX8_clear_46 (fun H locs hP hD hS => ?_)
  have hP : va_P D vwCl [(a0, .inr (8, [.ref a1, .int 0, .ref a2, .int 0, .int 14, .int 0, .int 0, .int 0, .int 0, .ref a3, .ref a4, .int 0, .ref a5, .ref a6, .ref a7, .int x8])), (a5, .inr (2, [.ref a8, .ref a9, .ref a10, .ref a11, .ref a12, .int 0]))] H := hP
  have hD : va_D A [(a0, .inr (8, [.ref a1, .int 0, .ref a2, .int 0, .int 14, .int 0, .int 0, .int 0, .int 0, .ref a3, .ref a4, .int 0, .ref a5, .ref a6, .ref a7, .int x8])), (a5, .inr (2, [.ref a8, .ref a9, .ref a10, .ref a11, .ref a12, .int 0]))] := hD
  refine lv_aload_n hx hb dX8_clear_49 rfl (lv_at hl 0 rfl) ?_
  refine lv_iconst (v := 0) hx hb dX8_clear_50 (by decide) ?_
  refine va_put (D := D) (ci := 8) (v := .int 0) (ty := .int) (C := RX8) (T := TX8) (N := 16) hx hb hts iX8 tyX8 tyX8_ok nmX8 hown hK hP hD hS 0 rfl rfl 15 (by decide) (hts (.fieldLink RX8 65 "ShortTeller$Story" "names" "I") (List.mem_of_getElem? (i := 11) rfl)) (fun _ h9 => h9) rfl (by decide +kernel) rfl rfl (Nat.le_of_ble_eq_true rfl) dX8_clear_51 (fun H locs hP hD hS => ?_)
  have hP : va_P D vwCl [(a0, .inr (8, [.ref a1, .int 0, .ref a2, .int 0, .int 14, .int 0, .int 0, .int 0, .int 0, .ref a3, .ref a4, .int 0, .ref a5, .ref a6, .ref a7, .int 0])), (a5, .inr (2, [.ref a8, .ref a9, .ref a10, .ref a11, .ref a12, .int 0]))] H := hP
  have hD : va_D A [(a0, .inr (8, [.ref a1, .int 0, .ref a2, .int 0, .int 14, .int 0, .int 0, .int 0, .int 0, .ref a3, .ref a4, .int 0, .ref a5, .ref a6, .ref a7, .int 0])), (a5, .inr (2, [.ref a8, .ref a9, .ref a10, .ref a11, .ref a12, .int 0]))] := hD
  refine W.widen (k := 0) (n := 0) (Nat.le_of_ble_eq_true rfl) (Nat.le_of_ble_eq_true rfl) ?_
  exact hret (q1_u [] []) _ _ _ _ dX8_clear_54 hP hD hS
set_option maxHeartbeats 4000000 in
set_option maxRecDepth 100000 in
theorem k103_X6_forget (l : Launch) (D : va_G) (c : Nat → ClassId) (sz : Nat) (a0 : Nat) (a1 : Nat) (a2 : Nat) (x0 : Int32) (x1 : Int32) (x2 : Int32) (x3 : Int32) : Met l yX6_forget wsX6_forget ({ frames := 0, cells := 0, slots := 0, locals := 0 }) (q1_P D c [(a0, .inr (6, [.ref a1, .ref a2, .int x0, .int x1, .int x2, .int x3]))] sz [.ref a0]) (q1_v D [(a0, .inr (6, [.ref a1, .ref a2, .int x0, .int x1, .int x2, .int x3]))] sz (fun u => [(a0, .inr (6, [.ref a1, .ref a2, .int x0, .int (-1), .int x2, .int x3]))])) 0 0 (va_A [(a0, .inr (6, [.ref a1, .ref a2, .int x0, .int x1, .int x2, .int x3]))] sz) := by
  refine q1_of_v (cc := cX6_forget) (maxL := 1) (by decide) rfl (Nat.le_of_ble_eq_true rfl) (fun p e s m args below meth cd A Q ls hx hb hml hown hts hin hA hS hP hD hK hN hl hret => ?_)
  have hown : s.vm.findClass RX6 = some m.cls := hown
  obtain ⟨H, eH⟩ : ∃ z, z = s.heap := ⟨_, rfl⟩
  have hP : va_P D vwCl [(a0, .inr (6, [.ref a1, .ref a2, .int x0, .int x1, .int x2, .int x3]))] H := by rw [eH]; exact hP
  have hS : va_S A s.heap H [] := by rw [eH]; exact hS
  rw [← eH]
  have iX6 : ∀ w ∈ wsX60, w ∈ wsX6_forget := fun w h => List.mem_cons_of_mem _ (List.mem_append_right _ h)
  have hl : lv_has ls 1 [(0, .ref a0)] := hl
  refine lv_aload_n hx hb dX6_forget_0 rfl (lv_at hl 0 rfl) ?_
  refine lv_iconst (v := -1) hx hb dX6_forget_1 (by decide) ?_
  refine va_put (D := D) (ci := 6) (v := .int (-1)) (ty := .int) (C := RX6) (T := TX6) (N := 6) hx hb hts iX6 tyX6 tyX6_ok nmX6 hown hK hP hD hS 0 rfl rfl 3 (by decide) (hts (.fieldLink RX6 19 "ShortTeller$Reading" "written" "I") (List.mem_of_getElem? (i := 1) rfl)) (fun _ h9 => h9) rfl (by decide +kernel) rfl rfl (Nat.le_of_ble_eq_true rfl) dX6_forget_2 (fun H locs hP hD hS => ?_)
  have hP : va_P D vwCl [(a0, .inr (6, [.ref a1, .ref a2, .int x0, .int (-1), .int x2, .int x3]))] H := hP
  have hD : va_D A [(a0, .inr (6, [.ref a1, .ref a2, .int x0, .int (-1), .int x2, .int x3]))] := hD
  refine W.widen (k := 0) (n := 0) (Nat.le_of_ble_eq_true rfl) (Nat.le_of_ble_eq_true rfl) ?_
  exact hret (q1_u [] []) _ _ _ _ dX6_forget_5 hP hD hS
set_option maxHeartbeats 4000000 in
set_option maxRecDepth 100000 in
theorem k104_X5_forget (l : Launch) (D : va_G) (c : Nat → ClassId) (sz : Nat) (a0 : Nat) (a1 : Nat) (a2 : Nat) (a3 : Nat) (a4 : Nat) (a5 : Nat) (a6 : Nat) (a7 : Nat) (a8 : Nat) (a9 : Nat) (a10 : Nat) (x0 : Int32) (x1 : Int32) (x2 : Int32) : Met l yX5_forget wsX5_forget ({ frames := 0, cells := 0, slots := 0, locals := 0 }) (q1_P D c [(a0, .inr (5, [.ref a1, .ref a2, .ref a3, .ref a4, .ref a5, .ref a6, .ref a7, .ref a8, .ref a9, .ref a10, .int x0, .int x1, .int x2]))] sz [.ref a0]) (q1_v D [(a0, .inr (5, [.ref a1, .ref a2, .ref a3, .ref a4, .ref a5, .ref a6, .ref a7, .ref a8, .ref a9, .ref a10, .int x0, .int x1, .int x2]))] sz (fun u => [(a0, .inr (5, [.ref a1, .ref a2, .ref a3, .ref a4, .ref a5, .ref a6, .ref a7, .ref a8, .ref a9, .ref a10, .int x0, .int 0, .int x2]))])) 0 0 (va_A [(a0, .inr (5, [.ref a1, .ref a2, .ref a3, .ref a4, .ref a5, .ref a6, .ref a7, .ref a8, .ref a9, .ref a10, .int x0, .int x1, .int x2]))] sz) := by
  refine q1_of_v (cc := cX5_forget) (maxL := 1) (by decide) rfl (Nat.le_of_ble_eq_true rfl) (fun p e s m args below meth cd A Q ls hx hb hml hown hts hin hA hS hP hD hK hN hl hret => ?_)
  have hown : s.vm.findClass RX5 = some m.cls := hown
  obtain ⟨H, eH⟩ : ∃ z, z = s.heap := ⟨_, rfl⟩
  have hP : va_P D vwCl [(a0, .inr (5, [.ref a1, .ref a2, .ref a3, .ref a4, .ref a5, .ref a6, .ref a7, .ref a8, .ref a9, .ref a10, .int x0, .int x1, .int x2]))] H := by rw [eH]; exact hP
  have hS : va_S A s.heap H [] := by rw [eH]; exact hS
  rw [← eH]
  have iX5 : ∀ w ∈ wsX50, w ∈ wsX5_forget := fun w h => List.mem_cons_of_mem _ (List.mem_append_right _ h)
  have hl : lv_has ls 1 [(0, .ref a0)] := hl
  refine lv_aload_n hx hb dX5_forget_0 rfl (lv_at hl 0 rfl) ?_
  refine lv_iconst (v := 0) hx hb dX5_forget_1 (by decide) ?_
  refine va_put (D := D) (ci := 5) (v := .int 0) (ty := .boolean) (C := RX5) (T := TX5) (N := 13) hx hb hts iX5 tyX5 tyX5_ok nmX5 hown hK hP hD hS 0 rfl rfl 11 (by decide) (hts (.fieldLink RX5 37 "ShortTeller$Ranks" "isMade" "Z") (List.mem_of_getElem? (i := 1) rfl)) (fun _ h9 => h9) rfl (by decide +kernel) rfl rfl (Nat.le_of_ble_eq_true rfl) dX5_forget_2 (fun H locs hP hD hS => ?_)
  have hP : va_P D vwCl [(a0, .inr (5, [.ref a1, .ref a2, .ref a3, .ref a4, .ref a5, .ref a6, .ref a7, .ref a8, .ref a9, .ref a10, .int x0, .int 0, .int x2]))] H := hP
  have hD : va_D A [(a0, .inr (5, [.ref a1, .ref a2, .ref a3, .ref a4, .ref a5, .ref a6, .ref a7, .ref a8, .ref a9, .ref a10, .int x0, .int 0, .int x2]))] := hD
  refine W.widen (k := 0) (n := 0) (Nat.le_of_ble_eq_true rfl) (Nat.le_of_ble_eq_true rfl) ?_
  exact hret (q1_u [] []) _ _ _ _ dX5_forget_5 hP hD hS
set_option maxHeartbeats 4000000 in
set_option maxRecDepth 100000 in
theorem k105_X7_fail (l : Launch) (D : va_G) (c : Nat → ClassId) (sz : Nat) (a0 : Nat) (x0 : Int32) (x1 : Int32) (a1 : Nat) (a2 : Nat) (a3 : Nat) (x2 : Int32) (x3 : Int32) (x4 : Int32) (x5 : Int32) (a4 : Nat) (x6 : Int32) (x7 : Int32) : Met l yX7_fail wsX7_fail ({ frames := 0, cells := 0, slots := 0, locals := 0 }) (q1_P D c [(a0, .inr (7, [.ref a1, .ref a2, .ref a3, .int x2, .int x3, .int x4, .int x5, .ref a4, .int x6, .int x7]))] sz [.ref a0, .int x0, .int x1]) (q1_v D [(a0, .inr (7, [.ref a1, .ref a2, .ref a3, .int x2, .int x3, .int x4, .int x5, .ref a4, .int x6, .int x7]))] sz (fun u => [(a0, .inr (7, [.ref a1, .ref a2, .ref a3, .int x0, .int x1, .int x4, .int x5, .ref a4, .int x6, .int x7]))])) 0 0 (va_A [(a0, .inr (7, [.ref a1, .ref a2, .ref a3, .int x2, .int x3, .int x4, .int x5, .ref a4, .int x6, .int x7]))] sz) := by
  refine q1_of_v (cc := cX7_fail) (maxL := 3) (by decide) rfl (Nat.le_of_ble_eq_true rfl) (fun p e s m args below meth cd A Q ls hx hb hml hown hts hin hA hS hP hD hK hN hl hret => ?_)
  have hown : s.vm.findClass RX7 = some m.cls := hown
  obtain ⟨H, eH⟩ : ∃ z, z = s.heap := ⟨_, rfl⟩
  have hP : va_P D vwCl [(a0, .inr (7, [.ref a1, .ref a2, .ref a3, .int x2, .int x3, .int x4, .int x5, .ref a4, .int x6, .int x7]))] H := by rw [eH]; exact hP
  have hS : va_S A s.heap H [] := by rw [eH]; exact hS
  rw [← eH]
  have iX7 : ∀ w ∈ wsX70, w ∈ wsX7_fail := fun w h => List.mem_cons_of_mem _ (List.mem_append_right _ h)
  have hl : lv_has ls 3 [(0, .ref a0), (1, .int x0), (2, .int x1)] := hl
  refine lv_aload_n hx hb dX7_fail_0 rfl (lv_at hl 0 rfl) ?_
  refine lv_iload_n hx hb dX7_fail_1 rfl (lv_at hl 1 rfl) ?_
  refine va_put (D := D) (ci := 7) (v := .int x0) (ty := .int) (C := RX7) (T := TX7) (N := 10) hx hb hts iX7 tyX7 tyX7_ok nmX7 hown hK hP hD hS 0 rfl rfl 3 (by decide) (hts (.fieldLink RX7 17 "ShortTeller$Scanner" "fault" "I") (List.mem_of_getElem? (i := 1) rfl)) (fun _ h9 => h9) rfl (by decide +kernel) rfl rfl (Nat.le_of_ble_eq_true rfl) dX7_fail_2 (fun H locs hP hD hS => ?_)
  have hP : va_P D vwCl [(a0, .inr (7, [.ref a1, .ref a2, .ref a3, .int x0, .int x3, .int x4, .int x5, .ref a4, .int x6, .int x7]))] H := hP
  have hD : va_D A [(a0, .inr (7, [.ref a1, .ref a2, .ref a3, .int x0, .int x3, .int x4, .int x5, .ref a4, .int x6, .int x7]))] := hD
  refine lv_aload_n hx hb dX7_fail_5 rfl (lv_at hl 0 rfl) ?_
  refine lv_iload_n hx hb dX7_fail_6 rfl (lv_at hl 2 rfl) ?_
  refine va_put (D := D) (ci := 7) (v := .int x1) (ty := .int) (C := RX7) (T := TX7) (N := 10) hx hb hts iX7 tyX7 tyX7_ok nmX7 hown hK hP hD hS 0 rfl rfl 4 (by decide) (hts (.fieldLink RX7 21 "ShortTeller$Scanner" "place" "I") (List.mem_of_getElem? (i := 2) rfl)) (fun _ h9 => h9) rfl (by decide +kernel) rfl rfl (Nat.le_of_ble_eq_true rfl) dX7_fail_7 (fun H locs hP hD hS => ?_)
  have hP : va_P D vwCl [(a0, .inr (7, [.ref a1, .ref a2, .ref a3, .int x0, .int x1, .int x4, .int x5, .ref a4, .int x6, .int x7]))] H := hP
  have hD : va_D A [(a0, .inr (7, [.ref a1, .ref a2, .ref a3, .int x0, .int x1, .int x4, .int x5, .ref a4, .int x6, .int x7]))] := hD
  refine W.widen (k := 0) (n := 0) (Nat.le_of_ble_eq_true rfl) (Nat.le_of_ble_eq_true rfl) ?_
  exact hret (q1_u [] []) _ _ _ _ dX7_fail_10 hP hD hS
set_option maxHeartbeats 4000000 in
set_option maxRecDepth 100000 in
theorem k106_X1_begin (l : Launch) (D : va_G) (c : Nat → ClassId) (sz : Nat) (a0 : Nat) (x0 : Int32) (x1 : Int32) (x2 : Int32) (x3 : Int32) (x4 : Int32) (x5 : Int32) (x6 : Int32) (x7 : Int32) (x8 : Int32) (x9 : Int32) : Met l yX1_begin wsX1_begin ({ frames := 0, cells := 0, slots := 0, locals := 0 }) (q1_P D c [(a0, .inr (1, [.int x3, .int x4, .int x5, .int x6, .int x7, .int x8, .int x9]))] sz [.ref a0, .int x0, .int x1, .int x2]) (q1_v D [(a0, .inr (1, [.int x3, .int x4, .int x5, .int x6, .int x7, .int x8, .int x9]))] sz (fun u => [(a0, .inr (1, [.int x0, .int x1, .int x2, .int (-1), .int 0, .int 0, .int 0]))])) 0 0 (va_A [(a0, .inr (1, [.int x3, .int x4, .int x5, .int x6, .int x7, .int x8, .int x9]))] sz) := by
  refine q1_of_v (cc := cX1_begin) (maxL := 4) (by decide) rfl (Nat.le_of_ble_eq_true rfl) (fun p e s m args below meth cd A Q ls hx hb hml hown hts hin hA hS hP hD hK hN hl hret => ?_)
  have hown : s.vm.findClass RX1 = some m.cls := hown
  obtain ⟨H, eH⟩ : ∃ z, z = s.heap := ⟨_, rfl⟩
  have hP : va_P D vwCl [(a0, .inr (1, [.int x3, .int x4, .int x5, .int x6, .int x7, .int x8, .int x9]))] H := by rw [eH]; exact hP
  have hS : va_S A s.heap H [] := by rw [eH]; exact hS
  rw [← eH]
  have iX1 : ∀ w ∈ wsX10, w ∈ wsX1_begin := fun w h => List.mem_cons_of_mem _ (List.mem_append_right _ h)
  have hl : lv_has ls 4 [(0, .ref a0), (1, .int x0), (2, .int x1), (3, .int x2)] := hl
  refine lv_aload_n hx hb dX1_begin_0 rfl (lv_at hl 0 rfl) ?_
  refine lv_iload_n hx hb dX1_begin_1 rfl (lv_at hl 1 rfl) ?_
  refine va_put (D := D) (ci := 1) (v := .int x0) (ty := .int) (C := RX1) (T := TX1) (N := 7) hx hb hts iX1 tyX1 tyX1_ok nmX1 hown hK hP hD hS 0 rfl rfl 0 (by decide) (hts (.fieldLink RX1 9 "ShortTeller$Frame" "kind" "I") (List.mem_of_getElem? (i := 1) rfl)) (fun _ h9 => h9) rfl (by decide +kernel) rfl rfl (Nat.le_of_ble_eq_true rfl) dX1_begin_2 (fun H locs hP hD hS => ?_)
  have hP : va_P D vwCl [(a0, .inr (1, [.int x0, .int x4, .int x5, .int x6, .int x7, .int x8, .int x9]))] H := hP
  have hD : va_D A [(a0, .inr (1, [.int x0, .int x4, .int x5, .int x6, .int x7, .int x8, .int x9]))] := hD
  refine lv_aload_n hx hb dX1_begin_5 rfl (lv_at hl 0 rfl) ?_
  refine lv_iload_n hx hb dX1_begin_6 rfl (lv_at hl 2 rfl) ?_
  refine va_put (D := D) (ci := 1) (v := .int x1) (ty := .int) (C := RX1) (T := TX1) (N := 7) hx hb hts iX1 tyX1 tyX1_ok nmX1 hown hK hP hD hS 0 rfl rfl 1 (by decide) (hts (.fieldLink RX1 15 "ShortTeller$Frame" "piece" "I") (List.mem_of_getElem? (i := 2) rfl)) (fun _ h9 => h9) rfl (by decide +kernel) rfl rfl (Nat.le_of_ble_eq_true rfl) dX1_begin_7 (fun H locs hP hD hS => ?_)
  have hP : va_P D vwCl [(a0, .inr (1, [.int x0, .int x1, .int x5, .int x6, .int x7, .int x8, .int x9]))] H := hP
  have hD : va_D A [(a0, .inr (1, [.int x0, .int x1, .int x5, .int x6, .int x7, .int x8, .int x9]))] := hD
  refine lv_aload_n hx hb dX1_begin_10 rfl (lv_at hl 0 rfl) ?_
  refine lv_iload_n hx hb dX1_begin_11 rfl (lv_at hl 3 rfl) ?_
  refine va_put (D := D) (ci := 1) (v := .int x2) (ty := .int) (C := RX1) (T := TX1) (N := 7) hx hb hts iX1 tyX1 tyX1_ok nmX1 hown hK hP hD hS 0 rfl rfl 2 (by decide) (hts (.fieldLink RX1 18 "ShortTeller$Frame" "start" "I") (List.mem_of_getElem? (i := 3) rfl)) (fun _ h9 => h9) rfl (by decide +kernel) rfl rfl (Nat.le_of_ble_eq_true rfl) dX1_begin_12 (fun H locs hP hD hS => ?_)
  have hP : va_P D vwCl [(a0, .inr (1, [.int x0, .int x1, .int x2, .int x6, .int x7, .int x8, .int x9]))] H := hP
  have hD : va_D A [(a0, .inr (1, [.int x0, .int x1, .int x2, .int x6, .int x7, .int x8, .int x9]))] := hD
  refine lv_aload_n hx hb dX1_begin_15 rfl (lv_at hl 0 rfl) ?_
  refine lv_iconst (v := -1) hx hb dX1_begin_16 (by decide) ?_
  refine va_put (D := D) (ci := 1) (v := .int (-1)) (ty := .int) (C := RX1) (T := TX1) (N := 7) hx hb hts iX1 tyX1 tyX1_ok nmX1 hown hK hP hD hS 0 rfl rfl 3 (by decide) (hts (.fieldLink RX1 21 "ShortTeller$Frame" "list" "I") (List.mem_of_getElem? (i := 4) rfl)) (fun _ h9 => h9) rfl (by decide +kernel) rfl rfl (Nat.le_of_ble_eq_true rfl) dX1_begin_17 (fun H locs hP hD hS => ?_)
  have hP : va_P D vwCl [(a0, .inr (1, [.int x0, .int x1, .int x2, .int (-1), .int x7, .int x8, .int x9]))] H := hP
  have hD : va_D A [(a0, .inr (1, [.int x0, .int x1, .int x2, .int (-1), .int x7, .int x8, .int x9]))] := hD
  refine lv_aload_n hx hb dX1_begin_20 rfl (lv_at hl 0 rfl) ?_
  refine lv_iconst (v := 0) hx hb dX1_begin_21 (by decide) ?_
  refine va_put (D := D) (ci := 1) (v := .int 0) (ty := .int) (C := RX1) (T := TX1) (N := 7) hx hb hts iX1 tyX1 tyX1_ok nmX1 hown hK hP hD hS 0 rfl rfl 4 (by decide) (hts (.fieldLink RX1 24 "ShortTeller$Frame" "items" "I") (List.mem_of_getElem? (i := 5) rfl)) (fun _ h9 => h9) rfl (by decide +kernel) rfl rfl (Nat.le_of_ble_eq_true rfl) dX1_begin_22 (fun H locs hP hD hS => ?_)
  have hP : va_P D vwCl [(a0, .inr (1, [.int x0, .int x1, .int x2, .int (-1), .int 0, .int x8, .int x9]))] H := hP
  have hD : va_D A [(a0, .inr (1, [.int x0, .int x1, .int x2, .int (-1), .int 0, .int x8, .int x9]))] := hD
  refine lv_aload_n hx hb dX1_begin_25 rfl (lv_at hl 0 rfl) ?_
  refine lv_iconst (v := 0) hx hb dX1_begin_26 (by decide) ?_
  refine va_put (D := D) (ci := 1) (v := .int 0) (ty := .boolean) (C := RX1) (T := TX1) (N := 7) hx hb hts iX1 tyX1 tyX1_ok nmX1 hown hK hP hD hS 0 rfl rfl 5 (by decide) (hts (.fieldLink RX1 27 "ShortTeller$Frame" "begun" "Z") (List.mem_of_getElem? (i := 6) rfl)) (fun _ h9 => h9) rfl (by decide +kernel) rfl rfl (Nat.le_of_ble_eq_true rfl) dX1_begin_27 (fun H locs hP hD hS => ?_)
  have hP : va_P D vwCl [(a0, .inr (1, [.int x0, .int x1, .int x2, .int (-1), .int 0, .int 0, .int x9]))] H := hP
  have hD : va_D A [(a0, .inr (1, [.int x0, .int x1, .int x2, .int (-1), .int 0, .int 0, .int x9]))] := hD
  refine lv_aload_n hx hb dX1_begin_30 rfl (lv_at hl 0 rfl) ?_
  refine lv_iconst (v := 0) hx hb dX1_begin_31 (by decide) ?_
  refine va_put (D := D) (ci := 1) (v := .int 0) (ty := .boolean) (C := RX1) (T := TX1) (N := 7) hx hb hts iX1 tyX1 tyX1_ok nmX1 hown hK hP hD hS 0 rfl rfl 6 (by decide) (hts (.fieldLink RX1 31 "ShortTeller$Frame" "worded" "Z") (List.mem_of_getElem? (i := 7) rfl)) (fun _ h9 => h9) rfl (by decide +kernel) rfl rfl (Nat.le_of_ble_eq_true rfl) dX1_begin_32 (fun H locs hP hD hS => ?_)
  have hP : va_P D vwCl [(a0, .inr (1, [.int x0, .int x1, .int x2, .int (-1), .int 0, .int 0, .int 0]))] H := hP
  have hD : va_D A [(a0, .inr (1, [.int x0, .int x1, .int x2, .int (-1), .int 0, .int 0, .int 0]))] := hD
  refine W.widen (k := 0) (n := 0) (Nat.le_of_ble_eq_true rfl) (Nat.le_of_ble_eq_true rfl) ?_
  exact hret (q1_u [] []) _ _ _ _ dX1_begin_35 hP hD hS
set_option maxHeartbeats 4000000 in
set_option maxRecDepth 100000 in
theorem k107_X4_begin (l : Launch) (D : va_G) (c : Nat → ClassId) (sz : Nat) (a0 : Nat) (x0 : Int32) (x1 : Int32) (x2 : Int32) (x3 : Int32) (x4 : Int32) (x5 : Int32) (x6 : Int32) (x7 : Int32) (x8 : Int32) (x9 : Int32) : Met l yX4_begin wsX4_begin ({ frames := 0, cells := 0, slots := 0, locals := 0 }) (q1_P D c [(a0, .inr (4, [.int x3, .int x4, .int x5, .int x6, .int x7, .int x8, .int x9]))] sz [.ref a0, .int x0, .int x1, .int x2]) (q1_v D [(a0, .inr (4, [.int x3, .int x4, .int x5, .int x6, .int x7, .int x8, .int x9]))] sz (fun u => [(a0, .inr (4, [.int x0, .int x1, .int (-1), .int 0, .int 0, .int x2, .int 0]))])) 0 0 (va_A [(a0, .inr (4, [.int x3, .int x4, .int x5, .int x6, .int x7, .int x8, .int x9]))] sz) := by
  refine q1_of_v (cc := cX4_begin) (maxL := 4) (by decide) rfl (Nat.le_of_ble_eq_true rfl) (fun p e s m args below meth cd A Q ls hx hb hml hown hts hin hA hS hP hD hK hN hl hret => ?_)
  have hown : s.vm.findClass RX4 = some m.cls := hown
  obtain ⟨H, eH⟩ : ∃ z, z = s.heap := ⟨_, rfl⟩
  have hP : va_P D vwCl [(a0, .inr (4, [.int x3, .int x4, .int x5, .int x6, .int x7, .int x8, .int x9]))] H := by rw [eH]; exact hP
  have hS : va_S A s.heap H [] := by rw [eH]; exact hS
  rw [← eH]
  have iX4 : ∀ w ∈ wsX40, w ∈ wsX4_begin := fun w h => List.mem_cons_of_mem _ (List.mem_append_right _ h)
  have hl : lv_has ls 4 [(0, .ref a0), (1, .int x0), (2, .int x1), (3, .int x2)] := hl
  refine lv_aload_n hx hb dX4_begin_0 rfl (lv_at hl 0 rfl) ?_
  refine lv_iload_n hx hb dX4_begin_1 rfl (lv_at hl 1 rfl) ?_
  refine va_put (D := D) (ci := 4) (v := .int x0) (ty := .int) (C := RX4) (T := TX4) (N := 7) hx hb hts iX4 tyX4 tyX4_ok nmX4 hown hK hP hD hS 0 rfl rfl 0 (by decide) (hts (.fieldLink RX4 9 "ShortTeller$Piece" "kind" "I") (List.mem_of_getElem? (i := 1) rfl)) (fun _ h9 => h9) rfl (by decide +kernel) rfl rfl (Nat.le_of_ble_eq_true rfl) dX4_begin_2 (fun H locs hP hD hS => ?_)
  have hP : va_P D vwCl [(a0, .inr (4, [.int x0, .int x4, .int x5, .int x6, .int x7, .int x8, .int x9]))] H := hP
  have hD : va_D A [(a0, .inr (4, [.int x0, .int x4, .int x5, .int x6, .int x7, .int x8, .int x9]))] := hD
  refine lv_aload_n hx hb dX4_begin_5 rfl (lv_at hl 0 rfl) ?_
  refine lv_iload_n hx hb dX4_begin_6 rfl (lv_at hl 2 rfl) ?_
  refine va_put (D := D) (ci := 4) (v := .int x1) (ty := .int) (C := RX4) (T := TX4) (N := 7) hx hb hts iX4 tyX4 tyX4_ok nmX4 hown hK hP hD hS 0 rfl rfl 1 (by decide) (hts (.fieldLink RX4 15 "ShortTeller$Piece" "within" "I") (List.mem_of_getElem? (i := 2) rfl)) (fun _ h9 => h9) rfl (by decide +kernel) rfl rfl (Nat.le_of_ble_eq_true rfl) dX4_begin_7 (fun H locs hP hD hS => ?_)
  have hP : va_P D vwCl [(a0, .inr (4, [.int x0, .int x1, .int x5, .int x6, .int x7, .int x8, .int x9]))] H := hP
  have hD : va_D A [(a0, .inr (4, [.int x0, .int x1, .int x5, .int x6, .int x7, .int x8, .int x9]))] := hD
  refine lv_aload_n hx hb dX4_begin_10 rfl (lv_at hl 0 rfl) ?_
  refine lv_iconst (v := -1) hx hb dX4_begin_11 (by decide) ?_
  refine va_put (D := D) (ci := 4) (v := .int (-1)) (ty := .int) (C := RX4) (T := TX4) (N := 7) hx hb hts iX4 tyX4 tyX4_ok nmX4 hown hK hP hD hS 0 rfl rfl 2 (by decide) (hts (.fieldLink RX4 18 "ShortTeller$Piece" "list" "I") (List.mem_of_getElem? (i := 3) rfl)) (fun _ h9 => h9) rfl (by decide +kernel) rfl rfl (Nat.le_of_ble_eq_true rfl) dX4_begin_12 (fun H locs hP hD hS => ?_)
  have hP : va_P D vwCl [(a0, .inr (4, [.int x0, .int x1, .int (-1), .int x6, .int x7, .int x8, .int x9]))] H := hP
  have hD : va_D A [(a0, .inr (4, [.int x0, .int x1, .int (-1), .int x6, .int x7, .int x8, .int x9]))] := hD
  refine lv_aload_n hx hb dX4_begin_15 rfl (lv_at hl 0 rfl) ?_
  refine lv_iconst (v := 0) hx hb dX4_begin_16 (by decide) ?_
  refine va_put (D := D) (ci := 4) (v := .int 0) (ty := .int) (C := RX4) (T := TX4) (N := 7) hx hb hts iX4 tyX4 tyX4_ok nmX4 hown hK hP hD hS 0 rfl rfl 3 (by decide) (hts (.fieldLink RX4 21 "ShortTeller$Piece" "words" "I") (List.mem_of_getElem? (i := 4) rfl)) (fun _ h9 => h9) rfl (by decide +kernel) rfl rfl (Nat.le_of_ble_eq_true rfl) dX4_begin_17 (fun H locs hP hD hS => ?_)
  have hP : va_P D vwCl [(a0, .inr (4, [.int x0, .int x1, .int (-1), .int 0, .int x7, .int x8, .int x9]))] H := hP
  have hD : va_D A [(a0, .inr (4, [.int x0, .int x1, .int (-1), .int 0, .int x7, .int x8, .int x9]))] := hD
  refine lv_aload_n hx hb dX4_begin_20 rfl (lv_at hl 0 rfl) ?_
  refine lv_iconst (v := 0) hx hb dX4_begin_21 (by decide) ?_
  refine va_put (D := D) (ci := 4) (v := .int 0) (ty := .int) (C := RX4) (T := TX4) (N := 7) hx hb hts iX4 tyX4 tyX4_ok nmX4 hown hK hP hD hS 0 rfl rfl 4 (by decide) (hts (.fieldLink RX4 24 "ShortTeller$Piece" "facts" "I") (List.mem_of_getElem? (i := 5) rfl)) (fun _ h9 => h9) rfl (by decide +kernel) rfl rfl (Nat.le_of_ble_eq_true rfl) dX4_begin_22 (fun H locs hP hD hS => ?_)
  have hP : va_P D vwCl [(a0, .inr (4, [.int x0, .int x1, .int (-1), .int 0, .int 0, .int x8, .int x9]))] H := hP
  have hD : va_D A [(a0, .inr (4, [.int x0, .int x1, .int (-1), .int 0, .int 0, .int x8, .int x9]))] := hD
  refine lv_aload_n hx hb dX4_begin_25 rfl (lv_at hl 0 rfl) ?_
  refine lv_iload_n hx hb dX4_begin_26 rfl (lv_at hl 3 rfl) ?_
  refine va_put (D := D) (ci := 4) (v := .int x2) (ty := .int) (C := RX4) (T := TX4) (N := 7) hx hb hts iX4 tyX4 tyX4_ok nmX4 hown hK hP hD hS 0 rfl rfl 5 (by decide) (hts (.fieldLink RX4 27 "ShortTeller$Piece" "keep" "I") (List.mem_of_getElem? (i := 6) rfl)) (fun _ h9 => h9) rfl (by decide +kernel) rfl rfl (Nat.le_of_ble_eq_true rfl) dX4_begin_27 (fun H locs hP hD hS => ?_)
  have hP : va_P D vwCl [(a0, .inr (4, [.int x0, .int x1, .int (-1), .int 0, .int 0, .int x2, .int x9]))] H := hP
  have hD : va_D A [(a0, .inr (4, [.int x0, .int x1, .int (-1), .int 0, .int 0, .int x2, .int x9]))] := hD
  refine lv_aload_n hx hb dX4_begin_30 rfl (lv_at hl 0 rfl) ?_
  refine lv_iconst (v := 0) hx hb dX4_begin_31 (by decide) ?_
  refine va_put (D := D) (ci := 4) (v := .int 0) (ty := .int) (C := RX4) (T := TX4) (N := 7) hx hb hts iX4 tyX4 tyX4_ok nmX4 hown hK hP hD hS 0 rfl rfl 6 (by decide) (hts (.fieldLink RX4 30 "ShortTeller$Piece" "signs" "I") (List.mem_of_getElem? (i := 7) rfl)) (fun _ h9 => h9) rfl (by decide +kernel) rfl rfl (Nat.le_of_ble_eq_true rfl) dX4_begin_32 (fun H locs hP hD hS => ?_)
  have hP : va_P D vwCl [(a0, .inr (4, [.int x0, .int x1, .int (-1), .int 0, .int 0, .int x2, .int 0]))] H := hP
  have hD : va_D A [(a0, .inr (4, [.int x0, .int x1, .int (-1), .int 0, .int 0, .int x2, .int 0]))] := hD
  refine W.widen (k := 0) (n := 0) (Nat.le_of_ble_eq_true rfl) (Nat.le_of_ble_eq_true rfl) ?_
  exact hret (q1_u [] []) _ _ _ _ dX4_begin_35 hP hD hS
set_option maxHeartbeats 4000000 in
set_option maxRecDepth 100000 in
theorem k108_X2_isMark (l : Launch) (D : va_G) (c : Nat → ClassId) (sz : Nat) (a0 : Nat) (x0 : Int32) (a1 : Nat) (a2 : Nat) (a3 : Nat) (a4 : Nat) (a5 : Nat) (x1 : Int32) (g0 : x0 < (0 : Int32)) : Met l yX2_isMark wsX2_isMark ({ frames := 0, cells := 0, slots := 0, locals := 0 }) (q1_P D c [(a0, .inr (2, [.ref a1, .ref a2, .ref a3, .ref a4, .ref a5, .int x1]))] sz [.ref a0, .int x0]) (q1_i D [(a0, .inr (2, [.ref a1, .ref a2, .ref a3, .ref a4, .ref a5, .int x1]))] sz (0) (fun u => [(a0, .inr (2, [.ref a1, .ref a2, .ref a3, .ref a4, .ref a5, .int x1]))])) 0 0 (va_A [(a0, .inr (2, [.ref a1, .ref a2, .ref a3, .ref a4, .ref a5, .int x1]))] sz) := by
  refine q1_of_i (ty := .boolean) rfl (cc := cX2_isMark) (maxL := 2) (by decide) rfl (Nat.le_of_ble_eq_true rfl) (fun p e s m args below meth cd A Q ls hx hb hml hown hts hin hA hS hP hD hK hN hl hret => ?_)
  have hown : s.vm.findClass RX2 = some m.cls := hown
  obtain ⟨H, eH⟩ : ∃ z, z = s.heap := ⟨_, rfl⟩
  have hP : va_P D vwCl [(a0, .inr (2, [.ref a1, .ref a2, .ref a3, .ref a4, .ref a5, .int x1]))] H := by rw [eH]; exact hP
  have hS : va_S A s.heap H [] := by rw [eH]; exact hS
  rw [← eH]
  have hl : lv_has ls 2 [(0, .ref a0), (1, .int x0)] := hl
  refine lv_iload_n hx hb dX2_isMark_0 rfl (lv_at hl 1 rfl) ?_
  refine lv_if_lt (tgt := 16) hx hb dX2_isMark_1 (by decide) (fun _ => ?_) (fun h9 => absurd g0 h9)
  refine lv_iconst (v := 0) hx hb dX2_isMark_16 (by decide) ?_
  refine W.widen (k := 0) (n := 0) (Nat.le_of_ble_eq_true rfl) (Nat.le_of_ble_eq_true rfl) ?_
  exact hret (q1_u [] []) _ _ _ _ dX2_isMark_17 hP hD hS
set_option maxHeartbeats 4000000 in
set_option maxRecDepth 100000 in
theorem k109_X2_isMark (l : Launch) (D : va_G) (c : Nat → ClassId) (sz : Nat) (a0 : Nat) (x0 : Int32) (a1 : Nat) (a2 : Nat) (a3 : Nat) (a4 : Nat) (a5 : Nat) (x1 : Int32) (g0 : ¬ x0 < (0 : Int32)) (g1 : ¬ x1 ≤ x0) : Met l yX2_isMark wsX2_isMark ({ frames := 0, cells := 0, slots := 0, locals := 0 }) (q1_P D c [(a0, .inr (2, [.ref a1, .ref a2, .ref a3, .ref a4, .ref a5, .int x1]))] sz [.ref a0, .int x0]) (q1_i D [(a0, .inr (2, [.ref a1, .ref a2, .ref a3, .ref a4, .ref a5, .int x1]))] sz (1) (fun u => [(a0, .inr (2, [.ref a1, .ref a2, .ref a3, .ref a4, .ref a5, .int x1]))])) 0 0 (va_A [(a0, .inr (2, [.ref a1, .ref a2, .ref a3, .ref a4, .ref a5, .int x1]))] sz) := by
  refine q1_of_i (ty := .boolean) rfl (cc := cX2_isMark) (maxL := 2) (by decide) rfl (Nat.le_of_ble_eq_true rfl) (fun p e s m args below meth cd A Q ls hx hb hml hown hts hin hA hS hP hD hK hN hl hret => ?_)
  have hown : s.vm.findClass RX2 = some m.cls := hown
  obtain ⟨H, eH⟩ : ∃ z, z = s.heap := ⟨_, rfl⟩
  have hP : va_P D vwCl [(a0, .inr (2, [.ref a1, .ref a2, .ref a3, .ref a4, .ref a5, .int x1]))] H := by rw [eH]; exact hP
  have hS : va_S A s.heap H [] := by rw [eH]; exact hS
  rw [← eH]
  have iX2 : ∀ w ∈ wsX20, w ∈ wsX2_isMark := fun w h => List.mem_cons_of_mem _ (List.mem_append_right _ h)
  have hl : lv_has ls 2 [(0, .ref a0), (1, .int x0)] := hl
  refine lv_iload_n hx hb dX2_isMark_0 rfl (lv_at hl 1 rfl) ?_
  refine lv_if_lt (tgt := 16) hx hb dX2_isMark_1 (by decide) (fun h9 => absurd h9 g0) (fun _ => ?_)
  refine lv_iload_n hx hb dX2_isMark_4 rfl (lv_at hl 1 rfl) ?_
  refine lv_aload_n hx hb dX2_isMark_5 rfl (lv_at hl 0 rfl) ?_
  refine va_get (D := D) (ci := 2) (v := .int x1) (C := RX2) (T := TX2) (N := 6) hx hb hts iX2 hown hK hP 0 rfl rfl 5 (by decide) (hts (.fieldLink RX2 27 "ShortTeller$Marks" "used" "I") (List.mem_of_getElem? (i := 1) rfl)) (fun _ h9 => h9) rfl dX2_isMark_6 ?_
  refine lv_icmp_ge (tgt := 16) hx hb dX2_isMark_9 (by decide) (fun h9 => absurd h9 g1) (fun _ => ?_)
  refine lv_iconst (v := 1) hx hb dX2_isMark_12 (by decide) ?_
  refine lv_goto (tgt := 17) hx hb dX2_isMark_13 (by decide) ?_
  refine W.widen (k := 0) (n := 0) (Nat.le_of_ble_eq_true rfl) (Nat.le_of_ble_eq_true rfl) ?_
  exact hret (q1_u [] []) _ _ _ _ dX2_isMark_17 hP hD hS
set_option maxHeartbeats 4000000 in
set_option maxRecDepth 100000 in
theorem k110_X2_isMark (l : Launch) (D : va_G) (c : Nat → ClassId) (sz : Nat) (a0 : Nat) (x0 : Int32) (a1 : Nat) (a2 : Nat) (a3 : Nat) (a4 : Nat) (a5 : Nat) (x1 : Int32) (g0 : ¬ x0 < (0 : Int32)) (g1 : x1 ≤ x0) : Met l yX2_isMark wsX2_isMark ({ frames := 0, cells := 0, slots := 0, locals := 0 }) (q1_P D c [(a0, .inr (2, [.ref a1, .ref a2, .ref a3, .ref a4, .ref a5, .int x1]))] sz [.ref a0, .int x0]) (q1_i D [(a0, .inr (2, [.ref a1, .ref a2, .ref a3, .ref a4, .ref a5, .int x1]))] sz (0) (fun u => [(a0, .inr (2, [.ref a1, .ref a2, .ref a3, .ref a4, .ref a5, .int x1]))])) 0 0 (va_A [(a0, .inr (2, [.ref a1, .ref a2, .ref a3, .ref a4, .ref a5, .int x1]))] sz) := by
  refine q1_of_i (ty := .boolean) rfl (cc := cX2_isMark) (maxL := 2) (by decide) rfl (Nat.le_of_ble_eq_true rfl) (fun p e s m args below meth cd A Q ls hx hb hml hown hts hin hA hS hP hD hK hN hl hret => ?_)
  have hown : s.vm.findClass RX2 = some m.cls := hown
  obtain ⟨H, eH⟩ : ∃ z, z = s.heap := ⟨_, rfl⟩
  have hP : va_P D vwCl [(a0, .inr (2, [.ref a1, .ref a2, .ref a3, .ref a4, .ref a5, .int x1]))] H := by rw [eH]; exact hP
  have hS : va_S A s.heap H [] := by rw [eH]; exact hS
  rw [← eH]
  have iX2 : ∀ w ∈ wsX20, w ∈ wsX2_isMark := fun w h => List.mem_cons_of_mem _ (List.mem_append_right _ h)
  have hl : lv_has ls 2 [(0, .ref a0), (1, .int x0)] := hl
  refine lv_iload_n hx hb dX2_isMark_0 rfl (lv_at hl 1 rfl) ?_
  refine lv_if_lt (tgt := 16) hx hb dX2_isMark_1 (by decide) (fun h9 => absurd h9 g0) (fun _ => ?_)
  refine lv_iload_n hx hb dX2_isMark_4 rfl (lv_at hl 1 rfl) ?_
  refine lv_aload_n hx hb dX2_isMark_5 rfl (lv_at hl 0 rfl) ?_
  refine va_get (D := D) (ci := 2) (v := .int x1) (C := RX2) (T := TX2) (N := 6) hx hb hts iX2 hown hK hP 0 rfl rfl 5 (by decide) (hts (.fieldLink RX2 27 "ShortTeller$Marks" "used" "I") (List.mem_of_getElem? (i := 1) rfl)) (fun _ h9 => h9) rfl dX2_isMark_6 ?_
  refine lv_icmp_ge (tgt := 16) hx hb dX2_isMark_9 (by decide) (fun _ => ?_) (fun h9 => absurd g1 h9)
  refine lv_iconst (v := 0) hx hb dX2_isMark_16 (by decide) ?_
  refine W.widen (k := 0) (n := 0) (Nat.le_of_ble_eq_true rfl) (Nat.le_of_ble_eq_true rfl) ?_
  exact hret (q1_u [] []) _ _ _ _ dX2_isMark_17 hP hD hS
set_option maxHeartbeats 4000000 in
set_option maxRecDepth 100000 in
theorem k111_X6_holds (l : Launch) (D : va_G) (c : Nat → ClassId) (sz : Nat) (a0 : Nat) (x0 : Int32) (a1 : Nat) (a2 : Nat) (x1 : Int32) (x2 : Int32) (x3 : Int32) (x4 : Int32) (g0 : x2 = x0) : Met l yX6_holds wsX6_holds ({ frames := 0, cells := 0, slots := 0, locals := 0 }) (q1_P D c [(a0, .inr (6, [.ref a1, .ref a2, .int x1, .int x2, .int x3, .int x4]))] sz [.ref a0, .int x0]) (q1_i D [(a0, .inr (6, [.ref a1, .ref a2, .int x1, .int x2, .int x3, .int x4]))] sz (1) (fun u => [(a0, .inr (6, [.ref a1, .ref a2, .int x1, .int x2, .int x3, .int x4]))])) 0 0 (va_A [(a0, .inr (6, [.ref a1, .ref a2, .int x1, .int x2, .int x3, .int x4]))] sz) := by
  refine q1_of_i (ty := .boolean) rfl (cc := cX6_holds) (maxL := 2) (by decide) rfl (Nat.le_of_ble_eq_true rfl) (fun p e s m args below meth cd A Q ls hx hb hml hown hts hin hA hS hP hD hK hN hl hret => ?_)
  have hown : s.vm.findClass RX6 = some m.cls := hown
  obtain ⟨H, eH⟩ : ∃ z, z = s.heap := ⟨_, rfl⟩
  have hP : va_P D vwCl [(a0, .inr (6, [.ref a1, .ref a2, .int x1, .int x2, .int x3, .int x4]))] H := by rw [eH]; exact hP
  have hS : va_S A s.heap H [] := by rw [eH]; exact hS
  rw [← eH]
  have iX6 : ∀ w ∈ wsX60, w ∈ wsX6_holds := fun w h => List.mem_cons_of_mem _ (List.mem_append_right _ h)
  have hl : lv_has ls 2 [(0, .ref a0), (1, .int x0)] := hl
  refine lv_aload_n hx hb dX6_holds_0 rfl (lv_at hl 0 rfl) ?_
  refine va_get (D := D) (ci := 6) (v := .int x2) (C := RX6) (T := TX6) (N := 6) hx hb hts iX6 hown hK hP 0 rfl rfl 3 (by decide) (hts (.fieldLink RX6 19 "ShortTeller$Reading" "written" "I") (List.mem_of_getElem? (i := 1) rfl)) (fun _ h9 => h9) rfl dX6_holds_1 ?_
  refine lv_iload_n hx hb dX6_holds_4 rfl (lv_at hl 1 rfl) ?_
  refine lv_icmp_ne (tgt := 12) hx hb dX6_holds_5 (by decide) (fun h9 => absurd g0 h9) (fun _ => ?_)
  refine lv_iconst (v := 1) hx hb dX6_holds_8 (by decide) ?_
  refine lv_goto (tgt := 13) hx hb dX6_holds_9 (by decide) ?_
  refine W.widen (k := 0) (n := 0) (Nat.le_of_ble_eq_true rfl) (Nat.le_of_ble_eq_true rfl) ?_
  exact hret (q1_u [] []) _ _ _ _ dX6_holds_13 hP hD hS
set_option maxHeartbeats 4000000 in
set_option maxRecDepth 100000 in
theorem k112_X6_holds (l : Launch) (D : va_G) (c : Nat → ClassId) (sz : Nat) (a0 : Nat) (x0 : Int32) (a1 : Nat) (a2 : Nat) (x1 : Int32) (x2 : Int32) (x3 : Int32) (x4 : Int32) (g0 : ¬ x2 = x0) : Met l yX6_holds wsX6_holds ({ frames := 0, cells := 0, slots := 0, locals := 0 }) (q1_P D c [(a0, .inr (6, [.ref a1, .ref a2, .int x1, .int x2, .int x3, .int x4]))] sz [.ref a0, .int x0]) (q1_i D [(a0, .inr (6, [.ref a1, .ref a2, .int x1, .int x2, .int x3, .int x4]))] sz (0) (fun u => [(a0, .inr (6, [.ref a1, .ref a2, .int x1, .int x2, .int x3, .int x4]))])) 0 0 (va_A [(a0, .inr (6, [.ref a1, .ref a2, .int x1, .int x2, .int x3, .int x4]))] sz) := by
  refine q1_of_i (ty := .boolean) rfl (cc := cX6_holds) (maxL := 2) (by decide) rfl (Nat.le_of_ble_eq_true rfl) (fun p e s m args below meth cd A Q ls hx hb hml hown hts hin hA hS hP hD hK hN hl hret => ?_)
  have hown : s.vm.findClass RX6 = some m.cls := hown
  obtain ⟨H, eH⟩ : ∃ z, z = s.heap := ⟨_, rfl⟩
  have hP : va_P D vwCl [(a0, .inr (6, [.ref a1, .ref a2, .int x1, .int x2, .int x3, .int x4]))] H := by rw [eH]; exact hP
  have hS : va_S A s.heap H [] := by rw [eH]; exact hS
  rw [← eH]
  have iX6 : ∀ w ∈ wsX60, w ∈ wsX6_holds := fun w h => List.mem_cons_of_mem _ (List.mem_append_right _ h)
  have hl : lv_has ls 2 [(0, .ref a0), (1, .int x0)] := hl
  refine lv_aload_n hx hb dX6_holds_0 rfl (lv_at hl 0 rfl) ?_
  refine va_get (D := D) (ci := 6) (v := .int x2) (C := RX6) (T := TX6) (N := 6) hx hb hts iX6 hown hK hP 0 rfl rfl 3 (by decide) (hts (.fieldLink RX6 19 "ShortTeller$Reading" "written" "I") (List.mem_of_getElem? (i := 1) rfl)) (fun _ h9 => h9) rfl dX6_holds_1 ?_
  refine lv_iload_n hx hb dX6_holds_4 rfl (lv_at hl 1 rfl) ?_
  refine lv_icmp_ne (tgt := 12) hx hb dX6_holds_5 (by decide) (fun _ => ?_) (fun h9 => absurd h9 g0)
  refine lv_iconst (v := 0) hx hb dX6_holds_12 (by decide) ?_
  refine W.widen (k := 0) (n := 0) (Nat.le_of_ble_eq_true rfl) (Nat.le_of_ble_eq_true rfl) ?_
  exact hret (q1_u [] []) _ _ _ _ dX6_holds_13 hP hD hS
set_option maxHeartbeats 4000000 in
set_option maxRecDepth 100000 in
theorem k113_X5_isPlace (l : Launch) (D : va_G) (c : Nat → ClassId) (sz : Nat) (a0 : Nat) (x0 : Int32) (a1 : Nat) (a2 : Nat) (a3 : Nat) (a4 : Nat) (a5 : Nat) (a6 : Nat) (a7 : Nat) (a8 : Nat) (a9 : Nat) (a10 : Nat) (x1 : Int32) (x2 : Int32) (x3 : Int32) (g0 : x0 < (0 : Int32)) : Met l yX5_isPlace wsX5_isPlace ({ frames := 0, cells := 0, slots := 0, locals := 0 }) (q1_P D c [(a0, .inr (5, [.ref a1, .ref a2, .ref a3, .ref a4, .ref a5, .ref a6, .ref a7, .ref a8, .ref a9, .ref a10, .int x1, .int x2, .int x3]))] sz [.ref a0, .int x0]) (q1_i D [(a0, .inr (5, [.ref a1, .ref a2, .ref a3, .ref a4, .ref a5, .ref a6, .ref a7, .ref a8, .ref a9, .ref a10, .int x1, .int x2, .int x3]))] sz (0) (fun u => [(a0, .inr (5, [.ref a1, .ref a2, .ref a3, .ref a4, .ref a5, .ref a6, .ref a7, .ref a8, .ref a9, .ref a10, .int x1, .int x2, .int x3]))])) 0 0 (va_A [(a0, .inr (5, [.ref a1, .ref a2, .ref a3, .ref a4, .ref a5, .ref a6, .ref a7, .ref a8, .ref a9, .ref a10, .int x1, .int x2, .int x3]))] sz) := by
  refine q1_of_i (ty := .boolean) rfl (cc := cX5_isPlace) (maxL := 2) (by decide) rfl (Nat.le_of_ble_eq_true rfl) (fun p e s m args below meth cd A Q ls hx hb hml hown hts hin hA hS hP hD hK hN hl hret => ?_)
  have hown : s.vm.findClass RX5 = some m.cls := hown
  obtain ⟨H, eH⟩ : ∃ z, z = s.heap := ⟨_, rfl⟩
  have hP : va_P D vwCl [(a0, .inr (5, [.ref a1, .ref a2, .ref a3, .ref a4, .ref a5, .ref a6, .ref a7, .ref a8, .ref a9, .ref a10, .int x1, .int x2, .int x3]))] H := by rw [eH]; exact hP
  have hS : va_S A s.heap H [] := by rw [eH]; exact hS
  rw [← eH]
  have hl : lv_has ls 2 [(0, .ref a0), (1, .int x0)] := hl
  refine lv_iload_n hx hb dX5_isPlace_0 rfl (lv_at hl 1 rfl) ?_
  refine lv_if_lt (tgt := 16) hx hb dX5_isPlace_1 (by decide) (fun _ => ?_) (fun h9 => absurd g0 h9)
  refine lv_iconst (v := 0) hx hb dX5_isPlace_16 (by decide) ?_
  refine W.widen (k := 0) (n := 0) (Nat.le_of_ble_eq_true rfl) (Nat.le_of_ble_eq_true rfl) ?_
  exact hret (q1_u [] []) _ _ _ _ dX5_isPlace_17 hP hD hS
set_option maxHeartbeats 4000000 in
set_option maxRecDepth 100000 in
theorem k114_X5_isPlace (l : Launch) (D : va_G) (c : Nat → ClassId) (sz : Nat) (a0 : Nat) (x0 : Int32) (a1 : Nat) (a2 : Nat) (a3 : Nat) (a4 : Nat) (a5 : Nat) (a6 : Nat) (a7 : Nat) (a8 : Nat) (a9 : Nat) (a10 : Nat) (x1 : Int32) (x2 : Int32) (x3 : Int32) (g0 : ¬ x0 < (0 : Int32)) (g1 : ¬ x1 ≤ x0) : Met l yX5_isPlace wsX5_isPlace ({ frames := 0, cells := 0, slots := 0, locals := 0 }) (q1_P D c [(a0, .inr (5, [.ref a1, .ref a2, .ref a3, .ref a4, .ref a5, .ref a6, .ref a7, .ref a8, .ref a9, .ref a10, .int x1, .int x2, .int x3]))] sz [.ref a0, .int x0]) (q1_i D [(a0, .inr (5, [.ref a1, .ref a2, .ref a3, .ref a4, .ref a5, .ref a6, .ref a7, .ref a8, .ref a9, .ref a10, .int x1, .int x2, .int x3]))] sz (1) (fun u => [(a0, .inr (5, [.ref a1, .ref a2, .ref a3, .ref a4, .ref a5, .ref a6, .ref a7, .ref a8, .ref a9, .ref a10, .int x1, .int x2, .int x3]))])) 0 0 (va_A [(a0, .inr (5, [.ref a1, .ref a2, .ref a3, .ref a4, .ref a5, .ref a6, .ref a7, .ref a8, .ref a9, .ref a10, .int x1, .int x2, .int x3]))] sz) := by
  refine q1_of_i (ty := .boolean) rfl (cc := cX5_isPlace) (maxL := 2) (by decide) rfl (Nat.le_of_ble_eq_true rfl) (fun p e s m args below meth cd A Q ls hx hb hml hown hts hin hA hS hP hD hK hN hl hret => ?_)
  have hown : s.vm.findClass RX5 = some m.cls := hown
  obtain ⟨H, eH⟩ : ∃ z, z = s.heap := ⟨_, rfl⟩
  have hP : va_P D vwCl [(a0, .inr (5, [.ref a1, .ref a2, .ref a3, .ref a4, .ref a5, .ref a6, .ref a7, .ref a8, .ref a9, .ref a10, .int x1, .int x2, .int x3]))] H := by rw [eH]; exact hP
  have hS : va_S A s.heap H [] := by rw [eH]; exact hS
  rw [← eH]
  have iX5 : ∀ w ∈ wsX50, w ∈ wsX5_isPlace := fun w h => List.mem_cons_of_mem _ (List.mem_append_right _ h)
  have hl : lv_has ls 2 [(0, .ref a0), (1, .int x0)] := hl
  refine lv_iload_n hx hb dX5_isPlace_0 rfl (lv_at hl 1 rfl) ?_
  refine lv_if_lt (tgt := 16) hx hb dX5_isPlace_1 (by decide) (fun h9 => absurd h9 g0) (fun _ => ?_)
  refine lv_iload_n hx hb dX5_isPlace_4 rfl (lv_at hl 1 rfl) ?_
  refine lv_aload_n hx hb dX5_isPlace_5 rfl (lv_at hl 0 rfl) ?_
  refine va_get (D := D) (ci := 5) (v := .int x1) (C := RX5) (T := TX5) (N := 13) hx hb hts iX5 hown hK hP 0 rfl rfl 10 (by decide) (hts (.fieldLink RX5 33 "ShortTeller$Ranks" "used" "I") (List.mem_of_getElem? (i := 1) rfl)) (fun _ h9 => h9) rfl dX5_isPlace_6 ?_
  refine lv_icmp_ge (tgt := 16) hx hb dX5_isPlace_9 (by decide) (fun h9 => absurd h9 g1) (fun _ => ?_)
  refine lv_iconst (v := 1) hx hb dX5_isPlace_12 (by decide) ?_
  refine lv_goto (tgt := 17) hx hb dX5_isPlace_13 (by decide) ?_
  refine W.widen (k := 0) (n := 0) (Nat.le_of_ble_eq_true rfl) (Nat.le_of_ble_eq_true rfl) ?_
  exact hret (q1_u [] []) _ _ _ _ dX5_isPlace_17 hP hD hS
set_option maxHeartbeats 4000000 in
set_option maxRecDepth 100000 in
theorem k115_X5_isPlace (l : Launch) (D : va_G) (c : Nat → ClassId) (sz : Nat) (a0 : Nat) (x0 : Int32) (a1 : Nat) (a2 : Nat) (a3 : Nat) (a4 : Nat) (a5 : Nat) (a6 : Nat) (a7 : Nat) (a8 : Nat) (a9 : Nat) (a10 : Nat) (x1 : Int32) (x2 : Int32) (x3 : Int32) (g0 : ¬ x0 < (0 : Int32)) (g1 : x1 ≤ x0) : Met l yX5_isPlace wsX5_isPlace ({ frames := 0, cells := 0, slots := 0, locals := 0 }) (q1_P D c [(a0, .inr (5, [.ref a1, .ref a2, .ref a3, .ref a4, .ref a5, .ref a6, .ref a7, .ref a8, .ref a9, .ref a10, .int x1, .int x2, .int x3]))] sz [.ref a0, .int x0]) (q1_i D [(a0, .inr (5, [.ref a1, .ref a2, .ref a3, .ref a4, .ref a5, .ref a6, .ref a7, .ref a8, .ref a9, .ref a10, .int x1, .int x2, .int x3]))] sz (0) (fun u => [(a0, .inr (5, [.ref a1, .ref a2, .ref a3, .ref a4, .ref a5, .ref a6, .ref a7, .ref a8, .ref a9, .ref a10, .int x1, .int x2, .int x3]))])) 0 0 (va_A [(a0, .inr (5, [.ref a1, .ref a2, .ref a3, .ref a4, .ref a5, .ref a6, .ref a7, .ref a8, .ref a9, .ref a10, .int x1, .int x2, .int x3]))] sz) := by
  refine q1_of_i (ty := .boolean) rfl (cc := cX5_isPlace) (maxL := 2) (by decide) rfl (Nat.le_of_ble_eq_true rfl) (fun p e s m args below meth cd A Q ls hx hb hml hown hts hin hA hS hP hD hK hN hl hret => ?_)
  have hown : s.vm.findClass RX5 = some m.cls := hown
  obtain ⟨H, eH⟩ : ∃ z, z = s.heap := ⟨_, rfl⟩
  have hP : va_P D vwCl [(a0, .inr (5, [.ref a1, .ref a2, .ref a3, .ref a4, .ref a5, .ref a6, .ref a7, .ref a8, .ref a9, .ref a10, .int x1, .int x2, .int x3]))] H := by rw [eH]; exact hP
  have hS : va_S A s.heap H [] := by rw [eH]; exact hS
  rw [← eH]
  have iX5 : ∀ w ∈ wsX50, w ∈ wsX5_isPlace := fun w h => List.mem_cons_of_mem _ (List.mem_append_right _ h)
  have hl : lv_has ls 2 [(0, .ref a0), (1, .int x0)] := hl
  refine lv_iload_n hx hb dX5_isPlace_0 rfl (lv_at hl 1 rfl) ?_
  refine lv_if_lt (tgt := 16) hx hb dX5_isPlace_1 (by decide) (fun h9 => absurd h9 g0) (fun _ => ?_)
  refine lv_iload_n hx hb dX5_isPlace_4 rfl (lv_at hl 1 rfl) ?_
  refine lv_aload_n hx hb dX5_isPlace_5 rfl (lv_at hl 0 rfl) ?_
  refine va_get (D := D) (ci := 5) (v := .int x1) (C := RX5) (T := TX5) (N := 13) hx hb hts iX5 hown hK hP 0 rfl rfl 10 (by decide) (hts (.fieldLink RX5 33 "ShortTeller$Ranks" "used" "I") (List.mem_of_getElem? (i := 1) rfl)) (fun _ h9 => h9) rfl dX5_isPlace_6 ?_
  refine lv_icmp_ge (tgt := 16) hx hb dX5_isPlace_9 (by decide) (fun _ => ?_) (fun h9 => absurd g1 h9)
  refine lv_iconst (v := 0) hx hb dX5_isPlace_16 (by decide) ?_
  refine W.widen (k := 0) (n := 0) (Nat.le_of_ble_eq_true rfl) (Nat.le_of_ble_eq_true rfl) ?_
  exact hret (q1_u [] []) _ _ _ _ dX5_isPlace_17 hP hD hS
set_option maxHeartbeats 4000000 in
set_option maxRecDepth 100000 in
theorem k116_X9_fault (l : Launch) (D : va_G) (c : Nat → ClassId) (sz : Nat) (a0 : Nat) (a1 : Nat) (x0 : Int32) (a2 : Nat) (a3 : Nat) (a4 : Nat) (a5 : Nat) (a6 : Nat) (a7 : Nat) (a8 : Nat) (a9 : Nat) (a10 : Nat) (x1 : Int32) (x2 : Int32) (x3 : Int32) (x4 : Int32) (a11 : Nat) (x5 : Int32) (x6 : Int32) : Met l yX9_fault wsX9_fault ({ frames := 0, cells := 0, slots := 0, locals := 0 }) (q1_P D c [(a0, .inr (9, [.ref a1, .int x0, .ref a2, .ref a3, .ref a4, .ref a5, .ref a6, .ref a7])), (a4, .inr (7, [.ref a8, .ref a9, .ref a10, .int x1, .int x2, .int x3, .int x4, .ref a11, .int x5, .int x6]))] sz [.ref a0, .int 0]) (q1_i D [(a0, .inr (9, [.ref a1, .int x0, .ref a2, .ref a3, .ref a4, .ref a5, .ref a6, .ref a7])), (a4, .inr (7, [.ref a8, .ref a9, .ref a10, .int x1, .int x2, .int x3, .int x4, .ref a11, .int x5, .int x6]))] sz (x1) (fun u => [(a0, .inr (9, [.ref a1, .int x0, .ref a2, .ref a3, .ref a4, .ref a5, .ref a6, .ref a7])), (a4, .inr (7, [.ref a8, .ref a9, .ref a10, .int x1, .int x2, .int x3, .int x4, .ref a11, .int x5, .int x6]))])) 0 0 (va_A [(a0, .inr (9, [.ref a1, .int x0, .ref a2, .ref a3, .ref a4, .ref a5, .ref a6, .ref a7])), (a4, .inr (7, [.ref a8, .ref a9, .ref a10, .int x1, .int x2, .int x3, .int x4, .ref a11, .int x5, .int x6]))] sz) := by
  refine q1_of_i (ty := .int) rfl (cc := cX9_fault) (maxL := 2) (by decide) rfl (Nat.le_of_ble_eq_true rfl) (fun p e s m args below meth cd A Q ls hx hb hml hown hts hin hA hS hP hD hK hN hl hret => ?_)
  have hown : s.vm.findClass RX9 = some m.cls := hown
  obtain ⟨H, eH⟩ : ∃ z, z = s.heap := ⟨_, rfl⟩
  have hP : va_P D vwCl [(a0, .inr (9, [.ref a1, .int x0, .ref a2, .ref a3, .ref a4, .ref a5, .ref a6, .ref a7])), (a4, .inr (7, [.ref a8, .ref a9, .ref a10, .int x1, .int x2, .int x3, .int x4, .ref a11, .int x5, .int x6]))] H := by rw [eH]; exact hP
  have hS : va_S A s.heap H [] := by rw [eH]; exact hS
  rw [← eH]
  have iX7 : ∀ w ∈ wsX70, w ∈ wsX9_fault := fun w h => List.mem_cons_of_mem _ (List.mem_append_right _ h)
  have iX9 : ∀ w ∈ wsX90, w ∈ wsX9_fault := fun w h => List.mem_cons_of_mem _ (List.mem_append_left _ (List.mem_append_right _ h))
  have hl : lv_has ls 2 [(0, .ref a0), (1, .int 0)] := hl
  refine lv_iload_n hx hb dX9_fault_0 rfl (lv_at hl 1 rfl) ?_
  refine lv_lookup (tgt := 28) (off := 27) hx hb dX9_fault_1 (by decide) (by decide) (by decide) ?_
  refine lv_aload_n hx hb dX9_fault_28 rfl (lv_at hl 0 rfl) ?_
  refine va_get (D := D) (ci := 9) (v := .ref a4) (C := RX9) (T := TX9) (N := 8) hx hb hts iX9 hown hK hP 0 rfl rfl 4 (by decide) (hts (.fieldLink RX9 36 "ShortTeller" "scanner" "LShortTeller$Scanner;") (List.mem_of_getElem? (i := 1) rfl)) (fun _ h9 => h9) rfl dX9_fault_29 ?_
  refine va_get (D := D) (ci := 7) (v := .int x1) (C := RX7) (T := TX7) (N := 10) hx hb hts iX7 hown hK hP 1 rfl rfl 3 (by decide) (hts (.fieldLink RX9 79 "ShortTeller$Scanner" "fault" "I") (List.mem_of_getElem? (i := 2) rfl)) (fun _ h9 => h9) rfl dX9_fault_32 ?_
  refine W.widen (k := 0) (n := 0) (Nat.le_of_ble_eq_true rfl) (Nat.le_of_ble_eq_true rfl) ?_
  exact hret (q1_u [] []) _ _ _ _ dX9_fault_35 hP hD hS
set_option maxHeartbeats 4000000 in
set_option maxRecDepth 100000 in
theorem k117_X10_fault (l : Launch) (D : va_G) (c : Nat → ClassId) (sz : Nat) (a0 : Nat) (a1 : Nat) (x0 : Int32) (x1 : Int32) (x2 : Int32) (x3 : Int32) (x4 : Int32) (a2 : Nat) (a3 : Nat) (a4 : Nat) (a5 : Nat) (a6 : Nat) (a7 : Nat) (x5 : Int32) (a8 : Nat) (a9 : Nat) (a10 : Nat) (a11 : Nat) (a12 : Nat) (x6 : Int32) (a13 : Nat) (x7 : Int32) (a14 : Nat) (x8 : Int32) (a15 : Nat) (x9 : Int32) (a16 : Nat) (x10 : Int32) (x11 : Int32) (a17 : Nat) (a18 : Nat) (x12 : Int32) (x13 : Int32) (x14 : Int32) (x15 : Int32) (x16 : Int32) (a19 : Nat) (a20 : Nat) (a21 : Nat) (a22 : Nat) (a23 : Nat) (x17 : Int32) (a24 : Nat) (a25 : Nat) (a26 : Nat) (a27 : Nat) (x18 : Int32) (a28 : Nat) (x19 : Int32) (a29 : Nat) (x20 : Int32) (a30 : Nat) (a31 : Nat) (x21 : Int32) (x22 : Int32) (x23 : Int32) (a32 : Nat) (a33 : Nat) (a34 : Nat) (a35 : Nat) (a36 : Nat) (a37 : Nat) (a38 : Nat) (x24 : Int32) (x25 : Int32) (x26 : Int32) (a39 : Nat) : Met l yX10_fault wsX10_fault ({ frames := 0, cells := 0, slots := 0, locals := 0 }) (q1_P D c [(a0, .inr (10, [.ref a1, .int x0, .int x1, .int x2, .int x3, .int x4, .ref a2, .ref a3, .ref a4, .ref a5, .ref a6, .ref a7, .int x5, .ref a8, .ref a9, .ref a10, .ref a11, .ref a12, .int x6, .ref a13, .int x7, .ref a14, .int x8, .ref a15, .int x9, .ref a16, .int x10, .int x11, .ref a17, .ref a18, .int x12, .int x13, .int x14, .int x15, .int x16, .ref a19, .ref a20, .ref a21, .ref a22, .ref a23, .int x17, .ref a24, .ref a25, .ref a26, .ref a27, .int x18, .ref a28, .int x19, .ref a29, .int x20, .ref a30, .ref a31, .int x21, .int x22, .int x23, .ref a32, .ref a33, .ref a34, .ref a35, .ref a36, .ref a37, .ref a38, .int x24, .int x25, .int x26, .ref a39]))] sz [.ref a0, .int 0]) (q1_i D [(a0, .inr (10, [.ref a1, .int x0, .int x1, .int x2, .int x3, .int x4, .ref a2, .ref a3, .ref a4, .ref a5, .ref a6, .ref a7, .int x5, .ref a8, .ref a9, .ref a10, .ref a11, .ref a12, .int x6, .ref a13, .int x7, .ref a14, .int x8, .ref a15, .int x9, .ref a16, .int x10, .int x11, .ref a17, .ref a18, .int x12, .int x13, .int x14, .int x15, .int x16, .ref a19, .ref a20, .ref a21, .ref a22, .ref a23, .int x17, .ref a24, .ref a25, .ref a26, .ref a27, .int x18, .ref a28, .int x19, .ref a29, .int x20, .ref a30, .ref a31, .int x21, .int x22, .int x23, .ref a32, .ref a33, .ref a34, .ref a35, .ref a36, .ref a37, .ref a38, .int x24, .int x25, .int x26, .ref a39]))] sz (x2) (fun u => [(a0, .inr (10, [.ref a1, .int x0, .int 0, .int x2, .int x3, .int x4, .ref a2, .ref a3, .ref a4, .ref a5, .ref a6, .ref a7, .int x5, .ref a8, .ref a9, .ref a10, .ref a11, .ref a12, .int x6, .ref a13, .int x7, .ref a14, .int x8, .ref a15, .int x9, .ref a16, .int x10, .int x11, .ref a17, .ref a18, .int x12, .int x13, .int x14, .int x15, .int x16, .ref a19, .ref a20, .ref a21, .ref a22, .ref a23, .int x17, .ref a24, .ref a25, .ref a26, .ref a27, .int x18, .ref a28, .int x19, .ref a29, .int x20, .ref a30, .ref a31, .int x21, .int x22, .int x23, .ref a32, .ref a33, .ref a34, .ref a35, .ref a36, .ref a37, .ref a38, .int x24, .int x25, .int x26, .ref a39]))])) 0 0 (va_A [(a0, .inr (10, [.ref a1, .int x0, .int x1, .int x2, .int x3, .int x4, .ref a2, .ref a3, .ref a4, .ref a5, .ref a6, .ref a7, .int x5, .ref a8, .ref a9, .ref a10, .ref a11, .ref a12, .int x6, .ref a13, .int x7, .ref a14, .int x8, .ref a15, .int x9, .ref a16, .int x10, .int x11, .ref a17, .ref a18, .int x12, .int x13, .int x14, .int x15, .int x16, .ref a19, .ref a20, .ref a21, .ref a22, .ref a23, .int x17, .ref a24, .ref a25, .ref a26, .ref a27, .int x18, .ref a28, .int x19, .ref a29, .int x20, .ref a30, .ref a31, .int x21, .int x22, .int x23, .ref a32, .ref a33, .ref a34, .ref a35, .ref a36, .ref a37, .ref a38, .int x24, .int x25, .int x26, .ref a39]))] sz) := by
  refine q1_of_i (ty := .int) rfl (cc := cX10_fault) (maxL := 2) (by decide) rfl (Nat.le_of_ble_eq_true rfl) (fun p e s m args below meth cd A Q ls hx hb hml hown hts hin hA hS hP hD hK hN hl hret => ?_)
  have hown : s.vm.findClass RX10 = some m.cls := hown
  obtain ⟨H, eH⟩ : ∃ z, z = s.heap := ⟨_, rfl⟩
  have hP : va_P D vwCl [(a0, .inr (10, [.ref a1, .int x0, .int x1, .int x2, .int x3, .int x4, .ref a2, .ref a3, .ref a4, .ref a5, .ref a6, .ref a7, .int x5, .ref a8, .ref a9, .ref a10, .ref a11, .ref a12, .int x6, .ref a13, .int x7, .ref a14, .int x8, .ref a15, .int x9, .ref a16, .int x10, .int x11, .ref a17, .ref a18, .int x12, .int x13, .int x14, .int x15, .int x16, .ref a19, .ref a20, .ref a21, .ref a22, .ref a23, .int x17, .ref a24, .ref a25, .ref a26, .ref a27, .int x18, .ref a28, .int x19, .ref a29, .int x20, .ref a30, .ref a31, .int x21, .int x22, .int x23, .ref a32, .ref a33, .ref a34, .ref a35, .ref a36, .ref a37, .ref a38, .int x24, .int x25, .int x26, .ref a39]))] H := by rw [eH]; exact hP
  have hS : va_S A s.heap H [] := by rw [eH]; exact hS
  rw [← eH]
  have iX10 : ∀ w ∈ wsX100, w ∈ wsX10_fault := fun w h => List.mem_cons_of_mem _ (List.mem_append_right _ h)
  have hl : lv_has ls 2 [(0, .ref a0), (1, .int 0)] := hl
  refine lv_aload_n hx hb dX10_fault_0 rfl (lv_at hl 0 rfl) ?_
  refine lv_iconst (v := 0) hx hb dX10_fault_1 (by decide) ?_
  refine va_put (D := D) (ci := 10) (v := .int 0) (ty := .int) (C := RX10) (T := TX10) (N := 66) hx hb hts iX10 tyX10 tyX10_ok nmX10 hown hK hP hD hS 0 rfl rfl 2 (by decide) (hts (.fieldLink RX10 135 "ShortTellerModel" "thrown" "I") (List.mem_of_getElem? (i := 1) rfl)) (fun _ h9 => h9) rfl (by decide +kernel) rfl rfl (Nat.le_of_ble_eq_true rfl) dX10_fault_2 (fun H locs hP hD hS => ?_)
  have hP : va_P D vwCl [(a0, .inr (10, [.ref a1, .int x0, .int 0, .int x2, .int x3, .int x4, .ref a2, .ref a3, .ref a4, .ref a5, .ref a6, .ref a7, .int x5, .ref a8, .ref a9, .ref a10, .ref a11, .ref a12, .int x6, .ref a13, .int x7, .ref a14, .int x8, .ref a15, .int x9, .ref a16, .int x10, .int x11, .ref a17, .ref a18, .int x12, .int x13, .int x14, .int x15, .int x16, .ref a19, .ref a20, .ref a21, .ref a22, .ref a23, .int x17, .ref a24, .ref a25, .ref a26, .ref a27, .int x18, .ref a28, .int x19, .ref a29, .int x20, .ref a30, .ref a31, .int x21, .int x22, .int x23, .ref a32, .ref a33, .ref a34, .ref a35, .ref a36, .ref a37, .ref a38, .int x24, .int x25, .int x26, .ref a39]))] H := hP
  have hD : va_D A [(a0, .inr (10, [.ref a1, .int x0, .int 0, .int x2, .int x3, .int x4, .ref a2, .ref a3, .ref a4, .ref a5, .ref a6, .ref a7, .int x5, .ref a8, .ref a9, .ref a10, .ref a11, .ref a12, .int x6, .ref a13, .int x7, .ref a14, .int x8, .ref a15, .int x9, .ref a16, .int x10, .int x11, .ref a17, .ref a18, .int x12, .int x13, .int x14, .int x15, .int x16, .ref a19, .ref a20, .ref a21, .ref a22, .ref a23, .int x17, .ref a24, .ref a25, .ref a26, .ref a27, .int x18, .ref a28, .int x19, .ref a29, .int x20, .ref a30, .ref a31, .int x21, .int x22, .int x23, .ref a32, .ref a33, .ref a34, .ref a35, .ref a36, .ref a37, .ref a38, .int x24, .int x25, .int x26, .ref a39]))] := hD
  refine lv_iload_n hx hb dX10_fault_5 rfl (lv_at hl 1 rfl) ?_
  refine lv_if_ne (tgt := 16) hx hb dX10_fault_6 (by decide) (fun h9 => absurd (by decide) h9) (fun _ => ?_)
  refine lv_aload_n hx hb dX10_fault_9 rfl (lv_at hl 0 rfl) ?_
  refine va_get (D := D) (ci := 10) (v := .int x2) (C := RX10) (T := TX10) (N := 66) hx hb hts iX10 hown hK hP 0 rfl rfl 3 (by decide) (hts (.fieldLink RX10 141 "ShortTellerModel" "fault" "I") (List.mem_of_getElem? (i := 2) rfl)) (fun _ h9 => h9) rfl dX10_fault_10 ?_
  refine lv_goto (tgt := 29) hx hb dX10_fault_13 (by decide) ?_
  refine W.widen (k := 0) (n := 0) (Nat.le_of_ble_eq_true rfl) (Nat.le_of_ble_eq_true rfl) ?_
  exact hret (q1_u [] []) _ _ _ _ dX10_fault_29 hP hD hS
set_option maxHeartbeats 4000000 in
set_option maxRecDepth 100000 in
theorem k118_X9_fault (l : Launch) (D : va_G) (c : Nat → ClassId) (sz : Nat) (a0 : Nat) (a1 : Nat) (x0 : Int32) (a2 : Nat) (a3 : Nat) (a4 : Nat) (a5 : Nat) (a6 : Nat) (a7 : Nat) (a8 : Nat) (a9 : Nat) (a10 : Nat) (x1 : Int32) (x2 : Int32) (x3 : Int32) (x4 : Int32) (a11 : Nat) (x5 : Int32) (x6 : Int32) : Met l yX9_fault wsX9_fault ({ frames := 0, cells := 0, slots := 0, locals := 0 }) (q1_P D c [(a0, .inr (9, [.ref a1, .int x0, .ref a2, .ref a3, .ref a4, .ref a5, .ref a6, .ref a7])), (a4, .inr (7, [.ref a8, .ref a9, .ref a10, .int x1, .int x2, .int x3, .int x4, .ref a11, .int x5, .int x6]))] sz [.ref a0, .int 1]) (q1_i D [(a0, .inr (9, [.ref a1, .int x0, .ref a2, .ref a3, .ref a4, .ref a5, .ref a6, .ref a7])), (a4, .inr (7, [.ref a8, .ref a9, .ref a10, .int x1, .int x2, .int x3, .int x4, .ref a11, .int x5, .int x6]))] sz (x2) (fun u => [(a0, .inr (9, [.ref a1, .int x0, .ref a2, .ref a3, .ref a4, .ref a5, .ref a6, .ref a7])), (a4, .inr (7, [.ref a8, .ref a9, .ref a10, .int x1, .int x2, .int x3, .int x4, .ref a11, .int x5, .int x6]))])) 0 0 (va_A [(a0, .inr (9, [.ref a1, .int x0, .ref a2, .ref a3, .ref a4, .ref a5, .ref a6, .ref a7])), (a4, .inr (7, [.ref a8, .ref a9, .ref a10, .int x1, .int x2, .int x3, .int x4, .ref a11, .int x5, .int x6]))] sz) := by
  refine q1_of_i (ty := .int) rfl (cc := cX9_fault) (maxL := 2) (by decide) rfl (Nat.le_of_ble_eq_true rfl) (fun p e s m args below meth cd A Q ls hx hb hml hown hts hin hA hS hP hD hK hN hl hret => ?_)
  have hown : s.vm.findClass RX9 = some m.cls := hown
  obtain ⟨H, eH⟩ : ∃ z, z = s.heap := ⟨_, rfl⟩
  have hP : va_P D vwCl [(a0, .inr (9, [.ref a1, .int x0, .ref a2, .ref a3, .ref a4, .ref a5, .ref a6, .ref a7])), (a4, .inr (7, [.ref a8, .ref a9, .ref a10, .int x1, .int x2, .int x3, .int x4, .ref a11, .int x5, .int x6]))] H := by rw [eH]; exact hP
  have hS : va_S A s.heap H [] := by rw [eH]; exact hS
  rw [← eH]
  have iX7 : ∀ w ∈ wsX70, w ∈ wsX9_fault := fun w h => List.mem_cons_of_mem _ (List.mem_append_right _ h)
  have iX9 : ∀ w ∈ wsX90, w ∈ wsX9_fault := fun w h => List.mem_cons_of_mem _ (List.mem_append_left _ (List.mem_append_right _ h))
  have hl : lv_has ls 2 [(0, .ref a0), (1, .int 1)] := hl
  refine lv_iload_n hx hb dX9_fault_0 rfl (lv_at hl 1 rfl) ?_
  refine lv_lookup (tgt := 36) (off := 35) hx hb dX9_fault_1 (by decide) (by decide) (by decide) ?_
  refine lv_aload_n hx hb dX9_fault_36 rfl (lv_at hl 0 rfl) ?_
  refine va_get (D := D) (ci := 9) (v := .ref a4) (C := RX9) (T := TX9) (N := 8) hx hb hts iX9 hown hK hP 0 rfl rfl 4 (by decide) (hts (.fieldLink RX9 36 "ShortTeller" "scanner" "LShortTeller$Scanner;") (List.mem_of_getElem? (i := 1) rfl)) (fun _ h9 => h9) rfl dX9_fault_37 ?_
  refine va_get (D := D) (ci := 7) (v := .int x2) (C := RX7) (T := TX7) (N := 10) hx hb hts iX7 hown hK hP 1 rfl rfl 4 (by decide) (hts (.fieldLink RX9 93 "ShortTeller$Scanner" "place" "I") (List.mem_of_getElem? (i := 3) rfl)) (fun _ h9 => h9) rfl dX9_fault_40 ?_
  refine W.widen (k := 0) (n := 0) (Nat.le_of_ble_eq_true rfl) (Nat.le_of_ble_eq_true rfl) ?_
  exact hret (q1_u [] []) _ _ _ _ dX9_fault_43 hP hD hS
set_option maxHeartbeats 4000000 in
set_option maxRecDepth 100000 in
theorem k119_X10_fault (l : Launch) (D : va_G) (c : Nat → ClassId) (sz : Nat) (a0 : Nat) (a1 : Nat) (x0 : Int32) (x1 : Int32) (x2 : Int32) (x3 : Int32) (x4 : Int32) (a2 : Nat) (a3 : Nat) (a4 : Nat) (a5 : Nat) (a6 : Nat) (a7 : Nat) (x5 : Int32) (a8 : Nat) (a9 : Nat) (a10 : Nat) (a11 : Nat) (a12 : Nat) (x6 : Int32) (a13 : Nat) (x7 : Int32) (a14 : Nat) (x8 : Int32) (a15 : Nat) (x9 : Int32) (a16 : Nat) (x10 : Int32) (x11 : Int32) (a17 : Nat) (a18 : Nat) (x12 : Int32) (x13 : Int32) (x14 : Int32) (x15 : Int32) (x16 : Int32) (a19 : Nat) (a20 : Nat) (a21 : Nat) (a22 : Nat) (a23 : Nat) (x17 : Int32) (a24 : Nat) (a25 : Nat) (a26 : Nat) (a27 : Nat) (x18 : Int32) (a28 : Nat) (x19 : Int32) (a29 : Nat) (x20 : Int32) (a30 : Nat) (a31 : Nat) (x21 : Int32) (x22 : Int32) (x23 : Int32) (a32 : Nat) (a33 : Nat) (a34 : Nat) (a35 : Nat) (a36 : Nat) (a37 : Nat) (a38 : Nat) (x24 : Int32) (x25 : Int32) (x26 : Int32) (a39 : Nat) : Met l yX10_fault wsX10_fault ({ frames := 0, cells := 0, slots := 0, locals := 0 }) (q1_P D c [(a0, .inr (10, [.ref a1, .int x0, .int x1, .int x2, .int x3, .int x4, .ref a2, .ref a3, .ref a4, .ref a5, .ref a6, .ref a7, .int x5, .ref a8, .ref a9, .ref a10, .ref a11, .ref a12, .int x6, .ref a13, .int x7, .ref a14, .int x8, .ref a15, .int x9, .ref a16, .int x10, .int x11, .ref a17, .ref a18, .int x12, .int x13, .int x14, .int x15, .int x16, .ref a19, .ref a20, .ref a21, .ref a22, .ref a23, .int x17, .ref a24, .ref a25, .ref a26, .ref a27, .int x18, .ref a28, .int x19, .ref a29, .int x20, .ref a30, .ref a31, .int x21, .int x22, .int x23, .ref a32, .ref a33, .ref a34, .ref a35, .ref a36, .ref a37, .ref a38, .int x24, .int x25, .int x26, .ref a39]))] sz [.ref a0, .int 1]) (q1_i D [(a0, .inr (10, [.ref a1, .int x0, .int x1, .int x2, .int x3, .int x4, .ref a2, .ref a3, .ref a4, .ref a5, .ref a6, .ref a7, .int x5, .ref a8, .ref a9, .ref a10, .ref a11, .ref a12, .int x6, .ref a13, .int x7, .ref a14, .int x8, .ref a15, .int x9, .ref a16, .int x10, .int x11, .ref a17, .ref a18, .int x12, .int x13, .int x14, .int x15, .int x16, .ref a19, .ref a20, .ref a21, .ref a22, .ref a23, .int x17, .ref a24, .ref a25, .ref a26, .ref a27, .int x18, .ref a28, .int x19, .ref a29, .int x20, .ref a30, .ref a31, .int x21, .int x22, .int x23, .ref a32, .ref a33, .ref a34, .ref a35, .ref a36, .ref a37, .ref a38, .int x24, .int x25, .int x26, .ref a39]))] sz (x3) (fun u => [(a0, .inr (10, [.ref a1, .int x0, .int 0, .int x2, .int x3, .int x4, .ref a2, .ref a3, .ref a4, .ref a5, .ref a6, .ref a7, .int x5, .ref a8, .ref a9, .ref a10, .ref a11, .ref a12, .int x6, .ref a13, .int x7, .ref a14, .int x8, .ref a15, .int x9, .ref a16, .int x10, .int x11, .ref a17, .ref a18, .int x12, .int x13, .int x14, .int x15, .int x16, .ref a19, .ref a20, .ref a21, .ref a22, .ref a23, .int x17, .ref a24, .ref a25, .ref a26, .ref a27, .int x18, .ref a28, .int x19, .ref a29, .int x20, .ref a30, .ref a31, .int x21, .int x22, .int x23, .ref a32, .ref a33, .ref a34, .ref a35, .ref a36, .ref a37, .ref a38, .int x24, .int x25, .int x26, .ref a39]))])) 0 0 (va_A [(a0, .inr (10, [.ref a1, .int x0, .int x1, .int x2, .int x3, .int x4, .ref a2, .ref a3, .ref a4, .ref a5, .ref a6, .ref a7, .int x5, .ref a8, .ref a9, .ref a10, .ref a11, .ref a12, .int x6, .ref a13, .int x7, .ref a14, .int x8, .ref a15, .int x9, .ref a16, .int x10, .int x11, .ref a17, .ref a18, .int x12, .int x13, .int x14, .int x15, .int x16, .ref a19, .ref a20, .ref a21, .ref a22, .ref a23, .int x17, .ref a24, .ref a25, .ref a26, .ref a27, .int x18, .ref a28, .int x19, .ref a29, .int x20, .ref a30, .ref a31, .int x21, .int x22, .int x23, .ref a32, .ref a33, .ref a34, .ref a35, .ref a36, .ref a37, .ref a38, .int x24, .int x25, .int x26, .ref a39]))] sz) := by
  refine q1_of_i (ty := .int) rfl (cc := cX10_fault) (maxL := 2) (by decide) rfl (Nat.le_of_ble_eq_true rfl) (fun p e s m args below meth cd A Q ls hx hb hml hown hts hin hA hS hP hD hK hN hl hret => ?_)
  have hown : s.vm.findClass RX10 = some m.cls := hown
  obtain ⟨H, eH⟩ : ∃ z, z = s.heap := ⟨_, rfl⟩
  have hP : va_P D vwCl [(a0, .inr (10, [.ref a1, .int x0, .int x1, .int x2, .int x3, .int x4, .ref a2, .ref a3, .ref a4, .ref a5, .ref a6, .ref a7, .int x5, .ref a8, .ref a9, .ref a10, .ref a11, .ref a12, .int x6, .ref a13, .int x7, .ref a14, .int x8, .ref a15, .int x9, .ref a16, .int x10, .int x11, .ref a17, .ref a18, .int x12, .int x13, .int x14, .int x15, .int x16, .ref a19, .ref a20, .ref a21, .ref a22, .ref a23, .int x17, .ref a24, .ref a25, .ref a26, .ref a27, .int x18, .ref a28, .int x19, .ref a29, .int x20, .ref a30, .ref a31, .int x21, .int x22, .int x23, .ref a32, .ref a33, .ref a34, .ref a35, .ref a36, .ref a37, .ref a38, .int x24, .int x25, .int x26, .ref a39]))] H := by rw [eH]; exact hP
  have hS : va_S A s.heap H [] := by rw [eH]; exact hS
  rw [← eH]
  have iX10 : ∀ w ∈ wsX100, w ∈ wsX10_fault := fun w h => List.mem_cons_of_mem _ (List.mem_append_right _ h)
  have hl : lv_has ls 2 [(0, .ref a0), (1, .int 1)] := hl
  refine lv_aload_n hx hb dX10_fault_0 rfl (lv_at hl 0 rfl) ?_
  refine lv_iconst (v := 0) hx hb dX10_fault_1 (by decide) ?_
  refine va_put (D := D) (ci := 10) (v := .int 0) (ty := .int) (C := RX10) (T := TX10) (N := 66) hx hb hts iX10 tyX10 tyX10_ok nmX10 hown hK hP hD hS 0 rfl rfl 2 (by decide) (hts (.fieldLink RX10 135 "ShortTellerModel" "thrown" "I") (List.mem_of_getElem? (i := 1) rfl)) (fun _ h9 => h9) rfl (by decide +kernel) rfl rfl (Nat.le_of_ble_eq_true rfl) dX10_fault_2 (fun H locs hP hD hS => ?_)
  have hP : va_P D vwCl [(a0, .inr (10, [.ref a1, .int x0, .int 0, .int x2, .int x3, .int x4, .ref a2, .ref a3, .ref a4, .ref a5, .ref a6, .ref a7, .int x5, .ref a8, .ref a9, .ref a10, .ref a11, .ref a12, .int x6, .ref a13, .int x7, .ref a14, .int x8, .ref a15, .int x9, .ref a16, .int x10, .int x11, .ref a17, .ref a18, .int x12, .int x13, .int x14, .int x15, .int x16, .ref a19, .ref a20, .ref a21, .ref a22, .ref a23, .int x17, .ref a24, .ref a25, .ref a26, .ref a27, .int x18, .ref a28, .int x19, .ref a29, .int x20, .ref a30, .ref a31, .int x21, .int x22, .int x23, .ref a32, .ref a33, .ref a34, .ref a35, .ref a36, .ref a37, .ref a38, .int x24, .int x25, .int x26, .ref a39]))] H := hP
  have hD : va_D A [(a0, .inr (10, [.ref a1, .int x0, .int 0, .int x2, .int x3, .int x4, .ref a2, .ref a3, .ref a4, .ref a5, .ref a6, .ref a7, .int x5, .ref a8, .ref a9, .ref a10, .ref a11, .ref a12, .int x6, .ref a13, .int x7, .ref a14, .int x8, .ref a15, .int x9, .ref a16, .int x10, .int x11, .ref a17, .ref a18, .int x12, .int x13, .int x14, .int x15, .int x16, .ref a19, .ref a20, .ref a21, .ref a22, .ref a23, .int x17, .ref a24, .ref a25, .ref a26, .ref a27, .int x18, .ref a28, .int x19, .ref a29, .int x20, .ref a30, .ref a31, .int x21, .int x22, .int x23, .ref a32, .ref a33, .ref a34, .ref a35, .ref a36, .ref a37, .ref a38, .int x24, .int x25, .int x26, .ref a39]))] := hD
  refine lv_iload_n hx hb dX10_fault_5 rfl (lv_at hl 1 rfl) ?_
  refine lv_if_ne (tgt := 16) hx hb dX10_fault_6 (by decide) (fun _ => ?_) (fun h9 => absurd h9 (by decide))
  refine lv_iload_n hx hb dX10_fault_16 rfl (lv_at hl 1 rfl) ?_
  refine lv_iconst (v := 1) hx hb dX10_fault_17 (by decide) ?_
  refine lv_icmp_ne (tgt := 28) hx hb dX10_fault_18 (by decide) (fun h9 => absurd (by decide) h9) (fun _ => ?_)
  refine lv_aload_n hx hb dX10_fault_21 rfl (lv_at hl 0 rfl) ?_
  refine va_get (D := D) (ci := 10) (v := .int x3) (C := RX10) (T := TX10) (N := 66) hx hb hts iX10 hown hK hP 0 rfl rfl 4 (by decide) (hts (.fieldLink RX10 13 "ShortTellerModel" "faultPlace" "I") (List.mem_of_getElem? (i := 3) rfl)) (fun _ h9 => h9) rfl dX10_fault_22 ?_
  refine lv_goto (tgt := 29) hx hb dX10_fault_25 (by decide) ?_
  refine W.widen (k := 0) (n := 0) (Nat.le_of_ble_eq_true rfl) (Nat.le_of_ble_eq_true rfl) ?_
  exact hret (q1_u [] []) _ _ _ _ dX10_fault_29 hP hD hS
set_option maxHeartbeats 4000000 in
set_option maxRecDepth 100000 in
theorem k120_X9_fault (l : Launch) (D : va_G) (c : Nat → ClassId) (sz : Nat) (a0 : Nat) (x0 : Int32) (a1 : Nat) (x1 : Int32) (a2 : Nat) (a3 : Nat) (a4 : Nat) (a5 : Nat) (a6 : Nat) (a7 : Nat) (g0 : Op.lookupswitch.offset [(0, 27), (1, 35)] 43 x0.toInt = 43) : Met l yX9_fault wsX9_fault ({ frames := 0, cells := 0, slots := 0, locals := 0 }) (q1_P D c [(a0, .inr (9, [.ref a1, .int x1, .ref a2, .ref a3, .ref a4, .ref a5, .ref a6, .ref a7]))] sz [.ref a0, .int x0]) (q1_i D [(a0, .inr (9, [.ref a1, .int x1, .ref a2, .ref a3, .ref a4, .ref a5, .ref a6, .ref a7]))] sz (-1) (fun u => [(a0, .inr (9, [.ref a1, .int x1, .ref a2, .ref a3, .ref a4, .ref a5, .ref a6, .ref a7]))])) 0 0 (va_A [(a0, .inr (9, [.ref a1, .int x1, .ref a2, .ref a3, .ref a4, .ref a5, .ref a6, .ref a7]))] sz) := by
  refine q1_of_i (ty := .int) rfl (cc := cX9_fault) (maxL := 2) (by decide) rfl (Nat.le_of_ble_eq_true rfl) (fun p e s m args below meth cd A Q ls hx hb hml hown hts hin hA hS hP hD hK hN hl hret => ?_)
  have hown : s.vm.findClass RX9 = some m.cls := hown
  obtain ⟨H, eH⟩ : ∃ z, z = s.heap := ⟨_, rfl⟩
  have hP : va_P D vwCl [(a0, .inr (9, [.ref a1, .int x1, .ref a2, .ref a3, .ref a4, .ref a5, .ref a6, .ref a7]))] H := by rw [eH]; exact hP
  have hS : va_S A s.heap H [] := by rw [eH]; exact hS
  rw [← eH]
  have hl : lv_has ls 2 [(0, .ref a0), (1, .int x0)] := hl
  refine lv_iload_n hx hb dX9_fault_0 rfl (lv_at hl 1 rfl) ?_
  refine lv_lookup (tgt := 44) (off := 43) hx hb dX9_fault_1 (by decide) g0 (by decide) ?_
  refine lv_iconst (v := -1) hx hb dX9_fault_44 (by decide) ?_
  refine W.widen (k := 0) (n := 0) (Nat.le_of_ble_eq_true rfl) (Nat.le_of_ble_eq_true rfl) ?_
  exact hret (q1_u [] []) _ _ _ _ dX9_fault_45 hP hD hS
set_option maxHeartbeats 4000000 in
set_option maxRecDepth 100000 in
theorem k121_X10_fault (l : Launch) (D : va_G) (c : Nat → ClassId) (sz : Nat) (a0 : Nat) (x0 : Int32) (a1 : Nat) (x1 : Int32) (x2 : Int32) (x3 : Int32) (x4 : Int32) (x5 : Int32) (a2 : Nat) (a3 : Nat) (a4 : Nat) (a5 : Nat) (a6 : Nat) (a7 : Nat) (x6 : Int32) (a8 : Nat) (a9 : Nat) (a10 : Nat) (a11 : Nat) (a12 : Nat) (x7 : Int32) (a13 : Nat) (x8 : Int32) (a14 : Nat) (x9 : Int32) (a15 : Nat) (x10 : Int32) (a16 : Nat) (x11 : Int32) (x12 : Int32) (a17 : Nat) (a18 : Nat) (x13 : Int32) (x14 : Int32) (x15 : Int32) (x16 : Int32) (x17 : Int32) (a19 : Nat) (a20 : Nat) (a21 : Nat) (a22 : Nat) (a23 : Nat) (x18 : Int32) (a24 : Nat) (a25 : Nat) (a26 : Nat) (a27 : Nat) (x19 : Int32) (a28 : Nat) (x20 : Int32) (a29 : Nat) (x21 : Int32) (a30 : Nat) (a31 : Nat) (x22 : Int32) (x23 : Int32) (x24 : Int32) (a32 : Nat) (a33 : Nat) (a34 : Nat) (a35 : Nat) (a36 : Nat) (a37 : Nat) (a38 : Nat) (x25 : Int32) (x26 : Int32) (x27 : Int32) (a39 : Nat) (g0 : ¬ x0 = (0 : Int32)) (g1 : ¬ x0 = (1 : Int32)) : Met l yX10_fault wsX10_fault ({ frames := 0, cells := 0, slots := 0, locals := 0 }) (q1_P D c [(a0, .inr (10, [.ref a1, .int x1, .int x2, .int x3, .int x4, .int x5, .ref a2, .ref a3, .ref a4, .ref a5, .ref a6, .ref a7, .int x6, .ref a8, .ref a9, .ref a10, .ref a11, .ref a12, .int x7, .ref a13, .int x8, .ref a14, .int x9, .ref a15, .int x10, .ref a16, .int x11, .int x12, .ref a17, .ref a18, .int x13, .int x14, .int x15, .int x16, .int x17, .ref a19, .ref a20, .ref a21, .ref a22, .ref a23, .int x18, .ref a24, .ref a25, .ref a26, .ref a27, .int x19, .ref a28, .int x20, .ref a29, .int x21, .ref a30, .ref a31, .int x22, .int x23, .int x24, .ref a32, .ref a33, .ref a34, .ref a35, .ref a36, .ref a37, .ref a38, .int x25, .int x26, .int x27, .ref a39]))] sz [.ref a0, .int x0]) (q1_i D [(a0, .inr (10, [.ref a1, .int x1, .int x2, .int x3, .int x4, .int x5, .ref a2, .ref a3, .ref a4, .ref a5, .ref a6, .ref a7, .int x6, .ref a8, .ref a9, .ref a10, .ref a11, .ref a12, .int x7, .ref a13, .int x8, .ref a14, .int x9, .ref a15, .int x10, .ref a16, .int x11, .int x12, .ref a17, .ref a18, .int x13, .int x14, .int x15, .int x16, .int x17, .ref a19, .ref a20, .ref a21, .ref a22, .ref a23, .int x18, .ref a24, .ref a25, .ref a26, .ref a27, .int x19, .ref a28, .int x20, .ref a29, .int x21, .ref a30, .ref a31, .int x22, .int x23, .int x24, .ref a32, .ref a33, .ref a34, .ref a35, .ref a36, .ref a37, .ref a38, .int x25, .int x26, .int x27, .ref a39]))] sz (-1) (fun u => [(a0, .inr (10, [.ref a1, .int x1, .int 0, .int x3, .int x4, .int x5, .ref a2, .ref a3, .ref a4, .ref a5, .ref a6, .ref a7, .int x6, .ref a8, .ref a9, .ref a10, .ref a11, .ref a12, .int x7, .ref a13, .int x8, .ref a14, .int x9, .ref a15, .int x10, .ref a16, .int x11, .int x12, .ref a17, .ref a18, .int x13, .int x14, .int x15, .int x16, .int x17, .ref a19, .ref a20, .ref a21, .ref a22, .ref a23, .int x18, .ref a24, .ref a25, .ref a26, .ref a27, .int x19, .ref a28, .int x20, .ref a29, .int x21, .ref a30, .ref a31, .int x22, .int x23, .int x24, .ref a32, .ref a33, .ref a34, .ref a35, .ref a36, .ref a37, .ref a38, .int x25, .int x26, .int x27, .ref a39]))])) 0 0 (va_A [(a0, .inr (10, [.ref a1, .int x1, .int x2, .int x3, .int x4, .int x5, .ref a2, .ref a3, .ref a4, .ref a5, .ref a6, .ref a7, .int x6, .ref a8, .ref a9, .ref a10, .ref a11, .ref a12, .int x7, .ref a13, .int x8, .ref a14, .int x9, .ref a15, .int x10, .ref a16, .int x11, .int x12, .ref a17, .ref a18, .int x13, .int x14, .int x15, .int x16, .int x17, .ref a19, .ref a20, .ref a21, .ref a22, .ref a23, .int x18, .ref a24, .ref a25, .ref a26, .ref a27, .int x19, .ref a28, .int x20, .ref a29, .int x21, .ref a30, .ref a31, .int x22, .int x23, .int x24, .ref a32, .ref a33, .ref a34, .ref a35, .ref a36, .ref a37, .ref a38, .int x25, .int x26, .int x27, .ref a39]))] sz) := by
  refine q1_of_i (ty := .int) rfl (cc := cX10_fault) (maxL := 2) (by decide) rfl (Nat.le_of_ble_eq_true rfl) (fun p e s m args below meth cd A Q ls hx hb hml hown hts hin hA hS hP hD hK hN hl hret => ?_)
  have hown : s.vm.findClass RX10 = some m.cls := hown
  obtain ⟨H, eH⟩ : ∃ z, z = s.heap := ⟨_, rfl⟩
  have hP : va_P D vwCl [(a0, .inr (10, [.ref a1, .int x1, .int x2, .int x3, .int x4, .int x5, .ref a2, .ref a3, .ref a4, .ref a5, .ref a6, .ref a7, .int x6, .ref a8, .ref a9, .ref a10, .ref a11, .ref a12, .int x7, .ref a13, .int x8, .ref a14, .int x9, .ref a15, .int x10, .ref a16, .int x11, .int x12, .ref a17, .ref a18, .int x13, .int x14, .int x15, .int x16, .int x17, .ref a19, .ref a20, .ref a21, .ref a22, .ref a23, .int x18, .ref a24, .ref a25, .ref a26, .ref a27, .int x19, .ref a28, .int x20, .ref a29, .int x21, .ref a30, .ref a31, .int x22, .int x23, .int x24, .ref a32, .ref a33, .ref a34, .ref a35, .ref a36, .ref a37, .ref a38, .int x25, .int x26, .int x27, .ref a39]))] H := by rw [eH]; exact hP
  have hS : va_S A s.heap H [] := by rw [eH]; exact hS
  rw [← eH]
  have iX10 : ∀ w ∈ wsX100, w ∈ wsX10_fault := fun w h => List.mem_cons_of_mem _ (List.mem_append_right _ h)
  have hl : lv_has ls 2 [(0, .ref a0), (1, .int x0)] := hl
  refine lv_aload_n hx hb dX10_fault_0 rfl (lv_at hl 0 rfl) ?_
  refine lv_iconst (v := 0) hx hb dX10_fault_1 (by decide) ?_
  refine va_put (D := D) (ci := 10) (v := .int 0) (ty := .int) (C := RX10) (T := TX10) (N := 66) hx hb hts iX10 tyX10 tyX10_ok nmX10 hown hK hP hD hS 0 rfl rfl 2 (by decide) (hts (.fieldLink RX10 135 "ShortTellerModel" "thrown" "I") (List.mem_of_getElem? (i := 1) rfl)) (fun _ h9 => h9) rfl (by decide +kernel) rfl rfl (Nat.le_of_ble_eq_true rfl) dX10_fault_2 (fun H locs hP hD hS => ?_)
  have hP : va_P D vwCl [(a0, .inr (10, [.ref a1, .int x1, .int 0, .int x3, .int x4, .int x5, .ref a2, .ref a3, .ref a4, .ref a5, .ref a6, .ref a7, .int x6, .ref a8, .ref a9, .ref a10, .ref a11, .ref a12, .int x7, .ref a13, .int x8, .ref a14, .int x9, .ref a15, .int x10, .ref a16, .int x11, .int x12, .ref a17, .ref a18, .int x13, .int x14, .int x15, .int x16, .int x17, .ref a19, .ref a20, .ref a21, .ref a22, .ref a23, .int x18, .ref a24, .ref a25, .ref a26, .ref a27, .int x19, .ref a28, .int x20, .ref a29, .int x21, .ref a30, .ref a31, .int x22, .int x23, .int x24, .ref a32, .ref a33, .ref a34, .ref a35, .ref a36, .ref a37, .ref a38, .int x25, .int x26, .int x27, .ref a39]))] H := hP
  have hD : va_D A [(a0, .inr (10, [.ref a1, .int x1, .int 0, .int x3, .int x4, .int x5, .ref a2, .ref a3, .ref a4, .ref a5, .ref a6, .ref a7, .int x6, .ref a8, .ref a9, .ref a10, .ref a11, .ref a12, .int x7, .ref a13, .int x8, .ref a14, .int x9, .ref a15, .int x10, .ref a16, .int x11, .int x12, .ref a17, .ref a18, .int x13, .int x14, .int x15, .int x16, .int x17, .ref a19, .ref a20, .ref a21, .ref a22, .ref a23, .int x18, .ref a24, .ref a25, .ref a26, .ref a27, .int x19, .ref a28, .int x20, .ref a29, .int x21, .ref a30, .ref a31, .int x22, .int x23, .int x24, .ref a32, .ref a33, .ref a34, .ref a35, .ref a36, .ref a37, .ref a38, .int x25, .int x26, .int x27, .ref a39]))] := hD
  refine lv_iload_n hx hb dX10_fault_5 rfl (lv_at hl 1 rfl) ?_
  refine lv_if_ne (tgt := 16) hx hb dX10_fault_6 (by decide) (fun _ => ?_) (fun h9 => absurd h9 g0)
  refine lv_iload_n hx hb dX10_fault_16 rfl (lv_at hl 1 rfl) ?_
  refine lv_iconst (v := 1) hx hb dX10_fault_17 (by decide) ?_
  refine lv_icmp_ne (tgt := 28) hx hb dX10_fault_18 (by decide) (fun _ => ?_) (fun h9 => absurd h9 g1)
  refine lv_iconst (v := -1) hx hb dX10_fault_28 (by decide) ?_
  refine W.widen (k := 0) (n := 0) (Nat.le_of_ble_eq_true rfl) (Nat.le_of_ble_eq_true rfl) ?_
  exact hret (q1_u [] []) _ _ _ _ dX10_fault_29 hP hD hS
