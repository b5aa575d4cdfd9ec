theorem z_lit0 : (0 : Int32).toInt = 0 := by decide
theorem z_lit1 : (1 : Int32).toInt = 1 := by decide
theorem z_litm : (-1 : Int32).toInt = -1 := by decide
theorem z_lit31 : (31 : Int32).toInt = 31 := by decide
theorem dX0_has_0 : decode cX0_has 0 = .ok (.iload_n 1, 1) := by decide +kernel
theorem dX0_has_1 : decode cX0_has 1 = .ok (.ifCond .lt 22, 3) := by decide +kernel
theorem dX0_has_10 : decode cX0_has 10 = .ok (.aload_n 0, 1) := by decide +kernel
theorem dX0_has_11 : decode cX0_has 11 = .ok (.getfield 9, 3) := by decide +kernel
theorem dX0_has_14 : decode cX0_has 14 = .ok (.iload_n 1, 1) := by decide +kernel
theorem dX0_has_15 : decode cX0_has 15 = .ok (.iaload, 1) := by decide +kernel
theorem dX0_has_16 : decode cX0_has 16 = .ok (.ifCond .le 7, 3) := by decide +kernel
theorem dX0_has_19 : decode cX0_has 19 = .ok (.iconst 1, 1) := by decide +kernel
theorem dX0_has_20 : decode cX0_has 20 = .ok (.goto 4, 3) := by decide +kernel
theorem dX0_has_23 : decode cX0_has 23 = .ok (.iconst 0, 1) := by decide +kernel
theorem dX0_has_24 : decode cX0_has 24 = .ok (.ireturn, 1) := by decide +kernel
theorem dX0_has_4 : decode cX0_has 4 = .ok (.iload_n 1, 1) := by decide +kernel
theorem dX0_has_5 : decode cX0_has 5 = .ok (.bipush 31, 2) := by decide +kernel
theorem dX0_has_7 : decode cX0_has 7 = .ok (.if_icmp .ge 16, 3) := by decide +kernel
theorem dX2_kindOf_0 : decode cX2_kindOf 0 = .ok (.aload_n 0, 1) := by decide +kernel
theorem dX2_kindOf_1 : decode cX2_kindOf 1 = .ok (.iload_n 1, 1) := by decide +kernel
theorem dX2_kindOf_12 : decode cX2_kindOf 12 = .ok (.iload_n 1, 1) := by decide +kernel
theorem dX2_kindOf_13 : decode cX2_kindOf 13 = .ok (.iaload, 1) := by decide +kernel
theorem dX2_kindOf_14 : decode cX2_kindOf 14 = .ok (.goto 4, 3) := by decide +kernel
theorem dX2_kindOf_17 : decode cX2_kindOf 17 = .ok (.iconst (-1), 1) := by decide +kernel
theorem dX2_kindOf_18 : decode cX2_kindOf 18 = .ok (.ireturn, 1) := by decide +kernel
theorem dX2_kindOf_2 : decode cX2_kindOf 2 = .ok (.invokevirtual 31, 3) := by decide +kernel
theorem dX2_kindOf_5 : decode cX2_kindOf 5 = .ok (.ifCond .eq 12, 3) := by decide +kernel
theorem dX2_kindOf_8 : decode cX2_kindOf 8 = .ok (.aload_n 0, 1) := by decide +kernel
theorem dX2_kindOf_9 : decode cX2_kindOf 9 = .ok (.getfield 11, 3) := by decide +kernel
theorem dX2_nameOf_0 : decode cX2_nameOf 0 = .ok (.aload_n 0, 1) := by decide +kernel
theorem dX2_nameOf_1 : decode cX2_nameOf 1 = .ok (.iload_n 1, 1) := by decide +kernel
theorem dX2_nameOf_12 : decode cX2_nameOf 12 = .ok (.iload_n 1, 1) := by decide +kernel
theorem dX2_nameOf_13 : decode cX2_nameOf 13 = .ok (.iaload, 1) := by decide +kernel
theorem dX2_nameOf_14 : decode cX2_nameOf 14 = .ok (.goto 4, 3) := by decide +kernel
theorem dX2_nameOf_17 : decode cX2_nameOf 17 = .ok (.iconst (-1), 1) := by decide +kernel
theorem dX2_nameOf_18 : decode cX2_nameOf 18 = .ok (.ireturn, 1) := by decide +kernel
theorem dX2_nameOf_2 : decode cX2_nameOf 2 = .ok (.invokevirtual 31, 3) := by decide +kernel
theorem dX2_nameOf_5 : decode cX2_nameOf 5 = .ok (.ifCond .eq 12, 3) := by decide +kernel
theorem dX2_nameOf_8 : decode cX2_nameOf 8 = .ok (.aload_n 0, 1) := by decide +kernel
theorem dX2_nameOf_9 : decode cX2_nameOf 9 = .ok (.getfield 24, 3) := by decide +kernel
theorem dX2_pieceOf_0 : decode cX2_pieceOf 0 = .ok (.aload_n 0, 1) := by decide +kernel
theorem dX2_pieceOf_1 : decode cX2_pieceOf 1 = .ok (.iload_n 1, 1) := by decide +kernel
theorem dX2_pieceOf_12 : decode cX2_pieceOf 12 = .ok (.iload_n 1, 1) := by decide +kernel
theorem dX2_pieceOf_13 : decode cX2_pieceOf 13 = .ok (.iaload, 1) := by decide +kernel
theorem dX2_pieceOf_14 : decode cX2_pieceOf 14 = .ok (.goto 4, 3) := by decide +kernel
theorem dX2_pieceOf_17 : decode cX2_pieceOf 17 = .ok (.iconst (-1), 1) := by decide +kernel
theorem dX2_pieceOf_18 : decode cX2_pieceOf 18 = .ok (.ireturn, 1) := by decide +kernel
theorem dX2_pieceOf_2 : decode cX2_pieceOf 2 = .ok (.invokevirtual 31, 3) := by decide +kernel
theorem dX2_pieceOf_5 : decode cX2_pieceOf 5 = .ok (.ifCond .eq 12, 3) := by decide +kernel
theorem dX2_pieceOf_8 : decode cX2_pieceOf 8 = .ok (.aload_n 0, 1) := by decide +kernel
theorem dX2_pieceOf_9 : decode cX2_pieceOf 9 = .ok (.getfield 15, 3) := by decide +kernel
theorem dX2_placeOf_0 : decode cX2_placeOf 0 = .ok (.aload_n 0, 1) := by decide +kernel
theorem dX2_placeOf_1 : decode cX2_placeOf 1 = .ok (.iload_n 1, 1) := by decide +kernel
theorem dX2_placeOf_12 : decode cX2_placeOf 12 = .ok (.iload_n 1, 1) := by decide +kernel
theorem dX2_placeOf_13 : decode cX2_placeOf 13 = .ok (.iaload, 1) := by decide +kernel
theorem dX2_placeOf_14 : decode cX2_placeOf 14 = .ok (.goto 4, 3) := by decide +kernel
theorem dX2_placeOf_17 : decode cX2_placeOf 17 = .ok (.iconst (-1), 1) := by decide +kernel
theorem dX2_placeOf_18 : decode cX2_placeOf 18 = .ok (.ireturn, 1) := by decide +kernel
theorem dX2_placeOf_2 : decode cX2_placeOf 2 = .ok (.invokevirtual 31, 3) := by decide +kernel
theorem dX2_placeOf_5 : decode cX2_placeOf 5 = .ok (.ifCond .eq 12, 3) := by decide +kernel
theorem dX2_placeOf_8 : decode cX2_placeOf 8 = .ok (.aload_n 0, 1) := by decide +kernel
theorem dX2_placeOf_9 : decode cX2_placeOf 9 = .ok (.getfield 18, 3) := by decide +kernel
theorem dX2_sizeOf_0 : decode cX2_sizeOf 0 = .ok (.aload_n 0, 1) := by decide +kernel
theorem dX2_sizeOf_1 : decode cX2_sizeOf 1 = .ok (.iload_n 1, 1) := by decide +kernel
theorem dX2_sizeOf_12 : decode cX2_sizeOf 12 = .ok (.iload_n 1, 1) := by decide +kernel
theorem dX2_sizeOf_13 : decode cX2_sizeOf 13 = .ok (.iaload, 1) := by decide +kernel
theorem dX2_sizeOf_14 : decode cX2_sizeOf 14 = .ok (.goto 4, 3) := by decide +kernel
theorem dX2_sizeOf_17 : decode cX2_sizeOf 17 = .ok (.iconst 0, 1) := by decide +kernel
theorem dX2_sizeOf_18 : decode cX2_sizeOf 18 = .ok (.ireturn, 1) := by decide +kernel
theorem dX2_sizeOf_2 : decode cX2_sizeOf 2 = .ok (.invokevirtual 31, 3) := by decide +kernel
theorem dX2_sizeOf_5 : decode cX2_sizeOf 5 = .ok (.ifCond .eq 12, 3) := by decide +kernel
theorem dX2_sizeOf_8 : decode cX2_sizeOf 8 = .ok (.aload_n 0, 1) := by decide +kernel
theorem dX2_sizeOf_9 : decode cX2_sizeOf 9 = .ok (.getfield 21, 3) := by decide +kernel
theorem dX8_placeOfName_0 : decode cX8_placeOfName 0 = .ok (.iload_n 1, 1) := by decide +kernel
theorem dX8_placeOfName_1 : decode cX8_placeOfName 1 = .ok (.ifCond .lt 20, 3) := by decide +kernel
theorem dX8_placeOfName_12 : decode cX8_placeOfName 12 = .ok (.aload_n 0, 1) := by decide +kernel
theorem dX8_placeOfName_13 : decode cX8_placeOfName 13 = .ok (.getfield 59, 3) := by decide +kernel
theorem dX8_placeOfName_16 : decode cX8_placeOfName 16 = .ok (.iload_n 1, 1) := by decide +kernel
theorem dX8_placeOfName_17 : decode cX8_placeOfName 17 = .ok (.iaload, 1) := by decide +kernel
theorem dX8_placeOfName_18 : decode cX8_placeOfName 18 = .ok (.goto 4, 3) := by decide +kernel
theorem dX8_placeOfName_21 : decode cX8_placeOfName 21 = .ok (.iconst (-1), 1) := by decide +kernel
theorem dX8_placeOfName_22 : decode cX8_placeOfName 22 = .ok (.ireturn, 1) := by decide +kernel
theorem dX8_placeOfName_4 : decode cX8_placeOfName 4 = .ok (.iload_n 1, 1) := by decide +kernel
theorem dX8_placeOfName_5 : decode cX8_placeOfName 5 = .ok (.aload_n 0, 1) := by decide +kernel
theorem dX8_placeOfName_6 : decode cX8_placeOfName 6 = .ok (.getfield 65, 3) := by decide +kernel
theorem dX8_placeOfName_9 : decode cX8_placeOfName 9 = .ok (.if_icmp .ge 12, 3) := by decide +kernel
theorem dX8_signAt_0 : decode cX8_signAt 0 = .ok (.iload_n 1, 1) := by decide +kernel
theorem dX8_signAt_1 : decode cX8_signAt 1 = .ok (.ifCond .lt 20, 3) := by decide +kernel
theorem dX8_signAt_12 : decode cX8_signAt 12 = .ok (.aload_n 0, 1) := by decide +kernel
theorem dX8_signAt_13 : decode cX8_signAt 13 = .ok (.getfield 9, 3) := by decide +kernel
theorem dX8_signAt_16 : decode cX8_signAt 16 = .ok (.iload_n 1, 1) := by decide +kernel
theorem dX8_signAt_17 : decode cX8_signAt 17 = .ok (.iaload, 1) := by decide +kernel
theorem dX8_signAt_18 : decode cX8_signAt 18 = .ok (.goto 4, 3) := by decide +kernel
theorem dX8_signAt_21 : decode cX8_signAt 21 = .ok (.iconst (-1), 1) := by decide +kernel
theorem dX8_signAt_22 : decode cX8_signAt 22 = .ok (.ireturn, 1) := by decide +kernel
theorem dX8_signAt_4 : decode cX8_signAt 4 = .ok (.iload_n 1, 1) := by decide +kernel
theorem dX8_signAt_5 : decode cX8_signAt 5 = .ok (.aload_n 0, 1) := by decide +kernel
theorem dX8_signAt_6 : decode cX8_signAt 6 = .ok (.getfield 15, 3) := by decide +kernel
theorem dX8_signAt_9 : decode cX8_signAt 9 = .ok (.if_icmp .ge 12, 3) := by decide +kernel
theorem dX8_sizeOfName_0 : decode cX8_sizeOfName 0 = .ok (.iload_n 1, 1) := by decide +kernel
theorem dX8_sizeOfName_1 : decode cX8_sizeOfName 1 = .ok (.ifCond .lt 20, 3) := by decide +kernel
theorem dX8_sizeOfName_12 : decode cX8_sizeOfName 12 = .ok (.aload_n 0, 1) := by decide +kernel
theorem dX8_sizeOfName_13 : decode cX8_sizeOfName 13 = .ok (.getfield 62, 3) := by decide +kernel
theorem dX8_sizeOfName_16 : decode cX8_sizeOfName 16 = .ok (.iload_n 1, 1) := by decide +kernel
theorem dX8_sizeOfName_17 : decode cX8_sizeOfName 17 = .ok (.iaload, 1) := by decide +kernel
theorem dX8_sizeOfName_18 : decode cX8_sizeOfName 18 = .ok (.goto 4, 3) := by decide +kernel
theorem dX8_sizeOfName_21 : decode cX8_sizeOfName 21 = .ok (.iconst 0, 1) := by decide +kernel
theorem dX8_sizeOfName_22 : decode cX8_sizeOfName 22 = .ok (.ireturn, 1) := by decide +kernel
theorem dX8_sizeOfName_4 : decode cX8_sizeOfName 4 = .ok (.iload_n 1, 1) := by decide +kernel
theorem dX8_sizeOfName_5 : decode cX8_sizeOfName 5 = .ok (.aload_n 0, 1) := by decide +kernel
theorem dX8_sizeOfName_6 : decode cX8_sizeOfName 6 = .ok (.getfield 65, 3) := by decide +kernel
theorem dX8_sizeOfName_9 : decode cX8_sizeOfName 9 = .ok (.if_icmp .ge 12, 3) := by decide +kernel
set_option maxRecDepth 20000 in
theorem ggX2_kindOf_X2_isMark : GoodIn wsX2_kindOf wsX2_isMark := goodIn_r _ [6, 7, 8, 9, 10, 11, 12, 13] (by decide +kernel) (by decide +kernel)
set_option maxRecDepth 20000 in
theorem gX2_kindOf_X2_isMark : GoodIn wsX2_kindOf (wsV RX2 31 RX2 yX2_isMark wsX2_isMark) := goodIn_app (goodIn_of _ (by decide +kernel)) ggX2_kindOf_X2_isMark
set_option maxRecDepth 20000 in
theorem ggX2_pieceOf_X2_isMark : GoodIn wsX2_pieceOf wsX2_isMark := goodIn_r _ [6, 7, 8, 9, 10, 11, 12, 13] (by decide +kernel) (by decide +kernel)
set_option maxRecDepth 20000 in
theorem gX2_pieceOf_X2_isMark : GoodIn wsX2_pieceOf (wsV RX2 31 RX2 yX2_isMark wsX2_isMark) := goodIn_app (goodIn_of _ (by decide +kernel)) ggX2_pieceOf_X2_isMark
set_option maxRecDepth 20000 in
theorem ggX2_placeOf_X2_isMark : GoodIn wsX2_placeOf wsX2_isMark := goodIn_r _ [6, 7, 8, 9, 10, 11, 12, 13] (by decide +kernel) (by decide +kernel)
set_option maxRecDepth 20000 in
theorem gX2_placeOf_X2_isMark : GoodIn wsX2_placeOf (wsV RX2 31 RX2 yX2_isMark wsX2_isMark) := goodIn_app (goodIn_of _ (by decide +kernel)) ggX2_placeOf_X2_isMark
set_option maxRecDepth 20000 in
theorem ggX2_sizeOf_X2_isMark : GoodIn wsX2_sizeOf wsX2_isMark := goodIn_r _ [6, 7, 8, 9, 10, 11, 12, 13] (by decide +kernel) (by decide +kernel)
set_option maxRecDepth 20000 in
theorem gX2_sizeOf_X2_isMark : GoodIn wsX2_sizeOf (wsV RX2 31 RX2 yX2_isMark wsX2_isMark) := goodIn_app (goodIn_of _ (by decide +kernel)) ggX2_sizeOf_X2_isMark
set_option maxRecDepth 20000 in
theorem ggX2_nameOf_X2_isMark : GoodIn wsX2_nameOf wsX2_isMark := goodIn_r _ [6, 7, 8, 9, 10, 11, 12, 13] (by decide +kernel) (by decide +kernel)
set_option maxRecDepth 20000 in
theorem gX2_nameOf_X2_isMark : GoodIn wsX2_nameOf (wsV RX2 31 RX2 yX2_isMark wsX2_isMark) := goodIn_app (goodIn_of _ (by decide +kernel)) ggX2_nameOf_X2_isMark
set_option maxHeartbeats 4000000 in
set_option maxRecDepth 100000 in
theorem m_isMark (l : Launch) (D : va_G) (c : Nat → ClassId) (sz : Nat) (a0 : Nat) (a1 : Nat) (a2 : Nat) (a3 : Nat) (a4 : Nat) (a5 : Nat) (x0 : Int32) (x1 : Int32) : Met l yX2_isMark wsX2_isMark ({ frames := 0, cells := 0, slots := 0, locals := 0 }) (q1_P D c [(a0, .inr (2, [.ref a1, .ref a2, .ref a3, .ref a4, .ref a5, .int x1]))] sz [.ref a0, .int x0]) (q2_i D [(a0, .inr (2, [.ref a1, .ref a2, .ref a3, .ref a4, .ref a5, .int x1]))] sz (fun r u => (r = 0 ∨ r = 1) ∧ (r.toInt = 0 ∨ (r.toInt = 1 ∧ 0 ≤ x0.toInt ∧ x0.toInt < x1.toInt))) (fun u => [(a0, .inr (2, [.ref a1, .ref a2, .ref a3, .ref a4, .ref a5, .int x1]))])) 0 0 (va_A [(a0, .inr (2, [.ref a1, .ref a2, .ref a3, .ref a4, .ref a5, .int x1]))] sz) := by
  refine q2_of_i (ty := .boolean) (fun r u h => by rcases h.1 with h | h <;> (rw [h]; rfl)) (cc := cX2_isMark) (maxL := 2) (by decide) rfl (Nat.le_of_ble_eq_true rfl) (fun p e s m args below meth cd A Q ls hx hb hml hown hts hin hA hS hP hD hK hN hl hret => ?_)
  have hown : s.vm.findClass RX2 = some m.cls := hown
  obtain ⟨H, eH⟩ : ∃ z, z = s.heap := ⟨_, rfl⟩
  have hP : va_P D vwCl [(a0, .inr (2, [.ref a1, .ref a2, .ref a3, .ref a4, .ref a5, .int x1]))] H := by rw [eH]; exact hP
  have hS : va_S A s.heap H [] := by rw [eH]; exact hS
  rw [← eH]
  have iX2 : ∀ w ∈ wsX20, w ∈ wsX2_isMark := fun w h => List.mem_cons_of_mem _ (List.mem_append_right _ h)
  have hl : lv_has ls 2 [(0, .ref a0), (1, .int x0)] := hl
  refine lv_iload_n hx hb dX2_isMark_0 rfl (lv_at hl 1 rfl) ?_
  refine lv_if_lt (tgt := 16) hx hb dX2_isMark_1 (by decide) (fun g1 => ?_) (fun g1 => ?_)
  · rw [z_lt] at g1
    try simp only [z_lit0, z_lit1, z_litm, z_lit31] at g1
    refine lv_iconst (v := 0) hx hb dX2_isMark_16 (by decide) ?_
    refine W.widen (k := 0) (n := 0) (Nat.zero_le _) (Nat.zero_le _) ?_
    exact hret (0) (q2_u [] [] []) _ _ _ _ (by first | exact ⟨Or.inl rfl, Or.inl (by decide)⟩ | exact ⟨Or.inr rfl, Or.inr ⟨by decide, by omega, by omega⟩⟩) dX2_isMark_17 hP hD hS
  · rw [z_lt] at g1
    try simp only [z_lit0, z_lit1, z_litm, z_lit31] at g1
    refine lv_iload_n hx hb dX2_isMark_4 rfl (lv_at hl 1 rfl) ?_
    refine lv_aload_n hx hb dX2_isMark_5 rfl (lv_at hl 0 rfl) ?_
    refine va_get (D := D) (ci := 2) (v := .int x1) (C := RX2) (T := TX2) (N := 6) hx hb hts iX2 hown hK hP 0 rfl rfl 5 (by decide) (hts (.fieldLink RX2 27 "ShortTeller$Marks" "used" "I") (List.mem_of_getElem? (i := 1) rfl)) (fun _ h9 => h9) rfl dX2_isMark_6 ?_
    refine lv_icmp_ge (tgt := 16) hx hb dX2_isMark_9 (by decide) (fun g2 => ?_) (fun g2 => ?_)
    · rw [z_le] at g2
      try simp only [z_lit0, z_lit1, z_litm, z_lit31] at g2
      refine lv_iconst (v := 0) hx hb dX2_isMark_16 (by decide) ?_
      refine W.widen (k := 0) (n := 0) (Nat.zero_le _) (Nat.zero_le _) ?_
      exact hret (0) (q2_u [] [] []) _ _ _ _ (by first | exact ⟨Or.inl rfl, Or.inl (by decide)⟩ | exact ⟨Or.inr rfl, Or.inr ⟨by decide, by omega, by omega⟩⟩) dX2_isMark_17 hP hD hS
    · rw [z_le] at g2
      try simp only [z_lit0, z_lit1, z_litm, z_lit31] at g2
      refine lv_iconst (v := 1) hx hb dX2_isMark_12 (by decide) ?_
      refine lv_goto (tgt := 17) hx hb dX2_isMark_13 (by decide) ?_
      refine W.widen (k := 0) (n := 0) (Nat.zero_le _) (Nat.zero_le _) ?_
      exact hret (1) (q2_u [] [] []) _ _ _ _ (by first | exact ⟨Or.inl rfl, Or.inl (by decide)⟩ | exact ⟨Or.inr rfl, Or.inr ⟨by decide, by omega, by omega⟩⟩) dX2_isMark_17 hP hD hS
set_option maxHeartbeats 4000000 in
set_option maxRecDepth 100000 in
theorem m_kindOf (l : Launch) (D : va_G) (c : Nat → ClassId) (sz : Nat) (a0 : Nat) (a1 : Nat) (a2 : Nat) (a3 : Nat) (a4 : Nat) (a5 : Nat) (x0 : Int32) (x1 : Int32) (f0 : Nat → Int32) (h0 : x1.toInt ≤ 456) : Met l yX2_kindOf wsX2_kindOf ({ frames := 1, cells := 0, slots := 0, locals := 21 }) (q1_P D c [(a0, .inr (2, [.ref a1, .ref a2, .ref a3, .ref a4, .ref a5, .int x1])), (a1, .inl (c 0, 456, .inl (f0)))] sz [.ref a0, .int x0]) (q2_i D [(a0, .inr (2, [.ref a1, .ref a2, .ref a3, .ref a4, .ref a5, .int x1])), (a1, .inl (c 0, 456, .inl (f0)))] sz (fun r u => True) (fun u => [(a0, .inr (2, [.ref a1, .ref a2, .ref a3, .ref a4, .ref a5, .int x1])), (a1, .inl (c 0, 456, .inl (f0)))])) 0 0 (va_A [(a0, .inr (2, [.ref a1, .ref a2, .ref a3, .ref a4, .ref a5, .int x1])), (a1, .inl (c 0, 456, .inl (f0)))] sz) := by
  refine q2_of_i (ty := .int) (fun _ _ _ => rfl) (cc := cX2_kindOf) (maxL := 2) (by decide) rfl (Nat.le_of_ble_eq_true rfl) (fun p e s m args below meth cd A Q ls hx hb hml hown hts hin hA hS hP hD hK hN hl hret => ?_)
  have hown : s.vm.findClass RX2 = some m.cls := hown
  obtain ⟨H, eH⟩ : ∃ z, z = s.heap := ⟨_, rfl⟩
  have hP : va_P D vwCl [(a0, .inr (2, [.ref a1, .ref a2, .ref a3, .ref a4, .ref a5, .int x1])), (a1, .inl (c 0, 456, .inl (f0)))] H := by rw [eH]; exact hP
  have hS : va_S A s.heap H [] := by rw [eH]; exact hS
  rw [← eH]
  have iX2 : ∀ w ∈ wsX20, w ∈ wsX2_kindOf := fun w h => List.mem_cons_of_mem _ (List.mem_append_right _ h)
  have hl : lv_has ls 2 [(0, .ref a0), (1, .int x0)] := hl
  refine lv_aload_n hx hb dX2_kindOf_0 rfl (lv_at hl 0 rfl) ?_
  refine lv_iload_n hx hb dX2_kindOf_1 rfl (lv_at hl 1 rfl) ?_
  have hPc := hP.sub (ws' := [(a0, .inr (2, [.ref a1, .ref a2, .ref a3, .ref a4, .ref a5, .int x1]))]) [0] rfl
  have hDc := hD.sub (ws' := [(a0, .inr (2, [.ref a1, .ref a2, .ref a3, .ref a4, .ref a5, .int x1]))]) [0] (by decide) rfl
  refine q2_ci (wr := [(a1, .inl (c 0, 456, .inl (f0)))]) (va_runV (As := [.int x0]) (rest := []) ⟨hx, hb, hml, hown, hts⟩ (m_isMark l D c H.size a0 a1 a2 a3 a4 a5 x0 x1) (cwV 1 hts gX2_kindOf_X2_isMark rfl rfl rfl (by decide +kernel) ⟨Nat.le_of_ble_eq_true rfl, Nat.le_of_ble_eq_true rfl⟩) (q1_preV (c := c) (ci := 2) (q0 := 0) hPc hK hDc hN rfl rfl) rfl rfl hl.1 rfl (lv_room (Nat.le_of_ble_eq_true rfl)) dX2_kindOf_2 ⟨Nat.le_of_ble_eq_true rfl, Nat.le_of_ble_eq_true rfl⟩) hP hD hS hA [0] [1] rfl rfl (by decide) (by decide) (fun n1 u1 H locs pn1 hP hD hS => ?_)
  have pn1 : (n1 = 0 ∨ n1 = 1) ∧ (n1.toInt = 0 ∨ (n1.toInt = 1 ∧ 0 ≤ (x0).toInt ∧ (x0).toInt < (x1).toInt)) := pn1
  have pn1 := pn1.2
  have hP : va_P D vwCl [(a1, .inl (c 0, 456, .inl (f0))), (a0, .inr (2, [.ref a1, .ref a2, .ref a3, .ref a4, .ref a5, .int x1]))] H := hP
  have hD : va_D A [(a1, .inl (c 0, 456, .inl (f0))), (a0, .inr (2, [.ref a1, .ref a2, .ref a3, .ref a4, .ref a5, .int x1]))] := hD
  refine lv_if_eq (tgt := 17) hx hb dX2_kindOf_5 (by decide) (fun g2 => ?_) (fun g2 => ?_)
  · rw [z_eq] at g2
    try simp only [z_lit0, z_lit1, z_litm, z_lit31] at g2
    refine lv_iconst (v := -1) hx hb dX2_kindOf_17 (by decide) ?_
    refine W.widen (k := 0) (n := 0) (Nat.zero_le _) (Nat.zero_le _) ?_
    have hP := hP.sub (ws' := [(a0, .inr (2, [.ref a1, .ref a2, .ref a3, .ref a4, .ref a5, .int x1])), (a1, .inl (c 0, 456, .inl (f0)))]) [1, 0] rfl
    have hD := hD.sub (ws' := [(a0, .inr (2, [.ref a1, .ref a2, .ref a3, .ref a4, .ref a5, .int x1])), (a1, .inl (c 0, 456, .inl (f0)))]) [1, 0] (by decide) rfl
    exact hret (-1) (q2_u [] [] []) _ _ _ _ (by trivial) dX2_kindOf_18 hP hD hS
  · rw [z_eq] at g2
    try simp only [z_lit0, z_lit1, z_litm, z_lit31] at g2
    refine lv_aload_n hx hb dX2_kindOf_8 rfl (lv_at hl 0 rfl) ?_
    refine va_get (D := D) (ci := 2) (v := .ref a1) (C := RX2) (T := TX2) (N := 6) hx hb hts iX2 hown hK hP 1 rfl rfl 0 (by decide) (hts (.fieldLink RX2 11 "ShortTeller$Marks" "kind" "[I") (List.mem_of_getElem? (i := 1) rfl)) (fun _ h9 => h9) rfl dX2_kindOf_9 ?_
    refine lv_iload_n hx hb dX2_kindOf_12 rfl (lv_at hl 1 rfl) ?_
    refine va_iald hx hb hK hP 0 0 rfl rfl (q2_in (by omega) (by omega)) dX2_kindOf_13 ?_
    refine lv_topi (fun n3 en3 => ?_)
    refine lv_goto (tgt := 18) hx hb dX2_kindOf_14 (by decide) ?_
    refine W.widen (k := 0) (n := 0) (Nat.zero_le _) (Nat.zero_le _) ?_
    have hP := hP.sub (ws' := [(a0, .inr (2, [.ref a1, .ref a2, .ref a3, .ref a4, .ref a5, .int x1])), (a1, .inl (c 0, 456, .inl (f0)))]) [1, 0] rfl
    have hD := hD.sub (ws' := [(a0, .inr (2, [.ref a1, .ref a2, .ref a3, .ref a4, .ref a5, .int x1])), (a1, .inl (c 0, 456, .inl (f0)))]) [1, 0] (by decide) rfl
    exact hret (n3) (q2_u [] [] []) _ _ _ _ (by trivial) dX2_kindOf_18 hP hD hS
set_option maxHeartbeats 4000000 in
set_option maxRecDepth 100000 in
theorem m_pieceOf (l : Launch) (D : va_G) (c : Nat → ClassId) (sz : Nat) (a0 : Nat) (a1 : Nat) (a2 : Nat) (a3 : Nat) (a4 : Nat) (a5 : Nat) (x0 : Int32) (x1 : Int32) (f0 : Nat → Int32) (h0 : x1.toInt ≤ 456) : Met l yX2_pieceOf wsX2_pieceOf ({ frames := 1, cells := 0, slots := 0, locals := 21 }) (q1_P D c [(a0, .inr (2, [.ref a1, .ref a2, .ref a3, .ref a4, .ref a5, .int x1])), (a2, .inl (c 0, 456, .inl (f0)))] sz [.ref a0, .int x0]) (q2_i D [(a0, .inr (2, [.ref a1, .ref a2, .ref a3, .ref a4, .ref a5, .int x1])), (a2, .inl (c 0, 456, .inl (f0)))] sz (fun r u => True) (fun u => [(a0, .inr (2, [.ref a1, .ref a2, .ref a3, .ref a4, .ref a5, .int x1])), (a2, .inl (c 0, 456, .inl (f0)))])) 0 0 (va_A [(a0, .inr (2, [.ref a1, .ref a2, .ref a3, .ref a4, .ref a5, .int x1])), (a2, .inl (c 0, 456, .inl (f0)))] sz) := by
  refine q2_of_i (ty := .int) (fun _ _ _ => rfl) (cc := cX2_pieceOf) (maxL := 2) (by decide) rfl (Nat.le_of_ble_eq_true rfl) (fun p e s m args below meth cd A Q ls hx hb hml hown hts hin hA hS hP hD hK hN hl hret => ?_)
  have hown : s.vm.findClass RX2 = some m.cls := hown
  obtain ⟨H, eH⟩ : ∃ z, z = s.heap := ⟨_, rfl⟩
  have hP : va_P D vwCl [(a0, .inr (2, [.ref a1, .ref a2, .ref a3, .ref a4, .ref a5, .int x1])), (a2, .inl (c 0, 456, .inl (f0)))] H := by rw [eH]; exact hP
  have hS : va_S A s.heap H [] := by rw [eH]; exact hS
  rw [← eH]
  have iX2 : ∀ w ∈ wsX20, w ∈ wsX2_pieceOf := fun w h => List.mem_cons_of_mem _ (List.mem_append_right _ h)
  have hl : lv_has ls 2 [(0, .ref a0), (1, .int x0)] := hl
  refine lv_aload_n hx hb dX2_pieceOf_0 rfl (lv_at hl 0 rfl) ?_
  refine lv_iload_n hx hb dX2_pieceOf_1 rfl (lv_at hl 1 rfl) ?_
  have hPc := hP.sub (ws' := [(a0, .inr (2, [.ref a1, .ref a2, .ref a3, .ref a4, .ref a5, .int x1]))]) [0] rfl
  have hDc := hD.sub (ws' := [(a0, .inr (2, [.ref a1, .ref a2, .ref a3, .ref a4, .ref a5, .int x1]))]) [0] (by decide) rfl
  refine q2_ci (wr := [(a2, .inl (c 0, 456, .inl (f0)))]) (va_runV (As := [.int x0]) (rest := []) ⟨hx, hb, hml, hown, hts⟩ (m_isMark l D c H.size a0 a1 a2 a3 a4 a5 x0 x1) (cwV 1 hts gX2_pieceOf_X2_isMark rfl rfl rfl (by decide +kernel) ⟨Nat.le_of_ble_eq_true rfl, Nat.le_of_ble_eq_true rfl⟩) (q1_preV (c := c) (ci := 2) (q0 := 0) hPc hK hDc hN rfl rfl) rfl rfl hl.1 rfl (lv_room (Nat.le_of_ble_eq_true rfl)) dX2_pieceOf_2 ⟨Nat.le_of_ble_eq_true rfl, Nat.le_of_ble_eq_true rfl⟩) hP hD hS hA [0] [1] rfl rfl (by decide) (by decide) (fun n1 u1 H locs pn1 hP hD hS => ?_)
  have pn1 : (n1 = 0 ∨ n1 = 1) ∧ (n1.toInt = 0 ∨ (n1.toInt = 1 ∧ 0 ≤ (x0).toInt ∧ (x0).toInt < (x1).toInt)) := pn1
  have pn1 := pn1.2
  have hP : va_P D vwCl [(a2, .inl (c 0, 456, .inl (f0))), (a0, .inr (2, [.ref a1, .ref a2, .ref a3, .ref a4, .ref a5, .int x1]))] H := hP
  have hD : va_D A [(a2, .inl (c 0, 456, .inl (f0))), (a0, .inr (2, [.ref a1, .ref a2, .ref a3, .ref a4, .ref a5, .int x1]))] := hD
  refine lv_if_eq (tgt := 17) hx hb dX2_pieceOf_5 (by decide) (fun g2 => ?_) (fun g2 => ?_)
  · rw [z_eq] at g2
    try simp only [z_lit0, z_lit1, z_litm, z_lit31] at g2
    refine lv_iconst (v := -1) hx hb dX2_pieceOf_17 (by decide) ?_
    refine W.widen (k := 0) (n := 0) (Nat.zero_le _) (Nat.zero_le _) ?_
    have hP := hP.sub (ws' := [(a0, .inr (2, [.ref a1, .ref a2, .ref a3, .ref a4, .ref a5, .int x1])), (a2, .inl (c 0, 456, .inl (f0)))]) [1, 0] rfl
    have hD := hD.sub (ws' := [(a0, .inr (2, [.ref a1, .ref a2, .ref a3, .ref a4, .ref a5, .int x1])), (a2, .inl (c 0, 456, .inl (f0)))]) [1, 0] (by decide) rfl
    exact hret (-1) (q2_u [] [] []) _ _ _ _ (by trivial) dX2_pieceOf_18 hP hD hS
  · rw [z_eq] at g2
    try simp only [z_lit0, z_lit1, z_litm, z_lit31] at g2
    refine lv_aload_n hx hb dX2_pieceOf_8 rfl (lv_at hl 0 rfl) ?_
    refine va_get (D := D) (ci := 2) (v := .ref a2) (C := RX2) (T := TX2) (N := 6) hx hb hts iX2 hown hK hP 1 rfl rfl 1 (by decide) (hts (.fieldLink RX2 15 "ShortTeller$Marks" "piece" "[I") (List.mem_of_getElem? (i := 1) rfl)) (fun _ h9 => h9) rfl dX2_pieceOf_9 ?_
    refine lv_iload_n hx hb dX2_pieceOf_12 rfl (lv_at hl 1 rfl) ?_
    refine va_iald hx hb hK hP 0 0 rfl rfl (q2_in (by omega) (by omega)) dX2_pieceOf_13 ?_
    refine lv_topi (fun n3 en3 => ?_)
    refine lv_goto (tgt := 18) hx hb dX2_pieceOf_14 (by decide) ?_
    refine W.widen (k := 0) (n := 0) (Nat.zero_le _) (Nat.zero_le _) ?_
    have hP := hP.sub (ws' := [(a0, .inr (2, [.ref a1, .ref a2, .ref a3, .ref a4, .ref a5, .int x1])), (a2, .inl (c 0, 456, .inl (f0)))]) [1, 0] rfl
    have hD := hD.sub (ws' := [(a0, .inr (2, [.ref a1, .ref a2, .ref a3, .ref a4, .ref a5, .int x1])), (a2, .inl (c 0, 456, .inl (f0)))]) [1, 0] (by decide) rfl
    exact hret (n3) (q2_u [] [] []) _ _ _ _ (by trivial) dX2_pieceOf_18 hP hD hS
set_option maxHeartbeats 4000000 in
set_option maxRecDepth 100000 in
theorem m_placeOf (l : Launch) (D : va_G) (c : Nat → ClassId) (sz : Nat) (a0 : Nat) (a1 : Nat) (a2 : Nat) (a3 : Nat) (a4 : Nat) (a5 : Nat) (x0 : Int32) (x1 : Int32) (f0 : Nat → Int32) (h0 : x1.toInt ≤ 456) : Met l yX2_placeOf wsX2_placeOf ({ frames := 1, cells := 0, slots := 0, locals := 21 }) (q1_P D c [(a0, .inr (2, [.ref a1, .ref a2, .ref a3, .ref a4, .ref a5, .int x1])), (a3, .inl (c 0, 456, .inl (f0)))] sz [.ref a0, .int x0]) (q2_i D [(a0, .inr (2, [.ref a1, .ref a2, .ref a3, .ref a4, .ref a5, .int x1])), (a3, .inl (c 0, 456, .inl (f0)))] sz (fun r u => True) (fun u => [(a0, .inr (2, [.ref a1, .ref a2, .ref a3, .ref a4, .ref a5, .int x1])), (a3, .inl (c 0, 456, .inl (f0)))])) 0 0 (va_A [(a0, .inr (2, [.ref a1, .ref a2, .ref a3, .ref a4, .ref a5, .int x1])), (a3, .inl (c 0, 456, .inl (f0)))] sz) := by
  refine q2_of_i (ty := .int) (fun _ _ _ => rfl) (cc := cX2_placeOf) (maxL := 2) (by decide) rfl (Nat.le_of_ble_eq_true rfl) (fun p e s m args below meth cd A Q ls hx hb hml hown hts hin hA hS hP hD hK hN hl hret => ?_)
  have hown : s.vm.findClass RX2 = some m.cls := hown
  obtain ⟨H, eH⟩ : ∃ z, z = s.heap := ⟨_, rfl⟩
  have hP : va_P D vwCl [(a0, .inr (2, [.ref a1, .ref a2, .ref a3, .ref a4, .ref a5, .int x1])), (a3, .inl (c 0, 456, .inl (f0)))] H := by rw [eH]; exact hP
  have hS : va_S A s.heap H [] := by rw [eH]; exact hS
  rw [← eH]
  have iX2 : ∀ w ∈ wsX20, w ∈ wsX2_placeOf := fun w h => List.mem_cons_of_mem _ (List.mem_append_right _ h)
  have hl : lv_has ls 2 [(0, .ref a0), (1, .int x0)] := hl
  refine lv_aload_n hx hb dX2_placeOf_0 rfl (lv_at hl 0 rfl) ?_
  refine lv_iload_n hx hb dX2_placeOf_1 rfl (lv_at hl 1 rfl) ?_
  have hPc := hP.sub (ws' := [(a0, .inr (2, [.ref a1, .ref a2, .ref a3, .ref a4, .ref a5, .int x1]))]) [0] rfl
  have hDc := hD.sub (ws' := [(a0, .inr (2, [.ref a1, .ref a2, .ref a3, .ref a4, .ref a5, .int x1]))]) [0] (by decide) rfl
  refine q2_ci (wr := [(a3, .inl (c 0, 456, .inl (f0)))]) (va_runV (As := [.int x0]) (rest := []) ⟨hx, hb, hml, hown, hts⟩ (m_isMark l D c H.size a0 a1 a2 a3 a4 a5 x0 x1) (cwV 1 hts gX2_placeOf_X2_isMark rfl rfl rfl (by decide +kernel) ⟨Nat.le_of_ble_eq_true rfl, Nat.le_of_ble_eq_true rfl⟩) (q1_preV (c := c) (ci := 2) (q0 := 0) hPc hK hDc hN rfl rfl) rfl rfl hl.1 rfl (lv_room (Nat.le_of_ble_eq_true rfl)) dX2_placeOf_2 ⟨Nat.le_of_ble_eq_true rfl, Nat.le_of_ble_eq_true rfl⟩) hP hD hS hA [0] [1] rfl rfl (by decide) (by decide) (fun n1 u1 H locs pn1 hP hD hS => ?_)
  have pn1 : (n1 = 0 ∨ n1 = 1) ∧ (n1.toInt = 0 ∨ (n1.toInt = 1 ∧ 0 ≤ (x0).toInt ∧ (x0).toInt < (x1).toInt)) := pn1
  have pn1 := pn1.2
  have hP : va_P D vwCl [(a3, .inl (c 0, 456, .inl (f0))), (a0, .inr (2, [.ref a1, .ref a2, .ref a3, .ref a4, .ref a5, .int x1]))] H := hP
  have hD : va_D A [(a3, .inl (c 0, 456, .inl (f0))), (a0, .inr (2, [.ref a1, .ref a2, .ref a3, .ref a4, .ref a5, .int x1]))] := hD
  refine lv_if_eq (tgt := 17) hx hb dX2_placeOf_5 (by decide) (fun g2 => ?_) (fun g2 => ?_)
  · rw [z_eq] at g2
    try simp only [z_lit0, z_lit1, z_litm, z_lit31] at g2
    refine lv_iconst (v := -1) hx hb dX2_placeOf_17 (by decide) ?_
    refine W.widen (k := 0) (n := 0) (Nat.zero_le _) (Nat.zero_le _) ?_
    have hP := hP.sub (ws' := [(a0, .inr (2, [.ref a1, .ref a2, .ref a3, .ref a4, .ref a5, .int x1])), (a3, .inl (c 0, 456, .inl (f0)))]) [1, 0] rfl
    have hD := hD.sub (ws' := [(a0, .inr (2, [.ref a1, .ref a2, .ref a3, .ref a4, .ref a5, .int x1])), (a3, .inl (c 0, 456, .inl (f0)))]) [1, 0] (by decide) rfl
    exact hret (-1) (q2_u [] [] []) _ _ _ _ (by trivial) dX2_placeOf_18 hP hD hS
  · rw [z_eq] at g2
    try simp only [z_lit0, z_lit1, z_litm, z_lit31] at g2
    refine lv_aload_n hx hb dX2_placeOf_8 rfl (lv_at hl 0 rfl) ?_
    refine va_get (D := D) (ci := 2) (v := .ref a3) (C := RX2) (T := TX2) (N := 6) hx hb hts iX2 hown hK hP 1 rfl rfl 2 (by decide) (hts (.fieldLink RX2 18 "ShortTeller$Marks" "at" "[I") (List.mem_of_getElem? (i := 1) rfl)) (fun _ h9 => h9) rfl dX2_placeOf_9 ?_
    refine lv_iload_n hx hb dX2_placeOf_12 rfl (lv_at hl 1 rfl) ?_
    refine va_iald hx hb hK hP 0 0 rfl rfl (q2_in (by omega) (by omega)) dX2_placeOf_13 ?_
    refine lv_topi (fun n3 en3 => ?_)
    refine lv_goto (tgt := 18) hx hb dX2_placeOf_14 (by decide) ?_
    refine W.widen (k := 0) (n := 0) (Nat.zero_le _) (Nat.zero_le _) ?_
    have hP := hP.sub (ws' := [(a0, .inr (2, [.ref a1, .ref a2, .ref a3, .ref a4, .ref a5, .int x1])), (a3, .inl (c 0, 456, .inl (f0)))]) [1, 0] rfl
    have hD := hD.sub (ws' := [(a0, .inr (2, [.ref a1, .ref a2, .ref a3, .ref a4, .ref a5, .int x1])), (a3, .inl (c 0, 456, .inl (f0)))]) [1, 0] (by decide) rfl
    exact hret (n3) (q2_u [] [] []) _ _ _ _ (by trivial) dX2_placeOf_18 hP hD hS
set_option maxHeartbeats 4000000 in
set_option maxRecDepth 100000 in
theorem m_sizeOf (l : Launch) (D : va_G) (c : Nat → ClassId) (sz : Nat) (a0 : Nat) (a1 : Nat) (a2 : Nat) (a3 : Nat) (a4 : Nat) (a5 : Nat) (x0 : Int32) (x1 : Int32) (f0 : Nat → Int32) (h0 : x1.toInt ≤ 456) : Met l yX2_sizeOf wsX2_sizeOf ({ frames := 1, cells := 0, slots := 0, locals := 21 }) (q1_P D c [(a0, .inr (2, [.ref a1, .ref a2, .ref a3, .ref a4, .ref a5, .int x1])), (a4, .inl (c 0, 456, .inl (f0)))] sz [.ref a0, .int x0]) (q2_i D [(a0, .inr (2, [.ref a1, .ref a2, .ref a3, .ref a4, .ref a5, .int x1])), (a4, .inl (c 0, 456, .inl (f0)))] sz (fun r u => True) (fun u => [(a0, .inr (2, [.ref a1, .ref a2, .ref a3, .ref a4, .ref a5, .int x1])), (a4, .inl (c 0, 456, .inl (f0)))])) 0 0 (va_A [(a0, .inr (2, [.ref a1, .ref a2, .ref a3, .ref a4, .ref a5, .int x1])), (a4, .inl (c 0, 456, .inl (f0)))] sz) := by
  refine q2_of_i (ty := .int) (fun _ _ _ => rfl) (cc := cX2_sizeOf) (maxL := 2) (by decide) rfl (Nat.le_of_ble_eq_true rfl) (fun p e s m args below meth cd A Q ls hx hb hml hown hts hin hA hS hP hD hK hN hl hret => ?_)
  have hown : s.vm.findClass RX2 = some m.cls := hown
  obtain ⟨H, eH⟩ : ∃ z, z = s.heap := ⟨_, rfl⟩
  have hP : va_P D vwCl [(a0, .inr (2, [.ref a1, .ref a2, .ref a3, .ref a4, .ref a5, .int x1])), (a4, .inl (c 0, 456, .inl (f0)))] H := by rw [eH]; exact hP
  have hS : va_S A s.heap H [] := by rw [eH]; exact hS
  rw [← eH]
  have iX2 : ∀ w ∈ wsX20, w ∈ wsX2_sizeOf := fun w h => List.mem_cons_of_mem _ (List.mem_append_right _ h)
  have hl : lv_has ls 2 [(0, .ref a0), (1, .int x0)] := hl
  refine lv_aload_n hx hb dX2_sizeOf_0 rfl (lv_at hl 0 rfl) ?_
  refine lv_iload_n hx hb dX2_sizeOf_1 rfl (lv_at hl 1 rfl) ?_
  have hPc := hP.sub (ws' := [(a0, .inr (2, [.ref a1, .ref a2, .ref a3, .ref a4, .ref a5, .int x1]))]) [0] rfl
  have hDc := hD.sub (ws' := [(a0, .inr (2, [.ref a1, .ref a2, .ref a3, .ref a4, .ref a5, .int x1]))]) [0] (by decide) rfl
  refine q2_ci (wr := [(a4, .inl (c 0, 456, .inl (f0)))]) (va_runV (As := [.int x0]) (rest := []) ⟨hx, hb, hml, hown, hts⟩ (m_isMark l D c H.size a0 a1 a2 a3 a4 a5 x0 x1) (cwV 1 hts gX2_sizeOf_X2_isMark rfl rfl rfl (by decide +kernel) ⟨Nat.le_of_ble_eq_true rfl, Nat.le_of_ble_eq_true rfl⟩) (q1_preV (c := c) (ci := 2) (q0 := 0) hPc hK hDc hN rfl rfl) rfl rfl hl.1 rfl (lv_room (Nat.le_of_ble_eq_true rfl)) dX2_sizeOf_2 ⟨Nat.le_of_ble_eq_true rfl, Nat.le_of_ble_eq_true rfl⟩) hP hD hS hA [0] [1] rfl rfl (by decide) (by decide) (fun n1 u1 H locs pn1 hP hD hS => ?_)
  have pn1 : (n1 = 0 ∨ n1 = 1) ∧ (n1.toInt = 0 ∨ (n1.toInt = 1 ∧ 0 ≤ (x0).toInt ∧ (x0).toInt < (x1).toInt)) := pn1
  have pn1 := pn1.2
  have hP : va_P D vwCl [(a4, .inl (c 0, 456, .inl (f0))), (a0, .inr (2, [.ref a1, .ref a2, .ref a3, .ref a4, .ref a5, .int x1]))] H := hP
  have hD : va_D A [(a4, .inl (c 0, 456, .inl (f0))), (a0, .inr (2, [.ref a1, .ref a2, .ref a3, .ref a4, .ref a5, .int x1]))] := hD
  refine lv_if_eq (tgt := 17) hx hb dX2_sizeOf_5 (by decide) (fun g2 => ?_) (fun g2 => ?_)
  · rw [z_eq] at g2
    try simp only [z_lit0, z_lit1, z_litm, z_lit31] at g2
    refine lv_iconst (v := 0) hx hb dX2_sizeOf_17 (by decide) ?_
    refine W.widen (k := 0) (n := 0) (Nat.zero_le _) (Nat.zero_le _) ?_
    have hP := hP.sub (ws' := [(a0, .inr (2, [.ref a1, .ref a2, .ref a3, .ref a4, .ref a5, .int x1])), (a4, .inl (c 0, 456, .inl (f0)))]) [1, 0] rfl
    have hD := hD.sub (ws' := [(a0, .inr (2, [.ref a1, .ref a2, .ref a3, .ref a4, .ref a5, .int x1])), (a4, .inl (c 0, 456, .inl (f0)))]) [1, 0] (by decide) rfl
    exact hret (0) (q2_u [] [] []) _ _ _ _ (by trivial) dX2_sizeOf_18 hP hD hS
  · rw [z_eq] at g2
    try simp only [z_lit0, z_lit1, z_litm, z_lit31] at g2
    refine lv_aload_n hx hb dX2_sizeOf_8 rfl (lv_at hl 0 rfl) ?_
    refine va_get (D := D) (ci := 2) (v := .ref a4) (C := RX2) (T := TX2) (N := 6) hx hb hts iX2 hown hK hP 1 rfl rfl 3 (by decide) (hts (.fieldLink RX2 21 "ShortTeller$Marks" "size" "[I") (List.mem_of_getElem? (i := 1) rfl)) (fun _ h9 => h9) rfl dX2_sizeOf_9 ?_
    refine lv_iload_n hx hb dX2_sizeOf_12 rfl (lv_at hl 1 rfl) ?_
    refine va_iald hx hb hK hP 0 0 rfl rfl (q2_in (by omega) (by omega)) dX2_sizeOf_13 ?_
    refine lv_topi (fun n3 en3 => ?_)
    refine lv_goto (tgt := 18) hx hb dX2_sizeOf_14 (by decide) ?_
    refine W.widen (k := 0) (n := 0) (Nat.zero_le _) (Nat.zero_le _) ?_
    have hP := hP.sub (ws' := [(a0, .inr (2, [.ref a1, .ref a2, .ref a3, .ref a4, .ref a5, .int x1])), (a4, .inl (c 0, 456, .inl (f0)))]) [1, 0] rfl
    have hD := hD.sub (ws' := [(a0, .inr (2, [.ref a1, .ref a2, .ref a3, .ref a4, .ref a5, .int x1])), (a4, .inl (c 0, 456, .inl (f0)))]) [1, 0] (by decide) rfl
    exact hret (n3) (q2_u [] [] []) _ _ _ _ (by trivial) dX2_sizeOf_18 hP hD hS
set_option maxHeartbeats 4000000 in
set_option maxRecDepth 100000 in
theorem m_nameOf (l : Launch) (D : va_G) (c : Nat → ClassId) (sz : Nat) (a0 : Nat) (a1 : Nat) (a2 : Nat) (a3 : Nat) (a4 : Nat) (a5 : Nat) (x0 : Int32) (x1 : Int32) (f0 : Nat → Int32) (h0 : x1.toInt ≤ 456) : Met l yX2_nameOf wsX2_nameOf ({ frames := 1, cells := 0, slots := 0, locals := 21 }) (q1_P D c [(a0, .inr (2, [.ref a1, .ref a2, .ref a3, .ref a4, .ref a5, .int x1])), (a5, .inl (c 0, 456, .inl (f0)))] sz [.ref a0, .int x0]) (q2_i D [(a0, .inr (2, [.ref a1, .ref a2, .ref a3, .ref a4, .ref a5, .int x1])), (a5, .inl (c 0, 456, .inl (f0)))] sz (fun r u => True) (fun u => [(a0, .inr (2, [.ref a1, .ref a2, .ref a3, .ref a4, .ref a5, .int x1])), (a5, .inl (c 0, 456, .inl (f0)))])) 0 0 (va_A [(a0, .inr (2, [.ref a1, .ref a2, .ref a3, .ref a4, .ref a5, .int x1])), (a5, .inl (c 0, 456, .inl (f0)))] sz) := by
  refine q2_of_i (ty := .int) (fun _ _ _ => rfl) (cc := cX2_nameOf) (maxL := 2) (by decide) rfl (Nat.le_of_ble_eq_true rfl) (fun p e s m args below meth cd A Q ls hx hb hml hown hts hin hA hS hP hD hK hN hl hret => ?_)
  have hown : s.vm.findClass RX2 = some m.cls := hown
  obtain ⟨H, eH⟩ : ∃ z, z = s.heap := ⟨_, rfl⟩
  have hP : va_P D vwCl [(a0, .inr (2, [.ref a1, .ref a2, .ref a3, .ref a4, .ref a5, .int x1])), (a5, .inl (c 0, 456, .inl (f0)))] H := by rw [eH]; exact hP
  have hS : va_S A s.heap H [] := by rw [eH]; exact hS
  rw [← eH]
  have iX2 : ∀ w ∈ wsX20, w ∈ wsX2_nameOf := fun w h => List.mem_cons_of_mem _ (List.mem_append_right _ h)
  have hl : lv_has ls 2 [(0, .ref a0), (1, .int x0)] := hl
  refine lv_aload_n hx hb dX2_nameOf_0 rfl (lv_at hl 0 rfl) ?_
  refine lv_iload_n hx hb dX2_nameOf_1 rfl (lv_at hl 1 rfl) ?_
  have hPc := hP.sub (ws' := [(a0, .inr (2, [.ref a1, .ref a2, .ref a3, .ref a4, .ref a5, .int x1]))]) [0] rfl
  have hDc := hD.sub (ws' := [(a0, .inr (2, [.ref a1, .ref a2, .ref a3, .ref a4, .ref a5, .int x1]))]) [0] (by decide) rfl
  refine q2_ci (wr := [(a5, .inl (c 0, 456, .inl (f0)))]) (va_runV (As := [.int x0]) (rest := []) ⟨hx, hb, hml, hown, hts⟩ (m_isMark l D c H.size a0 a1 a2 a3 a4 a5 x0 x1) (cwV 1 hts gX2_nameOf_X2_isMark rfl rfl rfl (by decide +kernel) ⟨Nat.le_of_ble_eq_true rfl, Nat.le_of_ble_eq_true rfl⟩) (q1_preV (c := c) (ci := 2) (q0 := 0) hPc hK hDc hN rfl rfl) rfl rfl hl.1 rfl (lv_room (Nat.le_of_ble_eq_true rfl)) dX2_nameOf_2 ⟨Nat.le_of_ble_eq_true rfl, Nat.le_of_ble_eq_true rfl⟩) hP hD hS hA [0] [1] rfl rfl (by decide) (by decide) (fun n1 u1 H locs pn1 hP hD hS => ?_)
  have pn1 : (n1 = 0 ∨ n1 = 1) ∧ (n1.toInt = 0 ∨ (n1.toInt = 1 ∧ 0 ≤ (x0).toInt ∧ (x0).toInt < (x1).toInt)) := pn1
  have pn1 := pn1.2
  have hP : va_P D vwCl [(a5, .inl (c 0, 456, .inl (f0))), (a0, .inr (2, [.ref a1, .ref a2, .ref a3, .ref a4, .ref a5, .int x1]))] H := hP
  have hD : va_D A [(a5, .inl (c 0, 456, .inl (f0))), (a0, .inr (2, [.ref a1, .ref a2, .ref a3, .ref a4, .ref a5, .int x1]))] := hD
  refine lv_if_eq (tgt := 17) hx hb dX2_nameOf_5 (by decide) (fun g2 => ?_) (fun g2 => ?_)
  · rw [z_eq] at g2
    try simp only [z_lit0, z_lit1, z_litm, z_lit31] at g2
    refine lv_iconst (v := -1) hx hb dX2_nameOf_17 (by decide) ?_
    refine W.widen (k := 0) (n := 0) (Nat.zero_le _) (Nat.zero_le _) ?_
    have hP := hP.sub (ws' := [(a0, .inr (2, [.ref a1, .ref a2, .ref a3, .ref a4, .ref a5, .int x1])), (a5, .inl (c 0, 456, .inl (f0)))]) [1, 0] rfl
    have hD := hD.sub (ws' := [(a0, .inr (2, [.ref a1, .ref a2, .ref a3, .ref a4, .ref a5, .int x1])), (a5, .inl (c 0, 456, .inl (f0)))]) [1, 0] (by decide) rfl
    exact hret (-1) (q2_u [] [] []) _ _ _ _ (by trivial) dX2_nameOf_18 hP hD hS
  · rw [z_eq] at g2
    try simp only [z_lit0, z_lit1, z_litm, z_lit31] at g2
    refine lv_aload_n hx hb dX2_nameOf_8 rfl (lv_at hl 0 rfl) ?_
    refine va_get (D := D) (ci := 2) (v := .ref a5) (C := RX2) (T := TX2) (N := 6) hx hb hts iX2 hown hK hP 1 rfl rfl 4 (by decide) (hts (.fieldLink RX2 24 "ShortTeller$Marks" "name" "[I") (List.mem_of_getElem? (i := 1) rfl)) (fun _ h9 => h9) rfl dX2_nameOf_9 ?_
    refine lv_iload_n hx hb dX2_nameOf_12 rfl (lv_at hl 1 rfl) ?_
    refine va_iald hx hb hK hP 0 0 rfl rfl (q2_in (by omega) (by omega)) dX2_nameOf_13 ?_
    refine lv_topi (fun n3 en3 => ?_)
    refine lv_goto (tgt := 18) hx hb dX2_nameOf_14 (by decide) ?_
    refine W.widen (k := 0) (n := 0) (Nat.zero_le _) (Nat.zero_le _) ?_
    have hP := hP.sub (ws' := [(a0, .inr (2, [.ref a1, .ref a2, .ref a3, .ref a4, .ref a5, .int x1])), (a5, .inl (c 0, 456, .inl (f0)))]) [1, 0] rfl
    have hD := hD.sub (ws' := [(a0, .inr (2, [.ref a1, .ref a2, .ref a3, .ref a4, .ref a5, .int x1])), (a5, .inl (c 0, 456, .inl (f0)))]) [1, 0] (by decide) rfl
    exact hret (n3) (q2_u [] [] []) _ _ _ _ (by trivial) dX2_nameOf_18 hP hD hS
set_option maxHeartbeats 4000000 in
set_option maxRecDepth 100000 in
theorem s_signAt (l : Launch) (D : va_G) (c : Nat → ClassId) (sz : Nat) (a0 : Nat) (b_signs : Nat) (b_pieces : Nat) (b_listItems : Nat) (b_listWithin : Nat) (b_marks : Nat) (b_nameAt : Nat) (b_nameSize : Nat) (v_size : Int32) (v_options : Int32) (v_headingsEnd : Int32) (v_headingMarks : Int32) (v_sentences : Int32) (v_headings : Int32) (v_words : Int32) (v_lists : Int32) (v_names : Int32) (x0 : Int32) (f0 : Nat → Int32) (h0 : v_size.toInt ≤ 800) : Met l yX8_signAt wsX8_signAt ({ frames := 0, cells := 0, slots := 0, locals := 0 }) (q1_P D c [(a0, .inr (8, [.ref b_signs, .int v_size, .ref b_pieces, .int v_options, .int v_headingsEnd, .int v_headingMarks, .int v_sentences, .int v_headings, .int v_words, .ref b_listItems, .ref b_listWithin, .int v_lists, .ref b_marks, .ref b_nameAt, .ref b_nameSize, .int v_names])), (b_signs, .inl (c 0, 800, .inl (f0)))] sz [.ref a0, .int x0]) (q2_i D [(a0, .inr (8, [.ref b_signs, .int v_size, .ref b_pieces, .int v_options, .int v_headingsEnd, .int v_headingMarks, .int v_sentences, .int v_headings, .int v_words, .ref b_listItems, .ref b_listWithin, .int v_lists, .ref b_marks, .ref b_nameAt, .ref b_nameSize, .int v_names])), (b_signs, .inl (c 0, 800, .inl (f0)))] sz (fun r u => True) (fun u => [(a0, .inr (8, [.ref b_signs, .int v_size, .ref b_pieces, .int v_options, .int v_headingsEnd, .int v_headingMarks, .int v_sentences, .int v_headings, .int v_words, .ref b_listItems, .ref b_listWithin, .int v_lists, .ref b_marks, .ref b_nameAt, .ref b_nameSize, .int v_names])), (b_signs, .inl (c 0, 800, .inl (f0)))])) 0 0 (va_A [(a0, .inr (8, [.ref b_signs, .int v_size, .ref b_pieces, .int v_options, .int v_headingsEnd, .int v_headingMarks, .int v_sentences, .int v_headings, .int v_words, .ref b_listItems, .ref b_listWithin, .int v_lists, .ref b_marks, .ref b_nameAt, .ref b_nameSize, .int v_names])), (b_signs, .inl (c 0, 800, .inl (f0)))] sz) := by
  refine q2_of_i (ty := .int) (fun _ _ _ => rfl) (cc := cX8_signAt) (maxL := 2) (by decide) rfl (Nat.le_of_ble_eq_true rfl) (fun p e s m args below meth cd A Q ls hx hb hml hown hts hin hA hS hP hD hK hN hl hret => ?_)
  have hown : s.vm.findClass RX8 = some m.cls := hown
  obtain ⟨H, eH⟩ : ∃ z, z = s.heap := ⟨_, rfl⟩
  have hP : va_P D vwCl [(a0, .inr (8, [.ref b_signs, .int v_size, .ref b_pieces, .int v_options, .int v_headingsEnd, .int v_headingMarks, .int v_sentences, .int v_headings, .int v_words, .ref b_listItems, .ref b_listWithin, .int v_lists, .ref b_marks, .ref b_nameAt, .ref b_nameSize, .int v_names])), (b_signs, .inl (c 0, 800, .inl (f0)))] H := by rw [eH]; exact hP
  have hS : va_S A s.heap H [] := by rw [eH]; exact hS
  rw [← eH]
  have iX8 : ∀ w ∈ wsX80, w ∈ wsX8_signAt := fun w h => List.mem_cons_of_mem _ (List.mem_append_right _ h)
  have hl : lv_has ls 2 [(0, .ref a0), (1, .int x0)] := hl
  refine lv_iload_n hx hb dX8_signAt_0 rfl (lv_at hl 1 rfl) ?_
  refine lv_if_lt (tgt := 21) hx hb dX8_signAt_1 (by decide) (fun g1 => ?_) (fun g1 => ?_)
  · rw [z_lt] at g1
    try simp only [z_lit0, z_lit1, z_litm, z_lit31] at g1
    refine lv_iconst (v := -1) hx hb dX8_signAt_21 (by decide) ?_
    refine W.widen (k := 0) (n := 0) (Nat.zero_le _) (Nat.zero_le _) ?_
    exact hret (-1) (q2_u [] [] []) _ _ _ _ (by trivial) dX8_signAt_22 hP hD hS
  · rw [z_lt] at g1
    try simp only [z_lit0, z_lit1, z_litm, z_lit31] at g1
    refine lv_iload_n hx hb dX8_signAt_4 rfl (lv_at hl 1 rfl) ?_
    refine lv_aload_n hx hb dX8_signAt_5 rfl (lv_at hl 0 rfl) ?_
    refine va_get (D := D) (ci := 8) (v := .int v_size) (C := RX8) (T := TX8) (N := 16) hx hb hts iX8 hown hK hP 0 rfl rfl 1 (by decide) (hts (.fieldLink RX8 15 "ShortTeller$Story" "size" "I") (List.mem_of_getElem? (i := 1) rfl)) (fun _ h9 => h9) rfl dX8_signAt_6 ?_
    refine lv_icmp_ge (tgt := 21) hx hb dX8_signAt_9 (by decide) (fun g2 => ?_) (fun g2 => ?_)
    · rw [z_le] at g2
      try simp only [z_lit0, z_lit1, z_litm, z_lit31] at g2
      refine lv_iconst (v := -1) hx hb dX8_signAt_21 (by decide) ?_
      refine W.widen (k := 0) (n := 0) (Nat.zero_le _) (Nat.zero_le _) ?_
      exact hret (-1) (q2_u [] [] []) _ _ _ _ (by trivial) dX8_signAt_22 hP hD hS
    · rw [z_le] at g2
      try simp only [z_lit0, z_lit1, z_litm, z_lit31] at g2
      refine lv_aload_n hx hb dX8_signAt_12 rfl (lv_at hl 0 rfl) ?_
      refine va_get (D := D) (ci := 8) (v := .ref b_signs) (C := RX8) (T := TX8) (N := 16) hx hb hts iX8 hown hK hP 0 rfl rfl 0 (by decide) (hts (.fieldLink RX8 9 "ShortTeller$Story" "signs" "[I") (List.mem_of_getElem? (i := 2) rfl)) (fun _ h9 => h9) rfl dX8_signAt_13 ?_
      refine lv_iload_n hx hb dX8_signAt_16 rfl (lv_at hl 1 rfl) ?_
      refine va_iald hx hb hK hP 1 0 rfl rfl (q2_in (by omega) (by omega)) dX8_signAt_17 ?_
      refine lv_topi (fun n3 en3 => ?_)
      refine lv_goto (tgt := 22) hx hb dX8_signAt_18 (by decide) ?_
      refine W.widen (k := 0) (n := 0) (Nat.zero_le _) (Nat.zero_le _) ?_
      exact hret (n3) (q2_u [] [] []) _ _ _ _ (by trivial) dX8_signAt_22 hP hD hS
set_option maxHeartbeats 4000000 in
set_option maxRecDepth 100000 in
theorem s_sizeOfName (l : Launch) (D : va_G) (c : Nat → ClassId) (sz : Nat) (a0 : Nat) (b_signs : Nat) (b_pieces : Nat) (b_listItems : Nat) (b_listWithin : Nat) (b_marks : Nat) (b_nameAt : Nat) (b_nameSize : Nat) (v_size : Int32) (v_options : Int32) (v_headingsEnd : Int32) (v_headingMarks : Int32) (v_sentences : Int32) (v_headings : Int32) (v_words : Int32) (v_lists : Int32) (v_names : Int32) (x0 : Int32) (f0 : Nat → Int32) (h0 : v_names.toInt ≤ 400) : Met l yX8_sizeOfName wsX8_sizeOfName ({ frames := 0, cells := 0, slots := 0, locals := 0 }) (q1_P D c [(a0, .inr (8, [.ref b_signs, .int v_size, .ref b_pieces, .int v_options, .int v_headingsEnd, .int v_headingMarks, .int v_sentences, .int v_headings, .int v_words, .ref b_listItems, .ref b_listWithin, .int v_lists, .ref b_marks, .ref b_nameAt, .ref b_nameSize, .int v_names])), (b_nameSize, .inl (c 0, 400, .inl (f0)))] sz [.ref a0, .int x0]) (q2_i D [(a0, .inr (8, [.ref b_signs, .int v_size, .ref b_pieces, .int v_options, .int v_headingsEnd, .int v_headingMarks, .int v_sentences, .int v_headings, .int v_words, .ref b_listItems, .ref b_listWithin, .int v_lists, .ref b_marks, .ref b_nameAt, .ref b_nameSize, .int v_names])), (b_nameSize, .inl (c 0, 400, .inl (f0)))] sz (fun r u => True) (fun u => [(a0, .inr (8, [.ref b_signs, .int v_size, .ref b_pieces, .int v_options, .int v_headingsEnd, .int v_headingMarks, .int v_sentences, .int v_headings, .int v_words, .ref b_listItems, .ref b_listWithin, .int v_lists, .ref b_marks, .ref b_nameAt, .ref b_nameSize, .int v_names])), (b_nameSize, .inl (c 0, 400, .inl (f0)))])) 0 0 (va_A [(a0, .inr (8, [.ref b_signs, .int v_size, .ref b_pieces, .int v_options, .int v_headingsEnd, .int v_headingMarks, .int v_sentences, .int v_headings, .int v_words, .ref b_listItems, .ref b_listWithin, .int v_lists, .ref b_marks, .ref b_nameAt, .ref b_nameSize, .int v_names])), (b_nameSize, .inl (c 0, 400, .inl (f0)))] sz) := by
  refine q2_of_i (ty := .int) (fun _ _ _ => rfl) (cc := cX8_sizeOfName) (maxL := 2) (by decide) rfl (Nat.le_of_ble_eq_true rfl) (fun p e s m args below meth cd A Q ls hx hb hml hown hts hin hA hS hP hD hK hN hl hret => ?_)
  have hown : s.vm.findClass RX8 = some m.cls := hown
  obtain ⟨H, eH⟩ : ∃ z, z = s.heap := ⟨_, rfl⟩
  have hP : va_P D vwCl [(a0, .inr (8, [.ref b_signs, .int v_size, .ref b_pieces, .int v_options, .int v_headingsEnd, .int v_headingMarks, .int v_sentences, .int v_headings, .int v_words, .ref b_listItems, .ref b_listWithin, .int v_lists, .ref b_marks, .ref b_nameAt, .ref b_nameSize, .int v_names])), (b_nameSize, .inl (c 0, 400, .inl (f0)))] H := by rw [eH]; exact hP
  have hS : va_S A s.heap H [] := by rw [eH]; exact hS
  rw [← eH]
  have iX8 : ∀ w ∈ wsX80, w ∈ wsX8_sizeOfName := fun w h => List.mem_cons_of_mem _ (List.mem_append_right _ h)
  have hl : lv_has ls 2 [(0, .ref a0), (1, .int x0)] := hl
  refine lv_iload_n hx hb dX8_sizeOfName_0 rfl (lv_at hl 1 rfl) ?_
  refine lv_if_lt (tgt := 21) hx hb dX8_sizeOfName_1 (by decide) (fun g1 => ?_) (fun g1 => ?_)
  · rw [z_lt] at g1
    try simp only [z_lit0, z_lit1, z_litm, z_lit31] at g1
    refine lv_iconst (v := 0) hx hb dX8_sizeOfName_21 (by decide) ?_
    refine W.widen (k := 0) (n := 0) (Nat.zero_le _) (Nat.zero_le _) ?_
    exact hret (0) (q2_u [] [] []) _ _ _ _ (by trivial) dX8_sizeOfName_22 hP hD hS
  · rw [z_lt] at g1
    try simp only [z_lit0, z_lit1, z_litm, z_lit31] at g1
    refine lv_iload_n hx hb dX8_sizeOfName_4 rfl (lv_at hl 1 rfl) ?_
    refine lv_aload_n hx hb dX8_sizeOfName_5 rfl (lv_at hl 0 rfl) ?_
    refine va_get (D := D) (ci := 8) (v := .int v_names) (C := RX8) (T := TX8) (N := 16) hx hb hts iX8 hown hK hP 0 rfl rfl 15 (by decide) (hts (.fieldLink RX8 65 "ShortTeller$Story" "names" "I") (List.mem_of_getElem? (i := 1) rfl)) (fun _ h9 => h9) rfl dX8_sizeOfName_6 ?_
    refine lv_icmp_ge (tgt := 21) hx hb dX8_sizeOfName_9 (by decide) (fun g2 => ?_) (fun g2 => ?_)
    · rw [z_le] at g2
      try simp only [z_lit0, z_lit1, z_litm, z_lit31] at g2
      refine lv_iconst (v := 0) hx hb dX8_sizeOfName_21 (by decide) ?_
      refine W.widen (k := 0) (n := 0) (Nat.zero_le _) (Nat.zero_le _) ?_
      exact hret (0) (q2_u [] [] []) _ _ _ _ (by trivial) dX8_sizeOfName_22 hP hD hS
    · rw [z_le] at g2
      try simp only [z_lit0, z_lit1, z_litm, z_lit31] at g2
      refine lv_aload_n hx hb dX8_sizeOfName_12 rfl (lv_at hl 0 rfl) ?_
      refine va_get (D := D) (ci := 8) (v := .ref b_nameSize) (C := RX8) (T := TX8) (N := 16) hx hb hts iX8 hown hK hP 0 rfl rfl 14 (by decide) (hts (.fieldLink RX8 62 "ShortTeller$Story" "nameSize" "[I") (List.mem_of_getElem? (i := 2) rfl)) (fun _ h9 => h9) rfl dX8_sizeOfName_13 ?_
      refine lv_iload_n hx hb dX8_sizeOfName_16 rfl (lv_at hl 1 rfl) ?_
      refine va_iald hx hb hK hP 1 0 rfl rfl (q2_in (by omega) (by omega)) dX8_sizeOfName_17 ?_
      refine lv_topi (fun n3 en3 => ?_)
      refine lv_goto (tgt := 22) hx hb dX8_sizeOfName_18 (by decide) ?_
      refine W.widen (k := 0) (n := 0) (Nat.zero_le _) (Nat.zero_le _) ?_
      exact hret (n3) (q2_u [] [] []) _ _ _ _ (by trivial) dX8_sizeOfName_22 hP hD hS
set_option maxHeartbeats 4000000 in
set_option maxRecDepth 100000 in
theorem s_placeOfName (l : Launch) (D : va_G) (c : Nat → ClassId) (sz : Nat) (a0 : Nat) (b_signs : Nat) (b_pieces : Nat) (b_listItems : Nat) (b_listWithin : Nat) (b_marks : Nat) (b_nameAt : Nat) (b_nameSize : Nat) (v_size : Int32) (v_options : Int32) (v_headingsEnd : Int32) (v_headingMarks : Int32) (v_sentences : Int32) (v_headings : Int32) (v_words : Int32) (v_lists : Int32) (v_names : Int32) (x0 : Int32) (f0 : Nat → Int32) (h0 : v_names.toInt ≤ 400) : Met l yX8_placeOfName wsX8_placeOfName ({ frames := 0, cells := 0, slots := 0, locals := 0 }) (q1_P D c [(a0, .inr (8, [.ref b_signs, .int v_size, .ref b_pieces, .int v_options, .int v_headingsEnd, .int v_headingMarks, .int v_sentences, .int v_headings, .int v_words, .ref b_listItems, .ref b_listWithin, .int v_lists, .ref b_marks, .ref b_nameAt, .ref b_nameSize, .int v_names])), (b_nameAt, .inl (c 0, 400, .inl (f0)))] sz [.ref a0, .int x0]) (q2_i D [(a0, .inr (8, [.ref b_signs, .int v_size, .ref b_pieces, .int v_options, .int v_headingsEnd, .int v_headingMarks, .int v_sentences, .int v_headings, .int v_words, .ref b_listItems, .ref b_listWithin, .int v_lists, .ref b_marks, .ref b_nameAt, .ref b_nameSize, .int v_names])), (b_nameAt, .inl (c 0, 400, .inl (f0)))] sz (fun r u => True) (fun u => [(a0, .inr (8, [.ref b_signs, .int v_size, .ref b_pieces, .int v_options, .int v_headingsEnd, .int v_headingMarks, .int v_sentences, .int v_headings, .int v_words, .ref b_listItems, .ref b_listWithin, .int v_lists, .ref b_marks, .ref b_nameAt, .ref b_nameSize, .int v_names])), (b_nameAt, .inl (c 0, 400, .inl (f0)))])) 0 0 (va_A [(a0, .inr (8, [.ref b_signs, .int v_size, .ref b_pieces, .int v_options, .int v_headingsEnd, .int v_headingMarks, .int v_sentences, .int v_headings, .int v_words, .ref b_listItems, .ref b_listWithin, .int v_lists, .ref b_marks, .ref b_nameAt, .ref b_nameSize, .int v_names])), (b_nameAt, .inl (c 0, 400, .inl (f0)))] sz) := by
  refine q2_of_i (ty := .int) (fun _ _ _ => rfl) (cc := cX8_placeOfName) (maxL := 2) (by decide) rfl (Nat.le_of_ble_eq_true rfl) (fun p e s m args below meth cd A Q ls hx hb hml hown hts hin hA hS hP hD hK hN hl hret => ?_)
  have hown : s.vm.findClass RX8 = some m.cls := hown
  obtain ⟨H, eH⟩ : ∃ z, z = s.heap := ⟨_, rfl⟩
  have hP : va_P D vwCl [(a0, .inr (8, [.ref b_signs, .int v_size, .ref b_pieces, .int v_options, .int v_headingsEnd, .int v_headingMarks, .int v_sentences, .int v_headings, .int v_words, .ref b_listItems, .ref b_listWithin, .int v_lists, .ref b_marks, .ref b_nameAt, .ref b_nameSize, .int v_names])), (b_nameAt, .inl (c 0, 400, .inl (f0)))] H := by rw [eH]; exact hP
  have hS : va_S A s.heap H [] := by rw [eH]; exact hS
  rw [← eH]
  have iX8 : ∀ w ∈ wsX80, w ∈ wsX8_placeOfName := fun w h => List.mem_cons_of_mem _ (List.mem_append_right _ h)
  have hl : lv_has ls 2 [(0, .ref a0), (1, .int x0)] := hl
  refine lv_iload_n hx hb dX8_placeOfName_0 rfl (lv_at hl 1 rfl) ?_
  refine lv_if_lt (tgt := 21) hx hb dX8_placeOfName_1 (by decide) (fun g1 => ?_) (fun g1 => ?_)
  · rw [z_lt] at g1
    try simp only [z_lit0, z_lit1, z_litm, z_lit31] at g1
    refine lv_iconst (v := -1) hx hb dX8_placeOfName_21 (by decide) ?_
    refine W.widen (k := 0) (n := 0) (Nat.zero_le _) (Nat.zero_le _) ?_
    exact hret (-1) (q2_u [] [] []) _ _ _ _ (by trivial) dX8_placeOfName_22 hP hD hS
  · rw [z_lt] at g1
    try simp only [z_lit0, z_lit1, z_litm, z_lit31] at g1
    refine lv_iload_n hx hb dX8_placeOfName_4 rfl (lv_at hl 1 rfl) ?_
    refine lv_aload_n hx hb dX8_placeOfName_5 rfl (lv_at hl 0 rfl) ?_
    refine va_get (D := D) (ci := 8) (v := .int v_names) (C := RX8) (T := TX8) (N := 16) hx hb hts iX8 hown hK hP 0 rfl rfl 15 (by decide) (hts (.fieldLink RX8 65 "ShortTeller$Story" "names" "I") (List.mem_of_getElem? (i := 1) rfl)) (fun _ h9 => h9) rfl dX8_placeOfName_6 ?_
    refine lv_icmp_ge (tgt := 21) hx hb dX8_placeOfName_9 (by decide) (fun g2 => ?_) (fun g2 => ?_)
    · rw [z_le] at g2
      try simp only [z_lit0, z_lit1, z_litm, z_lit31] at g2
      refine lv_iconst (v := -1) hx hb dX8_placeOfName_21 (by decide) ?_
      refine W.widen (k := 0) (n := 0) (Nat.zero_le _) (Nat.zero_le _) ?_
      exact hret (-1) (q2_u [] [] []) _ _ _ _ (by trivial) dX8_placeOfName_22 hP hD hS
    · rw [z_le] at g2
      try simp only [z_lit0, z_lit1, z_litm, z_lit31] at g2
      refine lv_aload_n hx hb dX8_placeOfName_12 rfl (lv_at hl 0 rfl) ?_
      refine va_get (D := D) (ci := 8) (v := .ref b_nameAt) (C := RX8) (T := TX8) (N := 16) hx hb hts iX8 hown hK hP 0 rfl rfl 13 (by decide) (hts (.fieldLink RX8 59 "ShortTeller$Story" "nameAt" "[I") (List.mem_of_getElem? (i := 2) rfl)) (fun _ h9 => h9) rfl dX8_placeOfName_13 ?_
      refine lv_iload_n hx hb dX8_placeOfName_16 rfl (lv_at hl 1 rfl) ?_
      refine va_iald hx hb hK hP 1 0 rfl rfl (q2_in (by omega) (by omega)) dX8_placeOfName_17 ?_
      refine lv_topi (fun n3 en3 => ?_)
      refine lv_goto (tgt := 22) hx hb dX8_placeOfName_18 (by decide) ?_
      refine W.widen (k := 0) (n := 0) (Nat.zero_le _) (Nat.zero_le _) ?_
      exact hret (n3) (q2_u [] [] []) _ _ _ _ (by trivial) dX8_placeOfName_22 hP hD hS
set_option maxHeartbeats 4000000 in
set_option maxRecDepth 100000 in
theorem f_has (l : Launch) (D : va_G) (c : Nat → ClassId) (sz : Nat) (a0 : Nat) (a1 : Nat) (x0 : Int32) (x1 : Int32) (x2 : Int32) (f0 : Nat → Int32) : Met l yX0_has wsX0_has ({ frames := 0, cells := 0, slots := 0, locals := 0 }) (q1_P D c [(a0, .inr (0, [.ref a1, .int x1, .int x2])), (a1, .inl (c 0, 31, .inl (f0)))] sz [.ref a0, .int x0]) (q2_i D [(a0, .inr (0, [.ref a1, .int x1, .int x2])), (a1, .inl (c 0, 31, .inl (f0)))] sz (fun r u => (r = 0 ∨ r = 1) ∧ (r.toInt = 0 ∨ (r.toInt = 1 ∧ 0 ≤ x0.toInt ∧ x0.toInt < 31))) (fun u => [(a0, .inr (0, [.ref a1, .int x1, .int x2])), (a1, .inl (c 0, 31, .inl (f0)))])) 0 0 (va_A [(a0, .inr (0, [.ref a1, .int x1, .int x2])), (a1, .inl (c 0, 31, .inl (f0)))] sz) := by
  refine q2_of_i (ty := .boolean) (fun r u h => by rcases h.1 with h | h <;> (rw [h]; rfl)) (cc := cX0_has) (maxL := 2) (by decide) rfl (Nat.le_of_ble_eq_true rfl) (fun p e s m args below meth cd A Q ls hx hb hml hown hts hin hA hS hP hD hK hN hl hret => ?_)
  have hown : s.vm.findClass RX0 = some m.cls := hown
  obtain ⟨H, eH⟩ : ∃ z, z = s.heap := ⟨_, rfl⟩
  have hP : va_P D vwCl [(a0, .inr (0, [.ref a1, .int x1, .int x2])), (a1, .inl (c 0, 31, .inl (f0)))] H := by rw [eH]; exact hP
  have hS : va_S A s.heap H [] := by rw [eH]; exact hS
  rw [← eH]
  have iX0 : ∀ w ∈ wsX00, w ∈ wsX0_has := fun w h => List.mem_cons_of_mem _ (List.mem_append_right _ h)
  have hl : lv_has ls 2 [(0, .ref a0), (1, .int x0)] := hl
  refine lv_iload_n hx hb dX0_has_0 rfl (lv_at hl 1 rfl) ?_
  refine lv_if_lt (tgt := 23) hx hb dX0_has_1 (by decide) (fun g1 => ?_) (fun g1 => ?_)
  · rw [z_lt] at g1
    try simp only [z_lit0, z_lit1, z_litm, z_lit31] at g1
    refine lv_iconst (v := 0) hx hb dX0_has_23 (by decide) ?_
    refine W.widen (k := 0) (n := 0) (Nat.zero_le _) (Nat.zero_le _) ?_
    exact hret (0) (q2_u [] [] []) _ _ _ _ (by first | exact ⟨Or.inl rfl, Or.inl (by decide)⟩ | exact ⟨Or.inr rfl, Or.inr ⟨by decide, by omega, by omega⟩⟩) dX0_has_24 hP hD hS
  · rw [z_lt] at g1
    try simp only [z_lit0, z_lit1, z_litm, z_lit31] at g1
    refine lv_iload_n hx hb dX0_has_4 rfl (lv_at hl 1 rfl) ?_
    refine lv_bipush (v := 31) hx hb dX0_has_5 (by decide) ?_
    refine lv_icmp_ge (tgt := 23) hx hb dX0_has_7 (by decide) (fun g2 => ?_) (fun g2 => ?_)
    · rw [z_le] at g2
      try simp only [z_lit0, z_lit1, z_litm, z_lit31] at g2
      refine lv_iconst (v := 0) hx hb dX0_has_23 (by decide) ?_
      refine W.widen (k := 0) (n := 0) (Nat.zero_le _) (Nat.zero_le _) ?_
      exact hret (0) (q2_u [] [] []) _ _ _ _ (by first | exact ⟨Or.inl rfl, Or.inl (by decide)⟩ | exact ⟨Or.inr rfl, Or.inr ⟨by decide, by omega, by omega⟩⟩) dX0_has_24 hP hD hS
    · rw [z_le] at g2
      try simp only [z_lit0, z_lit1, z_litm, z_lit31] at g2
      refine lv_aload_n hx hb dX0_has_10 rfl (lv_at hl 0 rfl) ?_
      refine va_get (D := D) (ci := 0) (v := .ref a1) (C := RX0) (T := TX0) (N := 3) hx hb hts iX0 hown hK hP 0 rfl rfl 0 (by decide) (hts (.fieldLink RX0 9 "ShortTeller$Facts" "places" "[I") (List.mem_of_getElem? (i := 1) rfl)) (fun _ h9 => h9) rfl dX0_has_11 ?_
      refine lv_iload_n hx hb dX0_has_14 rfl (lv_at hl 1 rfl) ?_
      refine va_iald hx hb hK hP 1 0 rfl rfl (q2_in (by omega) (by omega)) dX0_has_15 ?_
      refine lv_topi (fun n3 en3 => ?_)
      refine lv_if_le (tgt := 23) hx hb dX0_has_16 (by decide) (fun g4 => ?_) (fun g4 => ?_)
      · rw [z_le] at g4
        try simp only [z_lit0, z_lit1, z_litm, z_lit31] at g4
        refine lv_iconst (v := 0) hx hb dX0_has_23 (by decide) ?_
        refine W.widen (k := 0) (n := 0) (Nat.zero_le _) (Nat.zero_le _) ?_
        exact hret (0) (q2_u [] [] []) _ _ _ _ (by first | exact ⟨Or.inl rfl, Or.inl (by decide)⟩ | exact ⟨Or.inr rfl, Or.inr ⟨by decide, by omega, by omega⟩⟩) dX0_has_24 hP hD hS
      · rw [z_le] at g4
        try simp only [z_lit0, z_lit1, z_litm, z_lit31] at g4
        refine lv_iconst (v := 1) hx hb dX0_has_19 (by decide) ?_
        refine lv_goto (tgt := 24) hx hb dX0_has_20 (by decide) ?_
        refine W.widen (k := 0) (n := 0) (Nat.zero_le _) (Nat.zero_le _) ?_
        exact hret (1) (q2_u [] [] []) _ _ _ _ (by first | exact ⟨Or.inl rfl, Or.inl (by decide)⟩ | exact ⟨Or.inr rfl, Or.inr ⟨by decide, by omega, by omega⟩⟩) dX0_has_24 hP hD hS
