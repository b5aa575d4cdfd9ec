theorem z_lit0 : (0 : Int32).toInt = 0 := by decide
theorem z_lit1 : (1 : Int32).toInt = 1 := by decide
theorem z_litm : (-1 : Int32).toInt = -1 := by decide
theorem dX2_kindOf_0 : decode cX2_kindOf 0 = .ok (.aload_n 0, 1) := by decide +kernel
theorem dX2_kindOf_1 : decode cX2_kindOf 1 = .ok (.iload_n 1, 1) := by decide +kernel
theorem dX2_kindOf_12 : decode cX2_kindOf 12 = .ok (.iload_n 1, 1) := by decide +kernel
theorem dX2_kindOf_13 : decode cX2_kindOf 13 = .ok (.iaload, 1) := by decide +kernel
theorem dX2_kindOf_14 : decode cX2_kindOf 14 = .ok (.goto 4, 3) := by decide +kernel
theorem dX2_kindOf_17 : decode cX2_kindOf 17 = .ok (.iconst (-1), 1) := by decide +kernel
theorem dX2_kindOf_18 : decode cX2_kindOf 18 = .ok (.ireturn, 1) := by decide +kernel
theorem dX2_kindOf_2 : decode cX2_kindOf 2 = .ok (.invokevirtual 31, 3) := by decide +kernel
theorem dX2_kindOf_5 : decode cX2_kindOf 5 = .ok (.ifCond .eq 12, 3) := by decide +kernel
theorem dX2_kindOf_8 : decode cX2_kindOf 8 = .ok (.aload_n 0, 1) := by decide +kernel
theorem dX2_kindOf_9 : decode cX2_kindOf 9 = .ok (.getfield 11, 3) := by decide +kernel
set_option maxRecDepth 20000 in
theorem ggX2_kindOf_X2_isMark : GoodIn wsX2_kindOf wsX2_isMark := goodIn_r _ [6, 7, 8, 9, 10, 11, 12, 13] (by decide +kernel) (by decide +kernel)
set_option maxRecDepth 20000 in
theorem gX2_kindOf_X2_isMark : GoodIn wsX2_kindOf (wsV RX2 31 RX2 yX2_isMark wsX2_isMark) := goodIn_app (goodIn_of _ (by decide +kernel)) ggX2_kindOf_X2_isMark
set_option maxHeartbeats 4000000 in
set_option maxRecDepth 100000 in
theorem m_isMark (l : Launch) (D : va_G) (c : Nat → ClassId) (sz : Nat) (a0 : Nat) (a1 : Nat) (a2 : Nat) (a3 : Nat) (a4 : Nat) (a5 : Nat) (x0 : Int32) (x1 : Int32) : Met l yX2_isMark wsX2_isMark ({ frames := 0, cells := 0, slots := 0, locals := 0 }) (q1_P D c [(a0, .inr (2, [.ref a1, .ref a2, .ref a3, .ref a4, .ref a5, .int x1]))] sz [.ref a0, .int x0]) (q2_i D [(a0, .inr (2, [.ref a1, .ref a2, .ref a3, .ref a4, .ref a5, .int x1]))] sz (fun r u => (r = 0 ∨ r = 1) ∧ (r.toInt = 0 ∨ (r.toInt = 1 ∧ 0 ≤ x0.toInt ∧ x0.toInt < x1.toInt))) (fun u => [(a0, .inr (2, [.ref a1, .ref a2, .ref a3, .ref a4, .ref a5, .int x1]))])) 0 0 (va_A [(a0, .inr (2, [.ref a1, .ref a2, .ref a3, .ref a4, .ref a5, .int x1]))] sz) := by
  refine q2_of_i (ty := .boolean) (fun r u h => by rcases h.1 with h | h <;> (rw [h]; rfl)) (cc := cX2_isMark) (maxL := 2) (by decide) rfl (Nat.le_of_ble_eq_true rfl) (fun p e s m args below meth cd A Q ls hx hb hml hown hts hin hA hS hP hD hK hN hl hret => ?_)
  have hown : s.vm.findClass RX2 = some m.cls := hown
  obtain ⟨H, eH⟩ : ∃ z, z = s.heap := ⟨_, rfl⟩
  have hP : va_P D vwCl [(a0, .inr (2, [.ref a1, .ref a2, .ref a3, .ref a4, .ref a5, .int x1]))] H := by rw [eH]; exact hP
  have hS : va_S A s.heap H [] := by rw [eH]; exact hS
  rw [← eH]
  have iX2 : ∀ w ∈ wsX20, w ∈ wsX2_isMark := fun w h => List.mem_cons_of_mem _ (List.mem_append_right _ h)
  have hl : lv_has ls 2 [(0, .ref a0), (1, .int x0)] := hl
  refine lv_iload_n hx hb dX2_isMark_0 rfl (lv_at hl 1 rfl) ?_
  refine lv_if_lt (tgt := 16) hx hb dX2_isMark_1 (by decide) (fun g1 => ?_) (fun g1 => ?_)
  · rw [z_lt] at g1
    try simp only [z_lit0, z_lit1, z_litm] at g1
    refine lv_iconst (v := 0) hx hb dX2_isMark_16 (by decide) ?_
    refine W.widen (k := 0) (n := 0) (Nat.zero_le _) (Nat.zero_le _) ?_
    exact hret (0) (q2_u [] [] []) _ _ _ _ (by first | exact ⟨Or.inl rfl, Or.inl (by decide)⟩ | exact ⟨Or.inr rfl, Or.inr ⟨by decide, by omega, by omega⟩⟩) dX2_isMark_17 hP hD hS
  · rw [z_lt] at g1
    try simp only [z_lit0, z_lit1, z_litm] at g1
    refine lv_iload_n hx hb dX2_isMark_4 rfl (lv_at hl 1 rfl) ?_
    refine lv_aload_n hx hb dX2_isMark_5 rfl (lv_at hl 0 rfl) ?_
    refine va_get (D := D) (ci := 2) (v := .int x1) (C := RX2) (T := TX2) (N := 6) hx hb hts iX2 hown hK hP 0 rfl rfl 5 (by decide) (hts (.fieldLink RX2 27 "ShortTeller$Marks" "used" "I") (List.mem_of_getElem? (i := 1) rfl)) (fun _ h9 => h9) rfl dX2_isMark_6 ?_
    refine lv_icmp_ge (tgt := 16) hx hb dX2_isMark_9 (by decide) (fun g2 => ?_) (fun g2 => ?_)
    · rw [z_le] at g2
      try simp only [z_lit0, z_lit1, z_litm] at g2
      refine lv_iconst (v := 0) hx hb dX2_isMark_16 (by decide) ?_
      refine W.widen (k := 0) (n := 0) (Nat.zero_le _) (Nat.zero_le _) ?_
      exact hret (0) (q2_u [] [] []) _ _ _ _ (by first | exact ⟨Or.inl rfl, Or.inl (by decide)⟩ | exact ⟨Or.inr rfl, Or.inr ⟨by decide, by omega, by omega⟩⟩) dX2_isMark_17 hP hD hS
    · rw [z_le] at g2
      try simp only [z_lit0, z_lit1, z_litm] at g2
      refine lv_iconst (v := 1) hx hb dX2_isMark_12 (by decide) ?_
      refine lv_goto (tgt := 17) hx hb dX2_isMark_13 (by decide) ?_
      refine W.widen (k := 0) (n := 0) (Nat.zero_le _) (Nat.zero_le _) ?_
      exact hret (1) (q2_u [] [] []) _ _ _ _ (by first | exact ⟨Or.inl rfl, Or.inl (by decide)⟩ | exact ⟨Or.inr rfl, Or.inr ⟨by decide, by omega, by omega⟩⟩) dX2_isMark_17 hP hD hS
set_option maxHeartbeats 4000000 in
set_option maxRecDepth 100000 in
theorem m_kindOf (l : Launch) (D : va_G) (c : Nat → ClassId) (sz : Nat) (a0 : Nat) (a1 : Nat) (a2 : Nat) (a3 : Nat) (a4 : Nat) (a5 : Nat) (x0 : Int32) (x1 : Int32) (f0 : Nat → Int32) (h0 : x1.toInt ≤ 456) : Met l yX2_kindOf wsX2_kindOf ({ frames := 1, cells := 0, slots := 0, locals := 21 }) (q1_P D c [(a0, .inr (2, [.ref a1, .ref a2, .ref a3, .ref a4, .ref a5, .int x1])), (a1, .inl (c 0, 456, .inl (f0)))] sz [.ref a0, .int x0]) (q2_i D [(a0, .inr (2, [.ref a1, .ref a2, .ref a3, .ref a4, .ref a5, .int x1])), (a1, .inl (c 0, 456, .inl (f0)))] sz (fun r u => True) (fun u => [(a0, .inr (2, [.ref a1, .ref a2, .ref a3, .ref a4, .ref a5, .int x1])), (a1, .inl (c 0, 456, .inl (f0)))])) 0 0 (va_A [(a0, .inr (2, [.ref a1, .ref a2, .ref a3, .ref a4, .ref a5, .int x1])), (a1, .inl (c 0, 456, .inl (f0)))] sz) := by
  refine q2_of_i (ty := .int) (fun _ _ _ => rfl) (cc := cX2_kindOf) (maxL := 2) (by decide) rfl (Nat.le_of_ble_eq_true rfl) (fun p e s m args below meth cd A Q ls hx hb hml hown hts hin hA hS hP hD hK hN hl hret => ?_)
  have hown : s.vm.findClass RX2 = some m.cls := hown
  obtain ⟨H, eH⟩ : ∃ z, z = s.heap := ⟨_, rfl⟩
  have hP : va_P D vwCl [(a0, .inr (2, [.ref a1, .ref a2, .ref a3, .ref a4, .ref a5, .int x1])), (a1, .inl (c 0, 456, .inl (f0)))] H := by rw [eH]; exact hP
  have hS : va_S A s.heap H [] := by rw [eH]; exact hS
  rw [← eH]
  have iX2 : ∀ w ∈ wsX20, w ∈ wsX2_kindOf := fun w h => List.mem_cons_of_mem _ (List.mem_append_right _ h)
  have hl : lv_has ls 2 [(0, .ref a0), (1, .int x0)] := hl
  refine lv_aload_n hx hb dX2_kindOf_0 rfl (lv_at hl 0 rfl) ?_
  refine lv_iload_n hx hb dX2_kindOf_1 rfl (lv_at hl 1 rfl) ?_
  have hPc := hP.sub (ws' := [(a0, .inr (2, [.ref a1, .ref a2, .ref a3, .ref a4, .ref a5, .int x1]))]) [0] rfl
  have hDc := hD.sub (ws' := [(a0, .inr (2, [.ref a1, .ref a2, .ref a3, .ref a4, .ref a5, .int x1]))]) [0] (by decide) rfl
  refine q2_ci (wr := [(a1, .inl (c 0, 456, .inl (f0)))]) (va_runV (As := [.int x0]) (rest := []) ⟨hx, hb, hml, hown, hts⟩ (m_isMark l D c H.size a0 a1 a2 a3 a4 a5 x0 x1) (cwV 1 hts gX2_kindOf_X2_isMark rfl rfl rfl (by decide +kernel) ⟨Nat.le_of_ble_eq_true rfl, Nat.le_of_ble_eq_true rfl⟩) (q1_preV (c := c) (ci := 2) (q0 := 0) hPc hK hDc hN rfl rfl) rfl rfl hl.1 rfl (lv_room (Nat.le_of_ble_eq_true rfl)) dX2_kindOf_2 ⟨Nat.le_of_ble_eq_true rfl, Nat.le_of_ble_eq_true rfl⟩) hP hD hS hA [0] [1] rfl rfl (by decide) (by decide) (fun n1 u1 H locs pn1 hP hD hS => ?_)
  have pn1 : (n1 = 0 ∨ n1 = 1) ∧ (n1.toInt = 0 ∨ (n1.toInt = 1 ∧ 0 ≤ (x0).toInt ∧ (x0).toInt < (x1).toInt)) := pn1
  have pn1 := pn1.2
  have hP : va_P D vwCl [(a1, .inl (c 0, 456, .inl (f0))), (a0, .inr (2, [.ref a1, .ref a2, .ref a3, .ref a4, .ref a5, .int x1]))] H := hP
  have hD : va_D A [(a1, .inl (c 0, 456, .inl (f0))), (a0, .inr (2, [.ref a1, .ref a2, .ref a3, .ref a4, .ref a5, .int x1]))] := hD
  refine lv_if_eq (tgt := 17) hx hb dX2_kindOf_5 (by decide) (fun g2 => ?_) (fun g2 => ?_)
  · rw [z_eq] at g2
    try simp only [z_lit0, z_lit1, z_litm] at g2
    refine lv_iconst (v := -1) hx hb dX2_kindOf_17 (by decide) ?_
    refine W.widen (k := 0) (n := 0) (Nat.zero_le _) (Nat.zero_le _) ?_
    have hP := hP.sub (ws' := [(a0, .inr (2, [.ref a1, .ref a2, .ref a3, .ref a4, .ref a5, .int x1])), (a1, .inl (c 0, 456, .inl (f0)))]) [1, 0] rfl
    have hD := hD.sub (ws' := [(a0, .inr (2, [.ref a1, .ref a2, .ref a3, .ref a4, .ref a5, .int x1])), (a1, .inl (c 0, 456, .inl (f0)))]) [1, 0] (by decide) rfl
    exact hret (-1) (q2_u [] [] []) _ _ _ _ (by trivial) dX2_kindOf_18 hP hD hS
  · rw [z_eq] at g2
    try simp only [z_lit0, z_lit1, z_litm] at g2
    refine lv_aload_n hx hb dX2_kindOf_8 rfl (lv_at hl 0 rfl) ?_
    refine va_get (D := D) (ci := 2) (v := .ref a1) (C := RX2) (T := TX2) (N := 6) hx hb hts iX2 hown hK hP 1 rfl rfl 0 (by decide) (hts (.fieldLink RX2 11 "ShortTeller$Marks" "kind" "[I") (List.mem_of_getElem? (i := 1) rfl)) (fun _ h9 => h9) rfl dX2_kindOf_9 ?_
    refine lv_iload_n hx hb dX2_kindOf_12 rfl (lv_at hl 1 rfl) ?_
    refine va_iald hx hb hK hP 0 0 rfl rfl (q2_in (by omega) (by omega)) dX2_kindOf_13 ?_
    refine lv_topi (fun n3 en3 => ?_)
    refine lv_goto (tgt := 18) hx hb dX2_kindOf_14 (by decide) ?_
    refine W.widen (k := 0) (n := 0) (Nat.zero_le _) (Nat.zero_le _) ?_
    have hP := hP.sub (ws' := [(a0, .inr (2, [.ref a1, .ref a2, .ref a3, .ref a4, .ref a5, .int x1])), (a1, .inl (c 0, 456, .inl (f0)))]) [1, 0] rfl
    have hD := hD.sub (ws' := [(a0, .inr (2, [.ref a1, .ref a2, .ref a3, .ref a4, .ref a5, .int x1])), (a1, .inl (c 0, 456, .inl (f0)))]) [1, 0] (by decide) rfl
    exact hret (n3) (q2_u [] [] []) _ _ _ _ (by trivial) dX2_kindOf_18 hP hD hS
