theorem fb_bmod {z : Int} (h1 : -2147483648 ≤ z) (h2 : z < 2147483648) : z.bmod (2 ^ 32) = z := by
  rw [Int.bmod_eq_of_le (by omega) (by omega)]
theorem fb_addI {x y : Int32} (h1 : -2147483648 ≤ x.toInt + y.toInt) (h2 : x.toInt + y.toInt < 2147483648) : (x + y).toInt = x.toInt + y.toInt := by
  rw [Int32.toInt_add, fb_bmod h1 h2]
theorem dX3_sumOfNamesPut_0 : decode cX3_sumOfNamesPut 0 = .ok (.iconst 0, 1) := by decide +kernel
theorem dX3_sumOfNamesPut_1 : decode cX3_sumOfNamesPut 1 = .ok (.istore_n 3, 1) := by decide +kernel
theorem dX3_sumOfNamesPut_10 : decode cX3_sumOfNamesPut 10 = .ok (.aload_n 0, 1) := by decide +kernel
theorem dX3_sumOfNamesPut_11 : decode cX3_sumOfNamesPut 11 = .ok (.getfield 27, 3) := by decide +kernel
theorem dX3_sumOfNamesPut_14 : decode cX3_sumOfNamesPut 14 = .ok (.if_icmp .ge 70, 3) := by decide +kernel
theorem dX3_sumOfNamesPut_17 : decode cX3_sumOfNamesPut 17 = .ok (.iload_n 1, 1) := by decide +kernel
theorem dX3_sumOfNamesPut_18 : decode cX3_sumOfNamesPut 18 = .ok (.aload_n 0, 1) := by decide +kernel
theorem dX3_sumOfNamesPut_19 : decode cX3_sumOfNamesPut 19 = .ok (.getfield 11, 3) := by decide +kernel
theorem dX3_sumOfNamesPut_2 : decode cX3_sumOfNamesPut 2 = .ok (.iconst (-1), 1) := by decide +kernel
theorem dX3_sumOfNamesPut_22 : decode cX3_sumOfNamesPut 22 = .ok (.iload 5, 2) := by decide +kernel
theorem dX3_sumOfNamesPut_24 : decode cX3_sumOfNamesPut 24 = .ok (.iaload, 1) := by decide +kernel
theorem dX3_sumOfNamesPut_25 : decode cX3_sumOfNamesPut 25 = .ok (.iand, 1) := by decide +kernel
theorem dX3_sumOfNamesPut_26 : decode cX3_sumOfNamesPut 26 = .ok (.ifCond .eq 52, 3) := by decide +kernel
theorem dX3_sumOfNamesPut_29 : decode cX3_sumOfNamesPut 29 = .ok (.aload_n 0, 1) := by decide +kernel
theorem dX3_sumOfNamesPut_3 : decode cX3_sumOfNamesPut 3 = .ok (.istore 4, 2) := by decide +kernel
theorem dX3_sumOfNamesPut_30 : decode cX3_sumOfNamesPut 30 = .ok (.getfield 23, 3) := by decide +kernel
theorem dX3_sumOfNamesPut_33 : decode cX3_sumOfNamesPut 33 = .ok (.iload 5, 2) := by decide +kernel
theorem dX3_sumOfNamesPut_35 : decode cX3_sumOfNamesPut 35 = .ok (.baload, 1) := by decide +kernel
theorem dX3_sumOfNamesPut_36 : decode cX3_sumOfNamesPut 36 = .ok (.ifCond .eq 33, 3) := by decide +kernel
theorem dX3_sumOfNamesPut_39 : decode cX3_sumOfNamesPut 39 = .ok (.aload_n 0, 1) := by decide +kernel
theorem dX3_sumOfNamesPut_40 : decode cX3_sumOfNamesPut 40 = .ok (.getfield 17, 3) := by decide +kernel
theorem dX3_sumOfNamesPut_43 : decode cX3_sumOfNamesPut 43 = .ok (.iload 5, 2) := by decide +kernel
theorem dX3_sumOfNamesPut_45 : decode cX3_sumOfNamesPut 45 = .ok (.iaload, 1) := by decide +kernel
theorem dX3_sumOfNamesPut_46 : decode cX3_sumOfNamesPut 46 = .ok (.iload 4, 2) := by decide +kernel
theorem dX3_sumOfNamesPut_48 : decode cX3_sumOfNamesPut 48 = .ok (.if_icmp .eq 21, 3) := by decide +kernel
theorem dX3_sumOfNamesPut_5 : decode cX3_sumOfNamesPut 5 = .ok (.iconst 0, 1) := by decide +kernel
theorem dX3_sumOfNamesPut_51 : decode cX3_sumOfNamesPut 51 = .ok (.iload_n 3, 1) := by decide +kernel
theorem dX3_sumOfNamesPut_52 : decode cX3_sumOfNamesPut 52 = .ok (.iload_n 2, 1) := by decide +kernel
theorem dX3_sumOfNamesPut_53 : decode cX3_sumOfNamesPut 53 = .ok (.ifCond .eq 13, 3) := by decide +kernel
theorem dX3_sumOfNamesPut_56 : decode cX3_sumOfNamesPut 56 = .ok (.aload_n 0, 1) := by decide +kernel
theorem dX3_sumOfNamesPut_57 : decode cX3_sumOfNamesPut 57 = .ok (.getfield 20, 3) := by decide +kernel
theorem dX3_sumOfNamesPut_6 : decode cX3_sumOfNamesPut 6 = .ok (.istore 5, 2) := by decide +kernel
theorem dX3_sumOfNamesPut_60 : decode cX3_sumOfNamesPut 60 = .ok (.iload 5, 2) := by decide +kernel
theorem dX3_sumOfNamesPut_62 : decode cX3_sumOfNamesPut 62 = .ok (.iaload, 1) := by decide +kernel
theorem dX3_sumOfNamesPut_63 : decode cX3_sumOfNamesPut 63 = .ok (.goto 4, 3) := by decide +kernel
theorem dX3_sumOfNamesPut_66 : decode cX3_sumOfNamesPut 66 = .ok (.iconst 1, 1) := by decide +kernel
theorem dX3_sumOfNamesPut_67 : decode cX3_sumOfNamesPut 67 = .ok (.iadd, 1) := by decide +kernel
theorem dX3_sumOfNamesPut_68 : decode cX3_sumOfNamesPut 68 = .ok (.istore_n 3, 1) := by decide +kernel
theorem dX3_sumOfNamesPut_69 : decode cX3_sumOfNamesPut 69 = .ok (.aload_n 0, 1) := by decide +kernel
theorem dX3_sumOfNamesPut_70 : decode cX3_sumOfNamesPut 70 = .ok (.getfield 17, 3) := by decide +kernel
theorem dX3_sumOfNamesPut_73 : decode cX3_sumOfNamesPut 73 = .ok (.iload 5, 2) := by decide +kernel
theorem dX3_sumOfNamesPut_75 : decode cX3_sumOfNamesPut 75 = .ok (.iaload, 1) := by decide +kernel
theorem dX3_sumOfNamesPut_76 : decode cX3_sumOfNamesPut 76 = .ok (.istore 4, 2) := by decide +kernel
theorem dX3_sumOfNamesPut_78 : decode cX3_sumOfNamesPut 78 = .ok (.iinc 5 1, 3) := by decide +kernel
theorem dX3_sumOfNamesPut_8 : decode cX3_sumOfNamesPut 8 = .ok (.iload 5, 2) := by decide +kernel
theorem dX3_sumOfNamesPut_81 : decode cX3_sumOfNamesPut 81 = .ok (.goto (-73), 3) := by decide +kernel
theorem dX3_sumOfNamesPut_84 : decode cX3_sumOfNamesPut 84 = .ok (.iload_n 3, 1) := by decide +kernel
theorem dX3_sumOfNamesPut_85 : decode cX3_sumOfNamesPut 85 = .ok (.ireturn, 1) := by decide +kernel
set_option maxHeartbeats 4000000 in
set_option maxRecDepth 100000 in
theorem r_sumOfNamesPut (l : Launch) (D : va_G) (c : Nat → ClassId) (sz : Nat) (a0 : Nat) (a1 : Nat) (a2 : Nat) (a3 : Nat) (a4 : Nat) (a5 : Nat) (x0 : Int32) (x1 : Int32) (x2 : Int32) (f0 : Nat → Int32) (f1 : Nat → Int32) (f2 : Nat → Int32) (f3 : Nat → Int32) (h0 : x2.toInt ≤ 456) : Met l yX3_sumOfNamesPut wsX3_sumOfNamesPut ({ frames := 0, cells := 0, slots := 0, locals := 0 }) (q1_P D c [(a0, .inr (3, [.ref a1, .ref a2, .ref a3, .ref a4, .ref a5, .int x2])), (a2, .inl (c 0, 456, .inl (f0))), (a3, .inl (c 0, 456, .inl (f1))), (a4, .inl (c 0, 456, .inl (f2))), (a5, .inl (c 2, 456, .inl (f3)))] sz [.ref a0, .int x0, .int x1]) (q2_i D [(a0, .inr (3, [.ref a1, .ref a2, .ref a3, .ref a4, .ref a5, .int x2])), (a2, .inl (c 0, 456, .inl (f0))), (a3, .inl (c 0, 456, .inl (f1))), (a4, .inl (c 0, 456, .inl (f2))), (a5, .inl (c 2, 456, .inl (f3)))] sz (fun r u => True) (fun u => [(a0, .inr (3, [.ref a1, .ref a2, .ref a3, .ref a4, .ref a5, .int x2])), (a2, .inl (c 0, 456, .inl (f0))), (a3, .inl (c 0, 456, .inl (f1))), (a4, .inl (c 0, 456, .inl (f2))), (a5, .inl (c 2, 456, .inl (f3)))])) 0 0 (va_A [(a0, .inr (3, [.ref a1, .ref a2, .ref a3, .ref a4, .ref a5, .int x2])), (a2, .inl (c 0, 456, .inl (f0))), (a3, .inl (c 0, 456, .inl (f1))), (a4, .inl (c 0, 456, .inl (f2))), (a5, .inl (c 2, 456, .inl (f3)))] sz) := by
  refine q2_of_i (ty := .int) (fun _ _ _ => rfl) (cc := cX3_sumOfNamesPut) (maxL := 6) (by decide) rfl (Nat.le_of_ble_eq_true rfl) (fun p e s m args below meth cd A Q ls hx hb hml hown hts hin hA hS hP hD hK hN hl hret => ?_)
  have hown : s.vm.findClass RX3 = some m.cls := hown
  obtain ⟨H, eH⟩ : ∃ z, z = s.heap := ⟨_, rfl⟩
  have hP : va_P D vwCl [(a0, .inr (3, [.ref a1, .ref a2, .ref a3, .ref a4, .ref a5, .int x2])), (a2, .inl (c 0, 456, .inl (f0))), (a3, .inl (c 0, 456, .inl (f1))), (a4, .inl (c 0, 456, .inl (f2))), (a5, .inl (c 2, 456, .inl (f3)))] H := by rw [eH]; exact hP
  have hS : va_S A s.heap H [] := by rw [eH]; exact hS
  rw [← eH]
  have iX3 : ∀ w ∈ wsX30, w ∈ wsX3_sumOfNamesPut := fun w h => List.mem_cons_of_mem _ (List.mem_append_right _ h)
  have hl : lv_has ls 6 [(0, .ref a0), (1, .int x0), (2, .int x1)] := hl
  refine lv_iconst (v := 0) hx hb dX3_sumOfNamesPut_0 (by decide) ?_
  refine lv_istore_n (lv' := [(3, .int 0), (0, .ref a0), (1, .int x0), (2, .int x1)]) hx hb dX3_sumOfNamesPut_1 rfl hl (by decide) rfl (fun ls hl => ?_)
  refine lv_iconst (v := -1) hx hb dX3_sumOfNamesPut_2 (by decide) ?_
  refine lv_istore (lv' := [(4, .int (-1)), (3, .int 0), (0, .ref a0), (1, .int x0), (2, .int x1)]) hx hb dX3_sumOfNamesPut_3 hl (by decide) rfl (fun ls hl => ?_)
  refine lv_iconst (v := 0) hx hb dX3_sumOfNamesPut_5 (by decide) ?_
  refine lv_istore (lv' := [(5, .int 0), (4, .int (-1)), (3, .int 0), (0, .ref a0), (1, .int x0), (2, .int x1)]) hx hb dX3_sumOfNamesPut_6 hl (by decide) rfl (fun ls hl => ?_)
  have loop : ∀ (k : Nat) (s3 s4 s5 : Int32), 0 ≤ s5.toInt → s5.toInt ≤ 456 → (456 - s5.toInt).toNat < k → ∀ (H : Heap) (locs : List Loc) (ls : Array Slot), va_P D vwCl [(a0, .inr (3, [.ref a1, .ref a2, .ref a3, .ref a4, .ref a5, .int x2])), (a2, .inl (c 0, 456, .inl (f0))), (a3, .inl (c 0, 456, .inl (f1))), (a4, .inl (c 0, 456, .inl (f2))), (a5, .inl (c 2, 456, .inl (f3)))] H → va_D A [(a0, .inr (3, [.ref a1, .ref a2, .ref a3, .ref a4, .ref a5, .int x2])), (a2, .inl (c 0, 456, .inl (f0))), (a3, .inl (c 0, 456, .inl (f1))), (a4, .inl (c 0, 456, .inl (f2))), (a5, .inl (c 2, 456, .inl (f3)))] → va_S A s.heap H locs → lv_has ls 6 [(5, .int s5), (4, .int s4), (3, .int s3), (0, .ref a0), (1, .int x0), (2, .int x1)] → W p l e ({ frames := 0, cells := 0, slots := 0, locals := 0 }) s m args below meth cd H locs 0 0 Q (F0 m 8 ls []) := by
    intro k
    induction k with
    | zero => intro s3 s4 s5 j0 j1 hm; exact absurd hm (Nat.not_lt_zero _)
    | succ k ih =>
      intro s3 s4 s5 j0 j1 hm H locs ls hP hD hS hl
      refine lv_iload hx hb dX3_sumOfNamesPut_8 (lv_at hl 0 rfl) ?_
      refine lv_aload_n hx hb dX3_sumOfNamesPut_10 rfl (lv_at hl 3 rfl) ?_
      refine va_get (D := D) (ci := 3) (v := .int x2) (C := RX3) (T := TX3) (N := 6) hx hb hts iX3 hown hK hP 0 rfl rfl 5 (by decide) (hts (.fieldLink RX3 27 "ShortTeller$Meter" "used" "I") (List.mem_of_getElem? (i := 1) rfl)) (fun _ h9 => h9) rfl dX3_sumOfNamesPut_11 ?_
      refine lv_icmp_ge (tgt := 84) hx hb dX3_sumOfNamesPut_14 (by decide) (fun g2 => ?_) (fun g2 => ?_)
      · rw [z_le] at g2
        try simp only [z_lit0, z_lit1, z_litm, z_lit31] at g2
        refine lv_iload_n hx hb dX3_sumOfNamesPut_84 rfl (lv_at hl 2 rfl) ?_
        refine W.widen (k := 0) (n := 0) (Nat.zero_le _) (Nat.zero_le _) ?_
        exact hret (s3) (q2_u [] [] []) _ _ _ _ (by trivial) dX3_sumOfNamesPut_85 hP hD hS
      · rw [z_le] at g2
        try simp only [z_lit0, z_lit1, z_litm, z_lit31] at g2
        refine lv_iload_n hx hb dX3_sumOfNamesPut_17 rfl (lv_at hl 4 rfl) ?_
        refine lv_aload_n hx hb dX3_sumOfNamesPut_18 rfl (lv_at hl 3 rfl) ?_
        refine va_get (D := D) (ci := 3) (v := .ref a2) (C := RX3) (T := TX3) (N := 6) hx hb hts iX3 hown hK hP 0 rfl rfl 1 (by decide) (hts (.fieldLink RX3 11 "ShortTeller$Meter" "keep" "[I") (List.mem_of_getElem? (i := 2) rfl)) (fun _ h9 => h9) rfl dX3_sumOfNamesPut_19 ?_
        refine lv_iload hx hb dX3_sumOfNamesPut_22 (lv_at hl 0 rfl) ?_
        refine va_iald hx hb hK hP 1 0 rfl rfl (q2_in (by omega) (by omega)) dX3_sumOfNamesPut_24 ?_
        refine lv_topi (fun n3 en3 => ?_)
        refine lv_iand hx hb dX3_sumOfNamesPut_25 ?_
        refine lv_topi (fun n4 en4 => ?_)
        refine lv_if_eq (tgt := 78) hx hb dX3_sumOfNamesPut_26 (by decide) (fun g5 => ?_) (fun g5 => ?_)
        · rw [z_eq] at g5
          try simp only [z_lit0, z_lit1, z_litm, z_lit31] at g5
          obtain ⟨n6, en6⟩ : ∃ z : Int32, z = s5 + (1) := ⟨_, rfl⟩
          have tn6 : n6.toInt = s5.toInt + 1 := by rw [en6]; exact fb_addI (y := 1) (by simp only [show (1 : Int32).toInt = 1 by decide]; omega) (by simp only [show (1 : Int32).toInt = 1 by decide]; omega)
          refine lv_iinc (v := n6) (lv' := [(5, .int n6), (4, .int s4), (3, .int s3), (0, .ref a0), (1, .int x0), (2, .int x1)]) hx hb dX3_sumOfNamesPut_78 hl (k := 0) rfl (by rw [en6]; rfl) (by decide) rfl (fun ls hl => ?_)
          refine lv_goto (tgt := 8) hx hb dX3_sumOfNamesPut_81 (by decide) ?_
          exact ih s3 s4 n6 (by omega) (by omega) (by omega) _ _ _ hP hD hS (lv_sub hl [0, 1, 2, 3, 4, 5] rfl)
        · rw [z_eq] at g5
          try simp only [z_lit0, z_lit1, z_litm, z_lit31] at g5
          refine lv_aload_n hx hb dX3_sumOfNamesPut_29 rfl (lv_at hl 3 rfl) ?_
          refine va_get (D := D) (ci := 3) (v := .ref a5) (C := RX3) (T := TX3) (N := 6) hx hb hts iX3 hown hK hP 0 rfl rfl 4 (by decide) (hts (.fieldLink RX3 23 "ShortTeller$Meter" "leans" "[Z") (List.mem_of_getElem? (i := 3) rfl)) (fun _ h9 => h9) rfl dX3_sumOfNamesPut_30 ?_
          refine lv_iload hx hb dX3_sumOfNamesPut_33 (lv_at hl 0 rfl) ?_
          refine va_zald hx hb hK hP 4 2 rfl rfl (q2_in (by omega) (by omega)) dX3_sumOfNamesPut_35 ?_
          refine lv_topi (fun n7 en7 => ?_)
          refine lv_if_eq (tgt := 69) hx hb dX3_sumOfNamesPut_36 (by decide) (fun g8 => ?_) (fun g8 => ?_)
          · rw [z_eq] at g8
            try simp only [z_lit0, z_lit1, z_litm, z_lit31] at g8
            refine lv_aload_n hx hb dX3_sumOfNamesPut_69 rfl (lv_at hl 3 rfl) ?_
            refine va_get (D := D) (ci := 3) (v := .ref a3) (C := RX3) (T := TX3) (N := 6) hx hb hts iX3 hown hK hP 0 rfl rfl 2 (by decide) (hts (.fieldLink RX3 17 "ShortTeller$Meter" "name" "[I") (List.mem_of_getElem? (i := 4) rfl)) (fun _ h9 => h9) rfl dX3_sumOfNamesPut_70 ?_
            refine lv_iload hx hb dX3_sumOfNamesPut_73 (lv_at hl 0 rfl) ?_
            refine va_iald hx hb hK hP 2 0 rfl rfl (q2_in (by omega) (by omega)) dX3_sumOfNamesPut_75 ?_
            refine lv_topi (fun n9 en9 => ?_)
            refine lv_istore (lv' := [(4, .int n9), (5, .int s5), (3, .int s3), (0, .ref a0), (1, .int x0), (2, .int x1)]) hx hb dX3_sumOfNamesPut_76 hl (by decide) rfl (fun ls hl => ?_)
            obtain ⟨n10, en10⟩ : ∃ z : Int32, z = s5 + (1) := ⟨_, rfl⟩
            have tn10 : n10.toInt = s5.toInt + 1 := by rw [en10]; exact fb_addI (y := 1) (by simp only [show (1 : Int32).toInt = 1 by decide]; omega) (by simp only [show (1 : Int32).toInt = 1 by decide]; omega)
            refine lv_iinc (v := n10) (lv' := [(5, .int n10), (4, .int n9), (3, .int s3), (0, .ref a0), (1, .int x0), (2, .int x1)]) hx hb dX3_sumOfNamesPut_78 hl (k := 1) rfl (by rw [en10]; rfl) (by decide) rfl (fun ls hl => ?_)
            refine lv_goto (tgt := 8) hx hb dX3_sumOfNamesPut_81 (by decide) ?_
            exact ih s3 n9 n10 (by omega) (by omega) (by omega) _ _ _ hP hD hS (lv_sub hl [0, 1, 2, 3, 4, 5] rfl)
          · rw [z_eq] at g8
            try simp only [z_lit0, z_lit1, z_litm, z_lit31] at g8
            refine lv_aload_n hx hb dX3_sumOfNamesPut_39 rfl (lv_at hl 3 rfl) ?_
            refine va_get (D := D) (ci := 3) (v := .ref a3) (C := RX3) (T := TX3) (N := 6) hx hb hts iX3 hown hK hP 0 rfl rfl 2 (by decide) (hts (.fieldLink RX3 17 "ShortTeller$Meter" "name" "[I") (List.mem_of_getElem? (i := 4) rfl)) (fun _ h9 => h9) rfl dX3_sumOfNamesPut_40 ?_
            refine lv_iload hx hb dX3_sumOfNamesPut_43 (lv_at hl 0 rfl) ?_
            refine va_iald hx hb hK hP 2 0 rfl rfl (q2_in (by omega) (by omega)) dX3_sumOfNamesPut_45 ?_
            refine lv_topi (fun n11 en11 => ?_)
            refine lv_iload hx hb dX3_sumOfNamesPut_46 (lv_at hl 1 rfl) ?_
            refine lv_icmp_eq (tgt := 69) hx hb dX3_sumOfNamesPut_48 (by decide) (fun g12 => ?_) (fun g12 => ?_)
            · rw [z_eq] at g12
              try simp only [z_lit0, z_lit1, z_litm, z_lit31] at g12
              refine lv_aload_n hx hb dX3_sumOfNamesPut_69 rfl (lv_at hl 3 rfl) ?_
              refine va_get (D := D) (ci := 3) (v := .ref a3) (C := RX3) (T := TX3) (N := 6) hx hb hts iX3 hown hK hP 0 rfl rfl 2 (by decide) (hts (.fieldLink RX3 17 "ShortTeller$Meter" "name" "[I") (List.mem_of_getElem? (i := 4) rfl)) (fun _ h9 => h9) rfl dX3_sumOfNamesPut_70 ?_
              refine lv_iload hx hb dX3_sumOfNamesPut_73 (lv_at hl 0 rfl) ?_
              refine va_iald hx hb hK hP 2 0 rfl rfl (q2_in (by omega) (by omega)) dX3_sumOfNamesPut_75 ?_
              refine lv_topi (fun n13 en13 => ?_)
              refine lv_istore (lv' := [(4, .int n13), (5, .int s5), (3, .int s3), (0, .ref a0), (1, .int x0), (2, .int x1)]) hx hb dX3_sumOfNamesPut_76 hl (by decide) rfl (fun ls hl => ?_)
              obtain ⟨n14, en14⟩ : ∃ z : Int32, z = s5 + (1) := ⟨_, rfl⟩
              have tn14 : n14.toInt = s5.toInt + 1 := by rw [en14]; exact fb_addI (y := 1) (by simp only [show (1 : Int32).toInt = 1 by decide]; omega) (by simp only [show (1 : Int32).toInt = 1 by decide]; omega)
              refine lv_iinc (v := n14) (lv' := [(5, .int n14), (4, .int n13), (3, .int s3), (0, .ref a0), (1, .int x0), (2, .int x1)]) hx hb dX3_sumOfNamesPut_78 hl (k := 1) rfl (by rw [en14]; rfl) (by decide) rfl (fun ls hl => ?_)
              refine lv_goto (tgt := 8) hx hb dX3_sumOfNamesPut_81 (by decide) ?_
              exact ih s3 n13 n14 (by omega) (by omega) (by omega) _ _ _ hP hD hS (lv_sub hl [0, 1, 2, 3, 4, 5] rfl)
            · rw [z_eq] at g12
              try simp only [z_lit0, z_lit1, z_litm, z_lit31] at g12
              refine lv_iload_n hx hb dX3_sumOfNamesPut_51 rfl (lv_at hl 2 rfl) ?_
              refine lv_iload_n hx hb dX3_sumOfNamesPut_52 rfl (lv_at hl 5 rfl) ?_
              refine lv_if_eq (tgt := 66) hx hb dX3_sumOfNamesPut_53 (by decide) (fun g15 => ?_) (fun g15 => ?_)
              · rw [z_eq] at g15
                try simp only [z_lit0, z_lit1, z_litm, z_lit31] at g15
                refine lv_iconst (v := 1) hx hb dX3_sumOfNamesPut_66 (by decide) ?_
                refine lv_iadd hx hb dX3_sumOfNamesPut_67 ?_
                refine lv_topi (fun n16 en16 => ?_)
                refine lv_istore_n (lv' := [(3, .int n16), (5, .int s5), (4, .int s4), (0, .ref a0), (1, .int x0), (2, .int x1)]) hx hb dX3_sumOfNamesPut_68 rfl hl (by decide) rfl (fun ls hl => ?_)
                refine lv_aload_n hx hb dX3_sumOfNamesPut_69 rfl (lv_at hl 3 rfl) ?_
                refine va_get (D := D) (ci := 3) (v := .ref a3) (C := RX3) (T := TX3) (N := 6) hx hb hts iX3 hown hK hP 0 rfl rfl 2 (by decide) (hts (.fieldLink RX3 17 "ShortTeller$Meter" "name" "[I") (List.mem_of_getElem? (i := 4) rfl)) (fun _ h9 => h9) rfl dX3_sumOfNamesPut_70 ?_
                refine lv_iload hx hb dX3_sumOfNamesPut_73 (lv_at hl 1 rfl) ?_
                refine va_iald hx hb hK hP 2 0 rfl rfl (q2_in (by omega) (by omega)) dX3_sumOfNamesPut_75 ?_
                refine lv_topi (fun n17 en17 => ?_)
                refine lv_istore (lv' := [(4, .int n17), (3, .int n16), (5, .int s5), (0, .ref a0), (1, .int x0), (2, .int x1)]) hx hb dX3_sumOfNamesPut_76 hl (by decide) rfl (fun ls hl => ?_)
                obtain ⟨n18, en18⟩ : ∃ z : Int32, z = s5 + (1) := ⟨_, rfl⟩
                have tn18 : n18.toInt = s5.toInt + 1 := by rw [en18]; exact fb_addI (y := 1) (by simp only [show (1 : Int32).toInt = 1 by decide]; omega) (by simp only [show (1 : Int32).toInt = 1 by decide]; omega)
                refine lv_iinc (v := n18) (lv' := [(5, .int n18), (4, .int n17), (3, .int n16), (0, .ref a0), (1, .int x0), (2, .int x1)]) hx hb dX3_sumOfNamesPut_78 hl (k := 2) rfl (by rw [en18]; rfl) (by decide) rfl (fun ls hl => ?_)
                refine lv_goto (tgt := 8) hx hb dX3_sumOfNamesPut_81 (by decide) ?_
                exact ih n16 n17 n18 (by omega) (by omega) (by omega) _ _ _ hP hD hS (lv_sub hl [0, 1, 2, 3, 4, 5] rfl)
              · rw [z_eq] at g15
                try simp only [z_lit0, z_lit1, z_litm, z_lit31] at g15
                refine lv_aload_n hx hb dX3_sumOfNamesPut_56 rfl (lv_at hl 3 rfl) ?_
                refine va_get (D := D) (ci := 3) (v := .ref a4) (C := RX3) (T := TX3) (N := 6) hx hb hts iX3 hown hK hP 0 rfl rfl 3 (by decide) (hts (.fieldLink RX3 20 "ShortTeller$Meter" "gain" "[I") (List.mem_of_getElem? (i := 5) rfl)) (fun _ h9 => h9) rfl dX3_sumOfNamesPut_57 ?_
                refine lv_iload hx hb dX3_sumOfNamesPut_60 (lv_at hl 0 rfl) ?_
                refine va_iald hx hb hK hP 3 0 rfl rfl (q2_in (by omega) (by omega)) dX3_sumOfNamesPut_62 ?_
                refine lv_topi (fun n19 en19 => ?_)
                refine lv_goto (tgt := 67) hx hb dX3_sumOfNamesPut_63 (by decide) ?_
                refine lv_iadd hx hb dX3_sumOfNamesPut_67 ?_
                refine lv_topi (fun n20 en20 => ?_)
                refine lv_istore_n (lv' := [(3, .int n20), (5, .int s5), (4, .int s4), (0, .ref a0), (1, .int x0), (2, .int x1)]) hx hb dX3_sumOfNamesPut_68 rfl hl (by decide) rfl (fun ls hl => ?_)
                refine lv_aload_n hx hb dX3_sumOfNamesPut_69 rfl (lv_at hl 3 rfl) ?_
                refine va_get (D := D) (ci := 3) (v := .ref a3) (C := RX3) (T := TX3) (N := 6) hx hb hts iX3 hown hK hP 0 rfl rfl 2 (by decide) (hts (.fieldLink RX3 17 "ShortTeller$Meter" "name" "[I") (List.mem_of_getElem? (i := 4) rfl)) (fun _ h9 => h9) rfl dX3_sumOfNamesPut_70 ?_
                refine lv_iload hx hb dX3_sumOfNamesPut_73 (lv_at hl 1 rfl) ?_
                refine va_iald hx hb hK hP 2 0 rfl rfl (q2_in (by omega) (by omega)) dX3_sumOfNamesPut_75 ?_
                refine lv_topi (fun n21 en21 => ?_)
                refine lv_istore (lv' := [(4, .int n21), (3, .int n20), (5, .int s5), (0, .ref a0), (1, .int x0), (2, .int x1)]) hx hb dX3_sumOfNamesPut_76 hl (by decide) rfl (fun ls hl => ?_)
                obtain ⟨n22, en22⟩ : ∃ z : Int32, z = s5 + (1) := ⟨_, rfl⟩
                have tn22 : n22.toInt = s5.toInt + 1 := by rw [en22]; exact fb_addI (y := 1) (by simp only [show (1 : Int32).toInt = 1 by decide]; omega) (by simp only [show (1 : Int32).toInt = 1 by decide]; omega)
                refine lv_iinc (v := n22) (lv' := [(5, .int n22), (4, .int n21), (3, .int n20), (0, .ref a0), (1, .int x0), (2, .int x1)]) hx hb dX3_sumOfNamesPut_78 hl (k := 2) rfl (by rw [en22]; rfl) (by decide) rfl (fun ls hl => ?_)
                refine lv_goto (tgt := 8) hx hb dX3_sumOfNamesPut_81 (by decide) ?_
                exact ih n20 n21 n22 (by omega) (by omega) (by omega) _ _ _ hP hD hS (lv_sub hl [0, 1, 2, 3, 4, 5] rfl)
  exact loop _ (0) (-1) (0) (by first | decide | omega | (simp only [z_lit0]; omega)) (by first | decide | omega | (simp only [z_lit0]; omega)) (Nat.lt_succ_self _) _ _ _ hP hD hS hl
