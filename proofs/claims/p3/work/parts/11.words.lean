theorem dX10_isOwn_0 : decode cX10_isOwn 0 = .ok (.iload_n 0, 1) := by decide +kernel
theorem dX10_isOwn_1 : decode cX10_isOwn 1 = .ok (.bipush 40, 2) := by decide +kernel
theorem dX10_isOwn_12 : decode cX10_isOwn 12 = .ok (.iload_n 0, 1) := by decide +kernel
theorem dX10_isOwn_13 : decode cX10_isOwn 13 = .ok (.bipush 123, 2) := by decide +kernel
theorem dX10_isOwn_15 : decode cX10_isOwn 15 = .ok (.if_icmp .eq 51, 3) := by decide +kernel
theorem dX10_isOwn_18 : decode cX10_isOwn 18 = .ok (.iload_n 0, 1) := by decide +kernel
theorem dX10_isOwn_19 : decode cX10_isOwn 19 = .ok (.bipush 124, 2) := by decide +kernel
theorem dX10_isOwn_21 : decode cX10_isOwn 21 = .ok (.if_icmp .eq 45, 3) := by decide +kernel
theorem dX10_isOwn_24 : decode cX10_isOwn 24 = .ok (.iload_n 0, 1) := by decide +kernel
theorem dX10_isOwn_25 : decode cX10_isOwn 25 = .ok (.bipush 125, 2) := by decide +kernel
theorem dX10_isOwn_27 : decode cX10_isOwn 27 = .ok (.if_icmp .eq 39, 3) := by decide +kernel
theorem dX10_isOwn_3 : decode cX10_isOwn 3 = .ok (.if_icmp .eq 63, 3) := by decide +kernel
theorem dX10_isOwn_30 : decode cX10_isOwn 30 = .ok (.iload_n 0, 1) := by decide +kernel
theorem dX10_isOwn_31 : decode cX10_isOwn 31 = .ok (.bipush 60, 2) := by decide +kernel
theorem dX10_isOwn_33 : decode cX10_isOwn 33 = .ok (.if_icmp .eq 33, 3) := by decide +kernel
theorem dX10_isOwn_36 : decode cX10_isOwn 36 = .ok (.iload_n 0, 1) := by decide +kernel
theorem dX10_isOwn_37 : decode cX10_isOwn 37 = .ok (.bipush 62, 2) := by decide +kernel
theorem dX10_isOwn_39 : decode cX10_isOwn 39 = .ok (.if_icmp .eq 27, 3) := by decide +kernel
theorem dX10_isOwn_42 : decode cX10_isOwn 42 = .ok (.iload_n 0, 1) := by decide +kernel
theorem dX10_isOwn_43 : decode cX10_isOwn 43 = .ok (.bipush 126, 2) := by decide +kernel
theorem dX10_isOwn_45 : decode cX10_isOwn 45 = .ok (.if_icmp .eq 21, 3) := by decide +kernel
theorem dX10_isOwn_48 : decode cX10_isOwn 48 = .ok (.iload_n 0, 1) := by decide +kernel
theorem dX10_isOwn_49 : decode cX10_isOwn 49 = .ok (.bipush 42, 2) := by decide +kernel
theorem dX10_isOwn_51 : decode cX10_isOwn 51 = .ok (.if_icmp .eq 15, 3) := by decide +kernel
theorem dX10_isOwn_54 : decode cX10_isOwn 54 = .ok (.iload_n 0, 1) := by decide +kernel
theorem dX10_isOwn_55 : decode cX10_isOwn 55 = .ok (.bipush 61, 2) := by decide +kernel
theorem dX10_isOwn_57 : decode cX10_isOwn 57 = .ok (.if_icmp .eq 9, 3) := by decide +kernel
theorem dX10_isOwn_6 : decode cX10_isOwn 6 = .ok (.iload_n 0, 1) := by decide +kernel
theorem dX10_isOwn_60 : decode cX10_isOwn 60 = .ok (.iload_n 0, 1) := by decide +kernel
theorem dX10_isOwn_61 : decode cX10_isOwn 61 = .ok (.bipush 46, 2) := by decide +kernel
theorem dX10_isOwn_63 : decode cX10_isOwn 63 = .ok (.if_icmp .ne 7, 3) := by decide +kernel
theorem dX10_isOwn_66 : decode cX10_isOwn 66 = .ok (.iconst 1, 1) := by decide +kernel
theorem dX10_isOwn_67 : decode cX10_isOwn 67 = .ok (.goto 4, 3) := by decide +kernel
theorem dX10_isOwn_7 : decode cX10_isOwn 7 = .ok (.bipush 41, 2) := by decide +kernel
theorem dX10_isOwn_70 : decode cX10_isOwn 70 = .ok (.iconst 0, 1) := by decide +kernel
theorem dX10_isOwn_71 : decode cX10_isOwn 71 = .ok (.ireturn, 1) := by decide +kernel
theorem dX10_isOwn_9 : decode cX10_isOwn 9 = .ok (.if_icmp .eq 57, 3) := by decide +kernel
theorem dX10_isWord_0 : decode cX10_isWord 0 = .ok (.iload_n 0, 1) := by decide +kernel
theorem dX10_isWord_1 : decode cX10_isWord 1 = .ok (.bipush 33, 2) := by decide +kernel
theorem dX10_isWord_12 : decode cX10_isWord 12 = .ok (.iload_n 0, 1) := by decide +kernel
theorem dX10_isWord_13 : decode cX10_isWord 13 = .ok (.invokestatic 154, 3) := by decide +kernel
theorem dX10_isWord_16 : decode cX10_isWord 16 = .ok (.ifCond .ne 7, 3) := by decide +kernel
theorem dX10_isWord_19 : decode cX10_isWord 19 = .ok (.iconst 1, 1) := by decide +kernel
theorem dX10_isWord_20 : decode cX10_isWord 20 = .ok (.goto 4, 3) := by decide +kernel
theorem dX10_isWord_23 : decode cX10_isWord 23 = .ok (.iconst 0, 1) := by decide +kernel
theorem dX10_isWord_24 : decode cX10_isWord 24 = .ok (.ireturn, 1) := by decide +kernel
theorem dX10_isWord_3 : decode cX10_isWord 3 = .ok (.if_icmp .lt 20, 3) := by decide +kernel
theorem dX10_isWord_6 : decode cX10_isWord 6 = .ok (.iload_n 0, 1) := by decide +kernel
theorem dX10_isWord_7 : decode cX10_isWord 7 = .ok (.bipush 126, 2) := by decide +kernel
theorem dX10_isWord_9 : decode cX10_isWord 9 = .ok (.if_icmp .gt 14, 3) := by decide +kernel
theorem dX10_put_0 : decode cX10_put 0 = .ok (.aload_n 0, 1) := by decide +kernel
theorem dX10_put_1 : decode cX10_put 1 = .ok (.getfield 68, 3) := by decide +kernel
theorem dX10_put_10 : decode cX10_put 10 = .ok (.aload_n 0, 1) := by decide +kernel
theorem dX10_put_11 : decode cX10_put 11 = .ok (.getfield 71, 3) := by decide +kernel
theorem dX10_put_14 : decode cX10_put 14 = .ok (.aload_n 0, 1) := by decide +kernel
theorem dX10_put_15 : decode cX10_put 15 = .ok (.getfield 158, 3) := by decide +kernel
theorem dX10_put_18 : decode cX10_put 18 = .ok (.iload_n 2, 1) := by decide +kernel
theorem dX10_put_19 : decode cX10_put 19 = .ok (.iastore, 1) := by decide +kernel
theorem dX10_put_20 : decode cX10_put 20 = .ok (.aload_n 0, 1) := by decide +kernel
theorem dX10_put_21 : decode cX10_put 21 = .ok (.getfield 74, 3) := by decide +kernel
theorem dX10_put_24 : decode cX10_put 24 = .ok (.aload_n 0, 1) := by decide +kernel
theorem dX10_put_25 : decode cX10_put 25 = .ok (.getfield 158, 3) := by decide +kernel
theorem dX10_put_28 : decode cX10_put 28 = .ok (.iload_n 3, 1) := by decide +kernel
theorem dX10_put_29 : decode cX10_put 29 = .ok (.iastore, 1) := by decide +kernel
theorem dX10_put_30 : decode cX10_put 30 = .ok (.aload_n 0, 1) := by decide +kernel
theorem dX10_put_31 : decode cX10_put 31 = .ok (.getfield 77, 3) := by decide +kernel
theorem dX10_put_34 : decode cX10_put 34 = .ok (.aload_n 0, 1) := by decide +kernel
theorem dX10_put_35 : decode cX10_put 35 = .ok (.getfield 158, 3) := by decide +kernel
theorem dX10_put_38 : decode cX10_put 38 = .ok (.iload 4, 2) := by decide +kernel
theorem dX10_put_4 : decode cX10_put 4 = .ok (.aload_n 0, 1) := by decide +kernel
theorem dX10_put_40 : decode cX10_put 40 = .ok (.iastore, 1) := by decide +kernel
theorem dX10_put_41 : decode cX10_put 41 = .ok (.aload_n 0, 1) := by decide +kernel
theorem dX10_put_42 : decode cX10_put 42 = .ok (.getfield 80, 3) := by decide +kernel
theorem dX10_put_45 : decode cX10_put 45 = .ok (.aload_n 0, 1) := by decide +kernel
theorem dX10_put_46 : decode cX10_put 46 = .ok (.getfield 158, 3) := by decide +kernel
theorem dX10_put_49 : decode cX10_put 49 = .ok (.aload_n 0, 1) := by decide +kernel
theorem dX10_put_5 : decode cX10_put 5 = .ok (.getfield 158, 3) := by decide +kernel
theorem dX10_put_50 : decode cX10_put 50 = .ok (.getfield 161, 3) := by decide +kernel
theorem dX10_put_53 : decode cX10_put 53 = .ok (.iastore, 1) := by decide +kernel
theorem dX10_put_54 : decode cX10_put 54 = .ok (.aload_n 0, 1) := by decide +kernel
theorem dX10_put_55 : decode cX10_put 55 = .ok (.dup, 1) := by decide +kernel
theorem dX10_put_56 : decode cX10_put 56 = .ok (.getfield 158, 3) := by decide +kernel
theorem dX10_put_59 : decode cX10_put 59 = .ok (.iconst 1, 1) := by decide +kernel
theorem dX10_put_60 : decode cX10_put 60 = .ok (.iadd, 1) := by decide +kernel
theorem dX10_put_61 : decode cX10_put 61 = .ok (.putfield 158, 3) := by decide +kernel
theorem dX10_put_64 : decode cX10_put 64 = .ok (.return_, 1) := by decide +kernel
theorem dX10_put_8 : decode cX10_put 8 = .ok (.iload_n 1, 1) := by decide +kernel
theorem dX10_put_9 : decode cX10_put 9 = .ok (.iastore, 1) := by decide +kernel
theorem dX10_wrong_0 : decode cX10_wrong 0 = .ok (.aload_n 0, 1) := by decide +kernel
theorem dX10_wrong_1 : decode cX10_wrong 1 = .ok (.iload_n 1, 1) := by decide +kernel
theorem dX10_wrong_10 : decode cX10_wrong 10 = .ok (.iconst 0, 1) := by decide +kernel
theorem dX10_wrong_11 : decode cX10_wrong 11 = .ok (.ireturn, 1) := by decide +kernel
theorem dX10_wrong_2 : decode cX10_wrong 2 = .ok (.putfield 141, 3) := by decide +kernel
theorem dX10_wrong_5 : decode cX10_wrong 5 = .ok (.aload_n 0, 1) := by decide +kernel
theorem dX10_wrong_6 : decode cX10_wrong 6 = .ok (.iload_n 2, 1) := by decide +kernel
theorem dX10_wrong_7 : decode cX10_wrong 7 = .ok (.putfield 13, 3) := by decide +kernel
set_option maxRecDepth 20000 in
theorem ggX10_isWord_X10_isOwn : GoodIn wsX10_isWord wsX10_isOwn := goodIn_r _ [4] (by decide +kernel) (by decide +kernel)
set_option maxRecDepth 20000 in
theorem gX10_isWord_X10_isOwn : GoodIn wsX10_isWord (va_wsS RX10 154 yX10_isOwn wsX10_isOwn) := goodIn_app (goodIn_of _ (by decide +kernel)) ggX10_isWord_X10_isOwn
set_option maxHeartbeats 4000000 in
set_option maxRecDepth 100000 in
theorem y_isOwn (l : Launch) (D : va_G) (c : Nat → ClassId) (sz : Nat) (x0 : Int32) : Met l yX10_isOwn wsX10_isOwn ({ frames := 0, cells := 0, slots := 0, locals := 0 }) (q1_P D c [] sz [.int x0]) (q2_i D [] sz (fun r u => (r = 0 ∨ r = 1) ∧ (r.toInt = 0 ∨ r.toInt = 1)) (fun u => [])) 0 0 (va_A [] sz) := by
  refine q2_of_i (ty := .boolean) (fun r u h => by rcases h.1 with h | h <;> (rw [h]; rfl)) (cc := cX10_isOwn) (maxL := 1) (by decide) rfl (Nat.le_of_ble_eq_true rfl) (fun p e s m args below meth cd A Q ls hx hb hml hown hts hin hA hS hP hD hK hN hl hret => ?_)
  have hown : s.vm.findClass RX10 = some m.cls := hown
  obtain ⟨H, eH⟩ : ∃ z, z = s.heap := ⟨_, rfl⟩
  have hP : va_P D vwCl [] H := by rw [eH]; exact hP
  have hS : va_S A s.heap H [] := by rw [eH]; exact hS
  rw [← eH]
  have hl : lv_has ls 1 [(0, .int x0)] := hl
  refine lv_iload_n hx hb dX10_isOwn_0 rfl (lv_at hl 0 rfl) ?_
  refine lv_bipush (v := 40) hx hb dX10_isOwn_1 (by decide) ?_
  refine lv_icmp_eq (tgt := 66) hx hb dX10_isOwn_3 (by decide) (fun g1 => ?_) (fun g1 => ?_)
  · rw [z_eq] at g1
    try simp only [z_lit0, show (40 : Int32).toInt = 40 by decide] at g1
    refine lv_iconst (v := 1) hx hb dX10_isOwn_66 (by decide) ?_
    refine lv_goto (tgt := 71) hx hb dX10_isOwn_67 (by decide) ?_
    refine W.widen (k := 0) (n := 0) (Nat.zero_le _) (Nat.zero_le _) ?_
    exact hret 1 (q2_u [] [] []) _ _ _ _ (by first | exact ⟨Or.inl rfl, Or.inl (by decide)⟩ | exact ⟨Or.inr rfl, Or.inr (by decide)⟩) dX10_isOwn_71 hP hD hS
  · rw [z_eq] at g1
    try simp only [z_lit0, show (40 : Int32).toInt = 40 by decide] at g1
    refine lv_iload_n hx hb dX10_isOwn_6 rfl (lv_at hl 0 rfl) ?_
    refine lv_bipush (v := 41) hx hb dX10_isOwn_7 (by decide) ?_
    refine lv_icmp_eq (tgt := 66) hx hb dX10_isOwn_9 (by decide) (fun g2 => ?_) (fun g2 => ?_)
    · rw [z_eq] at g2
      try simp only [z_lit0, show (41 : Int32).toInt = 41 by decide] at g2
      refine lv_iconst (v := 1) hx hb dX10_isOwn_66 (by decide) ?_
      refine lv_goto (tgt := 71) hx hb dX10_isOwn_67 (by decide) ?_
      refine W.widen (k := 0) (n := 0) (Nat.zero_le _) (Nat.zero_le _) ?_
      exact hret 1 (q2_u [] [] []) _ _ _ _ (by first | exact ⟨Or.inl rfl, Or.inl (by decide)⟩ | exact ⟨Or.inr rfl, Or.inr (by decide)⟩) dX10_isOwn_71 hP hD hS
    · rw [z_eq] at g2
      try simp only [z_lit0, show (41 : Int32).toInt = 41 by decide] at g2
      refine lv_iload_n hx hb dX10_isOwn_12 rfl (lv_at hl 0 rfl) ?_
      refine lv_bipush (v := 123) hx hb dX10_isOwn_13 (by decide) ?_
      refine lv_icmp_eq (tgt := 66) hx hb dX10_isOwn_15 (by decide) (fun g3 => ?_) (fun g3 => ?_)
      · rw [z_eq] at g3
        try simp only [z_lit0, show (123 : Int32).toInt = 123 by decide] at g3
        refine lv_iconst (v := 1) hx hb dX10_isOwn_66 (by decide) ?_
        refine lv_goto (tgt := 71) hx hb dX10_isOwn_67 (by decide) ?_
        refine W.widen (k := 0) (n := 0) (Nat.zero_le _) (Nat.zero_le _) ?_
        exact hret 1 (q2_u [] [] []) _ _ _ _ (by first | exact ⟨Or.inl rfl, Or.inl (by decide)⟩ | exact ⟨Or.inr rfl, Or.inr (by decide)⟩) dX10_isOwn_71 hP hD hS
      · rw [z_eq] at g3
        try simp only [z_lit0, show (123 : Int32).toInt = 123 by decide] at g3
        refine lv_iload_n hx hb dX10_isOwn_18 rfl (lv_at hl 0 rfl) ?_
        refine lv_bipush (v := 124) hx hb dX10_isOwn_19 (by decide) ?_
        refine lv_icmp_eq (tgt := 66) hx hb dX10_isOwn_21 (by decide) (fun g4 => ?_) (fun g4 => ?_)
        · rw [z_eq] at g4
          try simp only [z_lit0, show (124 : Int32).toInt = 124 by decide] at g4
          refine lv_iconst (v := 1) hx hb dX10_isOwn_66 (by decide) ?_
          refine lv_goto (tgt := 71) hx hb dX10_isOwn_67 (by decide) ?_
          refine W.widen (k := 0) (n := 0) (Nat.zero_le _) (Nat.zero_le _) ?_
          exact hret 1 (q2_u [] [] []) _ _ _ _ (by first | exact ⟨Or.inl rfl, Or.inl (by decide)⟩ | exact ⟨Or.inr rfl, Or.inr (by decide)⟩) dX10_isOwn_71 hP hD hS
        · rw [z_eq] at g4
          try simp only [z_lit0, show (124 : Int32).toInt = 124 by decide] at g4
          refine lv_iload_n hx hb dX10_isOwn_24 rfl (lv_at hl 0 rfl) ?_
          refine lv_bipush (v := 125) hx hb dX10_isOwn_25 (by decide) ?_
          refine lv_icmp_eq (tgt := 66) hx hb dX10_isOwn_27 (by decide) (fun g5 => ?_) (fun g5 => ?_)
          · rw [z_eq] at g5
            try simp only [z_lit0, show (125 : Int32).toInt = 125 by decide] at g5
            refine lv_iconst (v := 1) hx hb dX10_isOwn_66 (by decide) ?_
            refine lv_goto (tgt := 71) hx hb dX10_isOwn_67 (by decide) ?_
            refine W.widen (k := 0) (n := 0) (Nat.zero_le _) (Nat.zero_le _) ?_
            exact hret 1 (q2_u [] [] []) _ _ _ _ (by first | exact ⟨Or.inl rfl, Or.inl (by decide)⟩ | exact ⟨Or.inr rfl, Or.inr (by decide)⟩) dX10_isOwn_71 hP hD hS
          · rw [z_eq] at g5
            try simp only [z_lit0, show (125 : Int32).toInt = 125 by decide] at g5
            refine lv_iload_n hx hb dX10_isOwn_30 rfl (lv_at hl 0 rfl) ?_
            refine lv_bipush (v := 60) hx hb dX10_isOwn_31 (by decide) ?_
            refine lv_icmp_eq (tgt := 66) hx hb dX10_isOwn_33 (by decide) (fun g6 => ?_) (fun g6 => ?_)
            · rw [z_eq] at g6
              try simp only [z_lit0, show (60 : Int32).toInt = 60 by decide] at g6
              refine lv_iconst (v := 1) hx hb dX10_isOwn_66 (by decide) ?_
              refine lv_goto (tgt := 71) hx hb dX10_isOwn_67 (by decide) ?_
              refine W.widen (k := 0) (n := 0) (Nat.zero_le _) (Nat.zero_le _) ?_
              exact hret 1 (q2_u [] [] []) _ _ _ _ (by first | exact ⟨Or.inl rfl, Or.inl (by decide)⟩ | exact ⟨Or.inr rfl, Or.inr (by decide)⟩) dX10_isOwn_71 hP hD hS
            · rw [z_eq] at g6
              try simp only [z_lit0, show (60 : Int32).toInt = 60 by decide] at g6
              refine lv_iload_n hx hb dX10_isOwn_36 rfl (lv_at hl 0 rfl) ?_
              refine lv_bipush (v := 62) hx hb dX10_isOwn_37 (by decide) ?_
              refine lv_icmp_eq (tgt := 66) hx hb dX10_isOwn_39 (by decide) (fun g7 => ?_) (fun g7 => ?_)
              · rw [z_eq] at g7
                try simp only [z_lit0, show (62 : Int32).toInt = 62 by decide] at g7
                refine lv_iconst (v := 1) hx hb dX10_isOwn_66 (by decide) ?_
                refine lv_goto (tgt := 71) hx hb dX10_isOwn_67 (by decide) ?_
                refine W.widen (k := 0) (n := 0) (Nat.zero_le _) (Nat.zero_le _) ?_
                exact hret 1 (q2_u [] [] []) _ _ _ _ (by first | exact ⟨Or.inl rfl, Or.inl (by decide)⟩ | exact ⟨Or.inr rfl, Or.inr (by decide)⟩) dX10_isOwn_71 hP hD hS
              · rw [z_eq] at g7
                try simp only [z_lit0, show (62 : Int32).toInt = 62 by decide] at g7
                refine lv_iload_n hx hb dX10_isOwn_42 rfl (lv_at hl 0 rfl) ?_
                refine lv_bipush (v := 126) hx hb dX10_isOwn_43 (by decide) ?_
                refine lv_icmp_eq (tgt := 66) hx hb dX10_isOwn_45 (by decide) (fun g8 => ?_) (fun g8 => ?_)
                · rw [z_eq] at g8
                  try simp only [z_lit0, show (126 : Int32).toInt = 126 by decide] at g8
                  refine lv_iconst (v := 1) hx hb dX10_isOwn_66 (by decide) ?_
                  refine lv_goto (tgt := 71) hx hb dX10_isOwn_67 (by decide) ?_
                  refine W.widen (k := 0) (n := 0) (Nat.zero_le _) (Nat.zero_le _) ?_
                  exact hret 1 (q2_u [] [] []) _ _ _ _ (by first | exact ⟨Or.inl rfl, Or.inl (by decide)⟩ | exact ⟨Or.inr rfl, Or.inr (by decide)⟩) dX10_isOwn_71 hP hD hS
                · rw [z_eq] at g8
                  try simp only [z_lit0, show (126 : Int32).toInt = 126 by decide] at g8
                  refine lv_iload_n hx hb dX10_isOwn_48 rfl (lv_at hl 0 rfl) ?_
                  refine lv_bipush (v := 42) hx hb dX10_isOwn_49 (by decide) ?_
                  refine lv_icmp_eq (tgt := 66) hx hb dX10_isOwn_51 (by decide) (fun g9 => ?_) (fun g9 => ?_)
                  · rw [z_eq] at g9
                    try simp only [z_lit0, show (42 : Int32).toInt = 42 by decide] at g9
                    refine lv_iconst (v := 1) hx hb dX10_isOwn_66 (by decide) ?_
                    refine lv_goto (tgt := 71) hx hb dX10_isOwn_67 (by decide) ?_
                    refine W.widen (k := 0) (n := 0) (Nat.zero_le _) (Nat.zero_le _) ?_
                    exact hret 1 (q2_u [] [] []) _ _ _ _ (by first | exact ⟨Or.inl rfl, Or.inl (by decide)⟩ | exact ⟨Or.inr rfl, Or.inr (by decide)⟩) dX10_isOwn_71 hP hD hS
                  · rw [z_eq] at g9
                    try simp only [z_lit0, show (42 : Int32).toInt = 42 by decide] at g9
                    refine lv_iload_n hx hb dX10_isOwn_54 rfl (lv_at hl 0 rfl) ?_
                    refine lv_bipush (v := 61) hx hb dX10_isOwn_55 (by decide) ?_
                    refine lv_icmp_eq (tgt := 66) hx hb dX10_isOwn_57 (by decide) (fun g10 => ?_) (fun g10 => ?_)
                    · rw [z_eq] at g10
                      try simp only [z_lit0, show (61 : Int32).toInt = 61 by decide] at g10
                      refine lv_iconst (v := 1) hx hb dX10_isOwn_66 (by decide) ?_
                      refine lv_goto (tgt := 71) hx hb dX10_isOwn_67 (by decide) ?_
                      refine W.widen (k := 0) (n := 0) (Nat.zero_le _) (Nat.zero_le _) ?_
                      exact hret 1 (q2_u [] [] []) _ _ _ _ (by first | exact ⟨Or.inl rfl, Or.inl (by decide)⟩ | exact ⟨Or.inr rfl, Or.inr (by decide)⟩) dX10_isOwn_71 hP hD hS
                    · rw [z_eq] at g10
                      try simp only [z_lit0, show (61 : Int32).toInt = 61 by decide] at g10
                      refine lv_iload_n hx hb dX10_isOwn_60 rfl (lv_at hl 0 rfl) ?_
                      refine lv_bipush (v := 46) hx hb dX10_isOwn_61 (by decide) ?_
                      refine lv_icmp_ne (tgt := 70) hx hb dX10_isOwn_63 (by decide) (fun g11 => ?_) (fun g11 => ?_)
                      · rw [z_eq] at g11
                        try simp only [z_lit0, show (46 : Int32).toInt = 46 by decide] at g11
                        refine lv_iconst (v := 0) hx hb dX10_isOwn_70 (by decide) ?_
                        refine W.widen (k := 0) (n := 0) (Nat.zero_le _) (Nat.zero_le _) ?_
                        exact hret 0 (q2_u [] [] []) _ _ _ _ (by first | exact ⟨Or.inl rfl, Or.inl (by decide)⟩ | exact ⟨Or.inr rfl, Or.inr (by decide)⟩) dX10_isOwn_71 hP hD hS
                      · rw [z_eq] at g11
                        try simp only [z_lit0, show (46 : Int32).toInt = 46 by decide] at g11
                        refine lv_iconst (v := 1) hx hb dX10_isOwn_66 (by decide) ?_
                        refine lv_goto (tgt := 71) hx hb dX10_isOwn_67 (by decide) ?_
                        refine W.widen (k := 0) (n := 0) (Nat.zero_le _) (Nat.zero_le _) ?_
                        exact hret 1 (q2_u [] [] []) _ _ _ _ (by first | exact ⟨Or.inl rfl, Or.inl (by decide)⟩ | exact ⟨Or.inr rfl, Or.inr (by decide)⟩) dX10_isOwn_71 hP hD hS
set_option maxHeartbeats 4000000 in
set_option maxRecDepth 100000 in
theorem y_isWord (l : Launch) (D : va_G) (c : Nat → ClassId) (sz : Nat) (x0 : Int32) : Met l yX10_isWord wsX10_isWord ({ frames := 1, cells := 0, slots := 0, locals := 20 }) (q1_P D c [] sz [.int x0]) (q2_i D [] sz (fun r u => (r = 0 ∨ r = 1) ∧ (r.toInt = 0 ∨ (r.toInt = 1 ∧ 33 ≤ x0.toInt ∧ x0.toInt ≤ 126))) (fun u => [])) 0 0 (va_A [] sz) := by
  refine q2_of_i (ty := .boolean) (fun r u h => by rcases h.1 with h | h <;> (rw [h]; rfl)) (cc := cX10_isWord) (maxL := 1) (by decide) rfl (Nat.le_of_ble_eq_true rfl) (fun p e s m args below meth cd A Q ls hx hb hml hown hts hin hA hS hP hD hK hN hl hret => ?_)
  have hown : s.vm.findClass RX10 = some m.cls := hown
  obtain ⟨H, eH⟩ : ∃ z, z = s.heap := ⟨_, rfl⟩
  have hP : va_P D vwCl [] H := by rw [eH]; exact hP
  have hS : va_S A s.heap H [] := by rw [eH]; exact hS
  rw [← eH]
  have hl : lv_has ls 1 [(0, .int x0)] := hl
  refine lv_iload_n hx hb dX10_isWord_0 rfl (lv_at hl 0 rfl) ?_
  refine lv_bipush (v := 33) hx hb dX10_isWord_1 (by decide) ?_
  refine lv_icmp_lt (tgt := 23) hx hb dX10_isWord_3 (by decide) (fun g1 => ?_) (fun g1 => ?_)
  · rw [z_lt] at g1
    try simp only [z_lit0, show (33 : Int32).toInt = 33 by decide] at g1
    refine lv_iconst (v := 0) hx hb dX10_isWord_23 (by decide) ?_
    refine W.widen (k := 0) (n := 0) (Nat.zero_le _) (Nat.zero_le _) ?_
    exact hret 0 (q2_u [] [] []) _ _ _ _ (by first | exact ⟨Or.inl rfl, Or.inl (by decide)⟩ | exact ⟨Or.inr rfl, Or.inr ⟨by decide, by omega, by omega⟩⟩) dX10_isWord_24 hP hD hS
  · rw [z_lt] at g1
    try simp only [z_lit0, show (33 : Int32).toInt = 33 by decide] at g1
    refine lv_iload_n hx hb dX10_isWord_6 rfl (lv_at hl 0 rfl) ?_
    refine lv_bipush (v := 126) hx hb dX10_isWord_7 (by decide) ?_
    refine lv_icmp_gt (tgt := 23) hx hb dX10_isWord_9 (by decide) (fun g2 => ?_) (fun g2 => ?_)
    · rw [z_lt] at g2
      try simp only [z_lit0, show (126 : Int32).toInt = 126 by decide] at g2
      refine lv_iconst (v := 0) hx hb dX10_isWord_23 (by decide) ?_
      refine W.widen (k := 0) (n := 0) (Nat.zero_le _) (Nat.zero_le _) ?_
      exact hret 0 (q2_u [] [] []) _ _ _ _ (by first | exact ⟨Or.inl rfl, Or.inl (by decide)⟩ | exact ⟨Or.inr rfl, Or.inr ⟨by decide, by omega, by omega⟩⟩) dX10_isWord_24 hP hD hS
    · rw [z_lt] at g2
      try simp only [z_lit0, show (126 : Int32).toInt = 126 by decide] at g2
      refine lv_iload_n hx hb dX10_isWord_12 rfl (lv_at hl 0 rfl) ?_
      have hPc := hP.sub (ws' := []) [] rfl
      have hDc := hD.sub (ws' := []) [] (by decide) rfl
      refine q2_ci (wr := []) (va_runS (As := [.int x0]) (rest := []) ⟨hx, hb, hml, hown, hts⟩ (y_isOwn l D c H.size x0) (va_cwS 1 hts gX10_isWord_X10_isOwn rfl rfl rfl (by decide +kernel) ⟨Nat.le_of_ble_eq_true rfl, Nat.le_of_ble_eq_true rfl⟩) (q1_preS (c := c) hPc hK hDc hN) rfl rfl hl.1 rfl (lv_room (Nat.le_of_ble_eq_true rfl)) dX10_isWord_13 ⟨Nat.le_of_ble_eq_true rfl, Nat.le_of_ble_eq_true rfl⟩) hP hD hS hA [] [] rfl rfl (by decide) (by decide) (fun n3 u3 H locs pn3 hP hD hS => ?_)
      have pn3 : (n3 = 0 ∨ n3 = 1) ∧ (n3.toInt = 0 ∨ n3.toInt = 1) := pn3
      have pn3 := pn3.2
      have hP : va_P D vwCl [] H := hP
      have hD : va_D A [] := hD
      refine lv_if_ne (tgt := 23) hx hb dX10_isWord_16 (by decide) (fun g4 => ?_) (fun g4 => ?_)
      · rw [z_eq] at g4
        try simp only [z_lit0] at g4
        refine lv_iconst (v := 0) hx hb dX10_isWord_23 (by decide) ?_
        refine W.widen (k := 0) (n := 0) (Nat.zero_le _) (Nat.zero_le _) ?_
        exact hret 0 (q2_u [] [] []) _ _ _ _ (by first | exact ⟨Or.inl rfl, Or.inl (by decide)⟩ | exact ⟨Or.inr rfl, Or.inr ⟨by decide, by omega, by omega⟩⟩) dX10_isWord_24 hP hD hS
      · rw [z_eq] at g4
        try simp only [z_lit0] at g4
        refine lv_iconst (v := 1) hx hb dX10_isWord_19 (by decide) ?_
        refine lv_goto (tgt := 24) hx hb dX10_isWord_20 (by decide) ?_
        refine W.widen (k := 0) (n := 0) (Nat.zero_le _) (Nat.zero_le _) ?_
        exact hret 1 (q2_u [] [] []) _ _ _ _ (by first | exact ⟨Or.inl rfl, Or.inl (by decide)⟩ | exact ⟨Or.inr rfl, Or.inr ⟨by decide, by omega, by omega⟩⟩) dX10_isWord_24 hP hD hS
set_option maxHeartbeats 4000000 in
set_option maxRecDepth 100000 in
theorem y_wrong (l : Launch) (D : va_G) (c : Nat → ClassId) (sz : Nat) (a0 : Nat) (b_tape : Nat) (b_kind : Nat) (b_owner : Nat) (b_from : Nat) (b_size : Nat) (b_means : Nat) (b_signs : Nat) (b_oKind : Nat) (b_oIn : Nat) (b_oList : Nat) (b_oWords : Nat) (b_oFacts : Nat) (b_listIn : Nat) (b_sOwner : Nat) (b_hFacts : Nat) (b_weights : Nat) (b_lengths : Nat) (b_values : Nat) (b_rKind : Nat) (b_rOwner : Nat) (b_rFrom : Nat) (b_rSize : Nat) (b_rMeans : Nat) (b_rOKind : Nat) (b_rOIn : Nat) (b_rOList : Nat) (b_rOFacts : Nat) (b_rListIn : Nat) (b_rSOwner : Nat) (b_rHFacts : Nat) (b_rWeights : Nat) (b_opKind : Nat) (b_opFrom : Nat) (b_opWord : Nat) (b_opOwner : Nat) (b_opList : Nat) (b_opItems : Nat) (b_out : Nat) (b_ranks : Nat) (v_tapeSize : Int32) (v_thrown : Int32) (v_fault : Int32) (v_faultPlace : Int32) (v_things : Int32) (v_options : Int32) (v_lists : Int32) (v_sentences : Int32) (v_headings : Int32) (v_words : Int32) (v_factBits : Int32) (v_known : Int32) (v_soundMany : Int32) (v_wholeLength : Int32) (v_next : Int32) (v_end : Int32) (v_rThings : Int32) (v_rOptions : Int32) (v_rLists : Int32) (v_rSentences : Int32) (v_rHeadings : Int32) (v_lastName : Int32) (v_inSentence : Int32) (v_open : Int32) (v_written : Int32) (v_named : Int32) (v_sorted : Int32) (x0 : Int32) (x1 : Int32) : Met l yX10_wrong wsX10_wrong ({ frames := 0, cells := 0, slots := 0, locals := 0 }) (q1_P D c [(a0, .inr (10, [.ref b_tape, .int v_tapeSize, .int v_thrown, .int v_fault, .int v_faultPlace, .int v_things, .ref b_kind, .ref b_owner, .ref b_from, .ref b_size, .ref b_means, .ref b_signs, .int v_options, .ref b_oKind, .ref b_oIn, .ref b_oList, .ref b_oWords, .ref b_oFacts, .int v_lists, .ref b_listIn, .int v_sentences, .ref b_sOwner, .int v_headings, .ref b_hFacts, .int v_words, .ref b_weights, .int v_factBits, .int v_known, .ref b_lengths, .ref b_values, .int v_soundMany, .int v_wholeLength, .int v_next, .int v_end, .int v_rThings, .ref b_rKind, .ref b_rOwner, .ref b_rFrom, .ref b_rSize, .ref b_rMeans, .int v_rOptions, .ref b_rOKind, .ref b_rOIn, .ref b_rOList, .ref b_rOFacts, .int v_rLists, .ref b_rListIn, .int v_rSentences, .ref b_rSOwner, .int v_rHeadings, .ref b_rHFacts, .ref b_rWeights, .int v_lastName, .int v_inSentence, .int v_open, .ref b_opKind, .ref b_opFrom, .ref b_opWord, .ref b_opOwner, .ref b_opList, .ref b_opItems, .ref b_out, .int v_written, .int v_named, .int v_sorted, .ref b_ranks]))] sz [.ref a0, .int x0, .int x1]) (q2_i D [(a0, .inr (10, [.ref b_tape, .int v_tapeSize, .int v_thrown, .int v_fault, .int v_faultPlace, .int v_things, .ref b_kind, .ref b_owner, .ref b_from, .ref b_size, .ref b_means, .ref b_signs, .int v_options, .ref b_oKind, .ref b_oIn, .ref b_oList, .ref b_oWords, .ref b_oFacts, .int v_lists, .ref b_listIn, .int v_sentences, .ref b_sOwner, .int v_headings, .ref b_hFacts, .int v_words, .ref b_weights, .int v_factBits, .int v_known, .ref b_lengths, .ref b_values, .int v_soundMany, .int v_wholeLength, .int v_next, .int v_end, .int v_rThings, .ref b_rKind, .ref b_rOwner, .ref b_rFrom, .ref b_rSize, .ref b_rMeans, .int v_rOptions, .ref b_rOKind, .ref b_rOIn, .ref b_rOList, .ref b_rOFacts, .int v_rLists, .ref b_rListIn, .int v_rSentences, .ref b_rSOwner, .int v_rHeadings, .ref b_rHFacts, .ref b_rWeights, .int v_lastName, .int v_inSentence, .int v_open, .ref b_opKind, .ref b_opFrom, .ref b_opWord, .ref b_opOwner, .ref b_opList, .ref b_opItems, .ref b_out, .int v_written, .int v_named, .int v_sorted, .ref b_ranks]))] sz (fun r u => (r = 0 ∨ r = 1) ∧ r.toInt = 0 ∧ u.2.1 0 = x0 ∧ u.2.1 1 = x1) (fun u => [(a0, .inr (10, [.ref b_tape, .int v_tapeSize, .int v_thrown, .int (u.2.1 0), .int (u.2.1 1), .int v_things, .ref b_kind, .ref b_owner, .ref b_from, .ref b_size, .ref b_means, .ref b_signs, .int v_options, .ref b_oKind, .ref b_oIn, .ref b_oList, .ref b_oWords, .ref b_oFacts, .int v_lists, .ref b_listIn, .int v_sentences, .ref b_sOwner, .int v_headings, .ref b_hFacts, .int v_words, .ref b_weights, .int v_factBits, .int v_known, .ref b_lengths, .ref b_values, .int v_soundMany, .int v_wholeLength, .int v_next, .int v_end, .int v_rThings, .ref b_rKind, .ref b_rOwner, .ref b_rFrom, .ref b_rSize, .ref b_rMeans, .int v_rOptions, .ref b_rOKind, .ref b_rOIn, .ref b_rOList, .ref b_rOFacts, .int v_rLists, .ref b_rListIn, .int v_rSentences, .ref b_rSOwner, .int v_rHeadings, .ref b_rHFacts, .ref b_rWeights, .int v_lastName, .int v_inSentence, .int v_open, .ref b_opKind, .ref b_opFrom, .ref b_opWord, .ref b_opOwner, .ref b_opList, .ref b_opItems, .ref b_out, .int v_written, .int v_named, .int v_sorted, .ref b_ranks]))])) 0 0 (va_A [(a0, .inr (10, [.ref b_tape, .int v_tapeSize, .int v_thrown, .int v_fault, .int v_faultPlace, .int v_things, .ref b_kind, .ref b_owner, .ref b_from, .ref b_size, .ref b_means, .ref b_signs, .int v_options, .ref b_oKind, .ref b_oIn, .ref b_oList, .ref b_oWords, .ref b_oFacts, .int v_lists, .ref b_listIn, .int v_sentences, .ref b_sOwner, .int v_headings, .ref b_hFacts, .int v_words, .ref b_weights, .int v_factBits, .int v_known, .ref b_lengths, .ref b_values, .int v_soundMany, .int v_wholeLength, .int v_next, .int v_end, .int v_rThings, .ref b_rKind, .ref b_rOwner, .ref b_rFrom, .ref b_rSize, .ref b_rMeans, .int v_rOptions, .ref b_rOKind, .ref b_rOIn, .ref b_rOList, .ref b_rOFacts, .int v_rLists, .ref b_rListIn, .int v_rSentences, .ref b_rSOwner, .int v_rHeadings, .ref b_rHFacts, .ref b_rWeights, .int v_lastName, .int v_inSentence, .int v_open, .ref b_opKind, .ref b_opFrom, .ref b_opWord, .ref b_opOwner, .ref b_opList, .ref b_opItems, .ref b_out, .int v_written, .int v_named, .int v_sorted, .ref b_ranks]))] sz) := by
  refine q2_of_i (ty := .boolean) (fun r u h => by rcases h.1 with h | h <;> (rw [h]; rfl)) (cc := cX10_wrong) (maxL := 3) (by decide) rfl (Nat.le_of_ble_eq_true rfl) (fun p e s m args below meth cd A Q ls hx hb hml hown hts hin hA hS hP hD hK hN hl hret => ?_)
  have hown : s.vm.findClass RX10 = some m.cls := hown
  obtain ⟨H, eH⟩ : ∃ z, z = s.heap := ⟨_, rfl⟩
  have hP : va_P D vwCl [(a0, .inr (10, [.ref b_tape, .int v_tapeSize, .int v_thrown, .int v_fault, .int v_faultPlace, .int v_things, .ref b_kind, .ref b_owner, .ref b_from, .ref b_size, .ref b_means, .ref b_signs, .int v_options, .ref b_oKind, .ref b_oIn, .ref b_oList, .ref b_oWords, .ref b_oFacts, .int v_lists, .ref b_listIn, .int v_sentences, .ref b_sOwner, .int v_headings, .ref b_hFacts, .int v_words, .ref b_weights, .int v_factBits, .int v_known, .ref b_lengths, .ref b_values, .int v_soundMany, .int v_wholeLength, .int v_next, .int v_end, .int v_rThings, .ref b_rKind, .ref b_rOwner, .ref b_rFrom, .ref b_rSize, .ref b_rMeans, .int v_rOptions, .ref b_rOKind, .ref b_rOIn, .ref b_rOList, .ref b_rOFacts, .int v_rLists, .ref b_rListIn, .int v_rSentences, .ref b_rSOwner, .int v_rHeadings, .ref b_rHFacts, .ref b_rWeights, .int v_lastName, .int v_inSentence, .int v_open, .ref b_opKind, .ref b_opFrom, .ref b_opWord, .ref b_opOwner, .ref b_opList, .ref b_opItems, .ref b_out, .int v_written, .int v_named, .int v_sorted, .ref b_ranks]))] H := by rw [eH]; exact hP
  have hS : va_S A s.heap H [] := by rw [eH]; exact hS
  rw [← eH]
  have iX10 : ∀ w ∈ wsX100, w ∈ wsX10_wrong := fun w h => List.mem_cons_of_mem _ (List.mem_append_right _ h)
  have hl : lv_has ls 3 [(0, .ref a0), (1, .int x0), (2, .int x1)] := hl
  refine lv_aload_n hx hb dX10_wrong_0 rfl (lv_at hl 0 rfl) ?_
  refine lv_iload_n hx hb dX10_wrong_1 rfl (lv_at hl 1 rfl) ?_
  refine va_put (D := D) (ci := 10) (v := .int x0) (ty := .int) (C := RX10) (T := TX10) (N := 66) hx hb hts iX10 tyX10 tyX10_ok nmX10 hown hK hP hD hS 0 rfl rfl 3 (by decide) (hts (.fieldLink RX10 141 "ShortTellerModel" "fault" "I") (List.mem_of_getElem? (i := 1) rfl)) (fun _ h9 => h9) rfl (by decide +kernel) rfl rfl (Nat.le_of_ble_eq_true rfl) dX10_wrong_2 (fun H locs hP hD hS => ?_)
  have hP : va_P D vwCl [(a0, .inr (10, [.ref b_tape, .int v_tapeSize, .int v_thrown, .int x0, .int v_faultPlace, .int v_things, .ref b_kind, .ref b_owner, .ref b_from, .ref b_size, .ref b_means, .ref b_signs, .int v_options, .ref b_oKind, .ref b_oIn, .ref b_oList, .ref b_oWords, .ref b_oFacts, .int v_lists, .ref b_listIn, .int v_sentences, .ref b_sOwner, .int v_headings, .ref b_hFacts, .int v_words, .ref b_weights, .int v_factBits, .int v_known, .ref b_lengths, .ref b_values, .int v_soundMany, .int v_wholeLength, .int v_next, .int v_end, .int v_rThings, .ref b_rKind, .ref b_rOwner, .ref b_rFrom, .ref b_rSize, .ref b_rMeans, .int v_rOptions, .ref b_rOKind, .ref b_rOIn, .ref b_rOList, .ref b_rOFacts, .int v_rLists, .ref b_rListIn, .int v_rSentences, .ref b_rSOwner, .int v_rHeadings, .ref b_rHFacts, .ref b_rWeights, .int v_lastName, .int v_inSentence, .int v_open, .ref b_opKind, .ref b_opFrom, .ref b_opWord, .ref b_opOwner, .ref b_opList, .ref b_opItems, .ref b_out, .int v_written, .int v_named, .int v_sorted, .ref b_ranks]))] H := hP
  have hD : va_D A [(a0, .inr (10, [.ref b_tape, .int v_tapeSize, .int v_thrown, .int x0, .int v_faultPlace, .int v_things, .ref b_kind, .ref b_owner, .ref b_from, .ref b_size, .ref b_means, .ref b_signs, .int v_options, .ref b_oKind, .ref b_oIn, .ref b_oList, .ref b_oWords, .ref b_oFacts, .int v_lists, .ref b_listIn, .int v_sentences, .ref b_sOwner, .int v_headings, .ref b_hFacts, .int v_words, .ref b_weights, .int v_factBits, .int v_known, .ref b_lengths, .ref b_values, .int v_soundMany, .int v_wholeLength, .int v_next, .int v_end, .int v_rThings, .ref b_rKind, .ref b_rOwner, .ref b_rFrom, .ref b_rSize, .ref b_rMeans, .int v_rOptions, .ref b_rOKind, .ref b_rOIn, .ref b_rOList, .ref b_rOFacts, .int v_rLists, .ref b_rListIn, .int v_rSentences, .ref b_rSOwner, .int v_rHeadings, .ref b_rHFacts, .ref b_rWeights, .int v_lastName, .int v_inSentence, .int v_open, .ref b_opKind, .ref b_opFrom, .ref b_opWord, .ref b_opOwner, .ref b_opList, .ref b_opItems, .ref b_out, .int v_written, .int v_named, .int v_sorted, .ref b_ranks]))] := hD
  refine lv_aload_n hx hb dX10_wrong_5 rfl (lv_at hl 0 rfl) ?_
  refine lv_iload_n hx hb dX10_wrong_6 rfl (lv_at hl 2 rfl) ?_
  refine va_put (D := D) (ci := 10) (v := .int x1) (ty := .int) (C := RX10) (T := TX10) (N := 66) hx hb hts iX10 tyX10 tyX10_ok nmX10 hown hK hP hD hS 0 rfl rfl 4 (by decide) (hts (.fieldLink RX10 13 "ShortTellerModel" "faultPlace" "I") (List.mem_of_getElem? (i := 2) rfl)) (fun _ h9 => h9) rfl (by decide +kernel) rfl rfl (Nat.le_of_ble_eq_true rfl) dX10_wrong_7 (fun H locs hP hD hS => ?_)
  have hP : va_P D vwCl [(a0, .inr (10, [.ref b_tape, .int v_tapeSize, .int v_thrown, .int x0, .int x1, .int v_things, .ref b_kind, .ref b_owner, .ref b_from, .ref b_size, .ref b_means, .ref b_signs, .int v_options, .ref b_oKind, .ref b_oIn, .ref b_oList, .ref b_oWords, .ref b_oFacts, .int v_lists, .ref b_listIn, .int v_sentences, .ref b_sOwner, .int v_headings, .ref b_hFacts, .int v_words, .ref b_weights, .int v_factBits, .int v_known, .ref b_lengths, .ref b_values, .int v_soundMany, .int v_wholeLength, .int v_next, .int v_end, .int v_rThings, .ref b_rKind, .ref b_rOwner, .ref b_rFrom, .ref b_rSize, .ref b_rMeans, .int v_rOptions, .ref b_rOKind, .ref b_rOIn, .ref b_rOList, .ref b_rOFacts, .int v_rLists, .ref b_rListIn, .int v_rSentences, .ref b_rSOwner, .int v_rHeadings, .ref b_rHFacts, .ref b_rWeights, .int v_lastName, .int v_inSentence, .int v_open, .ref b_opKind, .ref b_opFrom, .ref b_opWord, .ref b_opOwner, .ref b_opList, .ref b_opItems, .ref b_out, .int v_written, .int v_named, .int v_sorted, .ref b_ranks]))] H := hP
  have hD : va_D A [(a0, .inr (10, [.ref b_tape, .int v_tapeSize, .int v_thrown, .int x0, .int x1, .int v_things, .ref b_kind, .ref b_owner, .ref b_from, .ref b_size, .ref b_means, .ref b_signs, .int v_options, .ref b_oKind, .ref b_oIn, .ref b_oList, .ref b_oWords, .ref b_oFacts, .int v_lists, .ref b_listIn, .int v_sentences, .ref b_sOwner, .int v_headings, .ref b_hFacts, .int v_words, .ref b_weights, .int v_factBits, .int v_known, .ref b_lengths, .ref b_values, .int v_soundMany, .int v_wholeLength, .int v_next, .int v_end, .int v_rThings, .ref b_rKind, .ref b_rOwner, .ref b_rFrom, .ref b_rSize, .ref b_rMeans, .int v_rOptions, .ref b_rOKind, .ref b_rOIn, .ref b_rOList, .ref b_rOFacts, .int v_rLists, .ref b_rListIn, .int v_rSentences, .ref b_rSOwner, .int v_rHeadings, .ref b_rHFacts, .ref b_rWeights, .int v_lastName, .int v_inSentence, .int v_open, .ref b_opKind, .ref b_opFrom, .ref b_opWord, .ref b_opOwner, .ref b_opList, .ref b_opItems, .ref b_out, .int v_written, .int v_named, .int v_sorted, .ref b_ranks]))] := hD
  refine lv_iconst (v := 0) hx hb dX10_wrong_10 (by decide) ?_
  refine W.widen (k := 0) (n := 0) (Nat.zero_le _) (Nat.zero_le _) ?_
  exact hret 0 (q2_u [] [x0, x1] []) _ _ _ _ (by exact ⟨Or.inl rfl, by decide, rfl, rfl⟩) dX10_wrong_11 hP hD hS
set_option maxHeartbeats 4000000 in
set_option maxRecDepth 100000 in
theorem y_put (l : Launch) (D : va_G) (c : Nat → ClassId) (sz : Nat) (a0 : Nat) (b_tape : Nat) (b_kind : Nat) (b_owner : Nat) (b_from : Nat) (b_size : Nat) (b_means : Nat) (b_signs : Nat) (b_oKind : Nat) (b_oIn : Nat) (b_oList : Nat) (b_oWords : Nat) (b_oFacts : Nat) (b_listIn : Nat) (b_sOwner : Nat) (b_hFacts : Nat) (b_weights : Nat) (b_lengths : Nat) (b_values : Nat) (b_rKind : Nat) (b_rOwner : Nat) (b_rFrom : Nat) (b_rSize : Nat) (b_rMeans : Nat) (b_rOKind : Nat) (b_rOIn : Nat) (b_rOList : Nat) (b_rOFacts : Nat) (b_rListIn : Nat) (b_rSOwner : Nat) (b_rHFacts : Nat) (b_rWeights : Nat) (b_opKind : Nat) (b_opFrom : Nat) (b_opWord : Nat) (b_opOwner : Nat) (b_opList : Nat) (b_opItems : Nat) (b_out : Nat) (b_ranks : Nat) (v_tapeSize : Int32) (v_thrown : Int32) (v_fault : Int32) (v_faultPlace : Int32) (v_things : Int32) (v_options : Int32) (v_lists : Int32) (v_sentences : Int32) (v_headings : Int32) (v_words : Int32) (v_factBits : Int32) (v_known : Int32) (v_soundMany : Int32) (v_wholeLength : Int32) (v_next : Int32) (v_end : Int32) (v_rThings : Int32) (v_rOptions : Int32) (v_rLists : Int32) (v_rSentences : Int32) (v_rHeadings : Int32) (v_lastName : Int32) (v_inSentence : Int32) (v_open : Int32) (v_written : Int32) (v_named : Int32) (v_sorted : Int32) (f0 : Nat → Int32) (f1 : Nat → Int32) (f2 : Nat → Int32) (f3 : Nat → Int32) (f4 : Nat → Int32) (x0 : Int32) (x1 : Int32) (x2 : Int32) (x3 : Int32) (h0 : 0 ≤ v_rThings.toInt) (h1 : v_rThings.toInt < 900) : Met l yX10_put wsX10_put ({ frames := 0, cells := 0, slots := 0, locals := 0 }) (q1_P D c [(a0, .inr (10, [.ref b_tape, .int v_tapeSize, .int v_thrown, .int v_fault, .int v_faultPlace, .int v_things, .ref b_kind, .ref b_owner, .ref b_from, .ref b_size, .ref b_means, .ref b_signs, .int v_options, .ref b_oKind, .ref b_oIn, .ref b_oList, .ref b_oWords, .ref b_oFacts, .int v_lists, .ref b_listIn, .int v_sentences, .ref b_sOwner, .int v_headings, .ref b_hFacts, .int v_words, .ref b_weights, .int v_factBits, .int v_known, .ref b_lengths, .ref b_values, .int v_soundMany, .int v_wholeLength, .int v_next, .int v_end, .int v_rThings, .ref b_rKind, .ref b_rOwner, .ref b_rFrom, .ref b_rSize, .ref b_rMeans, .int v_rOptions, .ref b_rOKind, .ref b_rOIn, .ref b_rOList, .ref b_rOFacts, .int v_rLists, .ref b_rListIn, .int v_rSentences, .ref b_rSOwner, .int v_rHeadings, .ref b_rHFacts, .ref b_rWeights, .int v_lastName, .int v_inSentence, .int v_open, .ref b_opKind, .ref b_opFrom, .ref b_opWord, .ref b_opOwner, .ref b_opList, .ref b_opItems, .ref b_out, .int v_written, .int v_named, .int v_sorted, .ref b_ranks])), (b_rKind, .inl (c 0, 900, .inl (f0))), (b_rOwner, .inl (c 0, 900, .inl (f1))), (b_rFrom, .inl (c 0, 900, .inl (f2))), (b_rSize, .inl (c 0, 900, .inl (f3))), (b_rMeans, .inl (c 0, 900, .inl (f4)))] sz [.ref a0, .int x0, .int x1, .int x2, .int x3]) (q2_v D [(a0, .inr (10, [.ref b_tape, .int v_tapeSize, .int v_thrown, .int v_fault, .int v_faultPlace, .int v_things, .ref b_kind, .ref b_owner, .ref b_from, .ref b_size, .ref b_means, .ref b_signs, .int v_options, .ref b_oKind, .ref b_oIn, .ref b_oList, .ref b_oWords, .ref b_oFacts, .int v_lists, .ref b_listIn, .int v_sentences, .ref b_sOwner, .int v_headings, .ref b_hFacts, .int v_words, .ref b_weights, .int v_factBits, .int v_known, .ref b_lengths, .ref b_values, .int v_soundMany, .int v_wholeLength, .int v_next, .int v_end, .int v_rThings, .ref b_rKind, .ref b_rOwner, .ref b_rFrom, .ref b_rSize, .ref b_rMeans, .int v_rOptions, .ref b_rOKind, .ref b_rOIn, .ref b_rOList, .ref b_rOFacts, .int v_rLists, .ref b_rListIn, .int v_rSentences, .ref b_rSOwner, .int v_rHeadings, .ref b_rHFacts, .ref b_rWeights, .int v_lastName, .int v_inSentence, .int v_open, .ref b_opKind, .ref b_opFrom, .ref b_opWord, .ref b_opOwner, .ref b_opList, .ref b_opItems, .ref b_out, .int v_written, .int v_named, .int v_sorted, .ref b_ranks])), (b_rKind, .inl (c 0, 900, .inl (f0))), (b_rOwner, .inl (c 0, 900, .inl (f1))), (b_rFrom, .inl (c 0, 900, .inl (f2))), (b_rSize, .inl (c 0, 900, .inl (f3))), (b_rMeans, .inl (c 0, 900, .inl (f4)))] sz (fun u => (u.2.1 0).toInt = v_rThings.toInt + 1) (fun u => [(a0, .inr (10, [.ref b_tape, .int v_tapeSize, .int v_thrown, .int v_fault, .int v_faultPlace, .int v_things, .ref b_kind, .ref b_owner, .ref b_from, .ref b_size, .ref b_means, .ref b_signs, .int v_options, .ref b_oKind, .ref b_oIn, .ref b_oList, .ref b_oWords, .ref b_oFacts, .int v_lists, .ref b_listIn, .int v_sentences, .ref b_sOwner, .int v_headings, .ref b_hFacts, .int v_words, .ref b_weights, .int v_factBits, .int v_known, .ref b_lengths, .ref b_values, .int v_soundMany, .int v_wholeLength, .int v_next, .int v_end, .int (u.2.1 0), .ref b_rKind, .ref b_rOwner, .ref b_rFrom, .ref b_rSize, .ref b_rMeans, .int v_rOptions, .ref b_rOKind, .ref b_rOIn, .ref b_rOList, .ref b_rOFacts, .int v_rLists, .ref b_rListIn, .int v_rSentences, .ref b_rSOwner, .int v_rHeadings, .ref b_rHFacts, .ref b_rWeights, .int v_lastName, .int v_inSentence, .int v_open, .ref b_opKind, .ref b_opFrom, .ref b_opWord, .ref b_opOwner, .ref b_opList, .ref b_opItems, .ref b_out, .int v_written, .int v_named, .int v_sorted, .ref b_ranks])), (b_rKind, .inl (c 0, 900, .inl (u.2.2 0))), (b_rOwner, .inl (c 0, 900, .inl (u.2.2 1))), (b_rFrom, .inl (c 0, 900, .inl (u.2.2 2))), (b_rSize, .inl (c 0, 900, .inl (u.2.2 3))), (b_rMeans, .inl (c 0, 900, .inl (u.2.2 4)))])) 0 0 (va_A [(a0, .inr (10, [.ref b_tape, .int v_tapeSize, .int v_thrown, .int v_fault, .int v_faultPlace, .int v_things, .ref b_kind, .ref b_owner, .ref b_from, .ref b_size, .ref b_means, .ref b_signs, .int v_options, .ref b_oKind, .ref b_oIn, .ref b_oList, .ref b_oWords, .ref b_oFacts, .int v_lists, .ref b_listIn, .int v_sentences, .ref b_sOwner, .int v_headings, .ref b_hFacts, .int v_words, .ref b_weights, .int v_factBits, .int v_known, .ref b_lengths, .ref b_values, .int v_soundMany, .int v_wholeLength, .int v_next, .int v_end, .int v_rThings, .ref b_rKind, .ref b_rOwner, .ref b_rFrom, .ref b_rSize, .ref b_rMeans, .int v_rOptions, .ref b_rOKind, .ref b_rOIn, .ref b_rOList, .ref b_rOFacts, .int v_rLists, .ref b_rListIn, .int v_rSentences, .ref b_rSOwner, .int v_rHeadings, .ref b_rHFacts, .ref b_rWeights, .int v_lastName, .int v_inSentence, .int v_open, .ref b_opKind, .ref b_opFrom, .ref b_opWord, .ref b_opOwner, .ref b_opList, .ref b_opItems, .ref b_out, .int v_written, .int v_named, .int v_sorted, .ref b_ranks])), (b_rKind, .inl (c 0, 900, .inl (f0))), (b_rOwner, .inl (c 0, 900, .inl (f1))), (b_rFrom, .inl (c 0, 900, .inl (f2))), (b_rSize, .inl (c 0, 900, .inl (f3))), (b_rMeans, .inl (c 0, 900, .inl (f4)))] sz) := by
  refine q2_of_v (cc := cX10_put) (maxL := 5) (by decide) rfl (Nat.le_of_ble_eq_true rfl) (fun p e s m args below meth cd A Q ls hx hb hml hown hts hin hA hS hP hD hK hN hl hret => ?_)
  have hown : s.vm.findClass RX10 = some m.cls := hown
  obtain ⟨H, eH⟩ : ∃ z, z = s.heap := ⟨_, rfl⟩
  have hP : va_P D vwCl [(a0, .inr (10, [.ref b_tape, .int v_tapeSize, .int v_thrown, .int v_fault, .int v_faultPlace, .int v_things, .ref b_kind, .ref b_owner, .ref b_from, .ref b_size, .ref b_means, .ref b_signs, .int v_options, .ref b_oKind, .ref b_oIn, .ref b_oList, .ref b_oWords, .ref b_oFacts, .int v_lists, .ref b_listIn, .int v_sentences, .ref b_sOwner, .int v_headings, .ref b_hFacts, .int v_words, .ref b_weights, .int v_factBits, .int v_known, .ref b_lengths, .ref b_values, .int v_soundMany, .int v_wholeLength, .int v_next, .int v_end, .int v_rThings, .ref b_rKind, .ref b_rOwner, .ref b_rFrom, .ref b_rSize, .ref b_rMeans, .int v_rOptions, .ref b_rOKind, .ref b_rOIn, .ref b_rOList, .ref b_rOFacts, .int v_rLists, .ref b_rListIn, .int v_rSentences, .ref b_rSOwner, .int v_rHeadings, .ref b_rHFacts, .ref b_rWeights, .int v_lastName, .int v_inSentence, .int v_open, .ref b_opKind, .ref b_opFrom, .ref b_opWord, .ref b_opOwner, .ref b_opList, .ref b_opItems, .ref b_out, .int v_written, .int v_named, .int v_sorted, .ref b_ranks])), (b_rKind, .inl (c 0, 900, .inl (f0))), (b_rOwner, .inl (c 0, 900, .inl (f1))), (b_rFrom, .inl (c 0, 900, .inl (f2))), (b_rSize, .inl (c 0, 900, .inl (f3))), (b_rMeans, .inl (c 0, 900, .inl (f4)))] H := by rw [eH]; exact hP
  have hS : va_S A s.heap H [] := by rw [eH]; exact hS
  rw [← eH]
  have iX10 : ∀ w ∈ wsX100, w ∈ wsX10_put := fun w h => List.mem_cons_of_mem _ (List.mem_append_right _ h)
  have hl : lv_has ls 5 [(0, .ref a0), (1, .int x0), (2, .int x1), (3, .int x2), (4, .int x3)] := hl
  refine lv_aload_n hx hb dX10_put_0 rfl (lv_at hl 0 rfl) ?_
  refine va_get (D := D) (ci := 10) (v := .ref b_rKind) (C := RX10) (T := TX10) (N := 66) hx hb hts iX10 hown hK hP 0 rfl rfl 35 (by decide) (hts (.fieldLink RX10 68 "ShortTellerModel" "rKind" "[I") (List.mem_of_getElem? (i := 1) rfl)) (fun _ h9 => h9) rfl dX10_put_1 ?_
  refine lv_aload_n hx hb dX10_put_4 rfl (lv_at hl 0 rfl) ?_
  refine va_get (D := D) (ci := 10) (v := .int v_rThings) (C := RX10) (T := TX10) (N := 66) hx hb hts iX10 hown hK hP 0 rfl rfl 34 (by decide) (hts (.fieldLink RX10 158 "ShortTellerModel" "rThings" "I") (List.mem_of_getElem? (i := 2) rfl)) (fun _ h9 => h9) rfl dX10_put_5 ?_
  refine lv_iload_n hx hb dX10_put_8 rfl (lv_at hl 1 rfl) ?_
  refine va_iast hx hb hK hP hD hS 1 0 rfl rfl (q2_in (by omega) (by omega)) dX10_put_9 (fun H locs hP hD hS => ?_)
  have hP : va_P D vwCl [(a0, .inr (10, [.ref b_tape, .int v_tapeSize, .int v_thrown, .int v_fault, .int v_faultPlace, .int v_things, .ref b_kind, .ref b_owner, .ref b_from, .ref b_size, .ref b_means, .ref b_signs, .int v_options, .ref b_oKind, .ref b_oIn, .ref b_oList, .ref b_oWords, .ref b_oFacts, .int v_lists, .ref b_listIn, .int v_sentences, .ref b_sOwner, .int v_headings, .ref b_hFacts, .int v_words, .ref b_weights, .int v_factBits, .int v_known, .ref b_lengths, .ref b_values, .int v_soundMany, .int v_wholeLength, .int v_next, .int v_end, .int v_rThings, .ref b_rKind, .ref b_rOwner, .ref b_rFrom, .ref b_rSize, .ref b_rMeans, .int v_rOptions, .ref b_rOKind, .ref b_rOIn, .ref b_rOList, .ref b_rOFacts, .int v_rLists, .ref b_rListIn, .int v_rSentences, .ref b_rSOwner, .int v_rHeadings, .ref b_rHFacts, .ref b_rWeights, .int v_lastName, .int v_inSentence, .int v_open, .ref b_opKind, .ref b_opFrom, .ref b_opWord, .ref b_opOwner, .ref b_opList, .ref b_opItems, .ref b_out, .int v_written, .int v_named, .int v_sorted, .ref b_ranks])), (b_rKind, .inl (c 0, 900, .inl (upd (f0) v_rThings.toNatClampNeg (x0)))), (b_rOwner, .inl (c 0, 900, .inl (f1))), (b_rFrom, .inl (c 0, 900, .inl (f2))), (b_rSize, .inl (c 0, 900, .inl (f3))), (b_rMeans, .inl (c 0, 900, .inl (f4)))] H := hP
  have hD : va_D A [(a0, .inr (10, [.ref b_tape, .int v_tapeSize, .int v_thrown, .int v_fault, .int v_faultPlace, .int v_things, .ref b_kind, .ref b_owner, .ref b_from, .ref b_size, .ref b_means, .ref b_signs, .int v_options, .ref b_oKind, .ref b_oIn, .ref b_oList, .ref b_oWords, .ref b_oFacts, .int v_lists, .ref b_listIn, .int v_sentences, .ref b_sOwner, .int v_headings, .ref b_hFacts, .int v_words, .ref b_weights, .int v_factBits, .int v_known, .ref b_lengths, .ref b_values, .int v_soundMany, .int v_wholeLength, .int v_next, .int v_end, .int v_rThings, .ref b_rKind, .ref b_rOwner, .ref b_rFrom, .ref b_rSize, .ref b_rMeans, .int v_rOptions, .ref b_rOKind, .ref b_rOIn, .ref b_rOList, .ref b_rOFacts, .int v_rLists, .ref b_rListIn, .int v_rSentences, .ref b_rSOwner, .int v_rHeadings, .ref b_rHFacts, .ref b_rWeights, .int v_lastName, .int v_inSentence, .int v_open, .ref b_opKind, .ref b_opFrom, .ref b_opWord, .ref b_opOwner, .ref b_opList, .ref b_opItems, .ref b_out, .int v_written, .int v_named, .int v_sorted, .ref b_ranks])), (b_rKind, .inl (c 0, 900, .inl (upd (f0) v_rThings.toNatClampNeg (x0)))), (b_rOwner, .inl (c 0, 900, .inl (f1))), (b_rFrom, .inl (c 0, 900, .inl (f2))), (b_rSize, .inl (c 0, 900, .inl (f3))), (b_rMeans, .inl (c 0, 900, .inl (f4)))] := hD
  obtain ⟨F1, eF1⟩ : ∃ z : Nat → Int32, z = upd (f0) v_rThings.toNatClampNeg (x0) := ⟨_, rfl⟩
  rw [← eF1] at hP hD
  clear eF1
  refine lv_aload_n hx hb dX10_put_10 rfl (lv_at hl 0 rfl) ?_
  refine va_get (D := D) (ci := 10) (v := .ref b_rOwner) (C := RX10) (T := TX10) (N := 66) hx hb hts iX10 hown hK hP 0 rfl rfl 36 (by decide) (hts (.fieldLink RX10 71 "ShortTellerModel" "rOwner" "[I") (List.mem_of_getElem? (i := 3) rfl)) (fun _ h9 => h9) rfl dX10_put_11 ?_
  refine lv_aload_n hx hb dX10_put_14 rfl (lv_at hl 0 rfl) ?_
  refine va_get (D := D) (ci := 10) (v := .int v_rThings) (C := RX10) (T := TX10) (N := 66) hx hb hts iX10 hown hK hP 0 rfl rfl 34 (by decide) (hts (.fieldLink RX10 158 "ShortTellerModel" "rThings" "I") (List.mem_of_getElem? (i := 2) rfl)) (fun _ h9 => h9) rfl dX10_put_15 ?_
  refine lv_iload_n hx hb dX10_put_18 rfl (lv_at hl 2 rfl) ?_
  refine va_iast hx hb hK hP hD hS 2 0 rfl rfl (q2_in (by omega) (by omega)) dX10_put_19 (fun H locs hP hD hS => ?_)
  have hP : va_P D vwCl [(a0, .inr (10, [.ref b_tape, .int v_tapeSize, .int v_thrown, .int v_fault, .int v_faultPlace, .int v_things, .ref b_kind, .ref b_owner, .ref b_from, .ref b_size, .ref b_means, .ref b_signs, .int v_options, .ref b_oKind, .ref b_oIn, .ref b_oList, .ref b_oWords, .ref b_oFacts, .int v_lists, .ref b_listIn, .int v_sentences, .ref b_sOwner, .int v_headings, .ref b_hFacts, .int v_words, .ref b_weights, .int v_factBits, .int v_known, .ref b_lengths, .ref b_values, .int v_soundMany, .int v_wholeLength, .int v_next, .int v_end, .int v_rThings, .ref b_rKind, .ref b_rOwner, .ref b_rFrom, .ref b_rSize, .ref b_rMeans, .int v_rOptions, .ref b_rOKind, .ref b_rOIn, .ref b_rOList, .ref b_rOFacts, .int v_rLists, .ref b_rListIn, .int v_rSentences, .ref b_rSOwner, .int v_rHeadings, .ref b_rHFacts, .ref b_rWeights, .int v_lastName, .int v_inSentence, .int v_open, .ref b_opKind, .ref b_opFrom, .ref b_opWord, .ref b_opOwner, .ref b_opList, .ref b_opItems, .ref b_out, .int v_written, .int v_named, .int v_sorted, .ref b_ranks])), (b_rKind, .inl (c 0, 900, .inl (F1))), (b_rOwner, .inl (c 0, 900, .inl (upd (f1) v_rThings.toNatClampNeg (x1)))), (b_rFrom, .inl (c 0, 900, .inl (f2))), (b_rSize, .inl (c 0, 900, .inl (f3))), (b_rMeans, .inl (c 0, 900, .inl (f4)))] H := hP
  have hD : va_D A [(a0, .inr (10, [.ref b_tape, .int v_tapeSize, .int v_thrown, .int v_fault, .int v_faultPlace, .int v_things, .ref b_kind, .ref b_owner, .ref b_from, .ref b_size, .ref b_means, .ref b_signs, .int v_options, .ref b_oKind, .ref b_oIn, .ref b_oList, .ref b_oWords, .ref b_oFacts, .int v_lists, .ref b_listIn, .int v_sentences, .ref b_sOwner, .int v_headings, .ref b_hFacts, .int v_words, .ref b_weights, .int v_factBits, .int v_known, .ref b_lengths, .ref b_values, .int v_soundMany, .int v_wholeLength, .int v_next, .int v_end, .int v_rThings, .ref b_rKind, .ref b_rOwner, .ref b_rFrom, .ref b_rSize, .ref b_rMeans, .int v_rOptions, .ref b_rOKind, .ref b_rOIn, .ref b_rOList, .ref b_rOFacts, .int v_rLists, .ref b_rListIn, .int v_rSentences, .ref b_rSOwner, .int v_rHeadings, .ref b_rHFacts, .ref b_rWeights, .int v_lastName, .int v_inSentence, .int v_open, .ref b_opKind, .ref b_opFrom, .ref b_opWord, .ref b_opOwner, .ref b_opList, .ref b_opItems, .ref b_out, .int v_written, .int v_named, .int v_sorted, .ref b_ranks])), (b_rKind, .inl (c 0, 900, .inl (F1))), (b_rOwner, .inl (c 0, 900, .inl (upd (f1) v_rThings.toNatClampNeg (x1)))), (b_rFrom, .inl (c 0, 900, .inl (f2))), (b_rSize, .inl (c 0, 900, .inl (f3))), (b_rMeans, .inl (c 0, 900, .inl (f4)))] := hD
  obtain ⟨F2, eF2⟩ : ∃ z : Nat → Int32, z = upd (f1) v_rThings.toNatClampNeg (x1) := ⟨_, rfl⟩
  rw [← eF2] at hP hD
  clear eF2
  refine lv_aload_n hx hb dX10_put_20 rfl (lv_at hl 0 rfl) ?_
  refine va_get (D := D) (ci := 10) (v := .ref b_rFrom) (C := RX10) (T := TX10) (N := 66) hx hb hts iX10 hown hK hP 0 rfl rfl 37 (by decide) (hts (.fieldLink RX10 74 "ShortTellerModel" "rFrom" "[I") (List.mem_of_getElem? (i := 4) rfl)) (fun _ h9 => h9) rfl dX10_put_21 ?_
  refine lv_aload_n hx hb dX10_put_24 rfl (lv_at hl 0 rfl) ?_
  refine va_get (D := D) (ci := 10) (v := .int v_rThings) (C := RX10) (T := TX10) (N := 66) hx hb hts iX10 hown hK hP 0 rfl rfl 34 (by decide) (hts (.fieldLink RX10 158 "ShortTellerModel" "rThings" "I") (List.mem_of_getElem? (i := 2) rfl)) (fun _ h9 => h9) rfl dX10_put_25 ?_
  refine lv_iload_n hx hb dX10_put_28 rfl (lv_at hl 3 rfl) ?_
  refine va_iast hx hb hK hP hD hS 3 0 rfl rfl (q2_in (by omega) (by omega)) dX10_put_29 (fun H locs hP hD hS => ?_)
  have hP : va_P D vwCl [(a0, .inr (10, [.ref b_tape, .int v_tapeSize, .int v_thrown, .int v_fault, .int v_faultPlace, .int v_things, .ref b_kind, .ref b_owner, .ref b_from, .ref b_size, .ref b_means, .ref b_signs, .int v_options, .ref b_oKind, .ref b_oIn, .ref b_oList, .ref b_oWords, .ref b_oFacts, .int v_lists, .ref b_listIn, .int v_sentences, .ref b_sOwner, .int v_headings, .ref b_hFacts, .int v_words, .ref b_weights, .int v_factBits, .int v_known, .ref b_lengths, .ref b_values, .int v_soundMany, .int v_wholeLength, .int v_next, .int v_end, .int v_rThings, .ref b_rKind, .ref b_rOwner, .ref b_rFrom, .ref b_rSize, .ref b_rMeans, .int v_rOptions, .ref b_rOKind, .ref b_rOIn, .ref b_rOList, .ref b_rOFacts, .int v_rLists, .ref b_rListIn, .int v_rSentences, .ref b_rSOwner, .int v_rHeadings, .ref b_rHFacts, .ref b_rWeights, .int v_lastName, .int v_inSentence, .int v_open, .ref b_opKind, .ref b_opFrom, .ref b_opWord, .ref b_opOwner, .ref b_opList, .ref b_opItems, .ref b_out, .int v_written, .int v_named, .int v_sorted, .ref b_ranks])), (b_rKind, .inl (c 0, 900, .inl (F1))), (b_rOwner, .inl (c 0, 900, .inl (F2))), (b_rFrom, .inl (c 0, 900, .inl (upd (f2) v_rThings.toNatClampNeg (x2)))), (b_rSize, .inl (c 0, 900, .inl (f3))), (b_rMeans, .inl (c 0, 900, .inl (f4)))] H := hP
  have hD : va_D A [(a0, .inr (10, [.ref b_tape, .int v_tapeSize, .int v_thrown, .int v_fault, .int v_faultPlace, .int v_things, .ref b_kind, .ref b_owner, .ref b_from, .ref b_size, .ref b_means, .ref b_signs, .int v_options, .ref b_oKind, .ref b_oIn, .ref b_oList, .ref b_oWords, .ref b_oFacts, .int v_lists, .ref b_listIn, .int v_sentences, .ref b_sOwner, .int v_headings, .ref b_hFacts, .int v_words, .ref b_weights, .int v_factBits, .int v_known, .ref b_lengths, .ref b_values, .int v_soundMany, .int v_wholeLength, .int v_next, .int v_end, .int v_rThings, .ref b_rKind, .ref b_rOwner, .ref b_rFrom, .ref b_rSize, .ref b_rMeans, .int v_rOptions, .ref b_rOKind, .ref b_rOIn, .ref b_rOList, .ref b_rOFacts, .int v_rLists, .ref b_rListIn, .int v_rSentences, .ref b_rSOwner, .int v_rHeadings, .ref b_rHFacts, .ref b_rWeights, .int v_lastName, .int v_inSentence, .int v_open, .ref b_opKind, .ref b_opFrom, .ref b_opWord, .ref b_opOwner, .ref b_opList, .ref b_opItems, .ref b_out, .int v_written, .int v_named, .int v_sorted, .ref b_ranks])), (b_rKind, .inl (c 0, 900, .inl (F1))), (b_rOwner, .inl (c 0, 900, .inl (F2))), (b_rFrom, .inl (c 0, 900, .inl (upd (f2) v_rThings.toNatClampNeg (x2)))), (b_rSize, .inl (c 0, 900, .inl (f3))), (b_rMeans, .inl (c 0, 900, .inl (f4)))] := hD
  obtain ⟨F3, eF3⟩ : ∃ z : Nat → Int32, z = upd (f2) v_rThings.toNatClampNeg (x2) := ⟨_, rfl⟩
  rw [← eF3] at hP hD
  clear eF3
  refine lv_aload_n hx hb dX10_put_30 rfl (lv_at hl 0 rfl) ?_
  refine va_get (D := D) (ci := 10) (v := .ref b_rSize) (C := RX10) (T := TX10) (N := 66) hx hb hts iX10 hown hK hP 0 rfl rfl 38 (by decide) (hts (.fieldLink RX10 77 "ShortTellerModel" "rSize" "[I") (List.mem_of_getElem? (i := 5) rfl)) (fun _ h9 => h9) rfl dX10_put_31 ?_
  refine lv_aload_n hx hb dX10_put_34 rfl (lv_at hl 0 rfl) ?_
  refine va_get (D := D) (ci := 10) (v := .int v_rThings) (C := RX10) (T := TX10) (N := 66) hx hb hts iX10 hown hK hP 0 rfl rfl 34 (by decide) (hts (.fieldLink RX10 158 "ShortTellerModel" "rThings" "I") (List.mem_of_getElem? (i := 2) rfl)) (fun _ h9 => h9) rfl dX10_put_35 ?_
  refine lv_iload hx hb dX10_put_38 (lv_at hl 4 rfl) ?_
  refine va_iast hx hb hK hP hD hS 4 0 rfl rfl (q2_in (by omega) (by omega)) dX10_put_40 (fun H locs hP hD hS => ?_)
  have hP : va_P D vwCl [(a0, .inr (10, [.ref b_tape, .int v_tapeSize, .int v_thrown, .int v_fault, .int v_faultPlace, .int v_things, .ref b_kind, .ref b_owner, .ref b_from, .ref b_size, .ref b_means, .ref b_signs, .int v_options, .ref b_oKind, .ref b_oIn, .ref b_oList, .ref b_oWords, .ref b_oFacts, .int v_lists, .ref b_listIn, .int v_sentences, .ref b_sOwner, .int v_headings, .ref b_hFacts, .int v_words, .ref b_weights, .int v_factBits, .int v_known, .ref b_lengths, .ref b_values, .int v_soundMany, .int v_wholeLength, .int v_next, .int v_end, .int v_rThings, .ref b_rKind, .ref b_rOwner, .ref b_rFrom, .ref b_rSize, .ref b_rMeans, .int v_rOptions, .ref b_rOKind, .ref b_rOIn, .ref b_rOList, .ref b_rOFacts, .int v_rLists, .ref b_rListIn, .int v_rSentences, .ref b_rSOwner, .int v_rHeadings, .ref b_rHFacts, .ref b_rWeights, .int v_lastName, .int v_inSentence, .int v_open, .ref b_opKind, .ref b_opFrom, .ref b_opWord, .ref b_opOwner, .ref b_opList, .ref b_opItems, .ref b_out, .int v_written, .int v_named, .int v_sorted, .ref b_ranks])), (b_rKind, .inl (c 0, 900, .inl (F1))), (b_rOwner, .inl (c 0, 900, .inl (F2))), (b_rFrom, .inl (c 0, 900, .inl (F3))), (b_rSize, .inl (c 0, 900, .inl (upd (f3) v_rThings.toNatClampNeg (x3)))), (b_rMeans, .inl (c 0, 900, .inl (f4)))] H := hP
  have hD : va_D A [(a0, .inr (10, [.ref b_tape, .int v_tapeSize, .int v_thrown, .int v_fault, .int v_faultPlace, .int v_things, .ref b_kind, .ref b_owner, .ref b_from, .ref b_size, .ref b_means, .ref b_signs, .int v_options, .ref b_oKind, .ref b_oIn, .ref b_oList, .ref b_oWords, .ref b_oFacts, .int v_lists, .ref b_listIn, .int v_sentences, .ref b_sOwner, .int v_headings, .ref b_hFacts, .int v_words, .ref b_weights, .int v_factBits, .int v_known, .ref b_lengths, .ref b_values, .int v_soundMany, .int v_wholeLength, .int v_next, .int v_end, .int v_rThings, .ref b_rKind, .ref b_rOwner, .ref b_rFrom, .ref b_rSize, .ref b_rMeans, .int v_rOptions, .ref b_rOKind, .ref b_rOIn, .ref b_rOList, .ref b_rOFacts, .int v_rLists, .ref b_rListIn, .int v_rSentences, .ref b_rSOwner, .int v_rHeadings, .ref b_rHFacts, .ref b_rWeights, .int v_lastName, .int v_inSentence, .int v_open, .ref b_opKind, .ref b_opFrom, .ref b_opWord, .ref b_opOwner, .ref b_opList, .ref b_opItems, .ref b_out, .int v_written, .int v_named, .int v_sorted, .ref b_ranks])), (b_rKind, .inl (c 0, 900, .inl (F1))), (b_rOwner, .inl (c 0, 900, .inl (F2))), (b_rFrom, .inl (c 0, 900, .inl (F3))), (b_rSize, .inl (c 0, 900, .inl (upd (f3) v_rThings.toNatClampNeg (x3)))), (b_rMeans, .inl (c 0, 900, .inl (f4)))] := hD
  obtain ⟨F4, eF4⟩ : ∃ z : Nat → Int32, z = upd (f3) v_rThings.toNatClampNeg (x3) := ⟨_, rfl⟩
  rw [← eF4] at hP hD
  clear eF4
  refine lv_aload_n hx hb dX10_put_41 rfl (lv_at hl 0 rfl) ?_
  refine va_get (D := D) (ci := 10) (v := .ref b_rMeans) (C := RX10) (T := TX10) (N := 66) hx hb hts iX10 hown hK hP 0 rfl rfl 39 (by decide) (hts (.fieldLink RX10 80 "ShortTellerModel" "rMeans" "[I") (List.mem_of_getElem? (i := 6) rfl)) (fun _ h9 => h9) rfl dX10_put_42 ?_
  refine lv_aload_n hx hb dX10_put_45 rfl (lv_at hl 0 rfl) ?_
  refine va_get (D := D) (ci := 10) (v := .int v_rThings) (C := RX10) (T := TX10) (N := 66) hx hb hts iX10 hown hK hP 0 rfl rfl 34 (by decide) (hts (.fieldLink RX10 158 "ShortTellerModel" "rThings" "I") (List.mem_of_getElem? (i := 2) rfl)) (fun _ h9 => h9) rfl dX10_put_46 ?_
  refine lv_aload_n hx hb dX10_put_49 rfl (lv_at hl 0 rfl) ?_
  refine va_get (D := D) (ci := 10) (v := .int v_lastName) (C := RX10) (T := TX10) (N := 66) hx hb hts iX10 hown hK hP 0 rfl rfl 52 (by decide) (hts (.fieldLink RX10 161 "ShortTellerModel" "lastName" "I") (List.mem_of_getElem? (i := 7) rfl)) (fun _ h9 => h9) rfl dX10_put_50 ?_
  refine va_iast hx hb hK hP hD hS 5 0 rfl rfl (q2_in (by omega) (by omega)) dX10_put_53 (fun H locs hP hD hS => ?_)
  have hP : va_P D vwCl [(a0, .inr (10, [.ref b_tape, .int v_tapeSize, .int v_thrown, .int v_fault, .int v_faultPlace, .int v_things, .ref b_kind, .ref b_owner, .ref b_from, .ref b_size, .ref b_means, .ref b_signs, .int v_options, .ref b_oKind, .ref b_oIn, .ref b_oList, .ref b_oWords, .ref b_oFacts, .int v_lists, .ref b_listIn, .int v_sentences, .ref b_sOwner, .int v_headings, .ref b_hFacts, .int v_words, .ref b_weights, .int v_factBits, .int v_known, .ref b_lengths, .ref b_values, .int v_soundMany, .int v_wholeLength, .int v_next, .int v_end, .int v_rThings, .ref b_rKind, .ref b_rOwner, .ref b_rFrom, .ref b_rSize, .ref b_rMeans, .int v_rOptions, .ref b_rOKind, .ref b_rOIn, .ref b_rOList, .ref b_rOFacts, .int v_rLists, .ref b_rListIn, .int v_rSentences, .ref b_rSOwner, .int v_rHeadings, .ref b_rHFacts, .ref b_rWeights, .int v_lastName, .int v_inSentence, .int v_open, .ref b_opKind, .ref b_opFrom, .ref b_opWord, .ref b_opOwner, .ref b_opList, .ref b_opItems, .ref b_out, .int v_written, .int v_named, .int v_sorted, .ref b_ranks])), (b_rKind, .inl (c 0, 900, .inl (F1))), (b_rOwner, .inl (c 0, 900, .inl (F2))), (b_rFrom, .inl (c 0, 900, .inl (F3))), (b_rSize, .inl (c 0, 900, .inl (F4))), (b_rMeans, .inl (c 0, 900, .inl (upd (f4) v_rThings.toNatClampNeg (v_lastName))))] H := hP
  have hD : va_D A [(a0, .inr (10, [.ref b_tape, .int v_tapeSize, .int v_thrown, .int v_fault, .int v_faultPlace, .int v_things, .ref b_kind, .ref b_owner, .ref b_from, .ref b_size, .ref b_means, .ref b_signs, .int v_options, .ref b_oKind, .ref b_oIn, .ref b_oList, .ref b_oWords, .ref b_oFacts, .int v_lists, .ref b_listIn, .int v_sentences, .ref b_sOwner, .int v_headings, .ref b_hFacts, .int v_words, .ref b_weights, .int v_factBits, .int v_known, .ref b_lengths, .ref b_values, .int v_soundMany, .int v_wholeLength, .int v_next, .int v_end, .int v_rThings, .ref b_rKind, .ref b_rOwner, .ref b_rFrom, .ref b_rSize, .ref b_rMeans, .int v_rOptions, .ref b_rOKind, .ref b_rOIn, .ref b_rOList, .ref b_rOFacts, .int v_rLists, .ref b_rListIn, .int v_rSentences, .ref b_rSOwner, .int v_rHeadings, .ref b_rHFacts, .ref b_rWeights, .int v_lastName, .int v_inSentence, .int v_open, .ref b_opKind, .ref b_opFrom, .ref b_opWord, .ref b_opOwner, .ref b_opList, .ref b_opItems, .ref b_out, .int v_written, .int v_named, .int v_sorted, .ref b_ranks])), (b_rKind, .inl (c 0, 900, .inl (F1))), (b_rOwner, .inl (c 0, 900, .inl (F2))), (b_rFrom, .inl (c 0, 900, .inl (F3))), (b_rSize, .inl (c 0, 900, .inl (F4))), (b_rMeans, .inl (c 0, 900, .inl (upd (f4) v_rThings.toNatClampNeg (v_lastName))))] := hD
  obtain ⟨F5, eF5⟩ : ∃ z : Nat → Int32, z = upd (f4) v_rThings.toNatClampNeg (v_lastName) := ⟨_, rfl⟩
  rw [← eF5] at hP hD
  clear eF5
  refine lv_aload_n hx hb dX10_put_54 rfl (lv_at hl 0 rfl) ?_
  refine lv_dup hx hb dX10_put_55 rfl ?_
  refine va_get (D := D) (ci := 10) (v := .int v_rThings) (C := RX10) (T := TX10) (N := 66) hx hb hts iX10 hown hK hP 0 rfl rfl 34 (by decide) (hts (.fieldLink RX10 158 "ShortTellerModel" "rThings" "I") (List.mem_of_getElem? (i := 2) rfl)) (fun _ h9 => h9) rfl dX10_put_56 ?_
  refine lv_iconst (v := 1) hx hb dX10_put_59 (by decide) ?_
  refine lv_iadd hx hb dX10_put_60 ?_
  refine lv_topi (fun n6 en6 => ?_)
  have tn6 : n6.toInt = v_rThings.toInt + (1) := by rw [en6, fb_addI (by simp only [show (1 : Int32).toInt = 1 by decide]; omega) (by simp only [show (1 : Int32).toInt = 1 by decide]; omega)]; simp only [show (1 : Int32).toInt = 1 by decide] <;> omega
  refine va_put (D := D) (ci := 10) (v := .int n6) (ty := .int) (C := RX10) (T := TX10) (N := 66) hx hb hts iX10 tyX10 tyX10_ok nmX10 hown hK hP hD hS 0 rfl rfl 34 (by decide) (hts (.fieldLink RX10 158 "ShortTellerModel" "rThings" "I") (List.mem_of_getElem? (i := 2) rfl)) (fun _ h9 => h9) rfl (by decide +kernel) rfl rfl (Nat.le_of_ble_eq_true rfl) dX10_put_61 (fun H locs hP hD hS => ?_)
  have hP : va_P D vwCl [(a0, .inr (10, [.ref b_tape, .int v_tapeSize, .int v_thrown, .int v_fault, .int v_faultPlace, .int v_things, .ref b_kind, .ref b_owner, .ref b_from, .ref b_size, .ref b_means, .ref b_signs, .int v_options, .ref b_oKind, .ref b_oIn, .ref b_oList, .ref b_oWords, .ref b_oFacts, .int v_lists, .ref b_listIn, .int v_sentences, .ref b_sOwner, .int v_headings, .ref b_hFacts, .int v_words, .ref b_weights, .int v_factBits, .int v_known, .ref b_lengths, .ref b_values, .int v_soundMany, .int v_wholeLength, .int v_next, .int v_end, .int n6, .ref b_rKind, .ref b_rOwner, .ref b_rFrom, .ref b_rSize, .ref b_rMeans, .int v_rOptions, .ref b_rOKind, .ref b_rOIn, .ref b_rOList, .ref b_rOFacts, .int v_rLists, .ref b_rListIn, .int v_rSentences, .ref b_rSOwner, .int v_rHeadings, .ref b_rHFacts, .ref b_rWeights, .int v_lastName, .int v_inSentence, .int v_open, .ref b_opKind, .ref b_opFrom, .ref b_opWord, .ref b_opOwner, .ref b_opList, .ref b_opItems, .ref b_out, .int v_written, .int v_named, .int v_sorted, .ref b_ranks])), (b_rKind, .inl (c 0, 900, .inl (F1))), (b_rOwner, .inl (c 0, 900, .inl (F2))), (b_rFrom, .inl (c 0, 900, .inl (F3))), (b_rSize, .inl (c 0, 900, .inl (F4))), (b_rMeans, .inl (c 0, 900, .inl (F5)))] H := hP
  have hD : va_D A [(a0, .inr (10, [.ref b_tape, .int v_tapeSize, .int v_thrown, .int v_fault, .int v_faultPlace, .int v_things, .ref b_kind, .ref b_owner, .ref b_from, .ref b_size, .ref b_means, .ref b_signs, .int v_options, .ref b_oKind, .ref b_oIn, .ref b_oList, .ref b_oWords, .ref b_oFacts, .int v_lists, .ref b_listIn, .int v_sentences, .ref b_sOwner, .int v_headings, .ref b_hFacts, .int v_words, .ref b_weights, .int v_factBits, .int v_known, .ref b_lengths, .ref b_values, .int v_soundMany, .int v_wholeLength, .int v_next, .int v_end, .int n6, .ref b_rKind, .ref b_rOwner, .ref b_rFrom, .ref b_rSize, .ref b_rMeans, .int v_rOptions, .ref b_rOKind, .ref b_rOIn, .ref b_rOList, .ref b_rOFacts, .int v_rLists, .ref b_rListIn, .int v_rSentences, .ref b_rSOwner, .int v_rHeadings, .ref b_rHFacts, .ref b_rWeights, .int v_lastName, .int v_inSentence, .int v_open, .ref b_opKind, .ref b_opFrom, .ref b_opWord, .ref b_opOwner, .ref b_opList, .ref b_opItems, .ref b_out, .int v_written, .int v_named, .int v_sorted, .ref b_ranks])), (b_rKind, .inl (c 0, 900, .inl (F1))), (b_rOwner, .inl (c 0, 900, .inl (F2))), (b_rFrom, .inl (c 0, 900, .inl (F3))), (b_rSize, .inl (c 0, 900, .inl (F4))), (b_rMeans, .inl (c 0, 900, .inl (F5)))] := hD
  refine W.widen (k := 0) (n := 0) (Nat.zero_le _) (Nat.zero_le _) ?_
  exact hret (q2_u [] [n6] [F1, F2, F3, F4, F5]) _ _ _ _ (by show Int32.toInt (n6) = v_rThings.toInt + 1; omega) dX10_put_64 hP hD hS
