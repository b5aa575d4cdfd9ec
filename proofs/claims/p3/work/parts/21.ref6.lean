theorem dX10_ends_0 : decode cX10_ends 0 = .ok (.aload_n 0, 1) := by decide +kernel
theorem dX10_ends_1 : decode cX10_ends 1 = .ok (.dup, 1) := by decide +kernel
theorem dX10_ends_10 : decode cX10_ends 10 = .ok (.aload_n 0, 1) := by decide +kernel
theorem dX10_ends_11 : decode cX10_ends 11 = .ok (.getfield 113, 3) := by decide +kernel
theorem dX10_ends_14 : decode cX10_ends 14 = .ok (.aload_n 0, 1) := by decide +kernel
theorem dX10_ends_15 : decode cX10_ends 15 = .ok (.getfield 174, 3) := by decide +kernel
theorem dX10_ends_18 : decode cX10_ends 18 = .ok (.baload, 1) := by decide +kernel
theorem dX10_ends_19 : decode cX10_ends 19 = .ok (.ifCond .ne 18, 3) := by decide +kernel
theorem dX10_ends_2 : decode cX10_ends 2 = .ok (.getfield 174, 3) := by decide +kernel
theorem dX10_ends_22 : decode cX10_ends 22 = .ok (.aload_n 0, 1) := by decide +kernel
theorem dX10_ends_23 : decode cX10_ends 23 = .ok (.iconst 4, 1) := by decide +kernel
theorem dX10_ends_24 : decode cX10_ends 24 = .ok (.aload_n 0, 1) := by decide +kernel
theorem dX10_ends_25 : decode cX10_ends 25 = .ok (.getfield 110, 3) := by decide +kernel
theorem dX10_ends_28 : decode cX10_ends 28 = .ok (.aload_n 0, 1) := by decide +kernel
theorem dX10_ends_29 : decode cX10_ends 29 = .ok (.getfield 174, 3) := by decide +kernel
theorem dX10_ends_32 : decode cX10_ends 32 = .ok (.iaload, 1) := by decide +kernel
theorem dX10_ends_33 : decode cX10_ends 33 = .ok (.invokevirtual 167, 3) := by decide +kernel
theorem dX10_ends_36 : decode cX10_ends 36 = .ok (.ireturn, 1) := by decide +kernel
theorem dX10_ends_37 : decode cX10_ends 37 = .ok (.aload_n 0, 1) := by decide +kernel
theorem dX10_ends_38 : decode cX10_ends 38 = .ok (.getfield 107, 3) := by decide +kernel
theorem dX10_ends_41 : decode cX10_ends 41 = .ok (.aload_n 0, 1) := by decide +kernel
theorem dX10_ends_42 : decode cX10_ends 42 = .ok (.getfield 174, 3) := by decide +kernel
theorem dX10_ends_45 : decode cX10_ends 45 = .ok (.iaload, 1) := by decide +kernel
theorem dX10_ends_46 : decode cX10_ends 46 = .ok (.iconst 3, 1) := by decide +kernel
theorem dX10_ends_47 : decode cX10_ends 47 = .ok (.if_icmp .ne 15, 3) := by decide +kernel
theorem dX10_ends_5 : decode cX10_ends 5 = .ok (.iconst 1, 1) := by decide +kernel
theorem dX10_ends_50 : decode cX10_ends 50 = .ok (.aload_n 0, 1) := by decide +kernel
theorem dX10_ends_51 : decode cX10_ends 51 = .ok (.getfield 113, 3) := by decide +kernel
theorem dX10_ends_54 : decode cX10_ends 54 = .ok (.aload_n 0, 1) := by decide +kernel
theorem dX10_ends_55 : decode cX10_ends 55 = .ok (.getfield 174, 3) := by decide +kernel
theorem dX10_ends_58 : decode cX10_ends 58 = .ok (.iconst 1, 1) := by decide +kernel
theorem dX10_ends_59 : decode cX10_ends 59 = .ok (.isub, 1) := by decide +kernel
theorem dX10_ends_6 : decode cX10_ends 6 = .ok (.isub, 1) := by decide +kernel
theorem dX10_ends_60 : decode cX10_ends 60 = .ok (.iconst 1, 1) := by decide +kernel
theorem dX10_ends_61 : decode cX10_ends 61 = .ok (.bastore, 1) := by decide +kernel
theorem dX10_ends_62 : decode cX10_ends 62 = .ok (.iconst 1, 1) := by decide +kernel
theorem dX10_ends_63 : decode cX10_ends 63 = .ok (.ireturn, 1) := by decide +kernel
theorem dX10_ends_7 : decode cX10_ends 7 = .ok (.putfield 174, 3) := by decide +kernel
set_option maxRecDepth 20000 in
theorem ggX10_ends_X10_wrong : GoodIn wsX10_ends wsX10_wrong := goodIn_r _ [9, 10, 11, 12, 13, 14, 15, 16, 17, 18, 19, 20, 21, 22, 23, 24, 25, 26, 27, 28, 29, 30, 31, 32, 33, 34, 35, 36, 37, 38, 39, 40, 41, 42, 43, 44, 45, 46, 47, 48, 49, 50, 51, 52, 53, 54, 55, 56, 57, 58, 59, 60, 61, 62, 63, 64, 65, 66, 67, 68, 69, 70, 71, 72, 73, 74, 75, 76, 77] rfl (by decide +kernel)
set_option maxRecDepth 20000 in
theorem gX10_ends_X10_wrong : GoodIn wsX10_ends (wsV RX10 167 RX10 yX10_wrong wsX10_wrong) := goodIn_app (goodIn_of _ (by decide +kernel)) ggX10_ends_X10_wrong
set_option maxHeartbeats 4000000 in
set_option maxRecDepth 100000 in
theorem y3_ends (l : Launch) (D : va_G) (c : Nat → ClassId) (sz : Nat) (y : Nat) (a : Nat → Nat) (v_tapeSize v_thrown v_fault v_faultPlace v_things v_options v_lists v_sentences v_headings v_words v_factBits v_known v_soundMany v_wholeLength v_next v_end v_rThings v_rOptions v_rLists v_rSentences v_rHeadings v_lastName v_inSentence v_open v_written v_named v_sorted : Int32) (f_tape f_kind f_owner f_from f_size f_means f_signs f_oKind f_oIn f_oList f_oWords f_oFacts f_listIn f_sOwner f_hFacts f_weights f_lengths f_values f_rKind f_rOwner f_rFrom f_rSize f_rMeans f_rOKind f_rOIn f_rOList f_rOFacts f_rListIn f_rSOwner f_rHFacts f_rWeights f_opKind f_opFrom f_opWord f_opOwner f_opList f_opItems f_out f_ranks : Nat → Int32) (h0 : 1 ≤ v_open.toInt) (h1 : v_open.toInt ≤ 5) (h2 : (f_opKind 0).toInt = 1) (h3 : ∀ j : Nat, j < Int.toNat v_open.toInt → (f_opOwner j).toInt < v_rOptions.toInt) : Met l yX10_ends wsX10_ends ({ frames := 1, cells := 0, slots := 0, locals := 22 }) (q3_P D c (wM c y a v_tapeSize v_thrown v_fault v_faultPlace v_things v_options v_lists v_sentences v_headings v_words v_factBits v_known v_soundMany v_wholeLength v_next v_end v_rThings v_rOptions v_rLists v_rSentences v_rHeadings v_lastName v_inSentence v_open v_written v_named v_sorted f_tape f_kind f_owner f_from f_size f_means f_signs f_oKind f_oIn f_oList f_oWords f_oFacts f_listIn f_sOwner f_hFacts f_weights f_lengths f_values f_rKind f_rOwner f_rFrom f_rSize f_rMeans f_rOKind f_rOIn f_rOList f_rOFacts f_rListIn f_rSOwner f_rHFacts f_rWeights f_opKind f_opFrom f_opWord f_opOwner f_opList f_opItems f_out f_ranks) sz [.ref y]) (q2_i D (wM c y a v_tapeSize v_thrown v_fault v_faultPlace v_things v_options v_lists v_sentences v_headings v_words v_factBits v_known v_soundMany v_wholeLength v_next v_end v_rThings v_rOptions v_rLists v_rSentences v_rHeadings v_lastName v_inSentence v_open v_written v_named v_sorted f_tape f_kind f_owner f_from f_size f_means f_signs f_oKind f_oIn f_oList f_oWords f_oFacts f_listIn f_sOwner f_hFacts f_weights f_lengths f_values f_rKind f_rOwner f_rFrom f_rSize f_rMeans f_rOKind f_rOIn f_rOList f_rOFacts f_rListIn f_rSOwner f_rHFacts f_rWeights f_opKind f_opFrom f_opWord f_opOwner f_opList f_opItems f_out f_ranks) sz (fun r u => (r.toInt = 0 ∨ r.toInt = 1) ∧ ((u.2.1 0).toInt = v_open.toInt - 1) ∧ (∀ j : Nat, j < Int.toNat (u.2.1 0).toInt → (f_opOwner j).toInt < v_rOptions.toInt) ∧ True) (fun u => wM c y a v_tapeSize v_thrown (u.2.1 1) (u.2.1 2) v_things v_options v_lists v_sentences v_headings v_words v_factBits v_known v_soundMany v_wholeLength v_next v_end v_rThings v_rOptions v_rLists v_rSentences v_rHeadings v_lastName v_inSentence (u.2.1 0) v_written v_named v_sorted f_tape f_kind f_owner f_from f_size f_means f_signs f_oKind f_oIn f_oList f_oWords f_oFacts f_listIn f_sOwner f_hFacts f_weights f_lengths f_values f_rKind f_rOwner f_rFrom f_rSize f_rMeans f_rOKind f_rOIn f_rOList f_rOFacts f_rListIn f_rSOwner f_rHFacts f_rWeights f_opKind f_opFrom (u.2.2 0) f_opOwner f_opList f_opItems f_out f_ranks)) (0) (0) (va_A (wM c y a v_tapeSize v_thrown v_fault v_faultPlace v_things v_options v_lists v_sentences v_headings v_words v_factBits v_known v_soundMany v_wholeLength v_next v_end v_rThings v_rOptions v_rLists v_rSentences v_rHeadings v_lastName v_inSentence v_open v_written v_named v_sorted f_tape f_kind f_owner f_from f_size f_means f_signs f_oKind f_oIn f_oList f_oWords f_oFacts f_listIn f_sOwner f_hFacts f_weights f_lengths f_values f_rKind f_rOwner f_rFrom f_rSize f_rMeans f_rOKind f_rOIn f_rOList f_rOFacts f_rListIn f_rSOwner f_rHFacts f_rWeights f_opKind f_opFrom f_opWord f_opOwner f_opList f_opItems f_out f_ranks) sz) := by
  refine q3_of_i (ty := .boolean) (fun r u h => q3_nb h.1) (cc := cX10_ends) (maxL := 1) (by decide) rfl (Nat.le_of_ble_eq_true rfl) (fun p e s m args below meth cd A Q ls hx hb hml hown hts hA hS hP hD hK hl hret => ?_)
  have hown : s.vm.findClass RX10 = some m.cls := hown
  obtain ⟨H, eH⟩ : ∃ z, z = s.heap := ⟨_, rfl⟩
  have hP : va_P D vwCl (wM c y a v_tapeSize v_thrown v_fault v_faultPlace v_things v_options v_lists v_sentences v_headings v_words v_factBits v_known v_soundMany v_wholeLength v_next v_end v_rThings v_rOptions v_rLists v_rSentences v_rHeadings v_lastName v_inSentence v_open v_written v_named v_sorted f_tape f_kind f_owner f_from f_size f_means f_signs f_oKind f_oIn f_oList f_oWords f_oFacts f_listIn f_sOwner f_hFacts f_weights f_lengths f_values f_rKind f_rOwner f_rFrom f_rSize f_rMeans f_rOKind f_rOIn f_rOList f_rOFacts f_rListIn f_rSOwner f_rHFacts f_rWeights f_opKind f_opFrom f_opWord f_opOwner f_opList f_opItems f_out f_ranks) H := by rw [eH]; exact hP
  have hS : va_S A s.heap H [] := by rw [eH]; exact hS
  rw [← eH]
  have iX10 : ∀ w ∈ wsX100, w ∈ wsX10_ends := fun w h => List.mem_cons_of_mem _ (List.mem_append_right _ h)
  have hl : lv_has ls 1 [(0, .ref y)] := hl
  refine lv_aload_n hx hb dX10_ends_0 rfl (lv_at hl 0 rfl) ?_
  refine lv_dup hx hb dX10_ends_1 rfl ?_
  refine va_get (D := D) (ci := 10) (v := .int v_open) (C := RX10) (T := TX10) (N := 66) hx hb hts iX10 hown hK hP 0 rfl rfl 54 (by decide) (hts (.fieldLink RX10 174 "ShortTellerModel" "open" "I") (List.mem_of_getElem? (i := 1) rfl)) (fun _ h9 => h9) rfl dX10_ends_2 ?_
  refine lv_iconst (v := 1) hx hb dX10_ends_5 (by decide) ?_
  refine lv_isub hx hb dX10_ends_6 ?_
  refine lv_topi (fun n1 en1 => ?_)
  have tn1 : n1.toInt = v_open.toInt - (1 : Int) := q3_sub en1 rfl (by decide) (by omega) (by omega)
  refine va_put (D := D) (ci := 10) (v := .int n1) (ty := .int) (C := RX10) (T := TX10) (N := 66) hx hb hts iX10 tyX10 tyX10_ok nmX10 hown hK hP hD hS 0 rfl rfl 54 (by decide) (hts (.fieldLink RX10 174 "ShortTellerModel" "open" "I") (List.mem_of_getElem? (i := 1) rfl)) (fun _ h9 => h9) rfl (by decide +kernel) rfl rfl (Nat.le_of_ble_eq_true rfl) dX10_ends_7 (fun H locs hP hD hS => ?_)
  have hP : va_P D vwCl (wM c y a v_tapeSize v_thrown v_fault v_faultPlace v_things v_options v_lists v_sentences v_headings v_words v_factBits v_known v_soundMany v_wholeLength v_next v_end v_rThings v_rOptions v_rLists v_rSentences v_rHeadings v_lastName v_inSentence n1 v_written v_named v_sorted f_tape f_kind f_owner f_from f_size f_means f_signs f_oKind f_oIn f_oList f_oWords f_oFacts f_listIn f_sOwner f_hFacts f_weights f_lengths f_values f_rKind f_rOwner f_rFrom f_rSize f_rMeans f_rOKind f_rOIn f_rOList f_rOFacts f_rListIn f_rSOwner f_rHFacts f_rWeights f_opKind f_opFrom f_opWord f_opOwner f_opList f_opItems f_out f_ranks) H := hP
  have hD : va_D A (wM c y a v_tapeSize v_thrown v_fault v_faultPlace v_things v_options v_lists v_sentences v_headings v_words v_factBits v_known v_soundMany v_wholeLength v_next v_end v_rThings v_rOptions v_rLists v_rSentences v_rHeadings v_lastName v_inSentence n1 v_written v_named v_sorted f_tape f_kind f_owner f_from f_size f_means f_signs f_oKind f_oIn f_oList f_oWords f_oFacts f_listIn f_sOwner f_hFacts f_weights f_lengths f_values f_rKind f_rOwner f_rFrom f_rSize f_rMeans f_rOKind f_rOIn f_rOList f_rOFacts f_rListIn f_rSOwner f_rHFacts f_rWeights f_opKind f_opFrom f_opWord f_opOwner f_opList f_opItems f_out f_ranks) := hD
  have c2 : ∀ j : Nat, j < Int.toNat n1.toInt → (f_opOwner j).toInt < v_rOptions.toInt := q4_less (P := fun j => (f_opOwner j).toInt < v_rOptions.toInt) h3 (by omega)
  refine lv_aload_n hx hb dX10_ends_10 rfl (lv_at hl 0 rfl) ?_
  refine va_get (D := D) (ci := 10) (v := .ref (a 33)) (C := RX10) (T := TX10) (N := 66) hx hb hts iX10 hown hK hP 0 rfl rfl 57 (by decide) (hts (.fieldLink RX10 113 "ShortTellerModel" "opWord" "[Z") (List.mem_of_getElem? (i := 2) rfl)) (fun _ h9 => h9) rfl dX10_ends_11 ?_
  refine lv_aload_n hx hb dX10_ends_14 rfl (lv_at hl 0 rfl) ?_
  refine va_get (D := D) (ci := 10) (v := .int n1) (C := RX10) (T := TX10) (N := 66) hx hb hts iX10 hown hK hP 0 rfl rfl 54 (by decide) (hts (.fieldLink RX10 174 "ShortTellerModel" "open" "I") (List.mem_of_getElem? (i := 1) rfl)) (fun _ h9 => h9) rfl dX10_ends_15 ?_
  refine q3_zald (c := c) hx hb hK hP 34 rfl (q2_in (by omega) (by omega)) dX10_ends_18 (fun n3 en3 => ?_)
  have tn3 : n3.toInt = (f_opWord n1.toNatClampNeg).toInt := by rw [en3]
  refine lv_if_ne (tgt := 37) hx hb dX10_ends_19 (by decide) (fun g4 => ?_) (fun g4 => ?_)
  · have g4 : ¬ n3.toInt = (0 : Int) := (not_congr (q3_eq rfl (by decide))).mp g4
    refine lv_aload_n hx hb dX10_ends_37 rfl (lv_at hl 0 rfl) ?_
    refine va_get (D := D) (ci := 10) (v := .ref (a 31)) (C := RX10) (T := TX10) (N := 66) hx hb hts iX10 hown hK hP 0 rfl rfl 55 (by decide) (hts (.fieldLink RX10 107 "ShortTellerModel" "opKind" "[I") (List.mem_of_getElem? (i := 4) rfl)) (fun _ h9 => h9) rfl dX10_ends_38 ?_
    refine lv_aload_n hx hb dX10_ends_41 rfl (lv_at hl 0 rfl) ?_
    refine va_get (D := D) (ci := 10) (v := .int n1) (C := RX10) (T := TX10) (N := 66) hx hb hts iX10 hown hK hP 0 rfl rfl 54 (by decide) (hts (.fieldLink RX10 174 "ShortTellerModel" "open" "I") (List.mem_of_getElem? (i := 1) rfl)) (fun _ h9 => h9) rfl dX10_ends_42 ?_
    refine q3_iald (c := c) hx hb hK hP 32 rfl (q2_in (by omega) (by omega)) dX10_ends_45 (fun n5 en5 => ?_)
    have tn5 : n5.toInt = (f_opKind n1.toNatClampNeg).toInt := by rw [en5]
    have zn5 : n1.toInt ≠ 0 ∨ n5.toInt = 1 := by
      by_cases h9 : n1.toInt = 0
      · right; rw [tn5, show n1.toNatClampNeg = 0 from (by show Int.toNat n1.toInt = 0; omega)]; omega
      · left; exact h9
    refine lv_iconst (v := 3) hx hb dX10_ends_46 (by decide) ?_
    refine lv_icmp_ne (tgt := 62) hx hb dX10_ends_47 (by decide) (fun g6 => ?_) (fun g6 => ?_)
    · have g6 : ¬ n5.toInt = (3 : Int) := (not_congr (q3_eq rfl (by decide))).mp g6
      refine lv_iconst (v := 1) hx hb dX10_ends_62 (by decide) ?_
      exact hret (1) (q2_u [] [n1, v_fault, v_faultPlace] [f_opWord]) _ _ _ _ ⟨(show (1 : Int) = 0 ∨ (1 : Int) = 1 by omega), (show n1.toInt = v_open.toInt - 1 by omega), c2, trivial⟩ dX10_ends_63 hP hD hS
    · have g6 : n5.toInt = (3 : Int) := (q3_eq rfl (by decide)).mp g6
      refine lv_aload_n hx hb dX10_ends_50 rfl (lv_at hl 0 rfl) ?_
      refine va_get (D := D) (ci := 10) (v := .ref (a 33)) (C := RX10) (T := TX10) (N := 66) hx hb hts iX10 hown hK hP 0 rfl rfl 57 (by decide) (hts (.fieldLink RX10 113 "ShortTellerModel" "opWord" "[Z") (List.mem_of_getElem? (i := 2) rfl)) (fun _ h9 => h9) rfl dX10_ends_51 ?_
      refine lv_aload_n hx hb dX10_ends_54 rfl (lv_at hl 0 rfl) ?_
      refine va_get (D := D) (ci := 10) (v := .int n1) (C := RX10) (T := TX10) (N := 66) hx hb hts iX10 hown hK hP 0 rfl rfl 54 (by decide) (hts (.fieldLink RX10 174 "ShortTellerModel" "open" "I") (List.mem_of_getElem? (i := 1) rfl)) (fun _ h9 => h9) rfl dX10_ends_55 ?_
      refine lv_iconst (v := 1) hx hb dX10_ends_58 (by decide) ?_
      refine lv_isub hx hb dX10_ends_59 ?_
      refine lv_topi (fun n7 en7 => ?_)
      have tn7 : n7.toInt = n1.toInt - (1 : Int) := q3_sub en7 rfl (by decide) (by omega) (by omega)
      refine lv_iconst (v := 1) hx hb dX10_ends_60 (by decide) ?_
      refine q3_zast (c := c) hx hb hK hP hD hS 34 rfl (q2_in (by omega) (by omega)) dX10_ends_61 (fun F8 eF8 H locs hP hD hS => ?_)
      have hP : va_P D vwCl (wM c y a v_tapeSize v_thrown v_fault v_faultPlace v_things v_options v_lists v_sentences v_headings v_words v_factBits v_known v_soundMany v_wholeLength v_next v_end v_rThings v_rOptions v_rLists v_rSentences v_rHeadings v_lastName v_inSentence n1 v_written v_named v_sorted f_tape f_kind f_owner f_from f_size f_means f_signs f_oKind f_oIn f_oList f_oWords f_oFacts f_listIn f_sOwner f_hFacts f_weights f_lengths f_values f_rKind f_rOwner f_rFrom f_rSize f_rMeans f_rOKind f_rOIn f_rOList f_rOFacts f_rListIn f_rSOwner f_rHFacts f_rWeights f_opKind f_opFrom F8 f_opOwner f_opList f_opItems f_out f_ranks) H := hP
      have hD : va_D A (wM c y a v_tapeSize v_thrown v_fault v_faultPlace v_things v_options v_lists v_sentences v_headings v_words v_factBits v_known v_soundMany v_wholeLength v_next v_end v_rThings v_rOptions v_rLists v_rSentences v_rHeadings v_lastName v_inSentence n1 v_written v_named v_sorted f_tape f_kind f_owner f_from f_size f_means f_signs f_oKind f_oIn f_oList f_oWords f_oFacts f_listIn f_sOwner f_hFacts f_weights f_lengths f_values f_rKind f_rOwner f_rFrom f_rSize f_rMeans f_rOKind f_rOIn f_rOList f_rOFacts f_rListIn f_rSOwner f_rHFacts f_rWeights f_opKind f_opFrom F8 f_opOwner f_opList f_opItems f_out f_ranks) := hD
      refine lv_iconst (v := 1) hx hb dX10_ends_62 (by decide) ?_
      exact hret (1) (q2_u [] [n1, v_fault, v_faultPlace] [F8]) _ _ _ _ ⟨(show (1 : Int) = 0 ∨ (1 : Int) = 1 by omega), (show n1.toInt = v_open.toInt - 1 by omega), c2, trivial⟩ dX10_ends_63 hP hD hS
  · have g4 : n3.toInt = (0 : Int) := (q3_eq rfl (by decide)).mp g4
    refine lv_aload_n hx hb dX10_ends_22 rfl (lv_at hl 0 rfl) ?_
    refine lv_iconst (v := 4) hx hb dX10_ends_23 (by decide) ?_
    refine lv_aload_n hx hb dX10_ends_24 rfl (lv_at hl 0 rfl) ?_
    refine va_get (D := D) (ci := 10) (v := .ref (a 32)) (C := RX10) (T := TX10) (N := 66) hx hb hts iX10 hown hK hP 0 rfl rfl 56 (by decide) (hts (.fieldLink RX10 110 "ShortTellerModel" "opFrom" "[I") (List.mem_of_getElem? (i := 3) rfl)) (fun _ h9 => h9) rfl dX10_ends_25 ?_
    refine lv_aload_n hx hb dX10_ends_28 rfl (lv_at hl 0 rfl) ?_
    refine va_get (D := D) (ci := 10) (v := .int n1) (C := RX10) (T := TX10) (N := 66) hx hb hts iX10 hown hK hP 0 rfl rfl 54 (by decide) (hts (.fieldLink RX10 174 "ShortTellerModel" "open" "I") (List.mem_of_getElem? (i := 1) rfl)) (fun _ h9 => h9) rfl dX10_ends_29 ?_
    refine q3_iald (c := c) hx hb hK hP 33 rfl (q2_in (by omega) (by omega)) dX10_ends_32 (fun n9 en9 => ?_)
    have tn9 : n9.toInt = (f_opFrom n1.toNatClampNeg).toInt := by rw [en9]
    refine q3_ci (va_runV (As := [.int 4, .int n9]) (rest := []) ⟨hx, hb, hml, hown, hts⟩ (y3_wrong l D c H.size y a v_tapeSize v_thrown v_fault v_faultPlace v_things v_options v_lists v_sentences v_headings v_words v_factBits v_known v_soundMany v_wholeLength v_next v_end v_rThings v_rOptions v_rLists v_rSentences v_rHeadings v_lastName v_inSentence n1 v_written v_named v_sorted f_tape f_kind f_owner f_from f_size f_means f_signs f_oKind f_oIn f_oList f_oWords f_oFacts f_listIn f_sOwner f_hFacts f_weights f_lengths f_values f_rKind f_rOwner f_rFrom f_rSize f_rMeans f_rOKind f_rOIn f_rOList f_rOFacts f_rListIn f_rSOwner f_rHFacts f_rWeights f_opKind f_opFrom f_opWord f_opOwner f_opList f_opItems f_out f_ranks (4) n9) (cwV 2 hts gX10_ends_X10_wrong rfl rfl rfl (by decide +kernel) ⟨Nat.le_of_ble_eq_true rfl, Nat.le_of_ble_eq_true rfl⟩) (q3_preV (c := c) (ci := 10) (q0 := 0) hP hK hD rfl rfl) rfl rfl hl.1 rfl (lv_room (Nat.le_of_ble_eq_true rfl)) dX10_ends_33 ⟨Nat.le_of_ble_eq_true rfl, Nat.le_of_ble_eq_true rfl⟩) hD hS hA (fun n10 un10 H locs pn10 hP hD hS => ?_)
    have pn10 : (n10.toInt = 0 ∨ n10.toInt = 1) ∧ (n10.toInt = 0) ∧ True := pn10
    obtain ⟨pn10_0, pn10_1, -⟩ := pn10
    have hP : va_P D vwCl (wM c y a v_tapeSize v_thrown (un10.2.1 0) (un10.2.1 1) v_things v_options v_lists v_sentences v_headings v_words v_factBits v_known v_soundMany v_wholeLength v_next v_end v_rThings v_rOptions v_rLists v_rSentences v_rHeadings v_lastName v_inSentence n1 v_written v_named v_sorted f_tape f_kind f_owner f_from f_size f_means f_signs f_oKind f_oIn f_oList f_oWords f_oFacts f_listIn f_sOwner f_hFacts f_weights f_lengths f_values f_rKind f_rOwner f_rFrom f_rSize f_rMeans f_rOKind f_rOIn f_rOList f_rOFacts f_rListIn f_rSOwner f_rHFacts f_rWeights f_opKind f_opFrom f_opWord f_opOwner f_opList f_opItems f_out f_ranks) H := hP
    have hD : va_D A (wM c y a v_tapeSize v_thrown (un10.2.1 0) (un10.2.1 1) v_things v_options v_lists v_sentences v_headings v_words v_factBits v_known v_soundMany v_wholeLength v_next v_end v_rThings v_rOptions v_rLists v_rSentences v_rHeadings v_lastName v_inSentence n1 v_written v_named v_sorted f_tape f_kind f_owner f_from f_size f_means f_signs f_oKind f_oIn f_oList f_oWords f_oFacts f_listIn f_sOwner f_hFacts f_weights f_lengths f_values f_rKind f_rOwner f_rFrom f_rSize f_rMeans f_rOKind f_rOIn f_rOList f_rOFacts f_rListIn f_rSOwner f_rHFacts f_rWeights f_opKind f_opFrom f_opWord f_opOwner f_opList f_opItems f_out f_ranks) := hD
    exact hret (n10) (q2_u [] [n1, un10.2.1 0, un10.2.1 1] [f_opWord]) _ _ _ _ ⟨pn10_0, (show n1.toInt = v_open.toInt - 1 by omega), c2, trivial⟩ dX10_ends_36 hP hD hS
