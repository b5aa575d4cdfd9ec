set_option maxHeartbeats 4000000 in
set_option maxRecDepth 100000 in
theorem y3_feed (l : Launch) (D : va_G) (c : Nat → ClassId) (sz : Nat) (y : Nat) (a : Nat → Nat) (v_tapeSize v_thrown v_fault v_faultPlace v_things v_options v_lists v_sentences v_headings v_words v_factBits v_known v_soundMany v_wholeLength v_next v_end v_rThings v_rOptions v_rLists v_rSentences v_rHeadings v_lastName v_inSentence v_open v_written v_named v_sorted : Int32) (f_tape f_kind f_owner f_from f_size f_means f_signs f_oKind f_oIn f_oList f_oWords f_oFacts f_listIn f_sOwner f_hFacts f_weights f_lengths f_values f_rKind f_rOwner f_rFrom f_rSize f_rMeans f_rOKind f_rOIn f_rOList f_rOFacts f_rListIn f_rSOwner f_rHFacts f_rWeights f_opKind f_opFrom f_opWord f_opOwner f_opList f_opItems f_out f_ranks : Nat → Int32) (x_a : Int32) (x_b : Int32) (x_d : Int32) (x_e : Int32) (x_g : Int32) (h0 : 0 ≤ v_tapeSize.toInt) (h1 : v_tapeSize.toInt ≤ 800) (h2 : ∀ j : Nat, 0 ≤ (f_tape j).toInt ∧ (f_tape j).toInt ≤ 255) : Met l yX10_feed wsX10_feed ({ frames := 0, cells := 0, slots := 0, locals := 0 }) (q3_P D c (wM c y a v_tapeSize v_thrown v_fault v_faultPlace v_things v_options v_lists v_sentences v_headings v_words v_factBits v_known v_soundMany v_wholeLength v_next v_end v_rThings v_rOptions v_rLists v_rSentences v_rHeadings v_lastName v_inSentence v_open v_written v_named v_sorted f_tape f_kind f_owner f_from f_size f_means f_signs f_oKind f_oIn f_oList f_oWords f_oFacts f_listIn f_sOwner f_hFacts f_weights f_lengths f_values f_rKind f_rOwner f_rFrom f_rSize f_rMeans f_rOKind f_rOIn f_rOList f_rOFacts f_rListIn f_rSOwner f_rHFacts f_rWeights f_opKind f_opFrom f_opWord f_opOwner f_opList f_opItems f_out f_ranks) sz [.ref y, .int x_a, .int x_b, .int x_d, .int x_e, .int x_g]) (q2_i D (wM c y a v_tapeSize v_thrown v_fault v_faultPlace v_things v_options v_lists v_sentences v_headings v_words v_factBits v_known v_soundMany v_wholeLength v_next v_end v_rThings v_rOptions v_rLists v_rSentences v_rHeadings v_lastName v_inSentence v_open v_written v_named v_sorted f_tape f_kind f_owner f_from f_size f_means f_signs f_oKind f_oIn f_oList f_oWords f_oFacts f_listIn f_sOwner f_hFacts f_weights f_lengths f_values f_rKind f_rOwner f_rFrom f_rSize f_rMeans f_rOKind f_rOIn f_rOList f_rOFacts f_rListIn f_rSOwner f_rHFacts f_rWeights f_opKind f_opFrom f_opWord f_opOwner f_opList f_opItems f_out f_ranks) sz (fun r u => ((v_tapeSize.toInt + 20 ≤ 800 ∧ r.toInt = v_tapeSize.toInt + 20 ∧ (u.2.1 1).toInt = v_tapeSize.toInt + 20) ∨ (800 < v_tapeSize.toInt + 20 ∧ r.toInt = -1 ∧ (u.2.1 1).toInt = v_tapeSize.toInt)) ∧ (∀ j : Nat, 0 ≤ ((u.2.2 0) j).toInt ∧ ((u.2.2 0) j).toInt ≤ 255) ∧ True) (fun u => wM c y a (u.2.1 1) (u.2.1 0) v_fault v_faultPlace v_things v_options v_lists v_sentences v_headings v_words v_factBits v_known v_soundMany v_wholeLength v_next v_end v_rThings v_rOptions v_rLists v_rSentences v_rHeadings v_lastName v_inSentence v_open v_written v_named v_sorted (u.2.2 0) f_kind f_owner f_from f_size f_means f_signs f_oKind f_oIn f_oList f_oWords f_oFacts f_listIn f_sOwner f_hFacts f_weights f_lengths f_values f_rKind f_rOwner f_rFrom f_rSize f_rMeans f_rOKind f_rOIn f_rOList f_rOFacts f_rListIn f_rSOwner f_rHFacts f_rWeights f_opKind f_opFrom f_opWord f_opOwner f_opList f_opItems f_out f_ranks)) (0) (0) (va_A (wM c y a v_tapeSize v_thrown v_fault v_faultPlace v_things v_options v_lists v_sentences v_headings v_words v_factBits v_known v_soundMany v_wholeLength v_next v_end v_rThings v_rOptions v_rLists v_rSentences v_rHeadings v_lastName v_inSentence v_open v_written v_named v_sorted f_tape f_kind f_owner f_from f_size f_means f_signs f_oKind f_oIn f_oList f_oWords f_oFacts f_listIn f_sOwner f_hFacts f_weights f_lengths f_values f_rKind f_rOwner f_rFrom f_rSize f_rMeans f_rOKind f_rOIn f_rOList f_rOFacts f_rListIn f_rSOwner f_rHFacts f_rWeights f_opKind f_opFrom f_opWord f_opOwner f_opList f_opItems f_out f_ranks) sz) := by
  refine q3_of_i (ty := .int) (fun _ _ _ => rfl) (cc := cX10_feed) (maxL := 8) (by decide) rfl (Nat.le_of_ble_eq_true rfl) (fun p e s m args below meth cd A Q ls hx hb hml hown hts hA hS hP hD hK hl hret => ?_)
  have hown : s.vm.findClass RX10 = some m.cls := hown
  obtain ⟨H, eH⟩ : ∃ z, z = s.heap := ⟨_, rfl⟩
  have hP : va_P D vwCl (wM c y a v_tapeSize v_thrown v_fault v_faultPlace v_things v_options v_lists v_sentences v_headings v_words v_factBits v_known v_soundMany v_wholeLength v_next v_end v_rThings v_rOptions v_rLists v_rSentences v_rHeadings v_lastName v_inSentence v_open v_written v_named v_sorted f_tape f_kind f_owner f_from f_size f_means f_signs f_oKind f_oIn f_oList f_oWords f_oFacts f_listIn f_sOwner f_hFacts f_weights f_lengths f_values f_rKind f_rOwner f_rFrom f_rSize f_rMeans f_rOKind f_rOIn f_rOList f_rOFacts f_rListIn f_rSOwner f_rHFacts f_rWeights f_opKind f_opFrom f_opWord f_opOwner f_opList f_opItems f_out f_ranks) H := by rw [eH]; exact hP
  have hS : va_S A s.heap H [] := by rw [eH]; exact hS
  rw [← eH]
  have iX10 : ∀ w ∈ wsX100, w ∈ wsX10_feed := fun w h => List.mem_cons_of_mem _ (List.mem_append_right _ h)
  have hl : lv_has ls 8 [(0, .ref y), (1, .int x_a), (2, .int x_b), (3, .int x_d), (4, .int x_e), (5, .int x_g)] := hl
  refine lv_aload_n hx hb dX10_feed_0 rfl (lv_at hl 0 rfl) ?_
  refine lv_iconst (v := 0) hx hb dX10_feed_1 (by decide) ?_
  refine va_put (D := D) (ci := 10) (v := .int 0) (ty := .int) (C := RX10) (T := TX10) (N := 66) hx hb hts iX10 tyX10 tyX10_ok nmX10 hown hK hP hD hS 0 rfl rfl 2 (by decide) (hts (.fieldLink RX10 135 "ShortTellerModel" "thrown" "I") (List.mem_of_getElem? (i := 1) rfl)) (fun _ h9 => h9) rfl (by decide +kernel) rfl rfl (Nat.le_of_ble_eq_true rfl) dX10_feed_2 (fun H locs hP hD hS => ?_)
  have hP : va_P D vwCl (wM c y a v_tapeSize (0) v_fault v_faultPlace v_things v_options v_lists v_sentences v_headings v_words v_factBits v_known v_soundMany v_wholeLength v_next v_end v_rThings v_rOptions v_rLists v_rSentences v_rHeadings v_lastName v_inSentence v_open v_written v_named v_sorted f_tape f_kind f_owner f_from f_size f_means f_signs f_oKind f_oIn f_oList f_oWords f_oFacts f_listIn f_sOwner f_hFacts f_weights f_lengths f_values f_rKind f_rOwner f_rFrom f_rSize f_rMeans f_rOKind f_rOIn f_rOList f_rOFacts f_rListIn f_rSOwner f_rHFacts f_rWeights f_opKind f_opFrom f_opWord f_opOwner f_opList f_opItems f_out f_ranks) H := hP
  have hD : va_D A (wM c y a v_tapeSize (0) v_fault v_faultPlace v_things v_options v_lists v_sentences v_headings v_words v_factBits v_known v_soundMany v_wholeLength v_next v_end v_rThings v_rOptions v_rLists v_rSentences v_rHeadings v_lastName v_inSentence v_open v_written v_named v_sorted f_tape f_kind f_owner f_from f_size f_means f_signs f_oKind f_oIn f_oList f_oWords f_oFacts f_listIn f_sOwner f_hFacts f_weights f_lengths f_values f_rKind f_rOwner f_rFrom f_rSize f_rMeans f_rOKind f_rOIn f_rOList f_rOFacts f_rListIn f_rSOwner f_rHFacts f_rWeights f_opKind f_opFrom f_opWord f_opOwner f_opList f_opItems f_out f_ranks) := hD
  refine lv_aload_n hx hb dX10_feed_5 rfl (lv_at hl 0 rfl) ?_
  refine va_get (D := D) (ci := 10) (v := .int v_tapeSize) (C := RX10) (T := TX10) (N := 66) hx hb hts iX10 hown hK hP 0 rfl rfl 1 (by decide) (hts (.fieldLink RX10 138 "ShortTellerModel" "tapeSize" "I") (List.mem_of_getElem? (i := 2) rfl)) (fun _ h9 => h9) rfl dX10_feed_6 ?_
  refine lv_bipush (v := 20) hx hb dX10_feed_9 (by decide) ?_
  refine lv_iadd hx hb dX10_feed_11 ?_
  refine lv_topi (fun n1 en1 => ?_)
  have tn1 : n1.toInt = v_tapeSize.toInt + (20 : Int) := q3_add en1 rfl (by decide) (by omega) (by omega)
  refine lv_sipush (v := 800) hx hb dX10_feed_12 (by decide) ?_
  refine lv_icmp_le (tgt := 20) hx hb dX10_feed_15 (by decide) (fun g2 => ?_) (fun g2 => ?_)
  · have g2 : n1.toInt ≤ (800 : Int) := (q3_le rfl (by decide)).mp g2
    refine lv_iconst (v := 0) hx hb dX10_feed_20 (by decide) ?_
    refine lv_istore (lv' := [(6, .int 0), (0, .ref y), (1, .int x_a), (2, .int x_b), (3, .int x_d), (4, .int x_e), (5, .int x_g)]) hx hb dX10_feed_21 hl (by decide) rfl (fun ls hl => ?_)
    have lp23 : ∀ (k : Nat) (s6_23 : Int32) (y_tape_23 : Nat → Int32), (0 ≤ s6_23.toInt) → (s6_23.toInt ≤ 20) → (v_tapeSize.toInt + 20 ≤ 800) → (∀ j : Nat, 0 ≤ (y_tape_23 j).toInt ∧ (y_tape_23 j).toInt ≤ 255) → 21 - s6_23.toInt < (k : Int) → ∀ (H : Heap) (locs : List Loc) (ls : Array Slot), va_P D vwCl (wM c y a v_tapeSize (0) v_fault v_faultPlace v_things v_options v_lists v_sentences v_headings v_words v_factBits v_known v_soundMany v_wholeLength v_next v_end v_rThings v_rOptions v_rLists v_rSentences v_rHeadings v_lastName v_inSentence v_open v_written v_named v_sorted y_tape_23 f_kind f_owner f_from f_size f_means f_signs f_oKind f_oIn f_oList f_oWords f_oFacts f_listIn f_sOwner f_hFacts f_weights f_lengths f_values f_rKind f_rOwner f_rFrom f_rSize f_rMeans f_rOKind f_rOIn f_rOList f_rOFacts f_rListIn f_rSOwner f_rHFacts f_rWeights f_opKind f_opFrom f_opWord f_opOwner f_opList f_opItems f_out f_ranks) H → va_D A (wM c y a v_tapeSize (0) v_fault v_faultPlace v_things v_options v_lists v_sentences v_headings v_words v_factBits v_known v_soundMany v_wholeLength v_next v_end v_rThings v_rOptions v_rLists v_rSentences v_rHeadings v_lastName v_inSentence v_open v_written v_named v_sorted y_tape_23 f_kind f_owner f_from f_size f_means f_signs f_oKind f_oIn f_oList f_oWords f_oFacts f_listIn f_sOwner f_hFacts f_weights f_lengths f_values f_rKind f_rOwner f_rFrom f_rSize f_rMeans f_rOKind f_rOIn f_rOList f_rOFacts f_rListIn f_rSOwner f_rHFacts f_rWeights f_opKind f_opFrom f_opWord f_opOwner f_opList f_opItems f_out f_ranks) → va_S A s.heap H locs → lv_has ls 8 [(6, .int s6_23), (0, .ref y), (1, .int x_a), (2, .int x_b), (3, .int x_d), (4, .int x_e), (5, .int x_g)] → W p l e ({ frames := 0, cells := 0, slots := 0, locals := 0 }) s m args below meth cd H locs 0 0 Q (F0 m 23 ls []) := by
      intro k
      induction k with
      | zero => intro s6_23 y_tape_23 j0_23 j1_23 j2_23 j3_23 hm; exfalso; omega
      | succ k ih_23 =>
        intro s6_23 y_tape_23 j0_23 j1_23 j2_23 j3_23 hm_23 H locs ls hP hD hS hl
        clear tn1 g2
        refine lv_iload hx hb dX10_feed_23 (lv_at hl 0 rfl) ?_
        refine lv_bipush (v := 20) hx hb dX10_feed_25 (by decide) ?_
        refine lv_icmp_ge (tgt := 113) hx hb dX10_feed_27 (by decide) (fun g3 => ?_) (fun g3 => ?_)
        · have g3 : (20 : Int) ≤ s6_23.toInt := (q3_le (by decide) rfl).mp g3
          refine lv_aload_n hx hb dX10_feed_113 rfl (lv_at hl 1 rfl) ?_
          refine lv_dup hx hb dX10_feed_114 rfl ?_
          refine va_get (D := D) (ci := 10) (v := .int v_tapeSize) (C := RX10) (T := TX10) (N := 66) hx hb hts iX10 hown hK hP 0 rfl rfl 1 (by decide) (hts (.fieldLink RX10 138 "ShortTellerModel" "tapeSize" "I") (List.mem_of_getElem? (i := 2) rfl)) (fun _ h9 => h9) rfl dX10_feed_115 ?_
          refine lv_bipush (v := 20) hx hb dX10_feed_118 (by decide) ?_
          refine lv_iadd hx hb dX10_feed_120 ?_
          refine lv_topi (fun n4 en4 => ?_)
          have tn4 : n4.toInt = v_tapeSize.toInt + (20 : Int) := q3_add en4 rfl (by decide) (by omega) (by omega)
          refine va_put (D := D) (ci := 10) (v := .int n4) (ty := .int) (C := RX10) (T := TX10) (N := 66) hx hb hts iX10 tyX10 tyX10_ok nmX10 hown hK hP hD hS 0 rfl rfl 1 (by decide) (hts (.fieldLink RX10 138 "ShortTellerModel" "tapeSize" "I") (List.mem_of_getElem? (i := 2) rfl)) (fun _ h9 => h9) rfl (by decide +kernel) rfl rfl (Nat.le_of_ble_eq_true rfl) dX10_feed_121 (fun H locs hP hD hS => ?_)
          have hP : va_P D vwCl (wM c y a n4 (0) v_fault v_faultPlace v_things v_options v_lists v_sentences v_headings v_words v_factBits v_known v_soundMany v_wholeLength v_next v_end v_rThings v_rOptions v_rLists v_rSentences v_rHeadings v_lastName v_inSentence v_open v_written v_named v_sorted y_tape_23 f_kind f_owner f_from f_size f_means f_signs f_oKind f_oIn f_oList f_oWords f_oFacts f_listIn f_sOwner f_hFacts f_weights f_lengths f_values f_rKind f_rOwner f_rFrom f_rSize f_rMeans f_rOKind f_rOIn f_rOList f_rOFacts f_rListIn f_rSOwner f_rHFacts f_rWeights f_opKind f_opFrom f_opWord f_opOwner f_opList f_opItems f_out f_ranks) H := hP
          have hD : va_D A (wM c y a n4 (0) v_fault v_faultPlace v_things v_options v_lists v_sentences v_headings v_words v_factBits v_known v_soundMany v_wholeLength v_next v_end v_rThings v_rOptions v_rLists v_rSentences v_rHeadings v_lastName v_inSentence v_open v_written v_named v_sorted y_tape_23 f_kind f_owner f_from f_size f_means f_signs f_oKind f_oIn f_oList f_oWords f_oFacts f_listIn f_sOwner f_hFacts f_weights f_lengths f_values f_rKind f_rOwner f_rFrom f_rSize f_rMeans f_rOKind f_rOIn f_rOList f_rOFacts f_rListIn f_rSOwner f_rHFacts f_rWeights f_opKind f_opFrom f_opWord f_opOwner f_opList f_opItems f_out f_ranks) := hD
          refine lv_aload_n hx hb dX10_feed_124 rfl (lv_at hl 1 rfl) ?_
          refine va_get (D := D) (ci := 10) (v := .int n4) (C := RX10) (T := TX10) (N := 66) hx hb hts iX10 hown hK hP 0 rfl rfl 1 (by decide) (hts (.fieldLink RX10 138 "ShortTellerModel" "tapeSize" "I") (List.mem_of_getElem? (i := 2) rfl)) (fun _ h9 => h9) rfl dX10_feed_125 ?_
          exact hret (n4) (q2_u [] [0, n4] [y_tape_23]) _ _ _ _ ⟨(show (v_tapeSize.toInt + 20 ≤ 800 ∧ n4.toInt = v_tapeSize.toInt + 20 ∧ n4.toInt = v_tapeSize.toInt + 20) ∨ (800 < v_tapeSize.toInt + 20 ∧ n4.toInt = -1 ∧ n4.toInt = v_tapeSize.toInt) by omega), j3_23, trivial⟩ dX10_feed_128 hP hD hS
        · have g3 : ¬ (20 : Int) ≤ s6_23.toInt := (not_congr (q3_le (by decide) rfl)).mp g3
          have ct76 : ∀ (k0_76 : Int32), ∀ (H : Heap) (locs : List Loc) (ls : Array Slot), va_P D vwCl (wM c y a v_tapeSize (0) v_fault v_faultPlace v_things v_options v_lists v_sentences v_headings v_words v_factBits v_known v_soundMany v_wholeLength v_next v_end v_rThings v_rOptions v_rLists v_rSentences v_rHeadings v_lastName v_inSentence v_open v_written v_named v_sorted y_tape_23 f_kind f_owner f_from f_size f_means f_signs f_oKind f_oIn f_oList f_oWords f_oFacts f_listIn f_sOwner f_hFacts f_weights f_lengths f_values f_rKind f_rOwner f_rFrom f_rSize f_rMeans f_rOKind f_rOIn f_rOList f_rOFacts f_rListIn f_rSOwner f_rHFacts f_rWeights f_opKind f_opFrom f_opWord f_opOwner f_opList f_opItems f_out f_ranks) H → va_D A (wM c y a v_tapeSize (0) v_fault v_faultPlace v_things v_options v_lists v_sentences v_headings v_words v_factBits v_known v_soundMany v_wholeLength v_next v_end v_rThings v_rOptions v_rLists v_rSentences v_rHeadings v_lastName v_inSentence v_open v_written v_named v_sorted y_tape_23 f_kind f_owner f_from f_size f_means f_signs f_oKind f_oIn f_oList f_oWords f_oFacts f_listIn f_sOwner f_hFacts f_weights f_lengths f_values f_rKind f_rOwner f_rFrom f_rSize f_rMeans f_rOKind f_rOIn f_rOList f_rOFacts f_rListIn f_rSOwner f_rHFacts f_rWeights f_opKind f_opFrom f_opWord f_opOwner f_opList f_opItems f_out f_ranks) → va_S A s.heap H locs → lv_has ls 8 [(6, .int s6_23), (0, .ref y), (1, .int x_a), (2, .int x_b), (3, .int x_d), (4, .int x_e), (5, .int x_g)] → W p l e ({ frames := 0, cells := 0, slots := 0, locals := 0 }) s m args below meth cd H locs 0 0 Q (F0 m 76 ls [.int k0_76]) := by
            intro k0_76  H locs ls hP hD hS hl
            refine lv_istore (lv' := [(7, .int k0_76), (6, .int s6_23), (0, .ref y), (1, .int x_a), (2, .int x_b), (3, .int x_d), (4, .int x_e), (5, .int x_g)]) hx hb dX10_feed_76 hl (by decide) rfl (fun ls hl => ?_)
            refine lv_aload_n hx hb dX10_feed_78 rfl (lv_at hl 2 rfl) ?_
            refine va_get (D := D) (ci := 10) (v := .ref (a 0)) (C := RX10) (T := TX10) (N := 66) hx hb hts iX10 hown hK hP 0 rfl rfl 0 (by decide) (hts (.fieldLink RX10 7 "ShortTellerModel" "tape" "[I") (List.mem_of_getElem? (i := 3) rfl)) (fun _ h9 => h9) rfl dX10_feed_79 ?_
            refine lv_aload_n hx hb dX10_feed_82 rfl (lv_at hl 2 rfl) ?_
            refine va_get (D := D) (ci := 10) (v := .int v_tapeSize) (C := RX10) (T := TX10) (N := 66) hx hb hts iX10 hown hK hP 0 rfl rfl 1 (by decide) (hts (.fieldLink RX10 138 "ShortTellerModel" "tapeSize" "I") (List.mem_of_getElem? (i := 2) rfl)) (fun _ h9 => h9) rfl dX10_feed_83 ?_
            refine lv_iload hx hb dX10_feed_86 (lv_at hl 1 rfl) ?_
            refine lv_iadd hx hb dX10_feed_88 ?_
            refine lv_topi (fun n5 en5 => ?_)
            have tn5 : n5.toInt = v_tapeSize.toInt + s6_23.toInt := q3_add en5 rfl rfl (by omega) (by omega)
            refine lv_iload hx hb dX10_feed_89 (lv_at hl 0 rfl) ?_
            refine lv_bipush (v := 24) hx hb dX10_feed_91 (by decide) ?_
            refine lv_bipush (v := 8) hx hb dX10_feed_93 (by decide) ?_
            refine lv_iload hx hb dX10_feed_95 (lv_at hl 1 rfl) ?_
            refine lv_iconst (v := 4) hx hb dX10_feed_97 (by decide) ?_
            refine lv_irem hx hb dX10_feed_98 (by decide) ?_
            refine lv_topi (fun n6 en6 => ?_)
            refine lv_imul hx hb dX10_feed_99 ?_
            refine lv_topi (fun n7 en7 => ?_)
            refine lv_isub hx hb dX10_feed_100 ?_
            refine lv_topi (fun n8 en8 => ?_)
            refine lv_ishr hx hb dX10_feed_101 ?_
            refine lv_topi (fun n9 en9 => ?_)
            refine lv_sipush (v := 255) hx hb dX10_feed_102 (by decide) ?_
            refine lv_iand hx hb dX10_feed_105 ?_
            refine lv_topi (fun n10 en10 => ?_)
            have tn10 := q3_and255 en10
            refine q3_iast (c := c) hx hb hK hP hD hS 1 rfl (q2_in (by omega) (by omega)) dX10_feed_106 (fun F11 eF11 H locs hP hD hS => ?_)
            have hP : va_P D vwCl (wM c y a v_tapeSize (0) v_fault v_faultPlace v_things v_options v_lists v_sentences v_headings v_words v_factBits v_known v_soundMany v_wholeLength v_next v_end v_rThings v_rOptions v_rLists v_rSentences v_rHeadings v_lastName v_inSentence v_open v_written v_named v_sorted F11 f_kind f_owner f_from f_size f_means f_signs f_oKind f_oIn f_oList f_oWords f_oFacts f_listIn f_sOwner f_hFacts f_weights f_lengths f_values f_rKind f_rOwner f_rFrom f_rSize f_rMeans f_rOKind f_rOIn f_rOList f_rOFacts f_rListIn f_rSOwner f_rHFacts f_rWeights f_opKind f_opFrom f_opWord f_opOwner f_opList f_opItems f_out f_ranks) H := hP
            have hD : va_D A (wM c y a v_tapeSize (0) v_fault v_faultPlace v_things v_options v_lists v_sentences v_headings v_words v_factBits v_known v_soundMany v_wholeLength v_next v_end v_rThings v_rOptions v_rLists v_rSentences v_rHeadings v_lastName v_inSentence v_open v_written v_named v_sorted F11 f_kind f_owner f_from f_size f_means f_signs f_oKind f_oIn f_oList f_oWords f_oFacts f_listIn f_sOwner f_hFacts f_weights f_lengths f_values f_rKind f_rOwner f_rFrom f_rSize f_rMeans f_rOKind f_rOIn f_rOList f_rOFacts f_rListIn f_rSOwner f_rHFacts f_rWeights f_opKind f_opFrom f_opWord f_opOwner f_opList f_opItems f_out f_ranks) := hD
            have hF11_0 : ∀ j : Nat, 0 ≤ (F11 j).toInt ∧ (F11 j).toInt ≤ 255 := q3_up (P := fun z => 0 ≤ z.toInt ∧ z.toInt ≤ 255) eF11 j3_23 (show 0 ≤ n10.toInt ∧ n10.toInt ≤ 255 by omega)
            obtain ⟨n12, en12⟩ : ∃ z : Int32, z = s6_23 + (1) := ⟨_, rfl⟩
            have tn12 : n12.toInt = s6_23.toInt + (1 : Int) := q3_add en12 rfl (by decide) (by omega) (by omega)
            refine lv_iinc (v := n12) (lv' := [(6, .int n12), (7, .int k0_76), (0, .ref y), (1, .int x_a), (2, .int x_b), (3, .int x_d), (4, .int x_e), (5, .int x_g)]) hx hb dX10_feed_107 hl (k := 1) rfl (by rw [en12]; rfl) (by decide) rfl (fun ls hl => ?_)
            refine lv_goto (tgt := 23) hx hb dX10_feed_110 (by decide) ?_
            exact ih_23 n12 F11 (show 0 ≤ n12.toInt by omega) (show n12.toInt ≤ 20 by omega) j2_23 hF11_0 (show 21 - n12.toInt < _ by omega) _ _ _ hP hD hS (lv_sub hl [0, 2, 3, 4, 5, 6, 7] rfl)
          refine lv_iload hx hb dX10_feed_30 (lv_at hl 0 rfl) ?_
          refine lv_iconst (v := 4) hx hb dX10_feed_32 (by decide) ?_
          refine lv_icmp_ge (tgt := 40) hx hb dX10_feed_33 (by decide) (fun g13 => ?_) (fun g13 => ?_)
          · have g13 : (4 : Int) ≤ s6_23.toInt := (q3_le (by decide) rfl).mp g13
            refine lv_iload hx hb dX10_feed_40 (lv_at hl 0 rfl) ?_
            refine lv_bipush (v := 8) hx hb dX10_feed_42 (by decide) ?_
            refine lv_icmp_ge (tgt := 51) hx hb dX10_feed_44 (by decide) (fun g14 => ?_) (fun g14 => ?_)
            · have g14 : (8 : Int) ≤ s6_23.toInt := (q3_le (by decide) rfl).mp g14
              refine lv_iload hx hb dX10_feed_51 (lv_at hl 0 rfl) ?_
              refine lv_bipush (v := 12) hx hb dX10_feed_53 (by decide) ?_
              refine lv_icmp_ge (tgt := 62) hx hb dX10_feed_55 (by decide) (fun g15 => ?_) (fun g15 => ?_)
              · have g15 : (12 : Int) ≤ s6_23.toInt := (q3_le (by decide) rfl).mp g15
                refine lv_iload hx hb dX10_feed_62 (lv_at hl 0 rfl) ?_
                refine lv_bipush (v := 16) hx hb dX10_feed_64 (by decide) ?_
                refine lv_icmp_ge (tgt := 74) hx hb dX10_feed_66 (by decide) (fun g16 => ?_) (fun g16 => ?_)
                · have g16 : (16 : Int) ≤ s6_23.toInt := (q3_le (by decide) rfl).mp g16
                  refine lv_iload hx hb dX10_feed_74 (lv_at hl 6 rfl) ?_
                  exact ct76 x_g  _ _ _ hP hD hS hl
                · have g16 : ¬ (16 : Int) ≤ s6_23.toInt := (not_congr (q3_le (by decide) rfl)).mp g16
                  refine lv_iload hx hb dX10_feed_69 (lv_at hl 5 rfl) ?_
                  refine lv_goto (tgt := 76) hx hb dX10_feed_71 (by decide) ?_
                  exact ct76 x_e  _ _ _ hP hD hS hl
              · have g15 : ¬ (12 : Int) ≤ s6_23.toInt := (not_congr (q3_le (by decide) rfl)).mp g15
                refine lv_iload_n hx hb dX10_feed_58 rfl (lv_at hl 4 rfl) ?_
                refine lv_goto (tgt := 76) hx hb dX10_feed_59 (by decide) ?_
                exact ct76 x_d  _ _ _ hP hD hS hl
            · have g14 : ¬ (8 : Int) ≤ s6_23.toInt := (not_congr (q3_le (by decide) rfl)).mp g14
              refine lv_iload_n hx hb dX10_feed_47 rfl (lv_at hl 3 rfl) ?_
              refine lv_goto (tgt := 76) hx hb dX10_feed_48 (by decide) ?_
              exact ct76 x_b  _ _ _ hP hD hS hl
          · have g13 : ¬ (4 : Int) ≤ s6_23.toInt := (not_congr (q3_le (by decide) rfl)).mp g13
            refine lv_iload_n hx hb dX10_feed_36 rfl (lv_at hl 2 rfl) ?_
            refine lv_goto (tgt := 76) hx hb dX10_feed_37 (by decide) ?_
            exact ct76 x_a  _ _ _ hP hD hS hl
    exact lp23 (Int.toNat (21 - (0 : Int)) + 1) (0) f_tape (show 0 ≤ (0 : Int) by omega) (show (0 : Int) ≤ 20 by omega) (show v_tapeSize.toInt + 20 ≤ 800 by omega) h2 (show 21 - (0 : Int) < ((Int.toNat (21 - (0 : Int)) + 1 : Nat) : Int) by omega) _ _ _ hP hD hS hl
  · have g2 : ¬ n1.toInt ≤ (800 : Int) := (not_congr (q3_le rfl (by decide))).mp g2
    refine lv_iconst (v := -1) hx hb dX10_feed_18 (by decide) ?_
    exact hret (-1) (q2_u [] [0, v_tapeSize] [f_tape]) _ _ _ _ ⟨(show (v_tapeSize.toInt + 20 ≤ 800 ∧ (-1 : Int) = v_tapeSize.toInt + 20 ∧ v_tapeSize.toInt = v_tapeSize.toInt + 20) ∨ (800 < v_tapeSize.toInt + 20 ∧ (-1 : Int) = -1 ∧ v_tapeSize.toInt = v_tapeSize.toInt) by omega), h2, trivial⟩ dX10_feed_19 hP hD hS
