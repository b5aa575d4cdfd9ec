def e_byX (w s : Int32) : Int32 := (w.toUInt32 >>> (s.toUInt32 &&& Int32.toUInt32 31)).toInt32 &&& 255
def e_byM (w s : Int32) : Int32 := (w >>> (s &&& 31)) &&& 255
theorem e_m255f : ∀ i : Fin 32, (255#32)[i.val] = decide (i.val < 8) := by decide
theorem e_m255 (a : BitVec 32) (i : Nat) (hi : i < 32) : (a &&& 255#32)[i] = (decide (i < 8) && a[i]) := by
  rw [BitVec.getElem_and]
  have : (255#32)[i] = decide (i < 8) := e_m255f ⟨i, hi⟩
  rw [this, Bool.and_comm]
theorem e_by {w : Int32} {k : Nat} (hk : k + 8 ≤ 32) : w.toBitVec.ushiftRight k &&& 255#32 = w.toBitVec.sshiftRight k &&& 255#32 := by
  apply BitVec.eq_of_getElem_eq
  intro i hi
  rw [e_m255, e_m255]
  by_cases h : i < 8
  · simp only [h, decide_true, Bool.true_and]
    have h1 : (w.toBitVec.ushiftRight k)[i] = w.toBitVec.getLsbD (k + i) := by
      show (w.toBitVec >>> k)[i] = _
      rw [BitVec.getElem_ushiftRight]
    rw [h1, BitVec.getElem_sshiftRight, dif_pos (by omega)]
    rfl
  · simp [h]
theorem e_b24 (w : Int32) : e_byX w 24 = e_byM w 24 := by
  apply Int32.toBitVec_inj.mp
  have := e_by (w := w) (k := 24) (by decide)
  exact this
theorem e_b16 (w : Int32) : e_byX w 16 = e_byM w 16 := by
  apply Int32.toBitVec_inj.mp
  have := e_by (w := w) (k := 16) (by decide)
  exact this
theorem e_b8 (w : Int32) : e_byX w 8 = e_byM w 8 := by
  apply Int32.toBitVec_inj.mp
  have := e_by (w := w) (k := 8) (by decide)
  exact this
theorem e_b0 (w : Int32) : e_byX w 0 = e_byM w 0 := by
  apply Int32.toBitVec_inj.mp
  have := e_by (w := w) (k := 0) (by decide)
  exact this
/-- the twenty bytes that are fed -/
def e_fb (a b d e g : Int32) (k : Nat) : Int32 := e_byM (if k < 4 then a else if k < 8 then b else if k < 12 then d else if k < 16 then e else g) (if k % 4 = 0 then 24 else if k % 4 = 1 then 16 else if k % 4 = 2 then 8 else 0)
/-- a tape that has got K bytes from t on -/
def e_Fd (f0 f : Nat → Int32) (t : Int) (K : Nat) (B : Nat → Int32) : Prop := (∀ j : Nat, (j : Int) < t → f j = f0 j) ∧ ∀ k : Nat, k < K → f (Int.toNat (t + k)) = B k
theorem e_Fd.nil {f : Nat → Int32} {t : Int} {B : Nat → Int32} : e_Fd f f t 0 B := ⟨fun _ _ => rfl, fun k h => absurd h (Nat.not_lt_zero _)⟩
theorem e_Fd.more {f0 f F : Nat → Int32} {t : Int} {K : Nat} {B : Nat → Int32} {i v : Int32} (h : e_Fd f0 f t K B) (e : F = upd f i.toNatClampNeg v) (h0 : 0 ≤ t) (hi : i.toInt = t + K) (hv : v = B K) : e_Fd f0 F t (K + 1) B := by
  have ne : ∀ j : Nat, (j : Int) ≠ t + K → F j = f j := fun j hj => by
    rw [e]; unfold upd; rw [if_neg]
    intro h9
    have : (j : Int) = (Int.toNat i.toInt : Nat) := by rw [h9]; rfl
    omega
  refine ⟨fun j hj => by rw [ne j (by omega)]; exact h.1 j hj, fun k hk => ?_⟩
  by_cases hkK : k = K
  · subst hkK
    have : Int.toNat (t + k) = i.toNatClampNeg := by show _ = Int.toNat i.toInt; rw [hi]
    rw [this, e]; unfold upd; rw [if_pos rfl, hv]
  · rw [ne _ (by omega)]; exact h.2 k (by omega)
theorem e_Fd.join {f0 f1 f2 : Nat → Int32} {t t1 : Int} {K K2 : Nat} {B C : Nat → Int32} (h : e_Fd f0 f1 t K B) (h2 : e_Fd f1 f2 t1 K2 C) (h0 : 0 ≤ t) (ht : t1 = t + K) (hc : ∀ k, k < K2 → C k = B (K + k)) : e_Fd f0 f2 t (K + K2) B := by
  subst ht
  refine ⟨fun j hj => by rw [h2.1 j (by omega), h.1 j hj], fun k hk => ?_⟩
  by_cases hkK : k < K
  · rw [h2.1 _ (by omega)]; exact h.2 k hkK
  · have := h2.2 (k - K) (by omega)
    rw [hc _ (by omega), show K + (k - K) = k by omega] at this
    rw [← this]; congr 1; omega
theorem e_Fd.same {f0 f g0 g : Nat → Int32} {t : Int} {K : Nat} {B : Nat → Int32} (h : e_Fd f0 f t K B) (h' : e_Fd g0 g t K B) (he : ∀ j : Nat, (j : Int) < t → f0 j = g0 j) : ∀ j : Nat, (j : Int) < t + K → f j = g j := fun j hj => by
  by_cases hlt : (j : Int) < t
  · rw [h.1 j hlt, h'.1 j hlt]; exact he j hlt
  · by_cases h0 : 0 ≤ t
    · have a := h.2 (Int.toNat (j - t)) (by omega)
      have b := h'.2 (Int.toNat (j - t)) (by omega)
      rw [show Int.toNat (t + ((Int.toNat (j - t) : Nat) : Int)) = j by omega] at a b
      rw [a, b]
    · have a := h.2 (Int.toNat (j - t)) (by omega)
      have b := h'.2 (Int.toNat (j - t)) (by omega)
      rw [show Int.toNat (t + ((Int.toNat (j - t) : Nat) : Int)) = j by omega] at a b
      rw [a, b]
/-! the machine reads nothing behind n -/
theorem e_len_cg {f : Int → Bool} {sg sg' : Nat → Int} {n : Int} (h : ∀ j : Nat, (j : Int) < n → sg j = sg' j) : ∀ (k : Nat) (i : Int), 0 ≤ i → e_len f sg n k i = e_len f sg' n k i := by
  intro k
  induction k with
  | zero => intros; rfl
  | succ k ih =>
    intro i hi
    unfold e_len
    by_cases hn : i < n
    · rw [h i.toNat (by omega), ih (i + 1) (by omega)]
    · rw [if_neg (fun h9 => hn h9.1), if_neg (fun h9 => hn h9.1)]
theorem e_len_le {f : Int → Bool} {sg : Nat → Int} {n : Int} : ∀ (k : Nat) (i : Int), i ≤ n → (e_len f sg n k i : Int) ≤ n - i := by
  intro k
  induction k with
  | zero => intro i hi; show (0 : Int) ≤ _; omega
  | succ k ih =>
    intro i hi
    unfold e_len
    by_cases hn : i < n ∧ f (sg i.toNat) = true
    · rw [if_pos hn]; have := ih (i + 1) (by omega); omega
    · rw [if_neg hn]; omega
theorem e_dec_cg {sg sg' : Nat → Int} {n i : Int} (h : ∀ j : Nat, (j : Int) < n → sg j = sg' j) (hi : 0 ≤ i) : ∀ m : Nat, i + m ≤ n → e_dec sg i m = e_dec sg' i m := by
  intro m
  induction m with
  | zero => intro _; rfl
  | succ m ih => intro hm; unfold e_dec; rw [ih (by omega), h (i + m).toNat (by omega)]
theorem e_word_cg {sg sg' : Nat → Int} {n k fr : Int} {s : e_S} (h : ∀ j : Nat, (j : Int) < n → sg j = sg' j) (h0 : 0 ≤ fr) : e_word sg n k fr s = e_word sg' n k fr s := by
  obtain ⟨a, fs, op, ls, sw, nm⟩ := s
  cases fs with
  | nil => rfl
  | cons x fs => obtain ⟨p, q, r, t, u⟩ := x; simp only [e_word]; rw [e_len_cg h _ _ h0]
theorem e_part_cg {sg sg' : Nat → Int} {n : Int} {s : e_S} (h : ∀ j : Nat, (j : Int) < n → sg j = sg' j) (h0 : 0 ≤ s.1) (h1 : s.1 < n) : e_part sg n s = e_part sg' n s := by
  obtain ⟨a, fs, op, ls, sw, nm⟩ := s
  have h0 : 0 ≤ a := h0
  have h1 : a < n := h1
  cases fs with
  | nil => rfl
  | cons x fs =>
    obtain ⟨p, q, r, t, u⟩ := x
    simp only [e_part]
    have hl := e_len_le (f := e_dg) (sg := sg') (n := n) 801 (a + 1) (by omega)
    rw [h a.toNat (by omega), e_len_cg h _ _ (show 0 ≤ a + 1 by omega), e_dec_cg h (show 0 ≤ a + 1 by omega) _ (by omega), e_word_cg h (show 0 ≤ a + 1 by omega), e_word_cg (k := 2) h (show 0 ≤ a + 1 by omega), e_word_cg (k := 0) h h0]
    by_cases hx : a + 1 + (e_len e_dg sg' n 801 (a + 1) : Int) < n
    · rw [h (a + 1 + (e_len e_dg sg' n 801 (a + 1) : Int)).toNat (by omega)]
    · simp only [hx, false_and, if_false]
theorem e_step_cg {sg sg' : Nat → Int} {n : Int} {s : e_S} (h : ∀ j : Nat, (j : Int) < n → sg j = sg' j) (h0 : 0 ≤ s.1) : e_step sg n s = e_step sg' n s := by
  obtain ⟨a, fs, op, ls, sw, nm⟩ := s
  have h0 : 0 ≤ a := h0
  by_cases hn : n ≤ a
  · cases fs with
    | nil => simp only [e_step, if_pos hn]
    | cons x fs => obtain ⟨p, q, r, t, u⟩ := x; simp only [e_step, if_pos hn]
  · cases fs with
    | nil => simp only [e_step]; rw [h a.toNat (by omega)]
    | cons x fs => obtain ⟨p, q, r, t, u⟩ := x; simp only [e_step]; rw [h a.toNat (by omega), e_part_cg h h0 (show a < n by omega)]
theorem e_word_up {sg : Nat → Int} {n k fr : Int} {s t : e_S} (h0 : 0 ≤ fr) (h : e_word sg n k fr s = .inl t) : 0 ≤ t.1 := by
  obtain ⟨a, fs, op, ls, sw, nm⟩ := s
  cases fs with
  | nil => cases h
  | cons x fs =>
    obtain ⟨p, q, r, t', u⟩ := x
    simp only [e_word] at h
    split at h
    · cases h
    · split at h
      · cases h
      · injection h with h; rw [← h]; show 0 ≤ fr + _; omega
theorem e_part_up {sg : Nat → Int} {n : Int} {s t : e_S} (h0 : 0 ≤ s.1) (h : e_part sg n s = .inl t) : 0 ≤ t.1 := by
  obtain ⟨a, fs, op, ls, sw, nm⟩ := s
  have h0 : 0 ≤ a := h0
  cases fs with
  | nil => cases h
  | cons x fs =>
    obtain ⟨p, q, r, t', u⟩ := x
    simp only [e_part] at h
    by_cases c1 : sg a.toNat = 40
    · rw [if_pos c1] at h; split at h
      · cases h
      · injection h with h; rw [← h]; show 0 ≤ a + 1; omega
    · rw [if_neg c1] at h
      by_cases c2 : sg a.toNat = 123
      · rw [if_pos c2] at h; split at h
        · cases h
        · injection h with h; rw [← h]; show 0 ≤ a + 1; omega
      · rw [if_neg c2] at h
        by_cases c3 : sg a.toNat = 60
        · rw [if_pos c3] at h; split at h
          · cases h
          · split at h
            · cases h
            · split at h
              · injection h with h; rw [← h]; show 0 ≤ a + 2 + _; omega
              · cases h
        · rw [if_neg c3] at h
          by_cases c4 : sg a.toNat = 42
          · rw [if_pos c4] at h; exact e_word_up (by omega) h
          · rw [if_neg c4] at h
            by_cases c5 : sg a.toNat = 126
            · rw [if_pos c5] at h; split at h
              · cases h
              · exact e_word_up (by omega) h
            · rw [if_neg c5] at h; exact e_word_up h0 h
theorem e_step_up {sg : Nat → Int} {n : Int} {s t : e_S} (h0 : 0 ≤ s.1) (h : e_step sg n s = .inl t) : 0 ≤ t.1 := by
  obtain ⟨a, fs, op, ls, sw, nm⟩ := s
  have h0 : 0 ≤ a := h0
  cases fs with
  | nil =>
    simp only [e_step] at h
    split at h
    · cases h
    · split at h
      · injection h with h; rw [← h]; show 0 ≤ a + 1; omega
      · split at h
        · injection h with h; rw [← h]; show 0 ≤ a + 1; omega
        · split at h
          · split at h
            · cases h
            · injection h with h; rw [← h]; exact h0
          · cases h
  | cons x fs =>
    obtain ⟨p, q, r, t', u⟩ := x
    simp only [e_step] at h
    split at h
    · cases h
    · split at h
      · injection h with h; rw [← h]; show 0 ≤ a + 1; omega
      · split at h
        · split at h
          · split at h
            · split at h
              · cases h
              · injection h with h; rw [← h]; exact h0
            · injection h with h; rw [← h]; exact h0
          · exact e_part_up h0 h
        · split at h
          · simp only [e_close] at h
            split at h
            · cases h
            · split at h
              · injection h with h; rw [← h]; show 0 ≤ a + 1; omega
              · split at h
                · injection h with h; rw [← h]; show 0 ≤ a + 1; omega
                · injection h with h; rw [← h]; show 0 ≤ a + 1; omega
          · cases h
theorem e_run_cg {sg sg' : Nat → Int} {n : Int} (h : ∀ j : Nat, (j : Int) < n → sg j = sg' j) : ∀ (k : Nat) (s : e_S), 0 ≤ s.1 → e_run sg n k s = e_run sg' n k s := by
  intro k
  induction k with
  | zero => intros; rfl
  | succ k ih =>
    intro s h0
    simp only [e_run]
    rw [← e_step_cg h h0]
    cases hs : e_step sg n s with
    | inl t => exact ih t (e_step_up h0 hs)
    | inr r => rfl
theorem e_Ev.cg {sg sg' : Nat → Int} {n : Int} {s : e_S} {r : e_R} (hr : e_Ev sg n s r) (h : ∀ j : Nat, (j : Int) < n → sg j = sg' j) (h0 : 0 ≤ s.1) : e_Ev sg' n s r := by
  obtain ⟨k, hr⟩ := hr; exact ⟨k, by rw [← e_run_cg h k s h0]; exact hr⟩
theorem e_fin_op {f p a b : Int} (h : f ≠ 0) : e_fin f p a = e_fin f p b := by unfold e_fin; rw [if_neg h, if_neg h]
/-- both say the same -/
theorem e_fin_one {sg : Nat → Int} {n f p op f' p' op' : Int} {s : e_S} (h : e_Ev sg n s (e_fin f p op)) (h' : e_Ev sg n s (e_fin f' p' op')) (hp : f ≠ 0 ∨ p = -1) (hp' : f' ≠ 0 ∨ p' = -1) : f = f' ∧ p = p' ∧ (f = 0 → op = op') := by
  have e := h.one h'
  unfold e_fin at e
  by_cases h1 : f = 0
  · rw [if_pos h1] at e
    by_cases h2 : f' = 0
    · rw [if_pos h2] at e
      injection e with e1 e2
      injection e2 with e2 e3
      exact ⟨by omega, by omega, fun _ => e3⟩
    · rw [if_neg h2] at e
      injection e with e1 e2
      omega
  · rw [if_neg h1] at e
    by_cases h2 : f' = 0
    · rw [if_pos h2] at e
      injection e with e1 e2
      omega
    · rw [if_neg h2] at e
      injection e with e1 e2
      injection e2 with e2 e3
      exact ⟨e1, e2, fun h9 => absurd h9 h1⟩
def e_b4 (w : Int32) (k : Nat) : Int32 := e_byM w (if k % 4 = 0 then 24 else if k % 4 = 1 then 16 else if k % 4 = 2 then 8 else 0)
theorem e_b4_0 {a b d e g : Int32} : ∀ k, k < 4 → e_b4 a k = e_fb a b d e g (0 + k)
  | 0, _ => rfl
  | 1, _ => rfl
  | 2, _ => rfl
  | 3, _ => rfl
  | k + 4, h => by omega
theorem e_b4_1 {a b d e g : Int32} : ∀ k, k < 4 → e_b4 b k = e_fb a b d e g (0 + 4 + k)
  | 0, _ => rfl
  | 1, _ => rfl
  | 2, _ => rfl
  | 3, _ => rfl
  | k + 4, h => by omega
theorem e_b4_2 {a b d e g : Int32} : ∀ k, k < 4 → e_b4 d k = e_fb a b d e g (0 + 4 + 4 + k)
  | 0, _ => rfl
  | 1, _ => rfl
  | 2, _ => rfl
  | 3, _ => rfl
  | k + 4, h => by omega
theorem e_b4_3 {a b d e g : Int32} : ∀ k, k < 4 → e_b4 e k = e_fb a b d e g (0 + 4 + 4 + 4 + k)
  | 0, _ => rfl
  | 1, _ => rfl
  | 2, _ => rfl
  | 3, _ => rfl
  | k + 4, h => by omega
theorem e_b4_4 {a b d e g : Int32} : ∀ k, k < 4 → e_b4 g k = e_fb a b d e g (0 + 4 + 4 + 4 + 4 + k)
  | 0, _ => rfl
  | 1, _ => rfl
  | 2, _ => rfl
  | 3, _ => rfl
  | k + 4, h => by omega
def e_FX (t : Int) (f0 f : Nat → Int32) (B : Nat → Int32) : Prop := (t + 20 ≤ 800 → e_Fd f0 f t 20 B) ∧ (800 < t + 20 → f = f0)
def e_TX (n t : Int) (f : Nat → Int32) (ft p op : Int) : Prop := 0 ≤ n → n ≤ t → e_Ev (e_sg f) n (0, [], 0, 0, 0, 0) (e_fin ft p op)
theorem e_FX.same {f0 f g0 g : Nat → Int32} {t t' t2 : Int} {B : Nat → Int32} (h : e_FX t f0 f B) (h' : e_FX t' g0 g B) (ht : t = t') (he : ∀ j : Nat, (j : Int) < t → f0 j = g0 j) (h2 : (t + 20 ≤ 800 ∧ t2 = t + 20) ∨ (800 < t + 20 ∧ t2 = t)) : ∀ j : Nat, (j : Int) < t2 → f j = g j := by
  subst ht
  rcases h2 with ⟨a, b⟩ | ⟨a, b⟩
  · subst b; exact (h.1 a).same (h'.1 a) he
  · subst b; rw [h.2 a, h'.2 a]; exact he
theorem e_TX.same {n t : Int} {f g : Nat → Int32} {ft p op ft' p' op' : Int} (h : e_TX n t f ft p op) (h' : e_TX n t g ft' p' op') (h0 : 0 ≤ n) (hn : n ≤ t) (he : ∀ j : Nat, (j : Int) < t → f j = g j) (hp : ft ≠ 0 ∨ p = -1) (hp' : ft' ≠ 0 ∨ p' = -1) : ft = ft' ∧ p = p' ∧ (ft = 0 → op = op') :=
  e_fin_one ((h h0 hn).cg (sg' := e_sg g) (fun j hj => by show (f j).toInt = (g j).toInt; rw [he j (by omega)]) (Int.le_refl _)) (h' h0 hn) hp hp'
theorem e_law_tx {n n2 t t2 f p fm pm f' p' fm' pm' r rm op om : Int} {tape g : Nat → Int32}
    (hx : ((n < 0 ∨ t < n) ∧ r = -2 ∧ f' = f ∧ p' = p) ∨ (0 ≤ n ∧ n ≤ t ∧ ((f' ≠ 0 ∧ r = -1) ∨ (f' = 0 ∧ p' = -1 ∧ r = op))))
    (hm : ((n2 < 0 ∨ t2 < n2) ∧ rm = -2 ∧ fm' = fm ∧ pm' = pm) ∨ (0 ≤ n2 ∧ n2 ≤ t2 ∧ ((fm' ≠ 0 ∧ rm = -1) ∨ (fm' = 0 ∧ pm' = -1 ∧ rm = om))))
    (h8 : e_TX n t tape f' p' op) (h9 : e_TX n t2 g fm' pm' om) (hn : n2 = n) (ht : t2 = t) (tpl : ∀ j : Nat, (j : Int) < t → tape j = g j) (hf : f = fm) (hp : p = pm) : f' = fm' ∧ p' = pm' ∧ r = rm := by
  subst hn; subst ht
  by_cases h : 0 ≤ n2 ∧ n2 ≤ t2
  · have a := e_TX.same h8 h9 h.1 h.2 tpl (by omega) (by omega)
    have hx := hx.resolve_left (by omega)
    have hm := hm.resolve_left (by omega)
    refine ⟨a.1, a.2.1, ?_⟩
    by_cases h0 : f' = 0
    · have := a.2.2 h0; omega
    · omega
  · have hx := hx.resolve_right (by omega)
    have hm := hm.resolve_right (by omega)
    omega

set_option maxHeartbeats 4000000 in
set_option maxRecDepth 100000 in
theorem g4_fault (l : Launch) (D : va_G) (c : Nat → ClassId) (sz : Nat) (y : Nat) (a : Nat → Nat) (v_tapeSize v_thrown v_fault v_faultPlace v_things v_options v_lists v_sentences v_headings v_words v_factBits v_known v_soundMany v_wholeLength v_next v_end v_rThings v_rOptions v_rLists v_rSentences v_rHeadings v_lastName v_inSentence v_open v_written v_named v_sorted : Int32) (f_tape f_kind f_owner f_from f_size f_means f_signs f_oKind f_oIn f_oList f_oWords f_oFacts f_listIn f_sOwner f_hFacts f_weights f_lengths f_values f_rKind f_rOwner f_rFrom f_rSize f_rMeans f_rOKind f_rOIn f_rOList f_rOFacts f_rListIn f_rSOwner f_rHFacts f_rWeights f_opKind f_opFrom f_opWord f_opOwner f_opList f_opItems f_out f_ranks : Nat → Int32) (x_what : Int32) : Met l yX10_fault wsX10_fault ({ frames := 0, cells := 0, slots := 0, locals := 0 }) (q3_P D c (wM c y a v_tapeSize v_thrown v_fault v_faultPlace v_things v_options v_lists v_sentences v_headings v_words v_factBits v_known v_soundMany v_wholeLength v_next v_end v_rThings v_rOptions v_rLists v_rSentences v_rHeadings v_lastName v_inSentence v_open v_written v_named v_sorted f_tape f_kind f_owner f_from f_size f_means f_signs f_oKind f_oIn f_oList f_oWords f_oFacts f_listIn f_sOwner f_hFacts f_weights f_lengths f_values f_rKind f_rOwner f_rFrom f_rSize f_rMeans f_rOKind f_rOIn f_rOList f_rOFacts f_rListIn f_rSOwner f_rHFacts f_rWeights f_opKind f_opFrom f_opWord f_opOwner f_opList f_opItems f_out f_ranks) sz [.ref y, .int x_what]) (q2_i D (wM c y a v_tapeSize v_thrown v_fault v_faultPlace v_things v_options v_lists v_sentences v_headings v_words v_factBits v_known v_soundMany v_wholeLength v_next v_end v_rThings v_rOptions v_rLists v_rSentences v_rHeadings v_lastName v_inSentence v_open v_written v_named v_sorted f_tape f_kind f_owner f_from f_size f_means f_signs f_oKind f_oIn f_oList f_oWords f_oFacts f_listIn f_sOwner f_hFacts f_weights f_lengths f_values f_rKind f_rOwner f_rFrom f_rSize f_rMeans f_rOKind f_rOIn f_rOList f_rOFacts f_rListIn f_rSOwner f_rHFacts f_rWeights f_opKind f_opFrom f_opWord f_opOwner f_opList f_opItems f_out f_ranks) sz (fun r u => ((x_what.toInt = 0 ∧ r.toInt = v_fault.toInt) ∨ (x_what.toInt = 1 ∧ r.toInt = v_faultPlace.toInt) ∨ (x_what.toInt ≠ 0 ∧ x_what.toInt ≠ 1 ∧ r.toInt = -1)) ∧ True) (fun u => wM c y a v_tapeSize (u.2.1 0) v_fault v_faultPlace v_things v_options v_lists v_sentences v_headings v_words v_factBits v_known v_soundMany v_wholeLength v_next v_end v_rThings v_rOptions v_rLists v_rSentences v_rHeadings v_lastName v_inSentence v_open v_written v_named v_sorted f_tape f_kind f_owner f_from f_size f_means f_signs f_oKind f_oIn f_oList f_oWords f_oFacts f_listIn f_sOwner f_hFacts f_weights f_lengths f_values f_rKind f_rOwner f_rFrom f_rSize f_rMeans f_rOKind f_rOIn f_rOList f_rOFacts f_rListIn f_rSOwner f_rHFacts f_rWeights f_opKind f_opFrom f_opWord f_opOwner f_opList f_opItems f_out f_ranks)) (0) (0) (va_A (wM c y a v_tapeSize v_thrown v_fault v_faultPlace v_things v_options v_lists v_sentences v_headings v_words v_factBits v_known v_soundMany v_wholeLength v_next v_end v_rThings v_rOptions v_rLists v_rSentences v_rHeadings v_lastName v_inSentence v_open v_written v_named v_sorted f_tape f_kind f_owner f_from f_size f_means f_signs f_oKind f_oIn f_oList f_oWords f_oFacts f_listIn f_sOwner f_hFacts f_weights f_lengths f_values f_rKind f_rOwner f_rFrom f_rSize f_rMeans f_rOKind f_rOIn f_rOList f_rOFacts f_rListIn f_rSOwner f_rHFacts f_rWeights f_opKind f_opFrom f_opWord f_opOwner f_opList f_opItems f_out f_ranks) sz) := by
  refine q3_of_i (ty := .int) (fun _ _ _ => rfl) (cc := cX10_fault) (maxL := 2) (by decide) rfl (Nat.le_of_ble_eq_true rfl) (fun p e s m args below meth cd A Q ls hx hb hml hown hts hA hS hP hD hK hl hret => ?_)
  have hown : s.vm.findClass RX10 = some m.cls := hown
  obtain ⟨H, eH⟩ : ∃ z, z = s.heap := ⟨_, rfl⟩
  have hP : va_P D vwCl (wM c y a v_tapeSize v_thrown v_fault v_faultPlace v_things v_options v_lists v_sentences v_headings v_words v_factBits v_known v_soundMany v_wholeLength v_next v_end v_rThings v_rOptions v_rLists v_rSentences v_rHeadings v_lastName v_inSentence v_open v_written v_named v_sorted f_tape f_kind f_owner f_from f_size f_means f_signs f_oKind f_oIn f_oList f_oWords f_oFacts f_listIn f_sOwner f_hFacts f_weights f_lengths f_values f_rKind f_rOwner f_rFrom f_rSize f_rMeans f_rOKind f_rOIn f_rOList f_rOFacts f_rListIn f_rSOwner f_rHFacts f_rWeights f_opKind f_opFrom f_opWord f_opOwner f_opList f_opItems f_out f_ranks) H := by rw [eH]; exact hP
  have hS : va_S A s.heap H [] := by rw [eH]; exact hS
  rw [← eH]
  have iX10 : ∀ w ∈ wsX100, w ∈ wsX10_fault := fun w h => List.mem_cons_of_mem _ (List.mem_append_right _ h)
  have hl : lv_has ls 2 [(0, .ref y), (1, .int x_what)] := hl
  refine lv_aload_n hx hb dX10_fault_0 rfl (lv_at hl 0 rfl) ?_
  refine lv_iconst (v := 0) hx hb dX10_fault_1 (by decide) ?_
  refine va_put (D := D) (ci := 10) (v := .int 0) (ty := .int) (C := RX10) (T := TX10) (N := 66) hx hb hts iX10 tyX10 tyX10_ok nmX10 hown hK hP hD hS 0 rfl rfl 2 (by decide) (hts (.fieldLink RX10 135 "ShortTellerModel" "thrown" "I") (List.mem_of_getElem? (i := 1) rfl)) (fun _ h9 => h9) rfl (by decide +kernel) rfl rfl (Nat.le_of_ble_eq_true rfl) dX10_fault_2 (fun H locs hP hD hS => ?_)
  have hP : va_P D vwCl (wM c y a v_tapeSize (0) v_fault v_faultPlace v_things v_options v_lists v_sentences v_headings v_words v_factBits v_known v_soundMany v_wholeLength v_next v_end v_rThings v_rOptions v_rLists v_rSentences v_rHeadings v_lastName v_inSentence v_open v_written v_named v_sorted f_tape f_kind f_owner f_from f_size f_means f_signs f_oKind f_oIn f_oList f_oWords f_oFacts f_listIn f_sOwner f_hFacts f_weights f_lengths f_values f_rKind f_rOwner f_rFrom f_rSize f_rMeans f_rOKind f_rOIn f_rOList f_rOFacts f_rListIn f_rSOwner f_rHFacts f_rWeights f_opKind f_opFrom f_opWord f_opOwner f_opList f_opItems f_out f_ranks) H := hP
  have hD : va_D A (wM c y a v_tapeSize (0) v_fault v_faultPlace v_things v_options v_lists v_sentences v_headings v_words v_factBits v_known v_soundMany v_wholeLength v_next v_end v_rThings v_rOptions v_rLists v_rSentences v_rHeadings v_lastName v_inSentence v_open v_written v_named v_sorted f_tape f_kind f_owner f_from f_size f_means f_signs f_oKind f_oIn f_oList f_oWords f_oFacts f_listIn f_sOwner f_hFacts f_weights f_lengths f_values f_rKind f_rOwner f_rFrom f_rSize f_rMeans f_rOKind f_rOIn f_rOList f_rOFacts f_rListIn f_rSOwner f_rHFacts f_rWeights f_opKind f_opFrom f_opWord f_opOwner f_opList f_opItems f_out f_ranks) := hD
  refine lv_iload_n hx hb dX10_fault_5 rfl (lv_at hl 1 rfl) ?_
  refine lv_if_ne (tgt := 16) hx hb dX10_fault_6 (by decide) (fun g1 => ?_) (fun g1 => ?_)
  · have g1 : ¬ x_what.toInt = (0 : Int) := (not_congr (q3_eq rfl (by decide))).mp g1
    refine lv_iload_n hx hb dX10_fault_16 rfl (lv_at hl 1 rfl) ?_
    refine lv_iconst (v := 1) hx hb dX10_fault_17 (by decide) ?_
    refine lv_icmp_ne (tgt := 28) hx hb dX10_fault_18 (by decide) (fun g2 => ?_) (fun g2 => ?_)
    · have g2 : ¬ x_what.toInt = (1 : Int) := (not_congr (q3_eq rfl (by decide))).mp g2
      refine lv_iconst (v := -1) hx hb dX10_fault_28 (by decide) ?_
      exact hret (-1) (q2_u [] [0] []) _ _ _ _ ⟨(show (x_what.toInt = 0 ∧ (-1 : Int) = v_fault.toInt) ∨ (x_what.toInt = 1 ∧ (-1 : Int) = v_faultPlace.toInt) ∨ (x_what.toInt ≠ 0 ∧ x_what.toInt ≠ 1 ∧ (-1 : Int) = -1) by omega), trivial⟩ dX10_fault_29 hP hD hS
    · have g2 : x_what.toInt = (1 : Int) := (q3_eq rfl (by decide)).mp g2
      refine lv_aload_n hx hb dX10_fault_21 rfl (lv_at hl 0 rfl) ?_
      refine va_get (D := D) (ci := 10) (v := .int v_faultPlace) (C := RX10) (T := TX10) (N := 66) hx hb hts iX10 hown hK hP 0 rfl rfl 4 (by decide) (hts (.fieldLink RX10 13 "ShortTellerModel" "faultPlace" "I") (List.mem_of_getElem? (i := 3) rfl)) (fun _ h9 => h9) rfl dX10_fault_22 ?_
      refine lv_goto (tgt := 29) hx hb dX10_fault_25 (by decide) ?_
      exact hret (v_faultPlace) (q2_u [] [0] []) _ _ _ _ ⟨(show (x_what.toInt = 0 ∧ v_faultPlace.toInt = v_fault.toInt) ∨ (x_what.toInt = 1 ∧ v_faultPlace.toInt = v_faultPlace.toInt) ∨ (x_what.toInt ≠ 0 ∧ x_what.toInt ≠ 1 ∧ v_faultPlace.toInt = -1) by omega), trivial⟩ dX10_fault_29 hP hD hS
  · have g1 : x_what.toInt = (0 : Int) := (q3_eq rfl (by decide)).mp g1
    refine lv_aload_n hx hb dX10_fault_9 rfl (lv_at hl 0 rfl) ?_
    refine va_get (D := D) (ci := 10) (v := .int v_fault) (C := RX10) (T := TX10) (N := 66) hx hb hts iX10 hown hK hP 0 rfl rfl 3 (by decide) (hts (.fieldLink RX10 141 "ShortTellerModel" "fault" "I") (List.mem_of_getElem? (i := 2) rfl)) (fun _ h9 => h9) rfl dX10_fault_10 ?_
    refine lv_goto (tgt := 29) hx hb dX10_fault_13 (by decide) ?_
    exact hret (v_fault) (q2_u [] [0] []) _ _ _ _ ⟨(show (x_what.toInt = 0 ∧ v_fault.toInt = v_fault.toInt) ∨ (x_what.toInt = 1 ∧ v_fault.toInt = v_faultPlace.toInt) ∨ (x_what.toInt ≠ 0 ∧ x_what.toInt ≠ 1 ∧ v_fault.toInt = -1) by omega), trivial⟩ dX10_fault_29 hP hD hS
set_option maxHeartbeats 4000000 in
set_option maxRecDepth 100000 in
theorem g4_feed (l : Launch) (D : va_G) (c : Nat → ClassId) (sz : Nat) (y : Nat) (a : Nat → Nat) (v_tapeSize v_thrown v_fault v_faultPlace v_things v_options v_lists v_sentences v_headings v_words v_factBits v_known v_soundMany v_wholeLength v_next v_end v_rThings v_rOptions v_rLists v_rSentences v_rHeadings v_lastName v_inSentence v_open v_written v_named v_sorted : Int32) (f_tape f_kind f_owner f_from f_size f_means f_signs f_oKind f_oIn f_oList f_oWords f_oFacts f_listIn f_sOwner f_hFacts f_weights f_lengths f_values f_rKind f_rOwner f_rFrom f_rSize f_rMeans f_rOKind f_rOIn f_rOList f_rOFacts f_rListIn f_rSOwner f_rHFacts f_rWeights f_opKind f_opFrom f_opWord f_opOwner f_opList f_opItems f_out f_ranks : Nat → Int32) (x_a : Int32) (x_b : Int32) (x_d : Int32) (x_e : Int32) (x_g : Int32) (h0 : 0 ≤ v_tapeSize.toInt) (h1 : v_tapeSize.toInt ≤ 800) (h2 : ∀ j : Nat, 0 ≤ (f_tape j).toInt ∧ (f_tape j).toInt ≤ 255) : Met l yX10_feed wsX10_feed ({ frames := 0, cells := 0, slots := 0, locals := 0 }) (q3_P D c (wM c y a v_tapeSize v_thrown v_fault v_faultPlace v_things v_options v_lists v_sentences v_headings v_words v_factBits v_known v_soundMany v_wholeLength v_next v_end v_rThings v_rOptions v_rLists v_rSentences v_rHeadings v_lastName v_inSentence v_open v_written v_named v_sorted f_tape f_kind f_owner f_from f_size f_means f_signs f_oKind f_oIn f_oList f_oWords f_oFacts f_listIn f_sOwner f_hFacts f_weights f_lengths f_values f_rKind f_rOwner f_rFrom f_rSize f_rMeans f_rOKind f_rOIn f_rOList f_rOFacts f_rListIn f_rSOwner f_rHFacts f_rWeights f_opKind f_opFrom f_opWord f_opOwner f_opList f_opItems f_out f_ranks) sz [.ref y, .int x_a, .int x_b, .int x_d, .int x_e, .int x_g]) (q2_i D (wM c y a v_tapeSize v_thrown v_fault v_faultPlace v_things v_options v_lists v_sentences v_headings v_words v_factBits v_known v_soundMany v_wholeLength v_next v_end v_rThings v_rOptions v_rLists v_rSentences v_rHeadings v_lastName v_inSentence v_open v_written v_named v_sorted f_tape f_kind f_owner f_from f_size f_means f_signs f_oKind f_oIn f_oList f_oWords f_oFacts f_listIn f_sOwner f_hFacts f_weights f_lengths f_values f_rKind f_rOwner f_rFrom f_rSize f_rMeans f_rOKind f_rOIn f_rOList f_rOFacts f_rListIn f_rSOwner f_rHFacts f_rWeights f_opKind f_opFrom f_opWord f_opOwner f_opList f_opItems f_out f_ranks) sz (fun r u => ((v_tapeSize.toInt + 20 ≤ 800 ∧ r.toInt = v_tapeSize.toInt + 20 ∧ (u.2.1 1).toInt = v_tapeSize.toInt + 20) ∨ (800 < v_tapeSize.toInt + 20 ∧ r.toInt = -1 ∧ (u.2.1 1).toInt = v_tapeSize.toInt)) ∧ (∀ j : Nat, 0 ≤ ((u.2.2 0) j).toInt ∧ ((u.2.2 0) j).toInt ≤ 255) ∧ (e_FX v_tapeSize.toInt f_tape (u.2.2 0) (e_fb x_a x_b x_d x_e x_g)) ∧ True) (fun u => wM c y a (u.2.1 1) (u.2.1 0) v_fault v_faultPlace v_things v_options v_lists v_sentences v_headings v_words v_factBits v_known v_soundMany v_wholeLength v_next v_end v_rThings v_rOptions v_rLists v_rSentences v_rHeadings v_lastName v_inSentence v_open v_written v_named v_sorted (u.2.2 0) f_kind f_owner f_from f_size f_means f_signs f_oKind f_oIn f_oList f_oWords f_oFacts f_listIn f_sOwner f_hFacts f_weights f_lengths f_values f_rKind f_rOwner f_rFrom f_rSize f_rMeans f_rOKind f_rOIn f_rOList f_rOFacts f_rListIn f_rSOwner f_rHFacts f_rWeights f_opKind f_opFrom f_opWord f_opOwner f_opList f_opItems f_out f_ranks)) (0) (0) (va_A (wM c y a v_tapeSize v_thrown v_fault v_faultPlace v_things v_options v_lists v_sentences v_headings v_words v_factBits v_known v_soundMany v_wholeLength v_next v_end v_rThings v_rOptions v_rLists v_rSentences v_rHeadings v_lastName v_inSentence v_open v_written v_named v_sorted f_tape f_kind f_owner f_from f_size f_means f_signs f_oKind f_oIn f_oList f_oWords f_oFacts f_listIn f_sOwner f_hFacts f_weights f_lengths f_values f_rKind f_rOwner f_rFrom f_rSize f_rMeans f_rOKind f_rOIn f_rOList f_rOFacts f_rListIn f_rSOwner f_rHFacts f_rWeights f_opKind f_opFrom f_opWord f_opOwner f_opList f_opItems f_out f_ranks) sz) := by
  refine q3_of_i (ty := .int) (fun _ _ _ => rfl) (cc := cX10_feed) (maxL := 8) (by decide) rfl (Nat.le_of_ble_eq_true rfl) (fun p e s m args below meth cd A Q ls hx hb hml hown hts hA hS hP hD hK hl hret => ?_)
  have hown : s.vm.findClass RX10 = some m.cls := hown
  obtain ⟨H, eH⟩ : ∃ z, z = s.heap := ⟨_, rfl⟩
  have hP : va_P D vwCl (wM c y a v_tapeSize v_thrown v_fault v_faultPlace v_things v_options v_lists v_sentences v_headings v_words v_factBits v_known v_soundMany v_wholeLength v_next v_end v_rThings v_rOptions v_rLists v_rSentences v_rHeadings v_lastName v_inSentence v_open v_written v_named v_sorted f_tape f_kind f_owner f_from f_size f_means f_signs f_oKind f_oIn f_oList f_oWords f_oFacts f_listIn f_sOwner f_hFacts f_weights f_lengths f_values f_rKind f_rOwner f_rFrom f_rSize f_rMeans f_rOKind f_rOIn f_rOList f_rOFacts f_rListIn f_rSOwner f_rHFacts f_rWeights f_opKind f_opFrom f_opWord f_opOwner f_opList f_opItems f_out f_ranks) H := by rw [eH]; exact hP
  have hS : va_S A s.heap H [] := by rw [eH]; exact hS
  rw [← eH]
  have iX10 : ∀ w ∈ wsX100, w ∈ wsX10_feed := fun w h => List.mem_cons_of_mem _ (List.mem_append_right _ h)
  have hl : lv_has ls 8 [(0, .ref y), (1, .int x_a), (2, .int x_b), (3, .int x_d), (4, .int x_e), (5, .int x_g)] := hl
  refine lv_aload_n hx hb dX10_feed_0 rfl (lv_at hl 0 rfl) ?_
  refine lv_iconst (v := 0) hx hb dX10_feed_1 (by decide) ?_
  refine va_put (D := D) (ci := 10) (v := .int 0) (ty := .int) (C := RX10) (T := TX10) (N := 66) hx hb hts iX10 tyX10 tyX10_ok nmX10 hown hK hP hD hS 0 rfl rfl 2 (by decide) (hts (.fieldLink RX10 135 "ShortTellerModel" "thrown" "I") (List.mem_of_getElem? (i := 1) rfl)) (fun _ h9 => h9) rfl (by decide +kernel) rfl rfl (Nat.le_of_ble_eq_true rfl) dX10_feed_2 (fun H locs hP hD hS => ?_)
  have hP : va_P D vwCl (wM c y a v_tapeSize (0) v_fault v_faultPlace v_things v_options v_lists v_sentences v_headings v_words v_factBits v_known v_soundMany v_wholeLength v_next v_end v_rThings v_rOptions v_rLists v_rSentences v_rHeadings v_lastName v_inSentence v_open v_written v_named v_sorted f_tape f_kind f_owner f_from f_size f_means f_signs f_oKind f_oIn f_oList f_oWords f_oFacts f_listIn f_sOwner f_hFacts f_weights f_lengths f_values f_rKind f_rOwner f_rFrom f_rSize f_rMeans f_rOKind f_rOIn f_rOList f_rOFacts f_rListIn f_rSOwner f_rHFacts f_rWeights f_opKind f_opFrom f_opWord f_opOwner f_opList f_opItems f_out f_ranks) H := hP
  have hD : va_D A (wM c y a v_tapeSize (0) v_fault v_faultPlace v_things v_options v_lists v_sentences v_headings v_words v_factBits v_known v_soundMany v_wholeLength v_next v_end v_rThings v_rOptions v_rLists v_rSentences v_rHeadings v_lastName v_inSentence v_open v_written v_named v_sorted f_tape f_kind f_owner f_from f_size f_means f_signs f_oKind f_oIn f_oList f_oWords f_oFacts f_listIn f_sOwner f_hFacts f_weights f_lengths f_values f_rKind f_rOwner f_rFrom f_rSize f_rMeans f_rOKind f_rOIn f_rOList f_rOFacts f_rListIn f_rSOwner f_rHFacts f_rWeights f_opKind f_opFrom f_opWord f_opOwner f_opList f_opItems f_out f_ranks) := hD
  refine lv_aload_n hx hb dX10_feed_5 rfl (lv_at hl 0 rfl) ?_
  refine va_get (D := D) (ci := 10) (v := .int v_tapeSize) (C := RX10) (T := TX10) (N := 66) hx hb hts iX10 hown hK hP 0 rfl rfl 1 (by decide) (hts (.fieldLink RX10 138 "ShortTellerModel" "tapeSize" "I") (List.mem_of_getElem? (i := 2) rfl)) (fun _ h9 => h9) rfl dX10_feed_6 ?_
  refine lv_bipush (v := 20) hx hb dX10_feed_9 (by decide) ?_
  refine lv_iadd hx hb dX10_feed_11 ?_
  refine lv_topi (fun n1 en1 => ?_)
  have tn1 : n1.toInt = v_tapeSize.toInt + (20 : Int) := q3_add en1 rfl (by decide) (by omega) (by omega)
  refine lv_sipush (v := 800) hx hb dX10_feed_12 (by decide) ?_
  refine lv_icmp_le (tgt := 20) hx hb dX10_feed_15 (by decide) (fun g2 => ?_) (fun g2 => ?_)
  · have g2 : n1.toInt ≤ (800 : Int) := (q3_le rfl (by decide)).mp g2
    refine lv_iconst (v := 0) hx hb dX10_feed_20 (by decide) ?_
    refine lv_istore (lv' := [(6, .int 0), (0, .ref y), (1, .int x_a), (2, .int x_b), (3, .int x_d), (4, .int x_e), (5, .int x_g)]) hx hb dX10_feed_21 hl (by decide) rfl (fun ls hl => ?_)
    have fd0 : e_Fd f_tape f_tape v_tapeSize.toInt 0 (e_fb x_a x_b x_d x_e x_g) := e_Fd.nil
    refine lv_iload hx hb dX10_feed_23 (lv_at hl 0 rfl) ?_
    refine lv_bipush (v := 20) hx hb dX10_feed_25 (by decide) ?_
    refine lv_icmp_ge (tgt := 113) hx hb dX10_feed_27 (by decide) (fun h9 => absurd h9 (by decide)) (fun _ => ?_)
    refine lv_iload hx hb dX10_feed_30 (lv_at hl 0 rfl) ?_
    refine lv_iconst (v := 4) hx hb dX10_feed_32 (by decide) ?_
    refine lv_icmp_ge (tgt := 40) hx hb dX10_feed_33 (by decide) (fun h9 => absurd h9 (by decide)) (fun _ => ?_)
    refine lv_iload_n hx hb dX10_feed_36 rfl (lv_at hl 2 rfl) ?_
    refine lv_goto (tgt := 76) hx hb dX10_feed_37 (by decide) ?_
    refine lv_istore (lv' := [(7, .int x_a), (6, .int 0), (0, .ref y), (1, .int x_a), (2, .int x_b), (3, .int x_d), (4, .int x_e), (5, .int x_g)]) hx hb dX10_feed_76 hl (by decide) rfl (fun ls hl => ?_)
    refine lv_aload_n hx hb dX10_feed_78 rfl (lv_at hl 2 rfl) ?_
    refine va_get (D := D) (ci := 10) (v := .ref (a 0)) (C := RX10) (T := TX10) (N := 66) hx hb hts iX10 hown hK hP 0 rfl rfl 0 (by decide) (hts (.fieldLink RX10 7 "ShortTellerModel" "tape" "[I") (List.mem_of_getElem? (i := 3) rfl)) (fun _ h9 => h9) rfl dX10_feed_79 ?_
    refine lv_aload_n hx hb dX10_feed_82 rfl (lv_at hl 2 rfl) ?_
    refine va_get (D := D) (ci := 10) (v := .int v_tapeSize) (C := RX10) (T := TX10) (N := 66) hx hb hts iX10 hown hK hP 0 rfl rfl 1 (by decide) (hts (.fieldLink RX10 138 "ShortTellerModel" "tapeSize" "I") (List.mem_of_getElem? (i := 2) rfl)) (fun _ h9 => h9) rfl dX10_feed_83 ?_
    refine lv_iload hx hb dX10_feed_86 (lv_at hl 1 rfl) ?_
    refine lv_iadd hx hb dX10_feed_88 ?_
    refine lv_topi (fun n3 en3 => ?_)
    have tn3 : n3.toInt = v_tapeSize.toInt + (0 : Int) := q3_add en3 rfl (by decide) (by omega) (by omega)
    refine lv_iload hx hb dX10_feed_89 (lv_at hl 0 rfl) ?_
    refine lv_bipush (v := 24) hx hb dX10_feed_91 (by decide) ?_
    refine lv_bipush (v := 8) hx hb dX10_feed_93 (by decide) ?_
    refine lv_iload hx hb dX10_feed_95 (lv_at hl 1 rfl) ?_
    refine lv_iconst (v := 4) hx hb dX10_feed_97 (by decide) ?_
    refine lv_irem hx hb dX10_feed_98 (by decide) ?_
    refine q1_top (v := 0) (by decide) ?_
    refine lv_imul hx hb dX10_feed_99 ?_
    refine q1_top (v := 0) (by decide) ?_
    refine lv_isub hx hb dX10_feed_100 ?_
    refine q1_top (v := 24) (by decide) ?_
    refine lv_ishr hx hb dX10_feed_101 ?_
    refine lv_topi (fun n4 en4 => ?_)
    refine lv_sipush (v := 255) hx hb dX10_feed_102 (by decide) ?_
    refine lv_iand hx hb dX10_feed_105 ?_
    refine lv_topi (fun n5 en5 => ?_)
    have tn5 := q3_and255 en5
    refine q3_iast (c := c) hx hb hK hP hD hS 1 rfl (q2_in (by omega) (by omega)) dX10_feed_106 (fun F6 eF6 H locs hP hD hS => ?_)
    have hP : va_P D vwCl (wM c y a v_tapeSize (0) v_fault v_faultPlace v_things v_options v_lists v_sentences v_headings v_words v_factBits v_known v_soundMany v_wholeLength v_next v_end v_rThings v_rOptions v_rLists v_rSentences v_rHeadings v_lastName v_inSentence v_open v_written v_named v_sorted F6 f_kind f_owner f_from f_size f_means f_signs f_oKind f_oIn f_oList f_oWords f_oFacts f_listIn f_sOwner f_hFacts f_weights f_lengths f_values f_rKind f_rOwner f_rFrom f_rSize f_rMeans f_rOKind f_rOIn f_rOList f_rOFacts f_rListIn f_rSOwner f_rHFacts f_rWeights f_opKind f_opFrom f_opWord f_opOwner f_opList f_opItems f_out f_ranks) H := hP
    have hD : va_D A (wM c y a v_tapeSize (0) v_fault v_faultPlace v_things v_options v_lists v_sentences v_headings v_words v_factBits v_known v_soundMany v_wholeLength v_next v_end v_rThings v_rOptions v_rLists v_rSentences v_rHeadings v_lastName v_inSentence v_open v_written v_named v_sorted F6 f_kind f_owner f_from f_size f_means f_signs f_oKind f_oIn f_oList f_oWords f_oFacts f_listIn f_sOwner f_hFacts f_weights f_lengths f_values f_rKind f_rOwner f_rFrom f_rSize f_rMeans f_rOKind f_rOIn f_rOList f_rOFacts f_rListIn f_rSOwner f_rHFacts f_rWeights f_opKind f_opFrom f_opWord f_opOwner f_opList f_opItems f_out f_ranks) := hD
    have hF6_0 : ∀ j : Nat, 0 ≤ (F6 j).toInt ∧ (F6 j).toInt ≤ 255 := q3_up (P := fun z => 0 ≤ z.toInt ∧ z.toInt ≤ 255) eF6 h2 (show 0 ≤ n5.toInt ∧ n5.toInt ≤ 255 by omega)
    have fd1 : e_Fd f_tape F6 v_tapeSize.toInt 1 (e_fb x_a x_b x_d x_e x_g) := fd0.more eF6 (by omega) (by omega) (by rw [en5, en4]; rfl)
    refine lv_iinc (v := 1) (lv' := [(6, .int 1), (7, .int x_a), (0, .ref y), (1, .int x_a), (2, .int x_b), (3, .int x_d), (4, .int x_e), (5, .int x_g)]) hx hb dX10_feed_107 hl (k := 1) rfl (by decide) (by decide) rfl (fun ls hl => ?_)
    refine lv_goto (tgt := 23) hx hb dX10_feed_110 (by decide) ?_
    refine lv_iload hx hb dX10_feed_23 (lv_at hl 0 rfl) ?_
    refine lv_bipush (v := 20) hx hb dX10_feed_25 (by decide) ?_
    refine lv_icmp_ge (tgt := 113) hx hb dX10_feed_27 (by decide) (fun h9 => absurd h9 (by decide)) (fun _ => ?_)
    refine lv_iload hx hb dX10_feed_30 (lv_at hl 0 rfl) ?_
    refine lv_iconst (v := 4) hx hb dX10_feed_32 (by decide) ?_
    refine lv_icmp_ge (tgt := 40) hx hb dX10_feed_33 (by decide) (fun h9 => absurd h9 (by decide)) (fun _ => ?_)
    refine lv_iload_n hx hb dX10_feed_36 rfl (lv_at hl 3 rfl) ?_
    refine lv_goto (tgt := 76) hx hb dX10_feed_37 (by decide) ?_
    refine lv_istore (lv' := [(7, .int x_a), (6, .int 1), (0, .ref y), (1, .int x_a), (2, .int x_b), (3, .int x_d), (4, .int x_e), (5, .int x_g)]) hx hb dX10_feed_76 hl (by decide) rfl (fun ls hl => ?_)
    refine lv_aload_n hx hb dX10_feed_78 rfl (lv_at hl 2 rfl) ?_
    refine va_get (D := D) (ci := 10) (v := .ref (a 0)) (C := RX10) (T := TX10) (N := 66) hx hb hts iX10 hown hK hP 0 rfl rfl 0 (by decide) (hts (.fieldLink RX10 7 "ShortTellerModel" "tape" "[I") (List.mem_of_getElem? (i := 3) rfl)) (fun _ h9 => h9) rfl dX10_feed_79 ?_
    refine lv_aload_n hx hb dX10_feed_82 rfl (lv_at hl 2 rfl) ?_
    refine va_get (D := D) (ci := 10) (v := .int v_tapeSize) (C := RX10) (T := TX10) (N := 66) hx hb hts iX10 hown hK hP 0 rfl rfl 1 (by decide) (hts (.fieldLink RX10 138 "ShortTellerModel" "tapeSize" "I") (List.mem_of_getElem? (i := 2) rfl)) (fun _ h9 => h9) rfl dX10_feed_83 ?_
    refine lv_iload hx hb dX10_feed_86 (lv_at hl 1 rfl) ?_
    refine lv_iadd hx hb dX10_feed_88 ?_
    refine lv_topi (fun n7 en7 => ?_)
    have tn7 : n7.toInt = v_tapeSize.toInt + (1 : Int) := q3_add en7 rfl (by decide) (by omega) (by omega)
    refine lv_iload hx hb dX10_feed_89 (lv_at hl 0 rfl) ?_
    refine lv_bipush (v := 24) hx hb dX10_feed_91 (by decide) ?_
    refine lv_bipush (v := 8) hx hb dX10_feed_93 (by decide) ?_
    refine lv_iload hx hb dX10_feed_95 (lv_at hl 1 rfl) ?_
    refine lv_iconst (v := 4) hx hb dX10_feed_97 (by decide) ?_
    refine lv_irem hx hb dX10_feed_98 (by decide) ?_
    refine q1_top (v := 1) (by decide) ?_
    refine lv_imul hx hb dX10_feed_99 ?_
    refine q1_top (v := 8) (by decide) ?_
    refine lv_isub hx hb dX10_feed_100 ?_
    refine q1_top (v := 16) (by decide) ?_
    refine lv_ishr hx hb dX10_feed_101 ?_
    refine lv_topi (fun n8 en8 => ?_)
    refine lv_sipush (v := 255) hx hb dX10_feed_102 (by decide) ?_
    refine lv_iand hx hb dX10_feed_105 ?_
    refine lv_topi (fun n9 en9 => ?_)
    have tn9 := q3_and255 en9
    refine q3_iast (c := c) hx hb hK hP hD hS 1 rfl (q2_in (by omega) (by omega)) dX10_feed_106 (fun F10 eF10 H locs hP hD hS => ?_)
    have hP : va_P D vwCl (wM c y a v_tapeSize (0) v_fault v_faultPlace v_things v_options v_lists v_sentences v_headings v_words v_factBits v_known v_soundMany v_wholeLength v_next v_end v_rThings v_rOptions v_rLists v_rSentences v_rHeadings v_lastName v_inSentence v_open v_written v_named v_sorted F10 f_kind f_owner f_from f_size f_means f_signs f_oKind f_oIn f_oList f_oWords f_oFacts f_listIn f_sOwner f_hFacts f_weights f_lengths f_values f_rKind f_rOwner f_rFrom f_rSize f_rMeans f_rOKind f_rOIn f_rOList f_rOFacts f_rListIn f_rSOwner f_rHFacts f_rWeights f_opKind f_opFrom f_opWord f_opOwner f_opList f_opItems f_out f_ranks) H := hP
    have hD : va_D A (wM c y a v_tapeSize (0) v_fault v_faultPlace v_things v_options v_lists v_sentences v_headings v_words v_factBits v_known v_soundMany v_wholeLength v_next v_end v_rThings v_rOptions v_rLists v_rSentences v_rHeadings v_lastName v_inSentence v_open v_written v_named v_sorted F10 f_kind f_owner f_from f_size f_means f_signs f_oKind f_oIn f_oList f_oWords f_oFacts f_listIn f_sOwner f_hFacts f_weights f_lengths f_values f_rKind f_rOwner f_rFrom f_rSize f_rMeans f_rOKind f_rOIn f_rOList f_rOFacts f_rListIn f_rSOwner f_rHFacts f_rWeights f_opKind f_opFrom f_opWord f_opOwner f_opList f_opItems f_out f_ranks) := hD
    have hF10_0 : ∀ j : Nat, 0 ≤ (F10 j).toInt ∧ (F10 j).toInt ≤ 255 := q3_up (P := fun z => 0 ≤ z.toInt ∧ z.toInt ≤ 255) eF10 hF6_0 (show 0 ≤ n9.toInt ∧ n9.toInt ≤ 255 by omega)
    have fd2 : e_Fd f_tape F10 v_tapeSize.toInt 2 (e_fb x_a x_b x_d x_e x_g) := fd1.more eF10 (by omega) (by omega) (by rw [en9, en8]; rfl)
    refine lv_iinc (v := 2) (lv' := [(6, .int 2), (7, .int x_a), (0, .ref y), (1, .int x_a), (2, .int x_b), (3, .int x_d), (4, .int x_e), (5, .int x_g)]) hx hb dX10_feed_107 hl (k := 1) rfl (by decide) (by decide) rfl (fun ls hl => ?_)
    refine lv_goto (tgt := 23) hx hb dX10_feed_110 (by decide) ?_
    refine lv_iload hx hb dX10_feed_23 (lv_at hl 0 rfl) ?_
    refine lv_bipush (v := 20) hx hb dX10_feed_25 (by decide) ?_
    refine lv_icmp_ge (tgt := 113) hx hb dX10_feed_27 (by decide) (fun h9 => absurd h9 (by decide)) (fun _ => ?_)
    refine lv_iload hx hb dX10_feed_30 (lv_at hl 0 rfl) ?_
    refine lv_iconst (v := 4) hx hb dX10_feed_32 (by decide) ?_
    refine lv_icmp_ge (tgt := 40) hx hb dX10_feed_33 (by decide) (fun h9 => absurd h9 (by decide)) (fun _ => ?_)
    refine lv_iload_n hx hb dX10_feed_36 rfl (lv_at hl 3 rfl) ?_
    refine lv_goto (tgt := 76) hx hb dX10_feed_37 (by decide) ?_
    refine lv_istore (lv' := [(7, .int x_a), (6, .int 2), (0, .ref y), (1, .int x_a), (2, .int x_b), (3, .int x_d), (4, .int x_e), (5, .int x_g)]) hx hb dX10_feed_76 hl (by decide) rfl (fun ls hl => ?_)
    refine lv_aload_n hx hb dX10_feed_78 rfl (lv_at hl 2 rfl) ?_
    refine va_get (D := D) (ci := 10) (v := .ref (a 0)) (C := RX10) (T := TX10) (N := 66) hx hb hts iX10 hown hK hP 0 rfl rfl 0 (by decide) (hts (.fieldLink RX10 7 "ShortTellerModel" "tape" "[I") (List.mem_of_getElem? (i := 3) rfl)) (fun _ h9 => h9) rfl dX10_feed_79 ?_
    refine lv_aload_n hx hb dX10_feed_82 rfl (lv_at hl 2 rfl) ?_
    refine va_get (D := D) (ci := 10) (v := .int v_tapeSize) (C := RX10) (T := TX10) (N := 66) hx hb hts iX10 hown hK hP 0 rfl rfl 1 (by decide) (hts (.fieldLink RX10 138 "ShortTellerModel" "tapeSize" "I") (List.mem_of_getElem? (i := 2) rfl)) (fun _ h9 => h9) rfl dX10_feed_83 ?_
    refine lv_iload hx hb dX10_feed_86 (lv_at hl 1 rfl) ?_
    refine lv_iadd hx hb dX10_feed_88 ?_
    refine lv_topi (fun n11 en11 => ?_)
    have tn11 : n11.toInt = v_tapeSize.toInt + (2 : Int) := q3_add en11 rfl (by decide) (by omega) (by omega)
    refine lv_iload hx hb dX10_feed_89 (lv_at hl 0 rfl) ?_
    refine lv_bipush (v := 24) hx hb dX10_feed_91 (by decide) ?_
    refine lv_bipush (v := 8) hx hb dX10_feed_93 (by decide) ?_
    refine lv_iload hx hb dX10_feed_95 (lv_at hl 1 rfl) ?_
    refine lv_iconst (v := 4) hx hb dX10_feed_97 (by decide) ?_
    refine lv_irem hx hb dX10_feed_98 (by decide) ?_
    refine q1_top (v := 2) (by decide) ?_
    refine lv_imul hx hb dX10_feed_99 ?_
    refine q1_top (v := 16) (by decide) ?_
    refine lv_isub hx hb dX10_feed_100 ?_
    refine q1_top (v := 8) (by decide) ?_
    refine lv_ishr hx hb dX10_feed_101 ?_
    refine lv_topi (fun n12 en12 => ?_)
    refine lv_sipush (v := 255) hx hb dX10_feed_102 (by decide) ?_
    refine lv_iand hx hb dX10_feed_105 ?_
    refine lv_topi (fun n13 en13 => ?_)
    have tn13 := q3_and255 en13
    refine q3_iast (c := c) hx hb hK hP hD hS 1 rfl (q2_in (by omega) (by omega)) dX10_feed_106 (fun F14 eF14 H locs hP hD hS => ?_)
    have hP : va_P D vwCl (wM c y a v_tapeSize (0) v_fault v_faultPlace v_things v_options v_lists v_sentences v_headings v_words v_factBits v_known v_soundMany v_wholeLength v_next v_end v_rThings v_rOptions v_rLists v_rSentences v_rHeadings v_lastName v_inSentence v_open v_written v_named v_sorted F14 f_kind f_owner f_from f_size f_means f_signs f_oKind f_oIn f_oList f_oWords f_oFacts f_listIn f_sOwner f_hFacts f_weights f_lengths f_values f_rKind f_rOwner f_rFrom f_rSize f_rMeans f_rOKind f_rOIn f_rOList f_rOFacts f_rListIn f_rSOwner f_rHFacts f_rWeights f_opKind f_opFrom f_opWord f_opOwner f_opList f_opItems f_out f_ranks) H := hP
    have hD : va_D A (wM c y a v_tapeSize (0) v_fault v_faultPlace v_things v_options v_lists v_sentences v_headings v_words v_factBits v_known v_soundMany v_wholeLength v_next v_end v_rThings v_rOptions v_rLists v_rSentences v_rHeadings v_lastName v_inSentence v_open v_written v_named v_sorted F14 f_kind f_owner f_from f_size f_means f_signs f_oKind f_oIn f_oList f_oWords f_oFacts f_listIn f_sOwner f_hFacts f_weights f_lengths f_values f_rKind f_rOwner f_rFrom f_rSize f_rMeans f_rOKind f_rOIn f_rOList f_rOFacts f_rListIn f_rSOwner f_rHFacts f_rWeights f_opKind f_opFrom f_opWord f_opOwner f_opList f_opItems f_out f_ranks) := hD
    have hF14_0 : ∀ j : Nat, 0 ≤ (F14 j).toInt ∧ (F14 j).toInt ≤ 255 := q3_up (P := fun z => 0 ≤ z.toInt ∧ z.toInt ≤ 255) eF14 hF10_0 (show 0 ≤ n13.toInt ∧ n13.toInt ≤ 255 by omega)
    have fd3 : e_Fd f_tape F14 v_tapeSize.toInt 3 (e_fb x_a x_b x_d x_e x_g) := fd2.more eF14 (by omega) (by omega) (by rw [en13, en12]; rfl)
    refine lv_iinc (v := 3) (lv' := [(6, .int 3), (7, .int x_a), (0, .ref y), (1, .int x_a), (2, .int x_b), (3, .int x_d), (4, .int x_e), (5, .int x_g)]) hx hb dX10_feed_107 hl (k := 1) rfl (by decide) (by decide) rfl (fun ls hl => ?_)
    refine lv_goto (tgt := 23) hx hb dX10_feed_110 (by decide) ?_
    refine lv_iload hx hb dX10_feed_23 (lv_at hl 0 rfl) ?_
    refine lv_bipush (v := 20) hx hb dX10_feed_25 (by decide) ?_
    refine lv_icmp_ge (tgt := 113) hx hb dX10_feed_27 (by decide) (fun h9 => absurd h9 (by decide)) (fun _ => ?_)
    refine lv_iload hx hb dX10_feed_30 (lv_at hl 0 rfl) ?_
    refine lv_iconst (v := 4) hx hb dX10_feed_32 (by decide) ?_
    refine lv_icmp_ge (tgt := 40) hx hb dX10_feed_33 (by decide) (fun h9 => absurd h9 (by decide)) (fun _ => ?_)
    refine lv_iload_n hx hb dX10_feed_36 rfl (lv_at hl 3 rfl) ?_
    refine lv_goto (tgt := 76) hx hb dX10_feed_37 (by decide) ?_
    refine lv_istore (lv' := [(7, .int x_a), (6, .int 3), (0, .ref y), (1, .int x_a), (2, .int x_b), (3, .int x_d), (4, .int x_e), (5, .int x_g)]) hx hb dX10_feed_76 hl (by decide) rfl (fun ls hl => ?_)
    refine lv_aload_n hx hb dX10_feed_78 rfl (lv_at hl 2 rfl) ?_
    refine va_get (D := D) (ci := 10) (v := .ref (a 0)) (C := RX10) (T := TX10) (N := 66) hx hb hts iX10 hown hK hP 0 rfl rfl 0 (by decide) (hts (.fieldLink RX10 7 "ShortTellerModel" "tape" "[I") (List.mem_of_getElem? (i := 3) rfl)) (fun _ h9 => h9) rfl dX10_feed_79 ?_
    refine lv_aload_n hx hb dX10_feed_82 rfl (lv_at hl 2 rfl) ?_
    refine va_get (D := D) (ci := 10) (v := .int v_tapeSize) (C := RX10) (T := TX10) (N := 66) hx hb hts iX10 hown hK hP 0 rfl rfl 1 (by decide) (hts (.fieldLink RX10 138 "ShortTellerModel" "tapeSize" "I") (List.mem_of_getElem? (i := 2) rfl)) (fun _ h9 => h9) rfl dX10_feed_83 ?_
    refine lv_iload hx hb dX10_feed_86 (lv_at hl 1 rfl) ?_
    refine lv_iadd hx hb dX10_feed_88 ?_
    refine lv_topi (fun n15 en15 => ?_)
    have tn15 : n15.toInt = v_tapeSize.toInt + (3 : Int) := q3_add en15 rfl (by decide) (by omega) (by omega)
    refine lv_iload hx hb dX10_feed_89 (lv_at hl 0 rfl) ?_
    refine lv_bipush (v := 24) hx hb dX10_feed_91 (by decide) ?_
    refine lv_bipush (v := 8) hx hb dX10_feed_93 (by decide) ?_
    refine lv_iload hx hb dX10_feed_95 (lv_at hl 1 rfl) ?_
    refine lv_iconst (v := 4) hx hb dX10_feed_97 (by decide) ?_
    refine lv_irem hx hb dX10_feed_98 (by decide) ?_
    refine q1_top (v := 3) (by decide) ?_
    refine lv_imul hx hb dX10_feed_99 ?_
    refine q1_top (v := 24) (by decide) ?_
    refine lv_isub hx hb dX10_feed_100 ?_
    refine q1_top (v := 0) (by decide) ?_
    refine lv_ishr hx hb dX10_feed_101 ?_
    refine lv_topi (fun n16 en16 => ?_)
    refine lv_sipush (v := 255) hx hb dX10_feed_102 (by decide) ?_
    refine lv_iand hx hb dX10_feed_105 ?_
    refine lv_topi (fun n17 en17 => ?_)
    have tn17 := q3_and255 en17
    refine q3_iast (c := c) hx hb hK hP hD hS 1 rfl (q2_in (by omega) (by omega)) dX10_feed_106 (fun F18 eF18 H locs hP hD hS => ?_)
    have hP : va_P D vwCl (wM c y a v_tapeSize (0) v_fault v_faultPlace v_things v_options v_lists v_sentences v_headings v_words v_factBits v_known v_soundMany v_wholeLength v_next v_end v_rThings v_rOptions v_rLists v_rSentences v_rHeadings v_lastName v_inSentence v_open v_written v_named v_sorted F18 f_kind f_owner f_from f_size f_means f_signs f_oKind f_oIn f_oList f_oWords f_oFacts f_listIn f_sOwner f_hFacts f_weights f_lengths f_values f_rKind f_rOwner f_rFrom f_rSize f_rMeans f_rOKind f_rOIn f_rOList f_rOFacts f_rListIn f_rSOwner f_rHFacts f_rWeights f_opKind f_opFrom f_opWord f_opOwner f_opList f_opItems f_out f_ranks) H := hP
    have hD : va_D A (wM c y a v_tapeSize (0) v_fault v_faultPlace v_things v_options v_lists v_sentences v_headings v_words v_factBits v_known v_soundMany v_wholeLength v_next v_end v_rThings v_rOptions v_rLists v_rSentences v_rHeadings v_lastName v_inSentence v_open v_written v_named v_sorted F18 f_kind f_owner f_from f_size f_means f_signs f_oKind f_oIn f_oList f_oWords f_oFacts f_listIn f_sOwner f_hFacts f_weights f_lengths f_values f_rKind f_rOwner f_rFrom f_rSize f_rMeans f_rOKind f_rOIn f_rOList f_rOFacts f_rListIn f_rSOwner f_rHFacts f_rWeights f_opKind f_opFrom f_opWord f_opOwner f_opList f_opItems f_out f_ranks) := hD
    have hF18_0 : ∀ j : Nat, 0 ≤ (F18 j).toInt ∧ (F18 j).toInt ≤ 255 := q3_up (P := fun z => 0 ≤ z.toInt ∧ z.toInt ≤ 255) eF18 hF14_0 (show 0 ≤ n17.toInt ∧ n17.toInt ≤ 255 by omega)
    have fd4 : e_Fd f_tape F18 v_tapeSize.toInt 4 (e_fb x_a x_b x_d x_e x_g) := fd3.more eF18 (by omega) (by omega) (by rw [en17, en16]; rfl)
    refine lv_iinc (v := 4) (lv' := [(6, .int 4), (7, .int x_a), (0, .ref y), (1, .int x_a), (2, .int x_b), (3, .int x_d), (4, .int x_e), (5, .int x_g)]) hx hb dX10_feed_107 hl (k := 1) rfl (by decide) (by decide) rfl (fun ls hl => ?_)
    refine lv_goto (tgt := 23) hx hb dX10_feed_110 (by decide) ?_
    refine lv_iload hx hb dX10_feed_23 (lv_at hl 0 rfl) ?_
    refine lv_bipush (v := 20) hx hb dX10_feed_25 (by decide) ?_
    refine lv_icmp_ge (tgt := 113) hx hb dX10_feed_27 (by decide) (fun h9 => absurd h9 (by decide)) (fun _ => ?_)
    refine lv_iload hx hb dX10_feed_30 (lv_at hl 0 rfl) ?_
    refine lv_iconst (v := 4) hx hb dX10_feed_32 (by decide) ?_
    refine lv_icmp_ge (tgt := 40) hx hb dX10_feed_33 (by decide) (fun _ => ?_) (fun h9 => absurd (by decide) h9)
    refine lv_iload hx hb dX10_feed_40 (lv_at hl 0 rfl) ?_
    refine lv_bipush (v := 8) hx hb dX10_feed_42 (by decide) ?_
    refine lv_icmp_ge (tgt := 51) hx hb dX10_feed_44 (by decide) (fun h9 => absurd h9 (by decide)) (fun _ => ?_)
    refine lv_iload_n hx hb dX10_feed_47 rfl (lv_at hl 4 rfl) ?_
    refine lv_goto (tgt := 76) hx hb dX10_feed_48 (by decide) ?_
    refine lv_istore (lv' := [(7, .int x_b), (6, .int 4), (0, .ref y), (1, .int x_a), (2, .int x_b), (3, .int x_d), (4, .int x_e), (5, .int x_g)]) hx hb dX10_feed_76 hl (by decide) rfl (fun ls hl => ?_)
    refine lv_aload_n hx hb dX10_feed_78 rfl (lv_at hl 2 rfl) ?_
    refine va_get (D := D) (ci := 10) (v := .ref (a 0)) (C := RX10) (T := TX10) (N := 66) hx hb hts iX10 hown hK hP 0 rfl rfl 0 (by decide) (hts (.fieldLink RX10 7 "ShortTellerModel" "tape" "[I") (List.mem_of_getElem? (i := 3) rfl)) (fun _ h9 => h9) rfl dX10_feed_79 ?_
    refine lv_aload_n hx hb dX10_feed_82 rfl (lv_at hl 2 rfl) ?_
    refine va_get (D := D) (ci := 10) (v := .int v_tapeSize) (C := RX10) (T := TX10) (N := 66) hx hb hts iX10 hown hK hP 0 rfl rfl 1 (by decide) (hts (.fieldLink RX10 138 "ShortTellerModel" "tapeSize" "I") (List.mem_of_getElem? (i := 2) rfl)) (fun _ h9 => h9) rfl dX10_feed_83 ?_
    refine lv_iload hx hb dX10_feed_86 (lv_at hl 1 rfl) ?_
    refine lv_iadd hx hb dX10_feed_88 ?_
    refine lv_topi (fun n19 en19 => ?_)
    have tn19 : n19.toInt = v_tapeSize.toInt + (4 : Int) := q3_add en19 rfl (by decide) (by omega) (by omega)
    refine lv_iload hx hb dX10_feed_89 (lv_at hl 0 rfl) ?_
    refine lv_bipush (v := 24) hx hb dX10_feed_91 (by decide) ?_
    refine lv_bipush (v := 8) hx hb dX10_feed_93 (by decide) ?_
    refine lv_iload hx hb dX10_feed_95 (lv_at hl 1 rfl) ?_
    refine lv_iconst (v := 4) hx hb dX10_feed_97 (by decide) ?_
    refine lv_irem hx hb dX10_feed_98 (by decide) ?_
    refine q1_top (v := 0) (by decide) ?_
    refine lv_imul hx hb dX10_feed_99 ?_
    refine q1_top (v := 0) (by decide) ?_
    refine lv_isub hx hb dX10_feed_100 ?_
    refine q1_top (v := 24) (by decide) ?_
    refine lv_ishr hx hb dX10_feed_101 ?_
    refine lv_topi (fun n20 en20 => ?_)
    refine lv_sipush (v := 255) hx hb dX10_feed_102 (by decide) ?_
    refine lv_iand hx hb dX10_feed_105 ?_
    refine lv_topi (fun n21 en21 => ?_)
    have tn21 := q3_and255 en21
    refine q3_iast (c := c) hx hb hK hP hD hS 1 rfl (q2_in (by omega) (by omega)) dX10_feed_106 (fun F22 eF22 H locs hP hD hS => ?_)
    have hP : va_P D vwCl (wM c y a v_tapeSize (0) v_fault v_faultPlace v_things v_options v_lists v_sentences v_headings v_words v_factBits v_known v_soundMany v_wholeLength v_next v_end v_rThings v_rOptions v_rLists v_rSentences v_rHeadings v_lastName v_inSentence v_open v_written v_named v_sorted F22 f_kind f_owner f_from f_size f_means f_signs f_oKind f_oIn f_oList f_oWords f_oFacts f_listIn f_sOwner f_hFacts f_weights f_lengths f_values f_rKind f_rOwner f_rFrom f_rSize f_rMeans f_rOKind f_rOIn f_rOList f_rOFacts f_rListIn f_rSOwner f_rHFacts f_rWeights f_opKind f_opFrom f_opWord f_opOwner f_opList f_opItems f_out f_ranks) H := hP
    have hD : va_D A (wM c y a v_tapeSize (0) v_fault v_faultPlace v_things v_options v_lists v_sentences v_headings v_words v_factBits v_known v_soundMany v_wholeLength v_next v_end v_rThings v_rOptions v_rLists v_rSentences v_rHeadings v_lastName v_inSentence v_open v_written v_named v_sorted F22 f_kind f_owner f_from f_size f_means f_signs f_oKind f_oIn f_oList f_oWords f_oFacts f_listIn f_sOwner f_hFacts f_weights f_lengths f_values f_rKind f_rOwner f_rFrom f_rSize f_rMeans f_rOKind f_rOIn f_rOList f_rOFacts f_rListIn f_rSOwner f_rHFacts f_rWeights f_opKind f_opFrom f_opWord f_opOwner f_opList f_opItems f_out f_ranks) := hD
    have hF22_0 : ∀ j : Nat, 0 ≤ (F22 j).toInt ∧ (F22 j).toInt ≤ 255 := q3_up (P := fun z => 0 ≤ z.toInt ∧ z.toInt ≤ 255) eF22 hF18_0 (show 0 ≤ n21.toInt ∧ n21.toInt ≤ 255 by omega)
    have fd5 : e_Fd f_tape F22 v_tapeSize.toInt 5 (e_fb x_a x_b x_d x_e x_g) := fd4.more eF22 (by omega) (by omega) (by rw [en21, en20]; rfl)
    refine lv_iinc (v := 5) (lv' := [(6, .int 5), (7, .int x_b), (0, .ref y), (1, .int x_a), (2, .int x_b), (3, .int x_d), (4, .int x_e), (5, .int x_g)]) hx hb dX10_feed_107 hl (k := 1) rfl (by decide) (by decide) rfl (fun ls hl => ?_)
    refine lv_goto (tgt := 23) hx hb dX10_feed_110 (by decide) ?_
    refine lv_iload hx hb dX10_feed_23 (lv_at hl 0 rfl) ?_
    refine lv_bipush (v := 20) hx hb dX10_feed_25 (by decide) ?_
    refine lv_icmp_ge (tgt := 113) hx hb dX10_feed_27 (by decide) (fun h9 => absurd h9 (by decide)) (fun _ => ?_)
    refine lv_iload hx hb dX10_feed_30 (lv_at hl 0 rfl) ?_
    refine lv_iconst (v := 4) hx hb dX10_feed_32 (by decide) ?_
    refine lv_icmp_ge (tgt := 40) hx hb dX10_feed_33 (by decide) (fun _ => ?_) (fun h9 => absurd (by decide) h9)
    refine lv_iload hx hb dX10_feed_40 (lv_at hl 0 rfl) ?_
    refine lv_bipush (v := 8) hx hb dX10_feed_42 (by decide) ?_
    refine lv_icmp_ge (tgt := 51) hx hb dX10_feed_44 (by decide) (fun h9 => absurd h9 (by decide)) (fun _ => ?_)
    refine lv_iload_n hx hb dX10_feed_47 rfl (lv_at hl 4 rfl) ?_
    refine lv_goto (tgt := 76) hx hb dX10_feed_48 (by decide) ?_
    refine lv_istore (lv' := [(7, .int x_b), (6, .int 5), (0, .ref y), (1, .int x_a), (2, .int x_b), (3, .int x_d), (4, .int x_e), (5, .int x_g)]) hx hb dX10_feed_76 hl (by decide) rfl (fun ls hl => ?_)
    refine lv_aload_n hx hb dX10_feed_78 rfl (lv_at hl 2 rfl) ?_
    refine va_get (D := D) (ci := 10) (v := .ref (a 0)) (C := RX10) (T := TX10) (N := 66) hx hb hts iX10 hown hK hP 0 rfl rfl 0 (by decide) (hts (.fieldLink RX10 7 "ShortTellerModel" "tape" "[I") (List.mem_of_getElem? (i := 3) rfl)) (fun _ h9 => h9) rfl dX10_feed_79 ?_
    refine lv_aload_n hx hb dX10_feed_82 rfl (lv_at hl 2 rfl) ?_
    refine va_get (D := D) (ci := 10) (v := .int v_tapeSize) (C := RX10) (T := TX10) (N := 66) hx hb hts iX10 hown hK hP 0 rfl rfl 1 (by decide) (hts (.fieldLink RX10 138 "ShortTellerModel" "tapeSize" "I") (List.mem_of_getElem? (i := 2) rfl)) (fun _ h9 => h9) rfl dX10_feed_83 ?_
    refine lv_iload hx hb dX10_feed_86 (lv_at hl 1 rfl) ?_
    refine lv_iadd hx hb dX10_feed_88 ?_
    refine lv_topi (fun n23 en23 => ?_)
    have tn23 : n23.toInt = v_tapeSize.toInt + (5 : Int) := q3_add en23 rfl (by decide) (by omega) (by omega)
    refine lv_iload hx hb dX10_feed_89 (lv_at hl 0 rfl) ?_
    refine lv_bipush (v := 24) hx hb dX10_feed_91 (by decide) ?_
    refine lv_bipush (v := 8) hx hb dX10_feed_93 (by decide) ?_
    refine lv_iload hx hb dX10_feed_95 (lv_at hl 1 rfl) ?_
    refine lv_iconst (v := 4) hx hb dX10_feed_97 (by decide) ?_
    refine lv_irem hx hb dX10_feed_98 (by decide) ?_
    refine q1_top (v := 1) (by decide) ?_
    refine lv_imul hx hb dX10_feed_99 ?_
    refine q1_top (v := 8) (by decide) ?_
    refine lv_isub hx hb dX10_feed_100 ?_
    refine q1_top (v := 16) (by decide) ?_
    refine lv_ishr hx hb dX10_feed_101 ?_
    refine lv_topi (fun n24 en24 => ?_)
    refine lv_sipush (v := 255) hx hb dX10_feed_102 (by decide) ?_
    refine lv_iand hx hb dX10_feed_105 ?_
    refine lv_topi (fun n25 en25 => ?_)
    have tn25 := q3_and255 en25
    refine q3_iast (c := c) hx hb hK hP hD hS 1 rfl (q2_in (by omega) (by omega)) dX10_feed_106 (fun F26 eF26 H locs hP hD hS => ?_)
    have hP : va_P D vwCl (wM c y a v_tapeSize (0) v_fault v_faultPlace v_things v_options v_lists v_sentences v_headings v_words v_factBits v_known v_soundMany v_wholeLength v_next v_end v_rThings v_rOptions v_rLists v_rSentences v_rHeadings v_lastName v_inSentence v_open v_written v_named v_sorted F26 f_kind f_owner f_from f_size f_means f_signs f_oKind f_oIn f_oList f_oWords f_oFacts f_listIn f_sOwner f_hFacts f_weights f_lengths f_values f_rKind f_rOwner f_rFrom f_rSize f_rMeans f_rOKind f_rOIn f_rOList f_rOFacts f_rListIn f_rSOwner f_rHFacts f_rWeights f_opKind f_opFrom f_opWord f_opOwner f_opList f_opItems f_out f_ranks) H := hP
    have hD : va_D A (wM c y a v_tapeSize (0) v_fault v_faultPlace v_things v_options v_lists v_sentences v_headings v_words v_factBits v_known v_soundMany v_wholeLength v_next v_end v_rThings v_rOptions v_rLists v_rSentences v_rHeadings v_lastName v_inSentence v_open v_written v_named v_sorted F26 f_kind f_owner f_from f_size f_means f_signs f_oKind f_oIn f_oList f_oWords f_oFacts f_listIn f_sOwner f_hFacts f_weights f_lengths f_values f_rKind f_rOwner f_rFrom f_rSize f_rMeans f_rOKind f_rOIn f_rOList f_rOFacts f_rListIn f_rSOwner f_rHFacts f_rWeights f_opKind f_opFrom f_opWord f_opOwner f_opList f_opItems f_out f_ranks) := hD
    have hF26_0 : ∀ j : Nat, 0 ≤ (F26 j).toInt ∧ (F26 j).toInt ≤ 255 := q3_up (P := fun z => 0 ≤ z.toInt ∧ z.toInt ≤ 255) eF26 hF22_0 (show 0 ≤ n25.toInt ∧ n25.toInt ≤ 255 by omega)
    have fd6 : e_Fd f_tape F26 v_tapeSize.toInt 6 (e_fb x_a x_b x_d x_e x_g) := fd5.more eF26 (by omega) (by omega) (by rw [en25, en24]; rfl)
    refine lv_iinc (v := 6) (lv' := [(6, .int 6), (7, .int x_b), (0, .ref y), (1, .int x_a), (2, .int x_b), (3, .int x_d), (4, .int x_e), (5, .int x_g)]) hx hb dX10_feed_107 hl (k := 1) rfl (by decide) (by decide) rfl (fun ls hl => ?_)
    refine lv_goto (tgt := 23) hx hb dX10_feed_110 (by decide) ?_
    refine lv_iload hx hb dX10_feed_23 (lv_at hl 0 rfl) ?_
    refine lv_bipush (v := 20) hx hb dX10_feed_25 (by decide) ?_
    refine lv_icmp_ge (tgt := 113) hx hb dX10_feed_27 (by decide) (fun h9 => absurd h9 (by decide)) (fun _ => ?_)
    refine lv_iload hx hb dX10_feed_30 (lv_at hl 0 rfl) ?_
    refine lv_iconst (v := 4) hx hb dX10_feed_32 (by decide) ?_
    refine lv_icmp_ge (tgt := 40) hx hb dX10_feed_33 (by decide) (fun _ => ?_) (fun h9 => absurd (by decide) h9)
    refine lv_iload hx hb dX10_feed_40 (lv_at hl 0 rfl) ?_
    refine lv_bipush (v := 8) hx hb dX10_feed_42 (by decide) ?_
    refine lv_icmp_ge (tgt := 51) hx hb dX10_feed_44 (by decide) (fun h9 => absurd h9 (by decide)) (fun _ => ?_)
    refine lv_iload_n hx hb dX10_feed_47 rfl (lv_at hl 4 rfl) ?_
    refine lv_goto (tgt := 76) hx hb dX10_feed_48 (by decide) ?_
    refine lv_istore (lv' := [(7, .int x_b), (6, .int 6), (0, .ref y), (1, .int x_a), (2, .int x_b), (3, .int x_d), (4, .int x_e), (5, .int x_g)]) hx hb dX10_feed_76 hl (by decide) rfl (fun ls hl => ?_)
    refine lv_aload_n hx hb dX10_feed_78 rfl (lv_at hl 2 rfl) ?_
    refine va_get (D := D) (ci := 10) (v := .ref (a 0)) (C := RX10) (T := TX10) (N := 66) hx hb hts iX10 hown hK hP 0 rfl rfl 0 (by decide) (hts (.fieldLink RX10 7 "ShortTellerModel" "tape" "[I") (List.mem_of_getElem? (i := 3) rfl)) (fun _ h9 => h9) rfl dX10_feed_79 ?_
    refine lv_aload_n hx hb dX10_feed_82 rfl (lv_at hl 2 rfl) ?_
    refine va_get (D := D) (ci := 10) (v := .int v_tapeSize) (C := RX10) (T := TX10) (N := 66) hx hb hts iX10 hown hK hP 0 rfl rfl 1 (by decide) (hts (.fieldLink RX10 138 "ShortTellerModel" "tapeSize" "I") (List.mem_of_getElem? (i := 2) rfl)) (fun _ h9 => h9) rfl dX10_feed_83 ?_
    refine lv_iload hx hb dX10_feed_86 (lv_at hl 1 rfl) ?_
    refine lv_iadd hx hb dX10_feed_88 ?_
    refine lv_topi (fun n27 en27 => ?_)
    have tn27 : n27.toInt = v_tapeSize.toInt + (6 : Int) := q3_add en27 rfl (by decide) (by omega) (by omega)
    refine lv_iload hx hb dX10_feed_89 (lv_at hl 0 rfl) ?_
    refine lv_bipush (v := 24) hx hb dX10_feed_91 (by decide) ?_
    refine lv_bipush (v := 8) hx hb dX10_feed_93 (by decide) ?_
    refine lv_iload hx hb dX10_feed_95 (lv_at hl 1 rfl) ?_
    refine lv_iconst (v := 4) hx hb dX10_feed_97 (by decide) ?_
    refine lv_irem hx hb dX10_feed_98 (by decide) ?_
    refine q1_top (v := 2) (by decide) ?_
    refine lv_imul hx hb dX10_feed_99 ?_
    refine q1_top (v := 16) (by decide) ?_
    refine lv_isub hx hb dX10_feed_100 ?_
    refine q1_top (v := 8) (by decide) ?_
    refine lv_ishr hx hb dX10_feed_101 ?_
    refine lv_topi (fun n28 en28 => ?_)
    refine lv_sipush (v := 255) hx hb dX10_feed_102 (by decide) ?_
    refine lv_iand hx hb dX10_feed_105 ?_
    refine lv_topi (fun n29 en29 => ?_)
    have tn29 := q3_and255 en29
    refine q3_iast (c := c) hx hb hK hP hD hS 1 rfl (q2_in (by omega) (by omega)) dX10_feed_106 (fun F30 eF30 H locs hP hD hS => ?_)
    have hP : va_P D vwCl (wM c y a v_tapeSize (0) v_fault v_faultPlace v_things v_options v_lists v_sentences v_headings v_words v_factBits v_known v_soundMany v_wholeLength v_next v_end v_rThings v_rOptions v_rLists v_rSentences v_rHeadings v_lastName v_inSentence v_open v_written v_named v_sorted F30 f_kind f_owner f_from f_size f_means f_signs f_oKind f_oIn f_oList f_oWords f_oFacts f_listIn f_sOwner f_hFacts f_weights f_lengths f_values f_rKind f_rOwner f_rFrom f_rSize f_rMeans f_rOKind f_rOIn f_rOList f_rOFacts f_rListIn f_rSOwner f_rHFacts f_rWeights f_opKind f_opFrom f_opWord f_opOwner f_opList f_opItems f_out f_ranks) H := hP
    have hD : va_D A (wM c y a v_tapeSize (0) v_fault v_faultPlace v_things v_options v_lists v_sentences v_headings v_words v_factBits v_known v_soundMany v_wholeLength v_next v_end v_rThings v_rOptions v_rLists v_rSentences v_rHeadings v_lastName v_inSentence v_open v_written v_named v_sorted F30 f_kind f_owner f_from f_size f_means f_signs f_oKind f_oIn f_oList f_oWords f_oFacts f_listIn f_sOwner f_hFacts f_weights f_lengths f_values f_rKind f_rOwner f_rFrom f_rSize f_rMeans f_rOKind f_rOIn f_rOList f_rOFacts f_rListIn f_rSOwner f_rHFacts f_rWeights f_opKind f_opFrom f_opWord f_opOwner f_opList f_opItems f_out f_ranks) := hD
    have hF30_0 : ∀ j : Nat, 0 ≤ (F30 j).toInt ∧ (F30 j).toInt ≤ 255 := q3_up (P := fun z => 0 ≤ z.toInt ∧ z.toInt ≤ 255) eF30 hF26_0 (show 0 ≤ n29.toInt ∧ n29.toInt ≤ 255 by omega)
    have fd7 : e_Fd f_tape F30 v_tapeSize.toInt 7 (e_fb x_a x_b x_d x_e x_g) := fd6.more eF30 (by omega) (by omega) (by rw [en29, en28]; rfl)
    refine lv_iinc (v := 7) (lv' := [(6, .int 7), (7, .int x_b), (0, .ref y), (1, .int x_a), (2, .int x_b), (3, .int x_d), (4, .int x_e), (5, .int x_g)]) hx hb dX10_feed_107 hl (k := 1) rfl (by decide) (by decide) rfl (fun ls hl => ?_)
    refine lv_goto (tgt := 23) hx hb dX10_feed_110 (by decide) ?_
    refine lv_iload hx hb dX10_feed_23 (lv_at hl 0 rfl) ?_
    refine lv_bipush (v := 20) hx hb dX10_feed_25 (by decide) ?_
    refine lv_icmp_ge (tgt := 113) hx hb dX10_feed_27 (by decide) (fun h9 => absurd h9 (by decide)) (fun _ => ?_)
    refine lv_iload hx hb dX10_feed_30 (lv_at hl 0 rfl) ?_
    refine lv_iconst (v := 4) hx hb dX10_feed_32 (by decide) ?_
    refine lv_icmp_ge (tgt := 40) hx hb dX10_feed_33 (by decide) (fun _ => ?_) (fun h9 => absurd (by decide) h9)
    refine lv_iload hx hb dX10_feed_40 (lv_at hl 0 rfl) ?_
    refine lv_bipush (v := 8) hx hb dX10_feed_42 (by decide) ?_
    refine lv_icmp_ge (tgt := 51) hx hb dX10_feed_44 (by decide) (fun h9 => absurd h9 (by decide)) (fun _ => ?_)
    refine lv_iload_n hx hb dX10_feed_47 rfl (lv_at hl 4 rfl) ?_
    refine lv_goto (tgt := 76) hx hb dX10_feed_48 (by decide) ?_
    refine lv_istore (lv' := [(7, .int x_b), (6, .int 7), (0, .ref y), (1, .int x_a), (2, .int x_b), (3, .int x_d), (4, .int x_e), (5, .int x_g)]) hx hb dX10_feed_76 hl (by decide) rfl (fun ls hl => ?_)
    refine lv_aload_n hx hb dX10_feed_78 rfl (lv_at hl 2 rfl) ?_
    refine va_get (D := D) (ci := 10) (v := .ref (a 0)) (C := RX10) (T := TX10) (N := 66) hx hb hts iX10 hown hK hP 0 rfl rfl 0 (by decide) (hts (.fieldLink RX10 7 "ShortTellerModel" "tape" "[I") (List.mem_of_getElem? (i := 3) rfl)) (fun _ h9 => h9) rfl dX10_feed_79 ?_
    refine lv_aload_n hx hb dX10_feed_82 rfl (lv_at hl 2 rfl) ?_
    refine va_get (D := D) (ci := 10) (v := .int v_tapeSize) (C := RX10) (T := TX10) (N := 66) hx hb hts iX10 hown hK hP 0 rfl rfl 1 (by decide) (hts (.fieldLink RX10 138 "ShortTellerModel" "tapeSize" "I") (List.mem_of_getElem? (i := 2) rfl)) (fun _ h9 => h9) rfl dX10_feed_83 ?_
    refine lv_iload hx hb dX10_feed_86 (lv_at hl 1 rfl) ?_
    refine lv_iadd hx hb dX10_feed_88 ?_
    refine lv_topi (fun n31 en31 => ?_)
    have tn31 : n31.toInt = v_tapeSize.toInt + (7 : Int) := q3_add en31 rfl (by decide) (by omega) (by omega)
    refine lv_iload hx hb dX10_feed_89 (lv_at hl 0 rfl) ?_
    refine lv_bipush (v := 24) hx hb dX10_feed_91 (by decide) ?_
    refine lv_bipush (v := 8) hx hb dX10_feed_93 (by decide) ?_
    refine lv_iload hx hb dX10_feed_95 (lv_at hl 1 rfl) ?_
    refine lv_iconst (v := 4) hx hb dX10_feed_97 (by decide) ?_
    refine lv_irem hx hb dX10_feed_98 (by decide) ?_
    refine q1_top (v := 3) (by decide) ?_
    refine lv_imul hx hb dX10_feed_99 ?_
    refine q1_top (v := 24) (by decide) ?_
    refine lv_isub hx hb dX10_feed_100 ?_
    refine q1_top (v := 0) (by decide) ?_
    refine lv_ishr hx hb dX10_feed_101 ?_
    refine lv_topi (fun n32 en32 => ?_)
    refine lv_sipush (v := 255) hx hb dX10_feed_102 (by decide) ?_
    refine lv_iand hx hb dX10_feed_105 ?_
    refine lv_topi (fun n33 en33 => ?_)
    have tn33 := q3_and255 en33
    refine q3_iast (c := c) hx hb hK hP hD hS 1 rfl (q2_in (by omega) (by omega)) dX10_feed_106 (fun F34 eF34 H locs hP hD hS => ?_)
    have hP : va_P D vwCl (wM c y a v_tapeSize (0) v_fault v_faultPlace v_things v_options v_lists v_sentences v_headings v_words v_factBits v_known v_soundMany v_wholeLength v_next v_end v_rThings v_rOptions v_rLists v_rSentences v_rHeadings v_lastName v_inSentence v_open v_written v_named v_sorted F34 f_kind f_owner f_from f_size f_means f_signs f_oKind f_oIn f_oList f_oWords f_oFacts f_listIn f_sOwner f_hFacts f_weights f_lengths f_values f_rKind f_rOwner f_rFrom f_rSize f_rMeans f_rOKind f_rOIn f_rOList f_rOFacts f_rListIn f_rSOwner f_rHFacts f_rWeights f_opKind f_opFrom f_opWord f_opOwner f_opList f_opItems f_out f_ranks) H := hP
    have hD : va_D A (wM c y a v_tapeSize (0) v_fault v_faultPlace v_things v_options v_lists v_sentences v_headings v_words v_factBits v_known v_soundMany v_wholeLength v_next v_end v_rThings v_rOptions v_rLists v_rSentences v_rHeadings v_lastName v_inSentence v_open v_written v_named v_sorted F34 f_kind f_owner f_from f_size f_means f_signs f_oKind f_oIn f_oList f_oWords f_oFacts f_listIn f_sOwner f_hFacts f_weights f_lengths f_values f_rKind f_rOwner f_rFrom f_rSize f_rMeans f_rOKind f_rOIn f_rOList f_rOFacts f_rListIn f_rSOwner f_rHFacts f_rWeights f_opKind f_opFrom f_opWord f_opOwner f_opList f_opItems f_out f_ranks) := hD
    have hF34_0 : ∀ j : Nat, 0 ≤ (F34 j).toInt ∧ (F34 j).toInt ≤ 255 := q3_up (P := fun z => 0 ≤ z.toInt ∧ z.toInt ≤ 255) eF34 hF30_0 (show 0 ≤ n33.toInt ∧ n33.toInt ≤ 255 by omega)
    have fd8 : e_Fd f_tape F34 v_tapeSize.toInt 8 (e_fb x_a x_b x_d x_e x_g) := fd7.more eF34 (by omega) (by omega) (by rw [en33, en32]; rfl)
    refine lv_iinc (v := 8) (lv' := [(6, .int 8), (7, .int x_b), (0, .ref y), (1, .int x_a), (2, .int x_b), (3, .int x_d), (4, .int x_e), (5, .int x_g)]) hx hb dX10_feed_107 hl (k := 1) rfl (by decide) (by decide) rfl (fun ls hl => ?_)
    refine lv_goto (tgt := 23) hx hb dX10_feed_110 (by decide) ?_
    refine lv_iload hx hb dX10_feed_23 (lv_at hl 0 rfl) ?_
    refine lv_bipush (v := 20) hx hb dX10_feed_25 (by decide) ?_
    refine lv_icmp_ge (tgt := 113) hx hb dX10_feed_27 (by decide) (fun h9 => absurd h9 (by decide)) (fun _ => ?_)
    refine lv_iload hx hb dX10_feed_30 (lv_at hl 0 rfl) ?_
    refine lv_iconst (v := 4) hx hb dX10_feed_32 (by decide) ?_
    refine lv_icmp_ge (tgt := 40) hx hb dX10_feed_33 (by decide) (fun _ => ?_) (fun h9 => absurd (by decide) h9)
    refine lv_iload hx hb dX10_feed_40 (lv_at hl 0 rfl) ?_
    refine lv_bipush (v := 8) hx hb dX10_feed_42 (by decide) ?_
    refine lv_icmp_ge (tgt := 51) hx hb dX10_feed_44 (by decide) (fun _ => ?_) (fun h9 => absurd (by decide) h9)
    refine lv_iload hx hb dX10_feed_51 (lv_at hl 0 rfl) ?_
    refine lv_bipush (v := 12) hx hb dX10_feed_53 (by decide) ?_
    refine lv_icmp_ge (tgt := 62) hx hb dX10_feed_55 (by decide) (fun h9 => absurd h9 (by decide)) (fun _ => ?_)
    refine lv_iload_n hx hb dX10_feed_58 rfl (lv_at hl 5 rfl) ?_
    refine lv_goto (tgt := 76) hx hb dX10_feed_59 (by decide) ?_
    refine lv_istore (lv' := [(7, .int x_d), (6, .int 8), (0, .ref y), (1, .int x_a), (2, .int x_b), (3, .int x_d), (4, .int x_e), (5, .int x_g)]) hx hb dX10_feed_76 hl (by decide) rfl (fun ls hl => ?_)
    refine lv_aload_n hx hb dX10_feed_78 rfl (lv_at hl 2 rfl) ?_
    refine va_get (D := D) (ci := 10) (v := .ref (a 0)) (C := RX10) (T := TX10) (N := 66) hx hb hts iX10 hown hK hP 0 rfl rfl 0 (by decide) (hts (.fieldLink RX10 7 "ShortTellerModel" "tape" "[I") (List.mem_of_getElem? (i := 3) rfl)) (fun _ h9 => h9) rfl dX10_feed_79 ?_
    refine lv_aload_n hx hb dX10_feed_82 rfl (lv_at hl 2 rfl) ?_
    refine va_get (D := D) (ci := 10) (v := .int v_tapeSize) (C := RX10) (T := TX10) (N := 66) hx hb hts iX10 hown hK hP 0 rfl rfl 1 (by decide) (hts (.fieldLink RX10 138 "ShortTellerModel" "tapeSize" "I") (List.mem_of_getElem? (i := 2) rfl)) (fun _ h9 => h9) rfl dX10_feed_83 ?_
    refine lv_iload hx hb dX10_feed_86 (lv_at hl 1 rfl) ?_
    refine lv_iadd hx hb dX10_feed_88 ?_
    refine lv_topi (fun n35 en35 => ?_)
    have tn35 : n35.toInt = v_tapeSize.toInt + (8 : Int) := q3_add en35 rfl (by decide) (by omega) (by omega)
    refine lv_iload hx hb dX10_feed_89 (lv_at hl 0 rfl) ?_
    refine lv_bipush (v := 24) hx hb dX10_feed_91 (by decide) ?_
    refine lv_bipush (v := 8) hx hb dX10_feed_93 (by decide) ?_
    refine lv_iload hx hb dX10_feed_95 (lv_at hl 1 rfl) ?_
    refine lv_iconst (v := 4) hx hb dX10_feed_97 (by decide) ?_
    refine lv_irem hx hb dX10_feed_98 (by decide) ?_
    refine q1_top (v := 0) (by decide) ?_
    refine lv_imul hx hb dX10_feed_99 ?_
    refine q1_top (v := 0) (by decide) ?_
    refine lv_isub hx hb dX10_feed_100 ?_
    refine q1_top (v := 24) (by decide) ?_
    refine lv_ishr hx hb dX10_feed_101 ?_
    refine lv_topi (fun n36 en36 => ?_)
    refine lv_sipush (v := 255) hx hb dX10_feed_102 (by decide) ?_
    refine lv_iand hx hb dX10_feed_105 ?_
    refine lv_topi (fun n37 en37 => ?_)
    have tn37 := q3_and255 en37
    refine q3_iast (c := c) hx hb hK hP hD hS 1 rfl (q2_in (by omega) (by omega)) dX10_feed_106 (fun F38 eF38 H locs hP hD hS => ?_)
    have hP : va_P D vwCl (wM c y a v_tapeSize (0) v_fault v_faultPlace v_things v_options v_lists v_sentences v_headings v_words v_factBits v_known v_soundMany v_wholeLength v_next v_end v_rThings v_rOptions v_rLists v_rSentences v_rHeadings v_lastName v_inSentence v_open v_written v_named v_sorted F38 f_kind f_owner f_from f_size f_means f_signs f_oKind f_oIn f_oList f_oWords f_oFacts f_listIn f_sOwner f_hFacts f_weights f_lengths f_values f_rKind f_rOwner f_rFrom f_rSize f_rMeans f_rOKind f_rOIn f_rOList f_rOFacts f_rListIn f_rSOwner f_rHFacts f_rWeights f_opKind f_opFrom f_opWord f_opOwner f_opList f_opItems f_out f_ranks) H := hP
    have hD : va_D A (wM c y a v_tapeSize (0) v_fault v_faultPlace v_things v_options v_lists v_sentences v_headings v_words v_factBits v_known v_soundMany v_wholeLength v_next v_end v_rThings v_rOptions v_rLists v_rSentences v_rHeadings v_lastName v_inSentence v_open v_written v_named v_sorted F38 f_kind f_owner f_from f_size f_means f_signs f_oKind f_oIn f_oList f_oWords f_oFacts f_listIn f_sOwner f_hFacts f_weights f_lengths f_values f_rKind f_rOwner f_rFrom f_rSize f_rMeans f_rOKind f_rOIn f_rOList f_rOFacts f_rListIn f_rSOwner f_rHFacts f_rWeights f_opKind f_opFrom f_opWord f_opOwner f_opList f_opItems f_out f_ranks) := hD
    have hF38_0 : ∀ j : Nat, 0 ≤ (F38 j).toInt ∧ (F38 j).toInt ≤ 255 := q3_up (P := fun z => 0 ≤ z.toInt ∧ z.toInt ≤ 255) eF38 hF34_0 (show 0 ≤ n37.toInt ∧ n37.toInt ≤ 255 by omega)
    have fd9 : e_Fd f_tape F38 v_tapeSize.toInt 9 (e_fb x_a x_b x_d x_e x_g) := fd8.more eF38 (by omega) (by omega) (by rw [en37, en36]; rfl)
    refine lv_iinc (v := 9) (lv' := [(6, .int 9), (7, .int x_d), (0, .ref y), (1, .int x_a), (2, .int x_b), (3, .int x_d), (4, .int x_e), (5, .int x_g)]) hx hb dX10_feed_107 hl (k := 1) rfl (by decide) (by decide) rfl (fun ls hl => ?_)
    refine lv_goto (tgt := 23) hx hb dX10_feed_110 (by decide) ?_
    refine lv_iload hx hb dX10_feed_23 (lv_at hl 0 rfl) ?_
    refine lv_bipush (v := 20) hx hb dX10_feed_25 (by decide) ?_
    refine lv_icmp_ge (tgt := 113) hx hb dX10_feed_27 (by decide) (fun h9 => absurd h9 (by decide)) (fun _ => ?_)
    refine lv_iload hx hb dX10_feed_30 (lv_at hl 0 rfl) ?_
    refine lv_iconst (v := 4) hx hb dX10_feed_32 (by decide) ?_
    refine lv_icmp_ge (tgt := 40) hx hb dX10_feed_33 (by decide) (fun _ => ?_) (fun h9 => absurd (by decide) h9)
    refine lv_iload hx hb dX10_feed_40 (lv_at hl 0 rfl) ?_
    refine lv_bipush (v := 8) hx hb dX10_feed_42 (by decide) ?_
    refine lv_icmp_ge (tgt := 51) hx hb dX10_feed_44 (by decide) (fun _ => ?_) (fun h9 => absurd (by decide) h9)
    refine lv_iload hx hb dX10_feed_51 (lv_at hl 0 rfl) ?_
    refine lv_bipush (v := 12) hx hb dX10_feed_53 (by decide) ?_
    refine lv_icmp_ge (tgt := 62) hx hb dX10_feed_55 (by decide) (fun h9 => absurd h9 (by decide)) (fun _ => ?_)
    refine lv_iload_n hx hb dX10_feed_58 rfl (lv_at hl 5 rfl) ?_
    refine lv_goto (tgt := 76) hx hb dX10_feed_59 (by decide) ?_
    refine lv_istore (lv' := [(7, .int x_d), (6, .int 9), (0, .ref y), (1, .int x_a), (2, .int x_b), (3, .int x_d), (4, .int x_e), (5, .int x_g)]) hx hb dX10_feed_76 hl (by decide) rfl (fun ls hl => ?_)
    refine lv_aload_n hx hb dX10_feed_78 rfl (lv_at hl 2 rfl) ?_
    refine va_get (D := D) (ci := 10) (v := .ref (a 0)) (C := RX10) (T := TX10) (N := 66) hx hb hts iX10 hown hK hP 0 rfl rfl 0 (by decide) (hts (.fieldLink RX10 7 "ShortTellerModel" "tape" "[I") (List.mem_of_getElem? (i := 3) rfl)) (fun _ h9 => h9) rfl dX10_feed_79 ?_
    refine lv_aload_n hx hb dX10_feed_82 rfl (lv_at hl 2 rfl) ?_
    refine va_get (D := D) (ci := 10) (v := .int v_tapeSize) (C := RX10) (T := TX10) (N := 66) hx hb hts iX10 hown hK hP 0 rfl rfl 1 (by decide) (hts (.fieldLink RX10 138 "ShortTellerModel" "tapeSize" "I") (List.mem_of_getElem? (i := 2) rfl)) (fun _ h9 => h9) rfl dX10_feed_83 ?_
    refine lv_iload hx hb dX10_feed_86 (lv_at hl 1 rfl) ?_
    refine lv_iadd hx hb dX10_feed_88 ?_
    refine lv_topi (fun n39 en39 => ?_)
    have tn39 : n39.toInt = v_tapeSize.toInt + (9 : Int) := q3_add en39 rfl (by decide) (by omega) (by omega)
    refine lv_iload hx hb dX10_feed_89 (lv_at hl 0 rfl) ?_
    refine lv_bipush (v := 24) hx hb dX10_feed_91 (by decide) ?_
    refine lv_bipush (v := 8) hx hb dX10_feed_93 (by decide) ?_
    refine lv_iload hx hb dX10_feed_95 (lv_at hl 1 rfl) ?_
    refine lv_iconst (v := 4) hx hb dX10_feed_97 (by decide) ?_
    refine lv_irem hx hb dX10_feed_98 (by decide) ?_
    refine q1_top (v := 1) (by decide) ?_
    refine lv_imul hx hb dX10_feed_99 ?_
    refine q1_top (v := 8) (by decide) ?_
    refine lv_isub hx hb dX10_feed_100 ?_
    refine q1_top (v := 16) (by decide) ?_
    refine lv_ishr hx hb dX10_feed_101 ?_
    refine lv_topi (fun n40 en40 => ?_)
    refine lv_sipush (v := 255) hx hb dX10_feed_102 (by decide) ?_
    refine lv_iand hx hb dX10_feed_105 ?_
    refine lv_topi (fun n41 en41 => ?_)
    have tn41 := q3_and255 en41
    refine q3_iast (c := c) hx hb hK hP hD hS 1 rfl (q2_in (by omega) (by omega)) dX10_feed_106 (fun F42 eF42 H locs hP hD hS => ?_)
    have hP : va_P D vwCl (wM c y a v_tapeSize (0) v_fault v_faultPlace v_things v_options v_lists v_sentences v_headings v_words v_factBits v_known v_soundMany v_wholeLength v_next v_end v_rThings v_rOptions v_rLists v_rSentences v_rHeadings v_lastName v_inSentence v_open v_written v_named v_sorted F42 f_kind f_owner f_from f_size f_means f_signs f_oKind f_oIn f_oList f_oWords f_oFacts f_listIn f_sOwner f_hFacts f_weights f_lengths f_values f_rKind f_rOwner f_rFrom f_rSize f_rMeans f_rOKind f_rOIn f_rOList f_rOFacts f_rListIn f_rSOwner f_rHFacts f_rWeights f_opKind f_opFrom f_opWord f_opOwner f_opList f_opItems f_out f_ranks) H := hP
    have hD : va_D A (wM c y a v_tapeSize (0) v_fault v_faultPlace v_things v_options v_lists v_sentences v_headings v_words v_factBits v_known v_soundMany v_wholeLength v_next v_end v_rThings v_rOptions v_rLists v_rSentences v_rHeadings v_lastName v_inSentence v_open v_written v_named v_sorted F42 f_kind f_owner f_from f_size f_means f_signs f_oKind f_oIn f_oList f_oWords f_oFacts f_listIn f_sOwner f_hFacts f_weights f_lengths f_values f_rKind f_rOwner f_rFrom f_rSize f_rMeans f_rOKind f_rOIn f_rOList f_rOFacts f_rListIn f_rSOwner f_rHFacts f_rWeights f_opKind f_opFrom f_opWord f_opOwner f_opList f_opItems f_out f_ranks) := hD
    have hF42_0 : ∀ j : Nat, 0 ≤ (F42 j).toInt ∧ (F42 j).toInt ≤ 255 := q3_up (P := fun z => 0 ≤ z.toInt ∧ z.toInt ≤ 255) eF42 hF38_0 (show 0 ≤ n41.toInt ∧ n41.toInt ≤ 255 by omega)
    have fd10 : e_Fd f_tape F42 v_tapeSize.toInt 10 (e_fb x_a x_b x_d x_e x_g) := fd9.more eF42 (by omega) (by omega) (by rw [en41, en40]; rfl)
    refine lv_iinc (v := 10) (lv' := [(6, .int 10), (7, .int x_d), (0, .ref y), (1, .int x_a), (2, .int x_b), (3, .int x_d), (4, .int x_e), (5, .int x_g)]) hx hb dX10_feed_107 hl (k := 1) rfl (by decide) (by decide) rfl (fun ls hl => ?_)
    refine lv_goto (tgt := 23) hx hb dX10_feed_110 (by decide) ?_
    refine lv_iload hx hb dX10_feed_23 (lv_at hl 0 rfl) ?_
    refine lv_bipush (v := 20) hx hb dX10_feed_25 (by decide) ?_
    refine lv_icmp_ge (tgt := 113) hx hb dX10_feed_27 (by decide) (fun h9 => absurd h9 (by decide)) (fun _ => ?_)
    refine lv_iload hx hb dX10_feed_30 (lv_at hl 0 rfl) ?_
    refine lv_iconst (v := 4) hx hb dX10_feed_32 (by decide) ?_
    refine lv_icmp_ge (tgt := 40) hx hb dX10_feed_33 (by decide) (fun _ => ?_) (fun h9 => absurd (by decide) h9)
    refine lv_iload hx hb dX10_feed_40 (lv_at hl 0 rfl) ?_
    refine lv_bipush (v := 8) hx hb dX10_feed_42 (by decide) ?_
    refine lv_icmp_ge (tgt := 51) hx hb dX10_feed_44 (by decide) (fun _ => ?_) (fun h9 => absurd (by decide) h9)
    refine lv_iload hx hb dX10_feed_51 (lv_at hl 0 rfl) ?_
    refine lv_bipush (v := 12) hx hb dX10_feed_53 (by decide) ?_
    refine lv_icmp_ge (tgt := 62) hx hb dX10_feed_55 (by decide) (fun h9 => absurd h9 (by decide)) (fun _ => ?_)
    refine lv_iload_n hx hb dX10_feed_58 rfl (lv_at hl 5 rfl) ?_
    refine lv_goto (tgt := 76) hx hb dX10_feed_59 (by decide) ?_
    refine lv_istore (lv' := [(7, .int x_d), (6, .int 10), (0, .ref y), (1, .int x_a), (2, .int x_b), (3, .int x_d), (4, .int x_e), (5, .int x_g)]) hx hb dX10_feed_76 hl (by decide) rfl (fun ls hl => ?_)
    refine lv_aload_n hx hb dX10_feed_78 rfl (lv_at hl 2 rfl) ?_
    refine va_get (D := D) (ci := 10) (v := .ref (a 0)) (C := RX10) (T := TX10) (N := 66) hx hb hts iX10 hown hK hP 0 rfl rfl 0 (by decide) (hts (.fieldLink RX10 7 "ShortTellerModel" "tape" "[I") (List.mem_of_getElem? (i := 3) rfl)) (fun _ h9 => h9) rfl dX10_feed_79 ?_
    refine lv_aload_n hx hb dX10_feed_82 rfl (lv_at hl 2 rfl) ?_
    refine va_get (D := D) (ci := 10) (v := .int v_tapeSize) (C := RX10) (T := TX10) (N := 66) hx hb hts iX10 hown hK hP 0 rfl rfl 1 (by decide) (hts (.fieldLink RX10 138 "ShortTellerModel" "tapeSize" "I") (List.mem_of_getElem? (i := 2) rfl)) (fun _ h9 => h9) rfl dX10_feed_83 ?_
    refine lv_iload hx hb dX10_feed_86 (lv_at hl 1 rfl) ?_
    refine lv_iadd hx hb dX10_feed_88 ?_
    refine lv_topi (fun n43 en43 => ?_)
    have tn43 : n43.toInt = v_tapeSize.toInt + (10 : Int) := q3_add en43 rfl (by decide) (by omega) (by omega)
    refine lv_iload hx hb dX10_feed_89 (lv_at hl 0 rfl) ?_
    refine lv_bipush (v := 24) hx hb dX10_feed_91 (by decide) ?_
    refine lv_bipush (v := 8) hx hb dX10_feed_93 (by decide) ?_
    refine lv_iload hx hb dX10_feed_95 (lv_at hl 1 rfl) ?_
    refine lv_iconst (v := 4) hx hb dX10_feed_97 (by decide) ?_
    refine lv_irem hx hb dX10_feed_98 (by decide) ?_
    refine q1_top (v := 2) (by decide) ?_
    refine lv_imul hx hb dX10_feed_99 ?_
    refine q1_top (v := 16) (by decide) ?_
    refine lv_isub hx hb dX10_feed_100 ?_
    refine q1_top (v := 8) (by decide) ?_
    refine lv_ishr hx hb dX10_feed_101 ?_
    refine lv_topi (fun n44 en44 => ?_)
    refine lv_sipush (v := 255) hx hb dX10_feed_102 (by decide) ?_
    refine lv_iand hx hb dX10_feed_105 ?_
    refine lv_topi (fun n45 en45 => ?_)
    have tn45 := q3_and255 en45
    refine q3_iast (c := c) hx hb hK hP hD hS 1 rfl (q2_in (by omega) (by omega)) dX10_feed_106 (fun F46 eF46 H locs hP hD hS => ?_)
    have hP : va_P D vwCl (wM c y a v_tapeSize (0) v_fault v_faultPlace v_things v_options v_lists v_sentences v_headings v_words v_factBits v_known v_soundMany v_wholeLength v_next v_end v_rThings v_rOptions v_rLists v_rSentences v_rHeadings v_lastName v_inSentence v_open v_written v_named v_sorted F46 f_kind f_owner f_from f_size f_means f_signs f_oKind f_oIn f_oList f_oWords f_oFacts f_listIn f_sOwner f_hFacts f_weights f_lengths f_values f_rKind f_rOwner f_rFrom f_rSize f_rMeans f_rOKind f_rOIn f_rOList f_rOFacts f_rListIn f_rSOwner f_rHFacts f_rWeights f_opKind f_opFrom f_opWord f_opOwner f_opList f_opItems f_out f_ranks) H := hP
    have hD : va_D A (wM c y a v_tapeSize (0) v_fault v_faultPlace v_things v_options v_lists v_sentences v_headings v_words v_factBits v_known v_soundMany v_wholeLength v_next v_end v_rThings v_rOptions v_rLists v_rSentences v_rHeadings v_lastName v_inSentence v_open v_written v_named v_sorted F46 f_kind f_owner f_from f_size f_means f_signs f_oKind f_oIn f_oList f_oWords f_oFacts f_listIn f_sOwner f_hFacts f_weights f_lengths f_values f_rKind f_rOwner f_rFrom f_rSize f_rMeans f_rOKind f_rOIn f_rOList f_rOFacts f_rListIn f_rSOwner f_rHFacts f_rWeights f_opKind f_opFrom f_opWord f_opOwner f_opList f_opItems f_out f_ranks) := hD
    have hF46_0 : ∀ j : Nat, 0 ≤ (F46 j).toInt ∧ (F46 j).toInt ≤ 255 := q3_up (P := fun z => 0 ≤ z.toInt ∧ z.toInt ≤ 255) eF46 hF42_0 (show 0 ≤ n45.toInt ∧ n45.toInt ≤ 255 by omega)
    have fd11 : e_Fd f_tape F46 v_tapeSize.toInt 11 (e_fb x_a x_b x_d x_e x_g) := fd10.more eF46 (by omega) (by omega) (by rw [en45, en44]; rfl)
    refine lv_iinc (v := 11) (lv' := [(6, .int 11), (7, .int x_d), (0, .ref y), (1, .int x_a), (2, .int x_b), (3, .int x_d), (4, .int x_e), (5, .int x_g)]) hx hb dX10_feed_107 hl (k := 1) rfl (by decide) (by decide) rfl (fun ls hl => ?_)
    refine lv_goto (tgt := 23) hx hb dX10_feed_110 (by decide) ?_
    refine lv_iload hx hb dX10_feed_23 (lv_at hl 0 rfl) ?_
    refine lv_bipush (v := 20) hx hb dX10_feed_25 (by decide) ?_
    refine lv_icmp_ge (tgt := 113) hx hb dX10_feed_27 (by decide) (fun h9 => absurd h9 (by decide)) (fun _ => ?_)
    refine lv_iload hx hb dX10_feed_30 (lv_at hl 0 rfl) ?_
    refine lv_iconst (v := 4) hx hb dX10_feed_32 (by decide) ?_
    refine lv_icmp_ge (tgt := 40) hx hb dX10_feed_33 (by decide) (fun _ => ?_) (fun h9 => absurd (by decide) h9)
    refine lv_iload hx hb dX10_feed_40 (lv_at hl 0 rfl) ?_
    refine lv_bipush (v := 8) hx hb dX10_feed_42 (by decide) ?_
    refine lv_icmp_ge (tgt := 51) hx hb dX10_feed_44 (by decide) (fun _ => ?_) (fun h9 => absurd (by decide) h9)
    refine lv_iload hx hb dX10_feed_51 (lv_at hl 0 rfl) ?_
    refine lv_bipush (v := 12) hx hb dX10_feed_53 (by decide) ?_
    refine lv_icmp_ge (tgt := 62) hx hb dX10_feed_55 (by decide) (fun h9 => absurd h9 (by decide)) (fun _ => ?_)
    refine lv_iload_n hx hb dX10_feed_58 rfl (lv_at hl 5 rfl) ?_
    refine lv_goto (tgt := 76) hx hb dX10_feed_59 (by decide) ?_
    refine lv_istore (lv' := [(7, .int x_d), (6, .int 11), (0, .ref y), (1, .int x_a), (2, .int x_b), (3, .int x_d), (4, .int x_e), (5, .int x_g)]) hx hb dX10_feed_76 hl (by decide) rfl (fun ls hl => ?_)
    refine lv_aload_n hx hb dX10_feed_78 rfl (lv_at hl 2 rfl) ?_
    refine va_get (D := D) (ci := 10) (v := .ref (a 0)) (C := RX10) (T := TX10) (N := 66) hx hb hts iX10 hown hK hP 0 rfl rfl 0 (by decide) (hts (.fieldLink RX10 7 "ShortTellerModel" "tape" "[I") (List.mem_of_getElem? (i := 3) rfl)) (fun _ h9 => h9) rfl dX10_feed_79 ?_
    refine lv_aload_n hx hb dX10_feed_82 rfl (lv_at hl 2 rfl) ?_
    refine va_get (D := D) (ci := 10) (v := .int v_tapeSize) (C := RX10) (T := TX10) (N := 66) hx hb hts iX10 hown hK hP 0 rfl rfl 1 (by decide) (hts (.fieldLink RX10 138 "ShortTellerModel" "tapeSize" "I") (List.mem_of_getElem? (i := 2) rfl)) (fun _ h9 => h9) rfl dX10_feed_83 ?_
    refine lv_iload hx hb dX10_feed_86 (lv_at hl 1 rfl) ?_
    refine lv_iadd hx hb dX10_feed_88 ?_
    refine lv_topi (fun n47 en47 => ?_)
    have tn47 : n47.toInt = v_tapeSize.toInt + (11 : Int) := q3_add en47 rfl (by decide) (by omega) (by omega)
    refine lv_iload hx hb dX10_feed_89 (lv_at hl 0 rfl) ?_
    refine lv_bipush (v := 24) hx hb dX10_feed_91 (by decide) ?_
    refine lv_bipush (v := 8) hx hb dX10_feed_93 (by decide) ?_
    refine lv_iload hx hb dX10_feed_95 (lv_at hl 1 rfl) ?_
    refine lv_iconst (v := 4) hx hb dX10_feed_97 (by decide) ?_
    refine lv_irem hx hb dX10_feed_98 (by decide) ?_
    refine q1_top (v := 3) (by decide) ?_
    refine lv_imul hx hb dX10_feed_99 ?_
    refine q1_top (v := 24) (by decide) ?_
    refine lv_isub hx hb dX10_feed_100 ?_
    refine q1_top (v := 0) (by decide) ?_
    refine lv_ishr hx hb dX10_feed_101 ?_
    refine lv_topi (fun n48 en48 => ?_)
    refine lv_sipush (v := 255) hx hb dX10_feed_102 (by decide) ?_
    refine lv_iand hx hb dX10_feed_105 ?_
    refine lv_topi (fun n49 en49 => ?_)
    have tn49 := q3_and255 en49
    refine q3_iast (c := c) hx hb hK hP hD hS 1 rfl (q2_in (by omega) (by omega)) dX10_feed_106 (fun F50 eF50 H locs hP hD hS => ?_)
    have hP : va_P D vwCl (wM c y a v_tapeSize (0) v_fault v_faultPlace v_things v_options v_lists v_sentences v_headings v_words v_factBits v_known v_soundMany v_wholeLength v_next v_end v_rThings v_rOptions v_rLists v_rSentences v_rHeadings v_lastName v_inSentence v_open v_written v_named v_sorted F50 f_kind f_owner f_from f_size f_means f_signs f_oKind f_oIn f_oList f_oWords f_oFacts f_listIn f_sOwner f_hFacts f_weights f_lengths f_values f_rKind f_rOwner f_rFrom f_rSize f_rMeans f_rOKind f_rOIn f_rOList f_rOFacts f_rListIn f_rSOwner f_rHFacts f_rWeights f_opKind f_opFrom f_opWord f_opOwner f_opList f_opItems f_out f_ranks) H := hP
    have hD : va_D A (wM c y a v_tapeSize (0) v_fault v_faultPlace v_things v_options v_lists v_sentences v_headings v_words v_factBits v_known v_soundMany v_wholeLength v_next v_end v_rThings v_rOptions v_rLists v_rSentences v_rHeadings v_lastName v_inSentence v_open v_written v_named v_sorted F50 f_kind f_owner f_from f_size f_means f_signs f_oKind f_oIn f_oList f_oWords f_oFacts f_listIn f_sOwner f_hFacts f_weights f_lengths f_values f_rKind f_rOwner f_rFrom f_rSize f_rMeans f_rOKind f_rOIn f_rOList f_rOFacts f_rListIn f_rSOwner f_rHFacts f_rWeights f_opKind f_opFrom f_opWord f_opOwner f_opList f_opItems f_out f_ranks) := hD
    have hF50_0 : ∀ j : Nat, 0 ≤ (F50 j).toInt ∧ (F50 j).toInt ≤ 255 := q3_up (P := fun z => 0 ≤ z.toInt ∧ z.toInt ≤ 255) eF50 hF46_0 (show 0 ≤ n49.toInt ∧ n49.toInt ≤ 255 by omega)
    have fd12 : e_Fd f_tape F50 v_tapeSize.toInt 12 (e_fb x_a x_b x_d x_e x_g) := fd11.more eF50 (by omega) (by omega) (by rw [en49, en48]; rfl)
    refine lv_iinc (v := 12) (lv' := [(6, .int 12), (7, .int x_d), (0, .ref y), (1, .int x_a), (2, .int x_b), (3, .int x_d), (4, .int x_e), (5, .int x_g)]) hx hb dX10_feed_107 hl (k := 1) rfl (by decide) (by decide) rfl (fun ls hl => ?_)
    refine lv_goto (tgt := 23) hx hb dX10_feed_110 (by decide) ?_
    refine lv_iload hx hb dX10_feed_23 (lv_at hl 0 rfl) ?_
    refine lv_bipush (v := 20) hx hb dX10_feed_25 (by decide) ?_
    refine lv_icmp_ge (tgt := 113) hx hb dX10_feed_27 (by decide) (fun h9 => absurd h9 (by decide)) (fun _ => ?_)
    refine lv_iload hx hb dX10_feed_30 (lv_at hl 0 rfl) ?_
    refine lv_iconst (v := 4) hx hb dX10_feed_32 (by decide) ?_
    refine lv_icmp_ge (tgt := 40) hx hb dX10_feed_33 (by decide) (fun _ => ?_) (fun h9 => absurd (by decide) h9)
    refine lv_iload hx hb dX10_feed_40 (lv_at hl 0 rfl) ?_
    refine lv_bipush (v := 8) hx hb dX10_feed_42 (by decide) ?_
    refine lv_icmp_ge (tgt := 51) hx hb dX10_feed_44 (by decide) (fun _ => ?_) (fun h9 => absurd (by decide) h9)
    refine lv_iload hx hb dX10_feed_51 (lv_at hl 0 rfl) ?_
    refine lv_bipush (v := 12) hx hb dX10_feed_53 (by decide) ?_
    refine lv_icmp_ge (tgt := 62) hx hb dX10_feed_55 (by decide) (fun _ => ?_) (fun h9 => absurd (by decide) h9)
    refine lv_iload hx hb dX10_feed_62 (lv_at hl 0 rfl) ?_
    refine lv_bipush (v := 16) hx hb dX10_feed_64 (by decide) ?_
    refine lv_icmp_ge (tgt := 74) hx hb dX10_feed_66 (by decide) (fun h9 => absurd h9 (by decide)) (fun _ => ?_)
    refine lv_iload hx hb dX10_feed_69 (lv_at hl 6 rfl) ?_
    refine lv_goto (tgt := 76) hx hb dX10_feed_71 (by decide) ?_
    refine lv_istore (lv' := [(7, .int x_e), (6, .int 12), (0, .ref y), (1, .int x_a), (2, .int x_b), (3, .int x_d), (4, .int x_e), (5, .int x_g)]) hx hb dX10_feed_76 hl (by decide) rfl (fun ls hl => ?_)
    refine lv_aload_n hx hb dX10_feed_78 rfl (lv_at hl 2 rfl) ?_
    refine va_get (D := D) (ci := 10) (v := .ref (a 0)) (C := RX10) (T := TX10) (N := 66) hx hb hts iX10 hown hK hP 0 rfl rfl 0 (by decide) (hts (.fieldLink RX10 7 "ShortTellerModel" "tape" "[I") (List.mem_of_getElem? (i := 3) rfl)) (fun _ h9 => h9) rfl dX10_feed_79 ?_
    refine lv_aload_n hx hb dX10_feed_82 rfl (lv_at hl 2 rfl) ?_
    refine va_get (D := D) (ci := 10) (v := .int v_tapeSize) (C := RX10) (T := TX10) (N := 66) hx hb hts iX10 hown hK hP 0 rfl rfl 1 (by decide) (hts (.fieldLink RX10 138 "ShortTellerModel" "tapeSize" "I") (List.mem_of_getElem? (i := 2) rfl)) (fun _ h9 => h9) rfl dX10_feed_83 ?_
    refine lv_iload hx hb dX10_feed_86 (lv_at hl 1 rfl) ?_
    refine lv_iadd hx hb dX10_feed_88 ?_
    refine lv_topi (fun n51 en51 => ?_)
    have tn51 : n51.toInt = v_tapeSize.toInt + (12 : Int) := q3_add en51 rfl (by decide) (by omega) (by omega)
    refine lv_iload hx hb dX10_feed_89 (lv_at hl 0 rfl) ?_
    refine lv_bipush (v := 24) hx hb dX10_feed_91 (by decide) ?_
    refine lv_bipush (v := 8) hx hb dX10_feed_93 (by decide) ?_
    refine lv_iload hx hb dX10_feed_95 (lv_at hl 1 rfl) ?_
    refine lv_iconst (v := 4) hx hb dX10_feed_97 (by decide) ?_
    refine lv_irem hx hb dX10_feed_98 (by decide) ?_
    refine q1_top (v := 0) (by decide) ?_
    refine lv_imul hx hb dX10_feed_99 ?_
    refine q1_top (v := 0) (by decide) ?_
    refine lv_isub hx hb dX10_feed_100 ?_
    refine q1_top (v := 24) (by decide) ?_
    refine lv_ishr hx hb dX10_feed_101 ?_
    refine lv_topi (fun n52 en52 => ?_)
    refine lv_sipush (v := 255) hx hb dX10_feed_102 (by decide) ?_
    refine lv_iand hx hb dX10_feed_105 ?_
    refine lv_topi (fun n53 en53 => ?_)
    have tn53 := q3_and255 en53
    refine q3_iast (c := c) hx hb hK hP hD hS 1 rfl (q2_in (by omega) (by omega)) dX10_feed_106 (fun F54 eF54 H locs hP hD hS => ?_)
    have hP : va_P D vwCl (wM c y a v_tapeSize (0) v_fault v_faultPlace v_things v_options v_lists v_sentences v_headings v_words v_factBits v_known v_soundMany v_wholeLength v_next v_end v_rThings v_rOptions v_rLists v_rSentences v_rHeadings v_lastName v_inSentence v_open v_written v_named v_sorted F54 f_kind f_owner f_from f_size f_means f_signs f_oKind f_oIn f_oList f_oWords f_oFacts f_listIn f_sOwner f_hFacts f_weights f_lengths f_values f_rKind f_rOwner f_rFrom f_rSize f_rMeans f_rOKind f_rOIn f_rOList f_rOFacts f_rListIn f_rSOwner f_rHFacts f_rWeights f_opKind f_opFrom f_opWord f_opOwner f_opList f_opItems f_out f_ranks) H := hP
    have hD : va_D A (wM c y a v_tapeSize (0) v_fault v_faultPlace v_things v_options v_lists v_sentences v_headings v_words v_factBits v_known v_soundMany v_wholeLength v_next v_end v_rThings v_rOptions v_rLists v_rSentences v_rHeadings v_lastName v_inSentence v_open v_written v_named v_sorted F54 f_kind f_owner f_from f_size f_means f_signs f_oKind f_oIn f_oList f_oWords f_oFacts f_listIn f_sOwner f_hFacts f_weights f_lengths f_values f_rKind f_rOwner f_rFrom f_rSize f_rMeans f_rOKind f_rOIn f_rOList f_rOFacts f_rListIn f_rSOwner f_rHFacts f_rWeights f_opKind f_opFrom f_opWord f_opOwner f_opList f_opItems f_out f_ranks) := hD
    have hF54_0 : ∀ j : Nat, 0 ≤ (F54 j).toInt ∧ (F54 j).toInt ≤ 255 := q3_up (P := fun z => 0 ≤ z.toInt ∧ z.toInt ≤ 255) eF54 hF50_0 (show 0 ≤ n53.toInt ∧ n53.toInt ≤ 255 by omega)
    have fd13 : e_Fd f_tape F54 v_tapeSize.toInt 13 (e_fb x_a x_b x_d x_e x_g) := fd12.more eF54 (by omega) (by omega) (by rw [en53, en52]; rfl)
    refine lv_iinc (v := 13) (lv' := [(6, .int 13), (7, .int x_e), (0, .ref y), (1, .int x_a), (2, .int x_b), (3, .int x_d), (4, .int x_e), (5, .int x_g)]) hx hb dX10_feed_107 hl (k := 1) rfl (by decide) (by decide) rfl (fun ls hl => ?_)
    refine lv_goto (tgt := 23) hx hb dX10_feed_110 (by decide) ?_
    refine lv_iload hx hb dX10_feed_23 (lv_at hl 0 rfl) ?_
    refine lv_bipush (v := 20) hx hb dX10_feed_25 (by decide) ?_
    refine lv_icmp_ge (tgt := 113) hx hb dX10_feed_27 (by decide) (fun h9 => absurd h9 (by decide)) (fun _ => ?_)
    refine lv_iload hx hb dX10_feed_30 (lv_at hl 0 rfl) ?_
    refine lv_iconst (v := 4) hx hb dX10_feed_32 (by decide) ?_
    refine lv_icmp_ge (tgt := 40) hx hb dX10_feed_33 (by decide) (fun _ => ?_) (fun h9 => absurd (by decide) h9)
    refine lv_iload hx hb dX10_feed_40 (lv_at hl 0 rfl) ?_
    refine lv_bipush (v := 8) hx hb dX10_feed_42 (by decide) ?_
    refine lv_icmp_ge (tgt := 51) hx hb dX10_feed_44 (by decide) (fun _ => ?_) (fun h9 => absurd (by decide) h9)
    refine lv_iload hx hb dX10_feed_51 (lv_at hl 0 rfl) ?_
    refine lv_bipush (v := 12) hx hb dX10_feed_53 (by decide) ?_
    refine lv_icmp_ge (tgt := 62) hx hb dX10_feed_55 (by decide) (fun _ => ?_) (fun h9 => absurd (by decide) h9)
    refine lv_iload hx hb dX10_feed_62 (lv_at hl 0 rfl) ?_
    refine lv_bipush (v := 16) hx hb dX10_feed_64 (by decide) ?_
    refine lv_icmp_ge (tgt := 74) hx hb dX10_feed_66 (by decide) (fun h9 => absurd h9 (by decide)) (fun _ => ?_)
    refine lv_iload hx hb dX10_feed_69 (lv_at hl 6 rfl) ?_
    refine lv_goto (tgt := 76) hx hb dX10_feed_71 (by decide) ?_
    refine lv_istore (lv' := [(7, .int x_e), (6, .int 13), (0, .ref y), (1, .int x_a), (2, .int x_b), (3, .int x_d), (4, .int x_e), (5, .int x_g)]) hx hb dX10_feed_76 hl (by decide) rfl (fun ls hl => ?_)
    refine lv_aload_n hx hb dX10_feed_78 rfl (lv_at hl 2 rfl) ?_
    refine va_get (D := D) (ci := 10) (v := .ref (a 0)) (C := RX10) (T := TX10) (N := 66) hx hb hts iX10 hown hK hP 0 rfl rfl 0 (by decide) (hts (.fieldLink RX10 7 "ShortTellerModel" "tape" "[I") (List.mem_of_getElem? (i := 3) rfl)) (fun _ h9 => h9) rfl dX10_feed_79 ?_
    refine lv_aload_n hx hb dX10_feed_82 rfl (lv_at hl 2 rfl) ?_
    refine va_get (D := D) (ci := 10) (v := .int v_tapeSize) (C := RX10) (T := TX10) (N := 66) hx hb hts iX10 hown hK hP 0 rfl rfl 1 (by decide) (hts (.fieldLink RX10 138 "ShortTellerModel" "tapeSize" "I") (List.mem_of_getElem? (i := 2) rfl)) (fun _ h9 => h9) rfl dX10_feed_83 ?_
    refine lv_iload hx hb dX10_feed_86 (lv_at hl 1 rfl) ?_
    refine lv_iadd hx hb dX10_feed_88 ?_
    refine lv_topi (fun n55 en55 => ?_)
    have tn55 : n55.toInt = v_tapeSize.toInt + (13 : Int) := q3_add en55 rfl (by decide) (by omega) (by omega)
    refine lv_iload hx hb dX10_feed_89 (lv_at hl 0 rfl) ?_
    refine lv_bipush (v := 24) hx hb dX10_feed_91 (by decide) ?_
    refine lv_bipush (v := 8) hx hb dX10_feed_93 (by decide) ?_
    refine lv_iload hx hb dX10_feed_95 (lv_at hl 1 rfl) ?_
    refine lv_iconst (v := 4) hx hb dX10_feed_97 (by decide) ?_
    refine lv_irem hx hb dX10_feed_98 (by decide) ?_
    refine q1_top (v := 1) (by decide) ?_
    refine lv_imul hx hb dX10_feed_99 ?_
    refine q1_top (v := 8) (by decide) ?_
    refine lv_isub hx hb dX10_feed_100 ?_
    refine q1_top (v := 16) (by decide) ?_
    refine lv_ishr hx hb dX10_feed_101 ?_
    refine lv_topi (fun n56 en56 => ?_)
    refine lv_sipush (v := 255) hx hb dX10_feed_102 (by decide) ?_
    refine lv_iand hx hb dX10_feed_105 ?_
    refine lv_topi (fun n57 en57 => ?_)
    have tn57 := q3_and255 en57
    refine q3_iast (c := c) hx hb hK hP hD hS 1 rfl (q2_in (by omega) (by omega)) dX10_feed_106 (fun F58 eF58 H locs hP hD hS => ?_)
    have hP : va_P D vwCl (wM c y a v_tapeSize (0) v_fault v_faultPlace v_things v_options v_lists v_sentences v_headings v_words v_factBits v_known v_soundMany v_wholeLength v_next v_end v_rThings v_rOptions v_rLists v_rSentences v_rHeadings v_lastName v_inSentence v_open v_written v_named v_sorted F58 f_kind f_owner f_from f_size f_means f_signs f_oKind f_oIn f_oList f_oWords f_oFacts f_listIn f_sOwner f_hFacts f_weights f_lengths f_values f_rKind f_rOwner f_rFrom f_rSize f_rMeans f_rOKind f_rOIn f_rOList f_rOFacts f_rListIn f_rSOwner f_rHFacts f_rWeights f_opKind f_opFrom f_opWord f_opOwner f_opList f_opItems f_out f_ranks) H := hP
    have hD : va_D A (wM c y a v_tapeSize (0) v_fault v_faultPlace v_things v_options v_lists v_sentences v_headings v_words v_factBits v_known v_soundMany v_wholeLength v_next v_end v_rThings v_rOptions v_rLists v_rSentences v_rHeadings v_lastName v_inSentence v_open v_written v_named v_sorted F58 f_kind f_owner f_from f_size f_means f_signs f_oKind f_oIn f_oList f_oWords f_oFacts f_listIn f_sOwner f_hFacts f_weights f_lengths f_values f_rKind f_rOwner f_rFrom f_rSize f_rMeans f_rOKind f_rOIn f_rOList f_rOFacts f_rListIn f_rSOwner f_rHFacts f_rWeights f_opKind f_opFrom f_opWord f_opOwner f_opList f_opItems f_out f_ranks) := hD
    have hF58_0 : ∀ j : Nat, 0 ≤ (F58 j).toInt ∧ (F58 j).toInt ≤ 255 := q3_up (P := fun z => 0 ≤ z.toInt ∧ z.toInt ≤ 255) eF58 hF54_0 (show 0 ≤ n57.toInt ∧ n57.toInt ≤ 255 by omega)
    have fd14 : e_Fd f_tape F58 v_tapeSize.toInt 14 (e_fb x_a x_b x_d x_e x_g) := fd13.more eF58 (by omega) (by omega) (by rw [en57, en56]; rfl)
    refine lv_iinc (v := 14) (lv' := [(6, .int 14), (7, .int x_e), (0, .ref y), (1, .int x_a), (2, .int x_b), (3, .int x_d), (4, .int x_e), (5, .int x_g)]) hx hb dX10_feed_107 hl (k := 1) rfl (by decide) (by decide) rfl (fun ls hl => ?_)
    refine lv_goto (tgt := 23) hx hb dX10_feed_110 (by decide) ?_
    refine lv_iload hx hb dX10_feed_23 (lv_at hl 0 rfl) ?_
    refine lv_bipush (v := 20) hx hb dX10_feed_25 (by decide) ?_
    refine lv_icmp_ge (tgt := 113) hx hb dX10_feed_27 (by decide) (fun h9 => absurd h9 (by decide)) (fun _ => ?_)
    refine lv_iload hx hb dX10_feed_30 (lv_at hl 0 rfl) ?_
    refine lv_iconst (v := 4) hx hb dX10_feed_32 (by decide) ?_
    refine lv_icmp_ge (tgt := 40) hx hb dX10_feed_33 (by decide) (fun _ => ?_) (fun h9 => absurd (by decide) h9)
    refine lv_iload hx hb dX10_feed_40 (lv_at hl 0 rfl) ?_
    refine lv_bipush (v := 8) hx hb dX10_feed_42 (by decide) ?_
    refine lv_icmp_ge (tgt := 51) hx hb dX10_feed_44 (by decide) (fun _ => ?_) (fun h9 => absurd (by decide) h9)
    refine lv_iload hx hb dX10_feed_51 (lv_at hl 0 rfl) ?_
    refine lv_bipush (v := 12) hx hb dX10_feed_53 (by decide) ?_
    refine lv_icmp_ge (tgt := 62) hx hb dX10_feed_55 (by decide) (fun _ => ?_) (fun h9 => absurd (by decide) h9)
    refine lv_iload hx hb dX10_feed_62 (lv_at hl 0 rfl) ?_
    refine lv_bipush (v := 16) hx hb dX10_feed_64 (by decide) ?_
    refine lv_icmp_ge (tgt := 74) hx hb dX10_feed_66 (by decide) (fun h9 => absurd h9 (by decide)) (fun _ => ?_)
    refine lv_iload hx hb dX10_feed_69 (lv_at hl 6 rfl) ?_
    refine lv_goto (tgt := 76) hx hb dX10_feed_71 (by decide) ?_
    refine lv_istore (lv' := [(7, .int x_e), (6, .int 14), (0, .ref y), (1, .int x_a), (2, .int x_b), (3, .int x_d), (4, .int x_e), (5, .int x_g)]) hx hb dX10_feed_76 hl (by decide) rfl (fun ls hl => ?_)
    refine lv_aload_n hx hb dX10_feed_78 rfl (lv_at hl 2 rfl) ?_
    refine va_get (D := D) (ci := 10) (v := .ref (a 0)) (C := RX10) (T := TX10) (N := 66) hx hb hts iX10 hown hK hP 0 rfl rfl 0 (by decide) (hts (.fieldLink RX10 7 "ShortTellerModel" "tape" "[I") (List.mem_of_getElem? (i := 3) rfl)) (fun _ h9 => h9) rfl dX10_feed_79 ?_
    refine lv_aload_n hx hb dX10_feed_82 rfl (lv_at hl 2 rfl) ?_
    refine va_get (D := D) (ci := 10) (v := .int v_tapeSize) (C := RX10) (T := TX10) (N := 66) hx hb hts iX10 hown hK hP 0 rfl rfl 1 (by decide) (hts (.fieldLink RX10 138 "ShortTellerModel" "tapeSize" "I") (List.mem_of_getElem? (i := 2) rfl)) (fun _ h9 => h9) rfl dX10_feed_83 ?_
    refine lv_iload hx hb dX10_feed_86 (lv_at hl 1 rfl) ?_
    refine lv_iadd hx hb dX10_feed_88 ?_
    refine lv_topi (fun n59 en59 => ?_)
    have tn59 : n59.toInt = v_tapeSize.toInt + (14 : Int) := q3_add en59 rfl (by decide) (by omega) (by omega)
    refine lv_iload hx hb dX10_feed_89 (lv_at hl 0 rfl) ?_
    refine lv_bipush (v := 24) hx hb dX10_feed_91 (by decide) ?_
    refine lv_bipush (v := 8) hx hb dX10_feed_93 (by decide) ?_
    refine lv_iload hx hb dX10_feed_95 (lv_at hl 1 rfl) ?_
    refine lv_iconst (v := 4) hx hb dX10_feed_97 (by decide) ?_
    refine lv_irem hx hb dX10_feed_98 (by decide) ?_
    refine q1_top (v := 2) (by decide) ?_
    refine lv_imul hx hb dX10_feed_99 ?_
    refine q1_top (v := 16) (by decide) ?_
    refine lv_isub hx hb dX10_feed_100 ?_
    refine q1_top (v := 8) (by decide) ?_
    refine lv_ishr hx hb dX10_feed_101 ?_
    refine lv_topi (fun n60 en60 => ?_)
    refine lv_sipush (v := 255) hx hb dX10_feed_102 (by decide) ?_
    refine lv_iand hx hb dX10_feed_105 ?_
    refine lv_topi (fun n61 en61 => ?_)
    have tn61 := q3_and255 en61
    refine q3_iast (c := c) hx hb hK hP hD hS 1 rfl (q2_in (by omega) (by omega)) dX10_feed_106 (fun F62 eF62 H locs hP hD hS => ?_)
    have hP : va_P D vwCl (wM c y a v_tapeSize (0) v_fault v_faultPlace v_things v_options v_lists v_sentences v_headings v_words v_factBits v_known v_soundMany v_wholeLength v_next v_end v_rThings v_rOptions v_rLists v_rSentences v_rHeadings v_lastName v_inSentence v_open v_written v_named v_sorted F62 f_kind f_owner f_from f_size f_means f_signs f_oKind f_oIn f_oList f_oWords f_oFacts f_listIn f_sOwner f_hFacts f_weights f_lengths f_values f_rKind f_rOwner f_rFrom f_rSize f_rMeans f_rOKind f_rOIn f_rOList f_rOFacts f_rListIn f_rSOwner f_rHFacts f_rWeights f_opKind f_opFrom f_opWord f_opOwner f_opList f_opItems f_out f_ranks) H := hP
    have hD : va_D A (wM c y a v_tapeSize (0) v_fault v_faultPlace v_things v_options v_lists v_sentences v_headings v_words v_factBits v_known v_soundMany v_wholeLength v_next v_end v_rThings v_rOptions v_rLists v_rSentences v_rHeadings v_lastName v_inSentence v_open v_written v_named v_sorted F62 f_kind f_owner f_from f_size f_means f_signs f_oKind f_oIn f_oList f_oWords f_oFacts f_listIn f_sOwner f_hFacts f_weights f_lengths f_values f_rKind f_rOwner f_rFrom f_rSize f_rMeans f_rOKind f_rOIn f_rOList f_rOFacts f_rListIn f_rSOwner f_rHFacts f_rWeights f_opKind f_opFrom f_opWord f_opOwner f_opList f_opItems f_out f_ranks) := hD
    have hF62_0 : ∀ j : Nat, 0 ≤ (F62 j).toInt ∧ (F62 j).toInt ≤ 255 := q3_up (P := fun z => 0 ≤ z.toInt ∧ z.toInt ≤ 255) eF62 hF58_0 (show 0 ≤ n61.toInt ∧ n61.toInt ≤ 255 by omega)
    have fd15 : e_Fd f_tape F62 v_tapeSize.toInt 15 (e_fb x_a x_b x_d x_e x_g) := fd14.more eF62 (by omega) (by omega) (by rw [en61, en60]; rfl)
    refine lv_iinc (v := 15) (lv' := [(6, .int 15), (7, .int x_e), (0, .ref y), (1, .int x_a), (2, .int x_b), (3, .int x_d), (4, .int x_e), (5, .int x_g)]) hx hb dX10_feed_107 hl (k := 1) rfl (by decide) (by decide) rfl (fun ls hl => ?_)
    refine lv_goto (tgt := 23) hx hb dX10_feed_110 (by decide) ?_
    refine lv_iload hx hb dX10_feed_23 (lv_at hl 0 rfl) ?_
    refine lv_bipush (v := 20) hx hb dX10_feed_25 (by decide) ?_
    refine lv_icmp_ge (tgt := 113) hx hb dX10_feed_27 (by decide) (fun h9 => absurd h9 (by decide)) (fun _ => ?_)
    refine lv_iload hx hb dX10_feed_30 (lv_at hl 0 rfl) ?_
    refine lv_iconst (v := 4) hx hb dX10_feed_32 (by decide) ?_
    refine lv_icmp_ge (tgt := 40) hx hb dX10_feed_33 (by decide) (fun _ => ?_) (fun h9 => absurd (by decide) h9)
    refine lv_iload hx hb dX10_feed_40 (lv_at hl 0 rfl) ?_
    refine lv_bipush (v := 8) hx hb dX10_feed_42 (by decide) ?_
    refine lv_icmp_ge (tgt := 51) hx hb dX10_feed_44 (by decide) (fun _ => ?_) (fun h9 => absurd (by decide) h9)
    refine lv_iload hx hb dX10_feed_51 (lv_at hl 0 rfl) ?_
    refine lv_bipush (v := 12) hx hb dX10_feed_53 (by decide) ?_
    refine lv_icmp_ge (tgt := 62) hx hb dX10_feed_55 (by decide) (fun _ => ?_) (fun h9 => absurd (by decide) h9)
    refine lv_iload hx hb dX10_feed_62 (lv_at hl 0 rfl) ?_
    refine lv_bipush (v := 16) hx hb dX10_feed_64 (by decide) ?_
    refine lv_icmp_ge (tgt := 74) hx hb dX10_feed_66 (by decide) (fun h9 => absurd h9 (by decide)) (fun _ => ?_)
    refine lv_iload hx hb dX10_feed_69 (lv_at hl 6 rfl) ?_
    refine lv_goto (tgt := 76) hx hb dX10_feed_71 (by decide) ?_
    refine lv_istore (lv' := [(7, .int x_e), (6, .int 15), (0, .ref y), (1, .int x_a), (2, .int x_b), (3, .int x_d), (4, .int x_e), (5, .int x_g)]) hx hb dX10_feed_76 hl (by decide) rfl (fun ls hl => ?_)
    refine lv_aload_n hx hb dX10_feed_78 rfl (lv_at hl 2 rfl) ?_
    refine va_get (D := D) (ci := 10) (v := .ref (a 0)) (C := RX10) (T := TX10) (N := 66) hx hb hts iX10 hown hK hP 0 rfl rfl 0 (by decide) (hts (.fieldLink RX10 7 "ShortTellerModel" "tape" "[I") (List.mem_of_getElem? (i := 3) rfl)) (fun _ h9 => h9) rfl dX10_feed_79 ?_
    refine lv_aload_n hx hb dX10_feed_82 rfl (lv_at hl 2 rfl) ?_
    refine va_get (D := D) (ci := 10) (v := .int v_tapeSize) (C := RX10) (T := TX10) (N := 66) hx hb hts iX10 hown hK hP 0 rfl rfl 1 (by decide) (hts (.fieldLink RX10 138 "ShortTellerModel" "tapeSize" "I") (List.mem_of_getElem? (i := 2) rfl)) (fun _ h9 => h9) rfl dX10_feed_83 ?_
    refine lv_iload hx hb dX10_feed_86 (lv_at hl 1 rfl) ?_
    refine lv_iadd hx hb dX10_feed_88 ?_
    refine lv_topi (fun n63 en63 => ?_)
    have tn63 : n63.toInt = v_tapeSize.toInt + (15 : Int) := q3_add en63 rfl (by decide) (by omega) (by omega)
    refine lv_iload hx hb dX10_feed_89 (lv_at hl 0 rfl) ?_
    refine lv_bipush (v := 24) hx hb dX10_feed_91 (by decide) ?_
    refine lv_bipush (v := 8) hx hb dX10_feed_93 (by decide) ?_
    refine lv_iload hx hb dX10_feed_95 (lv_at hl 1 rfl) ?_
    refine lv_iconst (v := 4) hx hb dX10_feed_97 (by decide) ?_
    refine lv_irem hx hb dX10_feed_98 (by decide) ?_
    refine q1_top (v := 3) (by decide) ?_
    refine lv_imul hx hb dX10_feed_99 ?_
    refine q1_top (v := 24) (by decide) ?_
    refine lv_isub hx hb dX10_feed_100 ?_
    refine q1_top (v := 0) (by decide) ?_
    refine lv_ishr hx hb dX10_feed_101 ?_
    refine lv_topi (fun n64 en64 => ?_)
    refine lv_sipush (v := 255) hx hb dX10_feed_102 (by decide) ?_
    refine lv_iand hx hb dX10_feed_105 ?_
    refine lv_topi (fun n65 en65 => ?_)
    have tn65 := q3_and255 en65
    refine q3_iast (c := c) hx hb hK hP hD hS 1 rfl (q2_in (by omega) (by omega)) dX10_feed_106 (fun F66 eF66 H locs hP hD hS => ?_)
    have hP : va_P D vwCl (wM c y a v_tapeSize (0) v_fault v_faultPlace v_things v_options v_lists v_sentences v_headings v_words v_factBits v_known v_soundMany v_wholeLength v_next v_end v_rThings v_rOptions v_rLists v_rSentences v_rHeadings v_lastName v_inSentence v_open v_written v_named v_sorted F66 f_kind f_owner f_from f_size f_means f_signs f_oKind f_oIn f_oList f_oWords f_oFacts f_listIn f_sOwner f_hFacts f_weights f_lengths f_values f_rKind f_rOwner f_rFrom f_rSize f_rMeans f_rOKind f_rOIn f_rOList f_rOFacts f_rListIn f_rSOwner f_rHFacts f_rWeights f_opKind f_opFrom f_opWord f_opOwner f_opList f_opItems f_out f_ranks) H := hP
    have hD : va_D A (wM c y a v_tapeSize (0) v_fault v_faultPlace v_things v_options v_lists v_sentences v_headings v_words v_factBits v_known v_soundMany v_wholeLength v_next v_end v_rThings v_rOptions v_rLists v_rSentences v_rHeadings v_lastName v_inSentence v_open v_written v_named v_sorted F66 f_kind f_owner f_from f_size f_means f_signs f_oKind f_oIn f_oList f_oWords f_oFacts f_listIn f_sOwner f_hFacts f_weights f_lengths f_values f_rKind f_rOwner f_rFrom f_rSize f_rMeans f_rOKind f_rOIn f_rOList f_rOFacts f_rListIn f_rSOwner f_rHFacts f_rWeights f_opKind f_opFrom f_opWord f_opOwner f_opList f_opItems f_out f_ranks) := hD
    have hF66_0 : ∀ j : Nat, 0 ≤ (F66 j).toInt ∧ (F66 j).toInt ≤ 255 := q3_up (P := fun z => 0 ≤ z.toInt ∧ z.toInt ≤ 255) eF66 hF62_0 (show 0 ≤ n65.toInt ∧ n65.toInt ≤ 255 by omega)
    have fd16 : e_Fd f_tape F66 v_tapeSize.toInt 16 (e_fb x_a x_b x_d x_e x_g) := fd15.more eF66 (by omega) (by omega) (by rw [en65, en64]; rfl)
    refine lv_iinc (v := 16) (lv' := [(6, .int 16), (7, .int x_e), (0, .ref y), (1, .int x_a), (2, .int x_b), (3, .int x_d), (4, .int x_e), (5, .int x_g)]) hx hb dX10_feed_107 hl (k := 1) rfl (by decide) (by decide) rfl (fun ls hl => ?_)
    refine lv_goto (tgt := 23) hx hb dX10_feed_110 (by decide) ?_
    refine lv_iload hx hb dX10_feed_23 (lv_at hl 0 rfl) ?_
    refine lv_bipush (v := 20) hx hb dX10_feed_25 (by decide) ?_
    refine lv_icmp_ge (tgt := 113) hx hb dX10_feed_27 (by decide) (fun h9 => absurd h9 (by decide)) (fun _ => ?_)
    refine lv_iload hx hb dX10_feed_30 (lv_at hl 0 rfl) ?_
    refine lv_iconst (v := 4) hx hb dX10_feed_32 (by decide) ?_
    refine lv_icmp_ge (tgt := 40) hx hb dX10_feed_33 (by decide) (fun _ => ?_) (fun h9 => absurd (by decide) h9)
    refine lv_iload hx hb dX10_feed_40 (lv_at hl 0 rfl) ?_
    refine lv_bipush (v := 8) hx hb dX10_feed_42 (by decide) ?_
    refine lv_icmp_ge (tgt := 51) hx hb dX10_feed_44 (by decide) (fun _ => ?_) (fun h9 => absurd (by decide) h9)
    refine lv_iload hx hb dX10_feed_51 (lv_at hl 0 rfl) ?_
    refine lv_bipush (v := 12) hx hb dX10_feed_53 (by decide) ?_
    refine lv_icmp_ge (tgt := 62) hx hb dX10_feed_55 (by decide) (fun _ => ?_) (fun h9 => absurd (by decide) h9)
    refine lv_iload hx hb dX10_feed_62 (lv_at hl 0 rfl) ?_
    refine lv_bipush (v := 16) hx hb dX10_feed_64 (by decide) ?_
    refine lv_icmp_ge (tgt := 74) hx hb dX10_feed_66 (by decide) (fun _ => ?_) (fun h9 => absurd (by decide) h9)
    refine lv_iload hx hb dX10_feed_74 (lv_at hl 7 rfl) ?_
    refine lv_istore (lv' := [(7, .int x_g), (6, .int 16), (0, .ref y), (1, .int x_a), (2, .int x_b), (3, .int x_d), (4, .int x_e), (5, .int x_g)]) hx hb dX10_feed_76 hl (by decide) rfl (fun ls hl => ?_)
    refine lv_aload_n hx hb dX10_feed_78 rfl (lv_at hl 2 rfl) ?_
    refine va_get (D := D) (ci := 10) (v := .ref (a 0)) (C := RX10) (T := TX10) (N := 66) hx hb hts iX10 hown hK hP 0 rfl rfl 0 (by decide) (hts (.fieldLink RX10 7 "ShortTellerModel" "tape" "[I") (List.mem_of_getElem? (i := 3) rfl)) (fun _ h9 => h9) rfl dX10_feed_79 ?_
    refine lv_aload_n hx hb dX10_feed_82 rfl (lv_at hl 2 rfl) ?_
    refine va_get (D := D) (ci := 10) (v := .int v_tapeSize) (C := RX10) (T := TX10) (N := 66) hx hb hts iX10 hown hK hP 0 rfl rfl 1 (by decide) (hts (.fieldLink RX10 138 "ShortTellerModel" "tapeSize" "I") (List.mem_of_getElem? (i := 2) rfl)) (fun _ h9 => h9) rfl dX10_feed_83 ?_
    refine lv_iload hx hb dX10_feed_86 (lv_at hl 1 rfl) ?_
    refine lv_iadd hx hb dX10_feed_88 ?_
    refine lv_topi (fun n67 en67 => ?_)
    have tn67 : n67.toInt = v_tapeSize.toInt + (16 : Int) := q3_add en67 rfl (by decide) (by omega) (by omega)
    refine lv_iload hx hb dX10_feed_89 (lv_at hl 0 rfl) ?_
    refine lv_bipush (v := 24) hx hb dX10_feed_91 (by decide) ?_
    refine lv_bipush (v := 8) hx hb dX10_feed_93 (by decide) ?_
    refine lv_iload hx hb dX10_feed_95 (lv_at hl 1 rfl) ?_
    refine lv_iconst (v := 4) hx hb dX10_feed_97 (by decide) ?_
    refine lv_irem hx hb dX10_feed_98 (by decide) ?_
    refine q1_top (v := 0) (by decide) ?_
    refine lv_imul hx hb dX10_feed_99 ?_
    refine q1_top (v := 0) (by decide) ?_
    refine lv_isub hx hb dX10_feed_100 ?_
    refine q1_top (v := 24) (by decide) ?_
    refine lv_ishr hx hb dX10_feed_101 ?_
    refine lv_topi (fun n68 en68 => ?_)
    refine lv_sipush (v := 255) hx hb dX10_feed_102 (by decide) ?_
    refine lv_iand hx hb dX10_feed_105 ?_
    refine lv_topi (fun n69 en69 => ?_)
    have tn69 := q3_and255 en69
    refine q3_iast (c := c) hx hb hK hP hD hS 1 rfl (q2_in (by omega) (by omega)) dX10_feed_106 (fun F70 eF70 H locs hP hD hS => ?_)
    have hP : va_P D vwCl (wM c y a v_tapeSize (0) v_fault v_faultPlace v_things v_options v_lists v_sentences v_headings v_words v_factBits v_known v_soundMany v_wholeLength v_next v_end v_rThings v_rOptions v_rLists v_rSentences v_rHeadings v_lastName v_inSentence v_open v_written v_named v_sorted F70 f_kind f_owner f_from f_size f_means f_signs f_oKind f_oIn f_oList f_oWords f_oFacts f_listIn f_sOwner f_hFacts f_weights f_lengths f_values f_rKind f_rOwner f_rFrom f_rSize f_rMeans f_rOKind f_rOIn f_rOList f_rOFacts f_rListIn f_rSOwner f_rHFacts f_rWeights f_opKind f_opFrom f_opWord f_opOwner f_opList f_opItems f_out f_ranks) H := hP
    have hD : va_D A (wM c y a v_tapeSize (0) v_fault v_faultPlace v_things v_options v_lists v_sentences v_headings v_words v_factBits v_known v_soundMany v_wholeLength v_next v_end v_rThings v_rOptions v_rLists v_rSentences v_rHeadings v_lastName v_inSentence v_open v_written v_named v_sorted F70 f_kind f_owner f_from f_size f_means f_signs f_oKind f_oIn f_oList f_oWords f_oFacts f_listIn f_sOwner f_hFacts f_weights f_lengths f_values f_rKind f_rOwner f_rFrom f_rSize f_rMeans f_rOKind f_rOIn f_rOList f_rOFacts f_rListIn f_rSOwner f_rHFacts f_rWeights f_opKind f_opFrom f_opWord f_opOwner f_opList f_opItems f_out f_ranks) := hD
    have hF70_0 : ∀ j : Nat, 0 ≤ (F70 j).toInt ∧ (F70 j).toInt ≤ 255 := q3_up (P := fun z => 0 ≤ z.toInt ∧ z.toInt ≤ 255) eF70 hF66_0 (show 0 ≤ n69.toInt ∧ n69.toInt ≤ 255 by omega)
    have fd17 : e_Fd f_tape F70 v_tapeSize.toInt 17 (e_fb x_a x_b x_d x_e x_g) := fd16.more eF70 (by omega) (by omega) (by rw [en69, en68]; rfl)
    refine lv_iinc (v := 17) (lv' := [(6, .int 17), (7, .int x_g), (0, .ref y), (1, .int x_a), (2, .int x_b), (3, .int x_d), (4, .int x_e), (5, .int x_g)]) hx hb dX10_feed_107 hl (k := 1) rfl (by decide) (by decide) rfl (fun ls hl => ?_)
    refine lv_goto (tgt := 23) hx hb dX10_feed_110 (by decide) ?_
    refine lv_iload hx hb dX10_feed_23 (lv_at hl 0 rfl) ?_
    refine lv_bipush (v := 20) hx hb dX10_feed_25 (by decide) ?_
    refine lv_icmp_ge (tgt := 113) hx hb dX10_feed_27 (by decide) (fun h9 => absurd h9 (by decide)) (fun _ => ?_)
    refine lv_iload hx hb dX10_feed_30 (lv_at hl 0 rfl) ?_
    refine lv_iconst (v := 4) hx hb dX10_feed_32 (by decide) ?_
    refine lv_icmp_ge (tgt := 40) hx hb dX10_feed_33 (by decide) (fun _ => ?_) (fun h9 => absurd (by decide) h9)
    refine lv_iload hx hb dX10_feed_40 (lv_at hl 0 rfl) ?_
    refine lv_bipush (v := 8) hx hb dX10_feed_42 (by decide) ?_
    refine lv_icmp_ge (tgt := 51) hx hb dX10_feed_44 (by decide) (fun _ => ?_) (fun h9 => absurd (by decide) h9)
    refine lv_iload hx hb dX10_feed_51 (lv_at hl 0 rfl) ?_
    refine lv_bipush (v := 12) hx hb dX10_feed_53 (by decide) ?_
    refine lv_icmp_ge (tgt := 62) hx hb dX10_feed_55 (by decide) (fun _ => ?_) (fun h9 => absurd (by decide) h9)
    refine lv_iload hx hb dX10_feed_62 (lv_at hl 0 rfl) ?_
    refine lv_bipush (v := 16) hx hb dX10_feed_64 (by decide) ?_
    refine lv_icmp_ge (tgt := 74) hx hb dX10_feed_66 (by decide) (fun _ => ?_) (fun h9 => absurd (by decide) h9)
    refine lv_iload hx hb dX10_feed_74 (lv_at hl 7 rfl) ?_
    refine lv_istore (lv' := [(7, .int x_g), (6, .int 17), (0, .ref y), (1, .int x_a), (2, .int x_b), (3, .int x_d), (4, .int x_e), (5, .int x_g)]) hx hb dX10_feed_76 hl (by decide) rfl (fun ls hl => ?_)
    refine lv_aload_n hx hb dX10_feed_78 rfl (lv_at hl 2 rfl) ?_
    refine va_get (D := D) (ci := 10) (v := .ref (a 0)) (C := RX10) (T := TX10) (N := 66) hx hb hts iX10 hown hK hP 0 rfl rfl 0 (by decide) (hts (.fieldLink RX10 7 "ShortTellerModel" "tape" "[I") (List.mem_of_getElem? (i := 3) rfl)) (fun _ h9 => h9) rfl dX10_feed_79 ?_
    refine lv_aload_n hx hb dX10_feed_82 rfl (lv_at hl 2 rfl) ?_
    refine va_get (D := D) (ci := 10) (v := .int v_tapeSize) (C := RX10) (T := TX10) (N := 66) hx hb hts iX10 hown hK hP 0 rfl rfl 1 (by decide) (hts (.fieldLink RX10 138 "ShortTellerModel" "tapeSize" "I") (List.mem_of_getElem? (i := 2) rfl)) (fun _ h9 => h9) rfl dX10_feed_83 ?_
    refine lv_iload hx hb dX10_feed_86 (lv_at hl 1 rfl) ?_
    refine lv_iadd hx hb dX10_feed_88 ?_
    refine lv_topi (fun n71 en71 => ?_)
    have tn71 : n71.toInt = v_tapeSize.toInt + (17 : Int) := q3_add en71 rfl (by decide) (by omega) (by omega)
    refine lv_iload hx hb dX10_feed_89 (lv_at hl 0 rfl) ?_
    refine lv_bipush (v := 24) hx hb dX10_feed_91 (by decide) ?_
    refine lv_bipush (v := 8) hx hb dX10_feed_93 (by decide) ?_
    refine lv_iload hx hb dX10_feed_95 (lv_at hl 1 rfl) ?_
    refine lv_iconst (v := 4) hx hb dX10_feed_97 (by decide) ?_
    refine lv_irem hx hb dX10_feed_98 (by decide) ?_
    refine q1_top (v := 1) (by decide) ?_
    refine lv_imul hx hb dX10_feed_99 ?_
    refine q1_top (v := 8) (by decide) ?_
    refine lv_isub hx hb dX10_feed_100 ?_
    refine q1_top (v := 16) (by decide) ?_
    refine lv_ishr hx hb dX10_feed_101 ?_
    refine lv_topi (fun n72 en72 => ?_)
    refine lv_sipush (v := 255) hx hb dX10_feed_102 (by decide) ?_
    refine lv_iand hx hb dX10_feed_105 ?_
    refine lv_topi (fun n73 en73 => ?_)
    have tn73 := q3_and255 en73
    refine q3_iast (c := c) hx hb hK hP hD hS 1 rfl (q2_in (by omega) (by omega)) dX10_feed_106 (fun F74 eF74 H locs hP hD hS => ?_)
    have hP : va_P D vwCl (wM c y a v_tapeSize (0) v_fault v_faultPlace v_things v_options v_lists v_sentences v_headings v_words v_factBits v_known v_soundMany v_wholeLength v_next v_end v_rThings v_rOptions v_rLists v_rSentences v_rHeadings v_lastName v_inSentence v_open v_written v_named v_sorted F74 f_kind f_owner f_from f_size f_means f_signs f_oKind f_oIn f_oList f_oWords f_oFacts f_listIn f_sOwner f_hFacts f_weights f_lengths f_values f_rKind f_rOwner f_rFrom f_rSize f_rMeans f_rOKind f_rOIn f_rOList f_rOFacts f_rListIn f_rSOwner f_rHFacts f_rWeights f_opKind f_opFrom f_opWord f_opOwner f_opList f_opItems f_out f_ranks) H := hP
    have hD : va_D A (wM c y a v_tapeSize (0) v_fault v_faultPlace v_things v_options v_lists v_sentences v_headings v_words v_factBits v_known v_soundMany v_wholeLength v_next v_end v_rThings v_rOptions v_rLists v_rSentences v_rHeadings v_lastName v_inSentence v_open v_written v_named v_sorted F74 f_kind f_owner f_from f_size f_means f_signs f_oKind f_oIn f_oList f_oWords f_oFacts f_listIn f_sOwner f_hFacts f_weights f_lengths f_values f_rKind f_rOwner f_rFrom f_rSize f_rMeans f_rOKind f_rOIn f_rOList f_rOFacts f_rListIn f_rSOwner f_rHFacts f_rWeights f_opKind f_opFrom f_opWord f_opOwner f_opList f_opItems f_out f_ranks) := hD
    have hF74_0 : ∀ j : Nat, 0 ≤ (F74 j).toInt ∧ (F74 j).toInt ≤ 255 := q3_up (P := fun z => 0 ≤ z.toInt ∧ z.toInt ≤ 255) eF74 hF70_0 (show 0 ≤ n73.toInt ∧ n73.toInt ≤ 255 by omega)
    have fd18 : e_Fd f_tape F74 v_tapeSize.toInt 18 (e_fb x_a x_b x_d x_e x_g) := fd17.more eF74 (by omega) (by omega) (by rw [en73, en72]; rfl)
    refine lv_iinc (v := 18) (lv' := [(6, .int 18), (7, .int x_g), (0, .ref y), (1, .int x_a), (2, .int x_b), (3, .int x_d), (4, .int x_e), (5, .int x_g)]) hx hb dX10_feed_107 hl (k := 1) rfl (by decide) (by decide) rfl (fun ls hl => ?_)
    refine lv_goto (tgt := 23) hx hb dX10_feed_110 (by decide) ?_
    refine lv_iload hx hb dX10_feed_23 (lv_at hl 0 rfl) ?_
    refine lv_bipush (v := 20) hx hb dX10_feed_25 (by decide) ?_
    refine lv_icmp_ge (tgt := 113) hx hb dX10_feed_27 (by decide) (fun h9 => absurd h9 (by decide)) (fun _ => ?_)
    refine lv_iload hx hb dX10_feed_30 (lv_at hl 0 rfl) ?_
    refine lv_iconst (v := 4) hx hb dX10_feed_32 (by decide) ?_
    refine lv_icmp_ge (tgt := 40) hx hb dX10_feed_33 (by decide) (fun _ => ?_) (fun h9 => absurd (by decide) h9)
    refine lv_iload hx hb dX10_feed_40 (lv_at hl 0 rfl) ?_
    refine lv_bipush (v := 8) hx hb dX10_feed_42 (by decide) ?_
    refine lv_icmp_ge (tgt := 51) hx hb dX10_feed_44 (by decide) (fun _ => ?_) (fun h9 => absurd (by decide) h9)
    refine lv_iload hx hb dX10_feed_51 (lv_at hl 0 rfl) ?_
    refine lv_bipush (v := 12) hx hb dX10_feed_53 (by decide) ?_
    refine lv_icmp_ge (tgt := 62) hx hb dX10_feed_55 (by decide) (fun _ => ?_) (fun h9 => absurd (by decide) h9)
    refine lv_iload hx hb dX10_feed_62 (lv_at hl 0 rfl) ?_
    refine lv_bipush (v := 16) hx hb dX10_feed_64 (by decide) ?_
    refine lv_icmp_ge (tgt := 74) hx hb dX10_feed_66 (by decide) (fun _ => ?_) (fun h9 => absurd (by decide) h9)
    refine lv_iload hx hb dX10_feed_74 (lv_at hl 7 rfl) ?_
    refine lv_istore (lv' := [(7, .int x_g), (6, .int 18), (0, .ref y), (1, .int x_a), (2, .int x_b), (3, .int x_d), (4, .int x_e), (5, .int x_g)]) hx hb dX10_feed_76 hl (by decide) rfl (fun ls hl => ?_)
    refine lv_aload_n hx hb dX10_feed_78 rfl (lv_at hl 2 rfl) ?_
    refine va_get (D := D) (ci := 10) (v := .ref (a 0)) (C := RX10) (T := TX10) (N := 66) hx hb hts iX10 hown hK hP 0 rfl rfl 0 (by decide) (hts (.fieldLink RX10 7 "ShortTellerModel" "tape" "[I") (List.mem_of_getElem? (i := 3) rfl)) (fun _ h9 => h9) rfl dX10_feed_79 ?_
    refine lv_aload_n hx hb dX10_feed_82 rfl (lv_at hl 2 rfl) ?_
    refine va_get (D := D) (ci := 10) (v := .int v_tapeSize) (C := RX10) (T := TX10) (N := 66) hx hb hts iX10 hown hK hP 0 rfl rfl 1 (by decide) (hts (.fieldLink RX10 138 "ShortTellerModel" "tapeSize" "I") (List.mem_of_getElem? (i := 2) rfl)) (fun _ h9 => h9) rfl dX10_feed_83 ?_
    refine lv_iload hx hb dX10_feed_86 (lv_at hl 1 rfl) ?_
    refine lv_iadd hx hb dX10_feed_88 ?_
    refine lv_topi (fun n75 en75 => ?_)
    have tn75 : n75.toInt = v_tapeSize.toInt + (18 : Int) := q3_add en75 rfl (by decide) (by omega) (by omega)
    refine lv_iload hx hb dX10_feed_89 (lv_at hl 0 rfl) ?_
    refine lv_bipush (v := 24) hx hb dX10_feed_91 (by decide) ?_
    refine lv_bipush (v := 8) hx hb dX10_feed_93 (by decide) ?_
    refine lv_iload hx hb dX10_feed_95 (lv_at hl 1 rfl) ?_
    refine lv_iconst (v := 4) hx hb dX10_feed_97 (by decide) ?_
    refine lv_irem hx hb dX10_feed_98 (by decide) ?_
    refine q1_top (v := 2) (by decide) ?_
    refine lv_imul hx hb dX10_feed_99 ?_
    refine q1_top (v := 16) (by decide) ?_
    refine lv_isub hx hb dX10_feed_100 ?_
    refine q1_top (v := 8) (by decide) ?_
    refine lv_ishr hx hb dX10_feed_101 ?_
    refine lv_topi (fun n76 en76 => ?_)
    refine lv_sipush (v := 255) hx hb dX10_feed_102 (by decide) ?_
    refine lv_iand hx hb dX10_feed_105 ?_
    refine lv_topi (fun n77 en77 => ?_)
    have tn77 := q3_and255 en77
    refine q3_iast (c := c) hx hb hK hP hD hS 1 rfl (q2_in (by omega) (by omega)) dX10_feed_106 (fun F78 eF78 H locs hP hD hS => ?_)
    have hP : va_P D vwCl (wM c y a v_tapeSize (0) v_fault v_faultPlace v_things v_options v_lists v_sentences v_headings v_words v_factBits v_known v_soundMany v_wholeLength v_next v_end v_rThings v_rOptions v_rLists v_rSentences v_rHeadings v_lastName v_inSentence v_open v_written v_named v_sorted F78 f_kind f_owner f_from f_size f_means f_signs f_oKind f_oIn f_oList f_oWords f_oFacts f_listIn f_sOwner f_hFacts f_weights f_lengths f_values f_rKind f_rOwner f_rFrom f_rSize f_rMeans f_rOKind f_rOIn f_rOList f_rOFacts f_rListIn f_rSOwner f_rHFacts f_rWeights f_opKind f_opFrom f_opWord f_opOwner f_opList f_opItems f_out f_ranks) H := hP
    have hD : va_D A (wM c y a v_tapeSize (0) v_fault v_faultPlace v_things v_options v_lists v_sentences v_headings v_words v_factBits v_known v_soundMany v_wholeLength v_next v_end v_rThings v_rOptions v_rLists v_rSentences v_rHeadings v_lastName v_inSentence v_open v_written v_named v_sorted F78 f_kind f_owner f_from f_size f_means f_signs f_oKind f_oIn f_oList f_oWords f_oFacts f_listIn f_sOwner f_hFacts f_weights f_lengths f_values f_rKind f_rOwner f_rFrom f_rSize f_rMeans f_rOKind f_rOIn f_rOList f_rOFacts f_rListIn f_rSOwner f_rHFacts f_rWeights f_opKind f_opFrom f_opWord f_opOwner f_opList f_opItems f_out f_ranks) := hD
    have hF78_0 : ∀ j : Nat, 0 ≤ (F78 j).toInt ∧ (F78 j).toInt ≤ 255 := q3_up (P := fun z => 0 ≤ z.toInt ∧ z.toInt ≤ 255) eF78 hF74_0 (show 0 ≤ n77.toInt ∧ n77.toInt ≤ 255 by omega)
    have fd19 : e_Fd f_tape F78 v_tapeSize.toInt 19 (e_fb x_a x_b x_d x_e x_g) := fd18.more eF78 (by omega) (by omega) (by rw [en77, en76]; rfl)
    refine lv_iinc (v := 19) (lv' := [(6, .int 19), (7, .int x_g), (0, .ref y), (1, .int x_a), (2, .int x_b), (3, .int x_d), (4, .int x_e), (5, .int x_g)]) hx hb dX10_feed_107 hl (k := 1) rfl (by decide) (by decide) rfl (fun ls hl => ?_)
    refine lv_goto (tgt := 23) hx hb dX10_feed_110 (by decide) ?_
    refine lv_iload hx hb dX10_feed_23 (lv_at hl 0 rfl) ?_
    refine lv_bipush (v := 20) hx hb dX10_feed_25 (by decide) ?_
    refine lv_icmp_ge (tgt := 113) hx hb dX10_feed_27 (by decide) (fun h9 => absurd h9 (by decide)) (fun _ => ?_)
    refine lv_iload hx hb dX10_feed_30 (lv_at hl 0 rfl) ?_
    refine lv_iconst (v := 4) hx hb dX10_feed_32 (by decide) ?_
    refine lv_icmp_ge (tgt := 40) hx hb dX10_feed_33 (by decide) (fun _ => ?_) (fun h9 => absurd (by decide) h9)
    refine lv_iload hx hb dX10_feed_40 (lv_at hl 0 rfl) ?_
    refine lv_bipush (v := 8) hx hb dX10_feed_42 (by decide) ?_
    refine lv_icmp_ge (tgt := 51) hx hb dX10_feed_44 (by decide) (fun _ => ?_) (fun h9 => absurd (by decide) h9)
    refine lv_iload hx hb dX10_feed_51 (lv_at hl 0 rfl) ?_
    refine lv_bipush (v := 12) hx hb dX10_feed_53 (by decide) ?_
    refine lv_icmp_ge (tgt := 62) hx hb dX10_feed_55 (by decide) (fun _ => ?_) (fun h9 => absurd (by decide) h9)
    refine lv_iload hx hb dX10_feed_62 (lv_at hl 0 rfl) ?_
    refine lv_bipush (v := 16) hx hb dX10_feed_64 (by decide) ?_
    refine lv_icmp_ge (tgt := 74) hx hb dX10_feed_66 (by decide) (fun _ => ?_) (fun h9 => absurd (by decide) h9)
    refine lv_iload hx hb dX10_feed_74 (lv_at hl 7 rfl) ?_
    refine lv_istore (lv' := [(7, .int x_g), (6, .int 19), (0, .ref y), (1, .int x_a), (2, .int x_b), (3, .int x_d), (4, .int x_e), (5, .int x_g)]) hx hb dX10_feed_76 hl (by decide) rfl (fun ls hl => ?_)
    refine lv_aload_n hx hb dX10_feed_78 rfl (lv_at hl 2 rfl) ?_
    refine va_get (D := D) (ci := 10) (v := .ref (a 0)) (C := RX10) (T := TX10) (N := 66) hx hb hts iX10 hown hK hP 0 rfl rfl 0 (by decide) (hts (.fieldLink RX10 7 "ShortTellerModel" "tape" "[I") (List.mem_of_getElem? (i := 3) rfl)) (fun _ h9 => h9) rfl dX10_feed_79 ?_
    refine lv_aload_n hx hb dX10_feed_82 rfl (lv_at hl 2 rfl) ?_
    refine va_get (D := D) (ci := 10) (v := .int v_tapeSize) (C := RX10) (T := TX10) (N := 66) hx hb hts iX10 hown hK hP 0 rfl rfl 1 (by decide) (hts (.fieldLink RX10 138 "ShortTellerModel" "tapeSize" "I") (List.mem_of_getElem? (i := 2) rfl)) (fun _ h9 => h9) rfl dX10_feed_83 ?_
    refine lv_iload hx hb dX10_feed_86 (lv_at hl 1 rfl) ?_
    refine lv_iadd hx hb dX10_feed_88 ?_
    refine lv_topi (fun n79 en79 => ?_)
    have tn79 : n79.toInt = v_tapeSize.toInt + (19 : Int) := q3_add en79 rfl (by decide) (by omega) (by omega)
    refine lv_iload hx hb dX10_feed_89 (lv_at hl 0 rfl) ?_
    refine lv_bipush (v := 24) hx hb dX10_feed_91 (by decide) ?_
    refine lv_bipush (v := 8) hx hb dX10_feed_93 (by decide) ?_
    refine lv_iload hx hb dX10_feed_95 (lv_at hl 1 rfl) ?_
    refine lv_iconst (v := 4) hx hb dX10_feed_97 (by decide) ?_
    refine lv_irem hx hb dX10_feed_98 (by decide) ?_
    refine q1_top (v := 3) (by decide) ?_
    refine lv_imul hx hb dX10_feed_99 ?_
    refine q1_top (v := 24) (by decide) ?_
    refine lv_isub hx hb dX10_feed_100 ?_
    refine q1_top (v := 0) (by decide) ?_
    refine lv_ishr hx hb dX10_feed_101 ?_
    refine lv_topi (fun n80 en80 => ?_)
    refine lv_sipush (v := 255) hx hb dX10_feed_102 (by decide) ?_
    refine lv_iand hx hb dX10_feed_105 ?_
    refine lv_topi (fun n81 en81 => ?_)
    have tn81 := q3_and255 en81
    refine q3_iast (c := c) hx hb hK hP hD hS 1 rfl (q2_in (by omega) (by omega)) dX10_feed_106 (fun F82 eF82 H locs hP hD hS => ?_)
    have hP : va_P D vwCl (wM c y a v_tapeSize (0) v_fault v_faultPlace v_things v_options v_lists v_sentences v_headings v_words v_factBits v_known v_soundMany v_wholeLength v_next v_end v_rThings v_rOptions v_rLists v_rSentences v_rHeadings v_lastName v_inSentence v_open v_written v_named v_sorted F82 f_kind f_owner f_from f_size f_means f_signs f_oKind f_oIn f_oList f_oWords f_oFacts f_listIn f_sOwner f_hFacts f_weights f_lengths f_values f_rKind f_rOwner f_rFrom f_rSize f_rMeans f_rOKind f_rOIn f_rOList f_rOFacts f_rListIn f_rSOwner f_rHFacts f_rWeights f_opKind f_opFrom f_opWord f_opOwner f_opList f_opItems f_out f_ranks) H := hP
    have hD : va_D A (wM c y a v_tapeSize (0) v_fault v_faultPlace v_things v_options v_lists v_sentences v_headings v_words v_factBits v_known v_soundMany v_wholeLength v_next v_end v_rThings v_rOptions v_rLists v_rSentences v_rHeadings v_lastName v_inSentence v_open v_written v_named v_sorted F82 f_kind f_owner f_from f_size f_means f_signs f_oKind f_oIn f_oList f_oWords f_oFacts f_listIn f_sOwner f_hFacts f_weights f_lengths f_values f_rKind f_rOwner f_rFrom f_rSize f_rMeans f_rOKind f_rOIn f_rOList f_rOFacts f_rListIn f_rSOwner f_rHFacts f_rWeights f_opKind f_opFrom f_opWord f_opOwner f_opList f_opItems f_out f_ranks) := hD
    have hF82_0 : ∀ j : Nat, 0 ≤ (F82 j).toInt ∧ (F82 j).toInt ≤ 255 := q3_up (P := fun z => 0 ≤ z.toInt ∧ z.toInt ≤ 255) eF82 hF78_0 (show 0 ≤ n81.toInt ∧ n81.toInt ≤ 255 by omega)
    have fd20 : e_Fd f_tape F82 v_tapeSize.toInt 20 (e_fb x_a x_b x_d x_e x_g) := fd19.more eF82 (by omega) (by omega) (by rw [en81, en80]; rfl)
    refine lv_iinc (v := 20) (lv' := [(6, .int 20), (7, .int x_g), (0, .ref y), (1, .int x_a), (2, .int x_b), (3, .int x_d), (4, .int x_e), (5, .int x_g)]) hx hb dX10_feed_107 hl (k := 1) rfl (by decide) (by decide) rfl (fun ls hl => ?_)
    refine lv_goto (tgt := 23) hx hb dX10_feed_110 (by decide) ?_
    refine lv_iload hx hb dX10_feed_23 (lv_at hl 0 rfl) ?_
    refine lv_bipush (v := 20) hx hb dX10_feed_25 (by decide) ?_
    refine lv_icmp_ge (tgt := 113) hx hb dX10_feed_27 (by decide) (fun _ => ?_) (fun h9 => absurd (by decide) h9)
    refine lv_aload_n hx hb dX10_feed_113 rfl (lv_at hl 2 rfl) ?_
    refine lv_dup hx hb dX10_feed_114 rfl ?_
    refine va_get (D := D) (ci := 10) (v := .int v_tapeSize) (C := RX10) (T := TX10) (N := 66) hx hb hts iX10 hown hK hP 0 rfl rfl 1 (by decide) (hts (.fieldLink RX10 138 "ShortTellerModel" "tapeSize" "I") (List.mem_of_getElem? (i := 2) rfl)) (fun _ h9 => h9) rfl dX10_feed_115 ?_
    refine lv_bipush (v := 20) hx hb dX10_feed_118 (by decide) ?_
    refine lv_iadd hx hb dX10_feed_120 ?_
    refine lv_topi (fun n83 en83 => ?_)
    have tn83 : n83.toInt = v_tapeSize.toInt + (20 : Int) := q3_add en83 rfl (by decide) (by omega) (by omega)
    refine va_put (D := D) (ci := 10) (v := .int n83) (ty := .int) (C := RX10) (T := TX10) (N := 66) hx hb hts iX10 tyX10 tyX10_ok nmX10 hown hK hP hD hS 0 rfl rfl 1 (by decide) (hts (.fieldLink RX10 138 "ShortTellerModel" "tapeSize" "I") (List.mem_of_getElem? (i := 2) rfl)) (fun _ h9 => h9) rfl (by decide +kernel) rfl rfl (Nat.le_of_ble_eq_true rfl) dX10_feed_121 (fun H locs hP hD hS => ?_)
    have hP : va_P D vwCl (wM c y a n83 (0) v_fault v_faultPlace v_things v_options v_lists v_sentences v_headings v_words v_factBits v_known v_soundMany v_wholeLength v_next v_end v_rThings v_rOptions v_rLists v_rSentences v_rHeadings v_lastName v_inSentence v_open v_written v_named v_sorted F82 f_kind f_owner f_from f_size f_means f_signs f_oKind f_oIn f_oList f_oWords f_oFacts f_listIn f_sOwner f_hFacts f_weights f_lengths f_values f_rKind f_rOwner f_rFrom f_rSize f_rMeans f_rOKind f_rOIn f_rOList f_rOFacts f_rListIn f_rSOwner f_rHFacts f_rWeights f_opKind f_opFrom f_opWord f_opOwner f_opList f_opItems f_out f_ranks) H := hP
    have hD : va_D A (wM c y a n83 (0) v_fault v_faultPlace v_things v_options v_lists v_sentences v_headings v_words v_factBits v_known v_soundMany v_wholeLength v_next v_end v_rThings v_rOptions v_rLists v_rSentences v_rHeadings v_lastName v_inSentence v_open v_written v_named v_sorted F82 f_kind f_owner f_from f_size f_means f_signs f_oKind f_oIn f_oList f_oWords f_oFacts f_listIn f_sOwner f_hFacts f_weights f_lengths f_values f_rKind f_rOwner f_rFrom f_rSize f_rMeans f_rOKind f_rOIn f_rOList f_rOFacts f_rListIn f_rSOwner f_rHFacts f_rWeights f_opKind f_opFrom f_opWord f_opOwner f_opList f_opItems f_out f_ranks) := hD
    refine lv_aload_n hx hb dX10_feed_124 rfl (lv_at hl 2 rfl) ?_
    refine va_get (D := D) (ci := 10) (v := .int n83) (C := RX10) (T := TX10) (N := 66) hx hb hts iX10 hown hK hP 0 rfl rfl 1 (by decide) (hts (.fieldLink RX10 138 "ShortTellerModel" "tapeSize" "I") (List.mem_of_getElem? (i := 2) rfl)) (fun _ h9 => h9) rfl dX10_feed_125 ?_
    exact hret (n83) (q2_u [] [0, n83] [F82]) _ _ _ _ ⟨(show (v_tapeSize.toInt + 20 ≤ 800 ∧ n83.toInt = v_tapeSize.toInt + 20 ∧ n83.toInt = v_tapeSize.toInt + 20) ∨ (800 < v_tapeSize.toInt + 20 ∧ n83.toInt = -1 ∧ n83.toInt = v_tapeSize.toInt) by omega), hF82_0, (show e_FX v_tapeSize.toInt f_tape F82 (e_fb x_a x_b x_d x_e x_g) from And.intro (fun _ => fd20) (fun h8 => absurd h8 (by omega))), trivial⟩ dX10_feed_128 hP hD hS
  · have g2 : ¬ n1.toInt ≤ (800 : Int) := (not_congr (q3_le rfl (by decide))).mp g2
    refine lv_iconst (v := -1) hx hb dX10_feed_18 (by decide) ?_
    exact hret (-1) (q2_u [] [0, v_tapeSize] [f_tape]) _ _ _ _ ⟨(show (v_tapeSize.toInt + 20 ≤ 800 ∧ (-1 : Int) = v_tapeSize.toInt + 20 ∧ v_tapeSize.toInt = v_tapeSize.toInt + 20) ∨ (800 < v_tapeSize.toInt + 20 ∧ (-1 : Int) = -1 ∧ v_tapeSize.toInt = v_tapeSize.toInt) by omega), h2, (show e_FX v_tapeSize.toInt f_tape f_tape (e_fb x_a x_b x_d x_e x_g) from And.intro (fun h8 => absurd h8 (by omega)) (fun _ => rfl)), trivial⟩ dX10_feed_19 hP hD hS
set_option maxHeartbeats 4000000 in
set_option maxRecDepth 100000 in
theorem g4_text (l : Launch) (D : va_G) (c : Nat → ClassId) (sz : Nat) (y : Nat) (a : Nat → Nat) (v_tapeSize v_thrown v_fault v_faultPlace v_things v_options v_lists v_sentences v_headings v_words v_factBits v_known v_soundMany v_wholeLength v_next v_end v_rThings v_rOptions v_rLists v_rSentences v_rHeadings v_lastName v_inSentence v_open v_written v_named v_sorted : Int32) (f_tape f_kind f_owner f_from f_size f_means f_signs f_oKind f_oIn f_oList f_oWords f_oFacts f_listIn f_sOwner f_hFacts f_weights f_lengths f_values f_rKind f_rOwner f_rFrom f_rSize f_rMeans f_rOKind f_rOIn f_rOList f_rOFacts f_rListIn f_rSOwner f_rHFacts f_rWeights f_opKind f_opFrom f_opWord f_opOwner f_opList f_opItems f_out f_ranks : Nat → Int32) (x_n : Int32) (h0 : 0 ≤ v_options.toInt) (h1 : v_options.toInt ≤ 14) (h2 : 0 ≤ v_lists.toInt) (h3 : v_lists.toInt ≤ 14) (h4 : 0 ≤ v_sentences.toInt) (h5 : v_sentences.toInt ≤ 414) (h6 : 0 ≤ v_things.toInt) (h7 : v_things.toInt ≤ 814) (h8 : q4_s f_kind f_size (Int.toNat v_things.toInt) ≤ 8456) (h9 : q4_n f_kind (Int.toNat v_things.toInt) ≤ v_sentences.toInt) (h10 : 0 ≤ v_tapeSize.toInt) (h11 : v_tapeSize.toInt ≤ 800) (h12 : 0 ≤ v_soundMany.toInt) (h13 : v_soundMany.toInt ≤ 16384) (h14 : ∀ j : Nat, -422 < (f_opOwner j).toInt ∧ (f_opOwner j).toInt < 14 ∧ (f_opOwner j).toInt ≠ -1) (h15 : ∀ j : Nat, 0 ≤ (f_tape j).toInt ∧ (f_tape j).toInt ≤ 255) (h16 : ∀ j : Nat, -422 < (f_rSOwner j).toInt ∧ (f_rSOwner j).toInt < 14 ∧ (f_rSOwner j).toInt ≠ -1) (h17 : ∀ j : Nat, -422 < (f_sOwner j).toInt ∧ (f_sOwner j).toInt < 14 ∧ (f_sOwner j).toInt ≠ -1) (h18 : ∀ j : Nat, (f_lengths j).toInt ≤ 10000) (h19 : q4_T f_rKind f_rOwner f_rFrom f_rSize f_rMeans) (h20 : q4_T f_kind f_owner f_from f_size f_means) : Met l yX10_text wsX10_text ({ frames := 7, cells := 0, slots := 0, locals := 151 }) (q3_P D c (wM c y a v_tapeSize v_thrown v_fault v_faultPlace v_things v_options v_lists v_sentences v_headings v_words v_factBits v_known v_soundMany v_wholeLength v_next v_end v_rThings v_rOptions v_rLists v_rSentences v_rHeadings v_lastName v_inSentence v_open v_written v_named v_sorted f_tape f_kind f_owner f_from f_size f_means f_signs f_oKind f_oIn f_oList f_oWords f_oFacts f_listIn f_sOwner f_hFacts f_weights f_lengths f_values f_rKind f_rOwner f_rFrom f_rSize f_rMeans f_rOKind f_rOIn f_rOList f_rOFacts f_rListIn f_rSOwner f_rHFacts f_rWeights f_opKind f_opFrom f_opWord f_opOwner f_opList f_opItems f_out f_ranks) sz [.ref y, .int x_n]) (q2_i D (wM c y a v_tapeSize v_thrown v_fault v_faultPlace v_things v_options v_lists v_sentences v_headings v_words v_factBits v_known v_soundMany v_wholeLength v_next v_end v_rThings v_rOptions v_rLists v_rSentences v_rHeadings v_lastName v_inSentence v_open v_written v_named v_sorted f_tape f_kind f_owner f_from f_size f_means f_signs f_oKind f_oIn f_oList f_oWords f_oFacts f_listIn f_sOwner f_hFacts f_weights f_lengths f_values f_rKind f_rOwner f_rFrom f_rSize f_rMeans f_rOKind f_rOIn f_rOList f_rOFacts f_rListIn f_rSOwner f_rHFacts f_rWeights f_opKind f_opFrom f_opWord f_opOwner f_opList f_opItems f_out f_ranks) sz (fun r u => (0 ≤ (u.2.1 16).toInt) ∧ ((u.2.1 16).toInt ≤ 14) ∧ (0 ≤ (u.2.1 17).toInt) ∧ ((u.2.1 17).toInt ≤ 14) ∧ (0 ≤ (u.2.1 18).toInt) ∧ ((u.2.1 18).toInt ≤ 414) ∧ (0 ≤ (u.2.1 14).toInt) ∧ ((u.2.1 14).toInt ≤ 814) ∧ (q4_s (u.2.2 24) (u.2.2 27) (Int.toNat (u.2.1 14).toInt) ≤ 8456) ∧ (q4_n (u.2.2 24) (Int.toNat (u.2.1 14).toInt) ≤ (u.2.1 18).toInt) ∧ (0 ≤ (u.2.1 2).toInt) ∧ ((u.2.1 2).toInt ≤ 800) ∧ (0 ≤ (u.2.1 22).toInt) ∧ ((u.2.1 22).toInt ≤ 16384) ∧ (((x_n.toInt < 0 ∨ v_tapeSize.toInt < x_n.toInt) ∧ (u.2.1 2).toInt = v_tapeSize.toInt) ∨ (0 ≤ x_n.toInt ∧ x_n.toInt ≤ v_tapeSize.toInt ∧ (u.2.1 2).toInt = 0)) ∧ (((x_n.toInt < 0 ∨ v_tapeSize.toInt < x_n.toInt) ∧ r.toInt = -2 ∧ (u.2.1 3).toInt = v_fault.toInt ∧ (u.2.1 4).toInt = v_faultPlace.toInt) ∨ (0 ≤ x_n.toInt ∧ x_n.toInt ≤ v_tapeSize.toInt ∧ (((u.2.1 3).toInt ≠ 0 ∧ r.toInt = -1) ∨ ((u.2.1 3).toInt = 0 ∧ (u.2.1 4).toInt = -1 ∧ r.toInt = (u.2.1 7).toInt)))) ∧ (∀ j : Nat, -422 < ((u.2.2 12) j).toInt ∧ ((u.2.2 12) j).toInt < 14 ∧ ((u.2.2 12) j).toInt ≠ -1) ∧ (∀ j : Nat, -422 < ((u.2.2 18) j).toInt ∧ ((u.2.2 18) j).toInt < 14 ∧ ((u.2.2 18) j).toInt ≠ -1) ∧ (∀ j : Nat, -422 < ((u.2.2 31) j).toInt ∧ ((u.2.2 31) j).toInt < 14 ∧ ((u.2.2 31) j).toInt ≠ -1) ∧ (∀ j : Nat, ((u.2.2 34) j).toInt ≤ 10000) ∧ (e_TX x_n.toInt v_tapeSize.toInt f_tape (u.2.1 3).toInt (u.2.1 4).toInt (u.2.1 7).toInt) ∧ (q4_T (u.2.2 0) (u.2.2 1) (u.2.2 2) (u.2.2 3) (u.2.2 4)) ∧ (q4_T (u.2.2 24) (u.2.2 25) (u.2.2 26) (u.2.2 27) (u.2.2 28)) ∧ True) (fun u => wM c y a (u.2.1 2) (u.2.1 0) (u.2.1 3) (u.2.1 4) (u.2.1 14) (u.2.1 16) (u.2.1 17) (u.2.1 18) (u.2.1 19) (u.2.1 15) (u.2.1 20) (u.2.1 21) (u.2.1 22) (u.2.1 25) (u.2.1 5) (u.2.1 1) (u.2.1 6) (u.2.1 7) (u.2.1 11) (u.2.1 12) (u.2.1 13) (u.2.1 9) (u.2.1 10) (u.2.1 8) (u.2.1 23) (u.2.1 24) (u.2.1 26) f_tape (u.2.2 24) (u.2.2 25) (u.2.2 26) (u.2.2 27) (u.2.2 28) (u.2.2 29) (u.2.2 20) (u.2.2 21) (u.2.2 22) (u.2.2 19) (u.2.2 23) (u.2.2 30) (u.2.2 31) (u.2.2 32) (u.2.2 33) (u.2.2 34) (u.2.2 36) (u.2.2 0) (u.2.2 1) (u.2.2 2) (u.2.2 3) (u.2.2 4) (u.2.2 5) (u.2.2 6) (u.2.2 7) (u.2.2 8) (u.2.2 15) (u.2.2 18) (u.2.2 16) (u.2.2 17) (u.2.2 9) (u.2.2 10) (u.2.2 11) (u.2.2 12) (u.2.2 13) (u.2.2 14) (u.2.2 35) f_ranks)) (0) (0) (va_A (wM c y a v_tapeSize v_thrown v_fault v_faultPlace v_things v_options v_lists v_sentences v_headings v_words v_factBits v_known v_soundMany v_wholeLength v_next v_end v_rThings v_rOptions v_rLists v_rSentences v_rHeadings v_lastName v_inSentence v_open v_written v_named v_sorted f_tape f_kind f_owner f_from f_size f_means f_signs f_oKind f_oIn f_oList f_oWords f_oFacts f_listIn f_sOwner f_hFacts f_weights f_lengths f_values f_rKind f_rOwner f_rFrom f_rSize f_rMeans f_rOKind f_rOIn f_rOList f_rOFacts f_rListIn f_rSOwner f_rHFacts f_rWeights f_opKind f_opFrom f_opWord f_opOwner f_opList f_opItems f_out f_ranks) sz) := by
  refine q3_of_i (ty := .int) (fun _ _ _ => rfl) (cc := cX10_text) (maxL := 4) (by decide) rfl (Nat.le_of_ble_eq_true rfl) (fun p e s m args below meth cd A Q ls hx hb hml hown hts hA hS hP hD hK hl hret => ?_)
  have hown : s.vm.findClass RX10 = some m.cls := hown
  obtain ⟨H, eH⟩ : ∃ z, z = s.heap := ⟨_, rfl⟩
  have hP : va_P D vwCl (wM c y a v_tapeSize v_thrown v_fault v_faultPlace v_things v_options v_lists v_sentences v_headings v_words v_factBits v_known v_soundMany v_wholeLength v_next v_end v_rThings v_rOptions v_rLists v_rSentences v_rHeadings v_lastName v_inSentence v_open v_written v_named v_sorted f_tape f_kind f_owner f_from f_size f_means f_signs f_oKind f_oIn f_oList f_oWords f_oFacts f_listIn f_sOwner f_hFacts f_weights f_lengths f_values f_rKind f_rOwner f_rFrom f_rSize f_rMeans f_rOKind f_rOIn f_rOList f_rOFacts f_rListIn f_rSOwner f_rHFacts f_rWeights f_opKind f_opFrom f_opWord f_opOwner f_opList f_opItems f_out f_ranks) H := by rw [eH]; exact hP
  have hS : va_S A s.heap H [] := by rw [eH]; exact hS
  rw [← eH]
  have iX10 : ∀ w ∈ wsX100, w ∈ wsX10_text := fun w h => List.mem_cons_of_mem _ (List.mem_append_right _ h)
  have hl : lv_has ls 4 [(0, .ref y), (1, .int x_n)] := hl
  refine lv_aload_n hx hb dX10_text_0 rfl (lv_at hl 0 rfl) ?_
  refine lv_iconst (v := 0) hx hb dX10_text_1 (by decide) ?_
  refine va_put (D := D) (ci := 10) (v := .int 0) (ty := .int) (C := RX10) (T := TX10) (N := 66) hx hb hts iX10 tyX10 tyX10_ok nmX10 hown hK hP hD hS 0 rfl rfl 2 (by decide) (hts (.fieldLink RX10 135 "ShortTellerModel" "thrown" "I") (List.mem_of_getElem? (i := 1) rfl)) (fun _ h9 => h9) rfl (by decide +kernel) rfl rfl (Nat.le_of_ble_eq_true rfl) dX10_text_2 (fun H locs hP hD hS => ?_)
  have hP : va_P D vwCl (wM c y a v_tapeSize (0) v_fault v_faultPlace v_things v_options v_lists v_sentences v_headings v_words v_factBits v_known v_soundMany v_wholeLength v_next v_end v_rThings v_rOptions v_rLists v_rSentences v_rHeadings v_lastName v_inSentence v_open v_written v_named v_sorted f_tape f_kind f_owner f_from f_size f_means f_signs f_oKind f_oIn f_oList f_oWords f_oFacts f_listIn f_sOwner f_hFacts f_weights f_lengths f_values f_rKind f_rOwner f_rFrom f_rSize f_rMeans f_rOKind f_rOIn f_rOList f_rOFacts f_rListIn f_rSOwner f_rHFacts f_rWeights f_opKind f_opFrom f_opWord f_opOwner f_opList f_opItems f_out f_ranks) H := hP
  have hD : va_D A (wM c y a v_tapeSize (0) v_fault v_faultPlace v_things v_options v_lists v_sentences v_headings v_words v_factBits v_known v_soundMany v_wholeLength v_next v_end v_rThings v_rOptions v_rLists v_rSentences v_rHeadings v_lastName v_inSentence v_open v_written v_named v_sorted f_tape f_kind f_owner f_from f_size f_means f_signs f_oKind f_oIn f_oList f_oWords f_oFacts f_listIn f_sOwner f_hFacts f_weights f_lengths f_values f_rKind f_rOwner f_rFrom f_rSize f_rMeans f_rOKind f_rOIn f_rOList f_rOFacts f_rListIn f_rSOwner f_rHFacts f_rWeights f_opKind f_opFrom f_opWord f_opOwner f_opList f_opItems f_out f_ranks) := hD
  refine lv_iload_n hx hb dX10_text_5 rfl (lv_at hl 1 rfl) ?_
  refine lv_if_lt (tgt := 17) hx hb dX10_text_6 (by decide) (fun g1 => ?_) (fun g1 => ?_)
  · have g1 : x_n.toInt < (0 : Int) := (q3_lt rfl (by decide)).mp g1
    refine lv_bipush (v := -2) hx hb dX10_text_17 (by decide) ?_
    exact hret (-2) (q2_u [] [0, v_end, v_tapeSize, v_fault, v_faultPlace, v_next, v_rThings, v_rOptions, v_open, v_lastName, v_inSentence, v_rLists, v_rSentences, v_rHeadings, v_things, v_words, v_options, v_lists, v_sentences, v_headings, v_factBits, v_known, v_soundMany, v_written, v_named, v_wholeLength, v_sorted] [f_rKind, f_rOwner, f_rFrom, f_rSize, f_rMeans, f_rOKind, f_rOIn, f_rOList, f_rOFacts, f_opKind, f_opFrom, f_opWord, f_opOwner, f_opList, f_opItems, f_rListIn, f_rHFacts, f_rWeights, f_rSOwner, f_oWords, f_oKind, f_oIn, f_oList, f_oFacts, f_kind, f_owner, f_from, f_size, f_means, f_signs, f_listIn, f_sOwner, f_hFacts, f_weights, f_lengths, f_out, f_values]) _ _ _ _ ⟨h0, h1, h2, h3, h4, h5, h6, h7, h8, h9, h10, h11, h12, h13, (show ((x_n.toInt < 0 ∨ v_tapeSize.toInt < x_n.toInt) ∧ v_tapeSize.toInt = v_tapeSize.toInt) ∨ (0 ≤ x_n.toInt ∧ x_n.toInt ≤ v_tapeSize.toInt ∧ v_tapeSize.toInt = 0) by omega), (show ((x_n.toInt < 0 ∨ v_tapeSize.toInt < x_n.toInt) ∧ (-2 : Int) = -2 ∧ v_fault.toInt = v_fault.toInt ∧ v_faultPlace.toInt = v_faultPlace.toInt) ∨ (0 ≤ x_n.toInt ∧ x_n.toInt ≤ v_tapeSize.toInt ∧ ((v_fault.toInt ≠ 0 ∧ (-2 : Int) = -1) ∨ (v_fault.toInt = 0 ∧ v_faultPlace.toInt = -1 ∧ (-2 : Int) = v_rOptions.toInt))) by omega), h14, h16, h17, h18, (show e_TX x_n.toInt v_tapeSize.toInt f_tape v_fault.toInt v_faultPlace.toInt v_rOptions.toInt from fun h8 _ => absurd h8 (by omega)), h19, h20, trivial⟩ dX10_text_19 hP hD hS
  · have g1 : ¬ x_n.toInt < (0 : Int) := (not_congr (q3_lt rfl (by decide))).mp g1
    refine lv_iload_n hx hb dX10_text_9 rfl (lv_at hl 1 rfl) ?_
    refine lv_aload_n hx hb dX10_text_10 rfl (lv_at hl 0 rfl) ?_
    refine va_get (D := D) (ci := 10) (v := .int v_tapeSize) (C := RX10) (T := TX10) (N := 66) hx hb hts iX10 hown hK hP 0 rfl rfl 1 (by decide) (hts (.fieldLink RX10 138 "ShortTellerModel" "tapeSize" "I") (List.mem_of_getElem? (i := 2) rfl)) (fun _ h9 => h9) rfl dX10_text_11 ?_
    refine lv_icmp_le (tgt := 20) hx hb dX10_text_14 (by decide) (fun g2 => ?_) (fun g2 => ?_)
    · have g2 : x_n.toInt ≤ v_tapeSize.toInt := (q3_le rfl rfl).mp g2
      refine lv_aload_n hx hb dX10_text_20 rfl (lv_at hl 0 rfl) ?_
      refine lv_iload_n hx hb dX10_text_21 rfl (lv_at hl 1 rfl) ?_
      refine va_put (D := D) (ci := 10) (v := .int x_n) (ty := .int) (C := RX10) (T := TX10) (N := 66) hx hb hts iX10 tyX10 tyX10_ok nmX10 hown hK hP hD hS 0 rfl rfl 33 (by decide) (hts (.fieldLink RX10 147 "ShortTellerModel" "end" "I") (List.mem_of_getElem? (i := 3) rfl)) (fun _ h9 => h9) rfl (by decide +kernel) rfl rfl (Nat.le_of_ble_eq_true rfl) dX10_text_22 (fun H locs hP hD hS => ?_)
      have hP : va_P D vwCl (wM c y a v_tapeSize (0) v_fault v_faultPlace v_things v_options v_lists v_sentences v_headings v_words v_factBits v_known v_soundMany v_wholeLength v_next x_n v_rThings v_rOptions v_rLists v_rSentences v_rHeadings v_lastName v_inSentence v_open v_written v_named v_sorted f_tape f_kind f_owner f_from f_size f_means f_signs f_oKind f_oIn f_oList f_oWords f_oFacts f_listIn f_sOwner f_hFacts f_weights f_lengths f_values f_rKind f_rOwner f_rFrom f_rSize f_rMeans f_rOKind f_rOIn f_rOList f_rOFacts f_rListIn f_rSOwner f_rHFacts f_rWeights f_opKind f_opFrom f_opWord f_opOwner f_opList f_opItems f_out f_ranks) H := hP
      have hD : va_D A (wM c y a v_tapeSize (0) v_fault v_faultPlace v_things v_options v_lists v_sentences v_headings v_words v_factBits v_known v_soundMany v_wholeLength v_next x_n v_rThings v_rOptions v_rLists v_rSentences v_rHeadings v_lastName v_inSentence v_open v_written v_named v_sorted f_tape f_kind f_owner f_from f_size f_means f_signs f_oKind f_oIn f_oList f_oWords f_oFacts f_listIn f_sOwner f_hFacts f_weights f_lengths f_values f_rKind f_rOwner f_rFrom f_rSize f_rMeans f_rOKind f_rOIn f_rOList f_rOFacts f_rListIn f_rSOwner f_rHFacts f_rWeights f_opKind f_opFrom f_opWord f_opOwner f_opList f_opItems f_out f_ranks) := hD
      refine lv_aload_n hx hb dX10_text_25 rfl (lv_at hl 0 rfl) ?_
      refine lv_iconst (v := 0) hx hb dX10_text_26 (by decide) ?_
      refine va_put (D := D) (ci := 10) (v := .int 0) (ty := .int) (C := RX10) (T := TX10) (N := 66) hx hb hts iX10 tyX10 tyX10_ok nmX10 hown hK hP hD hS 0 rfl rfl 1 (by decide) (hts (.fieldLink RX10 138 "ShortTellerModel" "tapeSize" "I") (List.mem_of_getElem? (i := 2) rfl)) (fun _ h9 => h9) rfl (by decide +kernel) rfl rfl (Nat.le_of_ble_eq_true rfl) dX10_text_27 (fun H locs hP hD hS => ?_)
      have hP : va_P D vwCl (wM c y a (0) (0) v_fault v_faultPlace v_things v_options v_lists v_sentences v_headings v_words v_factBits v_known v_soundMany v_wholeLength v_next x_n v_rThings v_rOptions v_rLists v_rSentences v_rHeadings v_lastName v_inSentence v_open v_written v_named v_sorted f_tape f_kind f_owner f_from f_size f_means f_signs f_oKind f_oIn f_oList f_oWords f_oFacts f_listIn f_sOwner f_hFacts f_weights f_lengths f_values f_rKind f_rOwner f_rFrom f_rSize f_rMeans f_rOKind f_rOIn f_rOList f_rOFacts f_rListIn f_rSOwner f_rHFacts f_rWeights f_opKind f_opFrom f_opWord f_opOwner f_opList f_opItems f_out f_ranks) H := hP
      have hD : va_D A (wM c y a (0) (0) v_fault v_faultPlace v_things v_options v_lists v_sentences v_headings v_words v_factBits v_known v_soundMany v_wholeLength v_next x_n v_rThings v_rOptions v_rLists v_rSentences v_rHeadings v_lastName v_inSentence v_open v_written v_named v_sorted f_tape f_kind f_owner f_from f_size f_means f_signs f_oKind f_oIn f_oList f_oWords f_oFacts f_listIn f_sOwner f_hFacts f_weights f_lengths f_values f_rKind f_rOwner f_rFrom f_rSize f_rMeans f_rOKind f_rOIn f_rOList f_rOFacts f_rListIn f_rSOwner f_rHFacts f_rWeights f_opKind f_opFrom f_opWord f_opOwner f_opList f_opItems f_out f_ranks) := hD
      refine lv_aload_n hx hb dX10_text_30 rfl (lv_at hl 0 rfl) ?_
      refine lv_iconst (v := 0) hx hb dX10_text_31 (by decide) ?_
      refine va_put (D := D) (ci := 10) (v := .int 0) (ty := .int) (C := RX10) (T := TX10) (N := 66) hx hb hts iX10 tyX10 tyX10_ok nmX10 hown hK hP hD hS 0 rfl rfl 3 (by decide) (hts (.fieldLink RX10 141 "ShortTellerModel" "fault" "I") (List.mem_of_getElem? (i := 4) rfl)) (fun _ h9 => h9) rfl (by decide +kernel) rfl rfl (Nat.le_of_ble_eq_true rfl) dX10_text_32 (fun H locs hP hD hS => ?_)
      have hP : va_P D vwCl (wM c y a (0) (0) (0) v_faultPlace v_things v_options v_lists v_sentences v_headings v_words v_factBits v_known v_soundMany v_wholeLength v_next x_n v_rThings v_rOptions v_rLists v_rSentences v_rHeadings v_lastName v_inSentence v_open v_written v_named v_sorted f_tape f_kind f_owner f_from f_size f_means f_signs f_oKind f_oIn f_oList f_oWords f_oFacts f_listIn f_sOwner f_hFacts f_weights f_lengths f_values f_rKind f_rOwner f_rFrom f_rSize f_rMeans f_rOKind f_rOIn f_rOList f_rOFacts f_rListIn f_rSOwner f_rHFacts f_rWeights f_opKind f_opFrom f_opWord f_opOwner f_opList f_opItems f_out f_ranks) H := hP
      have hD : va_D A (wM c y a (0) (0) (0) v_faultPlace v_things v_options v_lists v_sentences v_headings v_words v_factBits v_known v_soundMany v_wholeLength v_next x_n v_rThings v_rOptions v_rLists v_rSentences v_rHeadings v_lastName v_inSentence v_open v_written v_named v_sorted f_tape f_kind f_owner f_from f_size f_means f_signs f_oKind f_oIn f_oList f_oWords f_oFacts f_listIn f_sOwner f_hFacts f_weights f_lengths f_values f_rKind f_rOwner f_rFrom f_rSize f_rMeans f_rOKind f_rOIn f_rOList f_rOFacts f_rListIn f_rSOwner f_rHFacts f_rWeights f_opKind f_opFrom f_opWord f_opOwner f_opList f_opItems f_out f_ranks) := hD
      refine lv_aload_n hx hb dX10_text_35 rfl (lv_at hl 0 rfl) ?_
      refine lv_iconst (v := -1) hx hb dX10_text_36 (by decide) ?_
      refine va_put (D := D) (ci := 10) (v := .int (-1)) (ty := .int) (C := RX10) (T := TX10) (N := 66) hx hb hts iX10 tyX10 tyX10_ok nmX10 hown hK hP hD hS 0 rfl rfl 4 (by decide) (hts (.fieldLink RX10 13 "ShortTellerModel" "faultPlace" "I") (List.mem_of_getElem? (i := 5) rfl)) (fun _ h9 => h9) rfl (by decide +kernel) rfl rfl (Nat.le_of_ble_eq_true rfl) dX10_text_37 (fun H locs hP hD hS => ?_)
      have hP : va_P D vwCl (wM c y a (0) (0) (0) (-1) v_things v_options v_lists v_sentences v_headings v_words v_factBits v_known v_soundMany v_wholeLength v_next x_n v_rThings v_rOptions v_rLists v_rSentences v_rHeadings v_lastName v_inSentence v_open v_written v_named v_sorted f_tape f_kind f_owner f_from f_size f_means f_signs f_oKind f_oIn f_oList f_oWords f_oFacts f_listIn f_sOwner f_hFacts f_weights f_lengths f_values f_rKind f_rOwner f_rFrom f_rSize f_rMeans f_rOKind f_rOIn f_rOList f_rOFacts f_rListIn f_rSOwner f_rHFacts f_rWeights f_opKind f_opFrom f_opWord f_opOwner f_opList f_opItems f_out f_ranks) H := hP
      have hD : va_D A (wM c y a (0) (0) (0) (-1) v_things v_options v_lists v_sentences v_headings v_words v_factBits v_known v_soundMany v_wholeLength v_next x_n v_rThings v_rOptions v_rLists v_rSentences v_rHeadings v_lastName v_inSentence v_open v_written v_named v_sorted f_tape f_kind f_owner f_from f_size f_means f_signs f_oKind f_oIn f_oList f_oWords f_oFacts f_listIn f_sOwner f_hFacts f_weights f_lengths f_values f_rKind f_rOwner f_rFrom f_rSize f_rMeans f_rOKind f_rOIn f_rOList f_rOFacts f_rListIn f_rSOwner f_rHFacts f_rWeights f_opKind f_opFrom f_opWord f_opOwner f_opList f_opItems f_out f_ranks) := hD
      refine lv_aload_n hx hb dX10_text_40 rfl (lv_at hl 0 rfl) ?_
      refine q3_ci (va_runV (As := []) (rest := []) ⟨hx, hb, hml, hown, hts⟩ (g3_reads l D c H.size y a (0) (0) (0) (-1) v_things v_options v_lists v_sentences v_headings v_words v_factBits v_known v_soundMany v_wholeLength v_next x_n v_rThings v_rOptions v_rLists v_rSentences v_rHeadings v_lastName v_inSentence v_open v_written v_named v_sorted f_tape f_kind f_owner f_from f_size f_means f_signs f_oKind f_oIn f_oList f_oWords f_oFacts f_listIn f_sOwner f_hFacts f_weights f_lengths f_values f_rKind f_rOwner f_rFrom f_rSize f_rMeans f_rOKind f_rOIn f_rOList f_rOFacts f_rListIn f_rSOwner f_rHFacts f_rWeights f_opKind f_opFrom f_opWord f_opOwner f_opList f_opItems f_out f_ranks (show 0 ≤ x_n.toInt by omega) (show x_n.toInt ≤ 800 by omega) (show (0 : Int) = 0 by omega) (show (-1 : Int) = -1 by omega) h14 h15 h16 h19) (cwV 0 hts gX10_text_X10_reads rfl rfl rfl (by decide +kernel) ⟨Nat.le_of_ble_eq_true rfl, Nat.le_of_ble_eq_true rfl⟩) (q3_preV (c := c) (ci := 10) (q0 := 0) hP hK hD rfl rfl) rfl rfl hl.1 rfl (lv_room (Nat.le_of_ble_eq_true rfl)) dX10_text_41 ⟨Nat.le_of_ble_eq_true rfl, Nat.le_of_ble_eq_true rfl⟩) hD hS hA (fun n3 un3 H locs pn3 hP hD hS => ?_)
      have pn3 : (n3.toInt = 0 ∨ n3.toInt = 1) ∧ (0 ≤ (un3.2.1 1).toInt) ∧ ((un3.2.1 1).toInt ≤ 814) ∧ (0 ≤ (un3.2.1 2).toInt) ∧ ((un3.2.1 2).toInt ≤ 14) ∧ (n3.toInt = 0 ∨ (0 ≤ (un3.2.1 6).toInt ∧ (un3.2.1 6).toInt ≤ 14 ∧ 0 ≤ (un3.2.1 8).toInt ∧ (un3.2.1 8).toInt ≤ 400 ∧ 0 ≤ (un3.2.1 7).toInt ∧ (un3.2.1 7).toInt ≤ 414 ∧ q4_s (un3.2.2 0) (un3.2.2 3) (Int.toNat (un3.2.1 1).toInt) ≤ 8456 ∧ q4_n (un3.2.2 0) (Int.toNat (un3.2.1 1).toInt) ≤ (un3.2.1 7).toInt)) ∧ ((n3.toInt = 0 ∧ (un3.2.1 9).toInt ≠ 0) ∨ (n3.toInt = 1 ∧ (un3.2.1 9).toInt = 0 ∧ (un3.2.1 10).toInt = -1)) ∧ (∀ j : Nat, -422 < ((un3.2.2 12) j).toInt ∧ ((un3.2.2 12) j).toInt < 14 ∧ ((un3.2.2 12) j).toInt ≠ -1) ∧ (∀ j : Nat, -422 < ((un3.2.2 18) j).toInt ∧ ((un3.2.2 18) j).toInt < 14 ∧ ((un3.2.2 18) j).toInt ≠ -1) ∧ (e_Ev (e_sg f_tape) x_n.toInt (0, [], 0, 0, 0, 0) (e_fin (un3.2.1 9).toInt (un3.2.1 10).toInt (un3.2.1 2).toInt)) ∧ (q4_T (un3.2.2 0) (un3.2.2 1) (un3.2.2 2) (un3.2.2 3) (un3.2.2 4)) ∧ (∀ j : Nat, j < Int.toNat (un3.2.1 1).toInt → ((un3.2.2 1) j).toInt < (un3.2.1 2).toInt) ∧ (∀ j : Nat, j < Int.toNat (un3.2.1 2).toInt → ((un3.2.2 6) j).toInt < j) ∧ True := pn3
      obtain ⟨pn3_0, pn3_1, pn3_2, pn3_3, pn3_4, pn3_5, pn3_6, pn3_7, pn3_8, pn3_9, pn3_10, pn3_11, pn3_12, -⟩ := pn3
      have hP : va_P D vwCl (wM c y a (0) (0) (un3.2.1 9) (un3.2.1 10) v_things v_options v_lists v_sentences v_headings v_words v_factBits v_known v_soundMany v_wholeLength (un3.2.1 0) x_n (un3.2.1 1) (un3.2.1 2) (un3.2.1 6) (un3.2.1 7) (un3.2.1 8) (un3.2.1 4) (un3.2.1 5) (un3.2.1 3) v_written v_named v_sorted f_tape f_kind f_owner f_from f_size f_means f_signs f_oKind f_oIn f_oList f_oWords f_oFacts f_listIn f_sOwner f_hFacts f_weights f_lengths f_values (un3.2.2 0) (un3.2.2 1) (un3.2.2 2) (un3.2.2 3) (un3.2.2 4) (un3.2.2 5) (un3.2.2 6) (un3.2.2 7) (un3.2.2 8) (un3.2.2 15) (un3.2.2 18) (un3.2.2 16) (un3.2.2 17) (un3.2.2 9) (un3.2.2 10) (un3.2.2 11) (un3.2.2 12) (un3.2.2 13) (un3.2.2 14) f_out f_ranks) H := hP
      have hD : va_D A (wM c y a (0) (0) (un3.2.1 9) (un3.2.1 10) v_things v_options v_lists v_sentences v_headings v_words v_factBits v_known v_soundMany v_wholeLength (un3.2.1 0) x_n (un3.2.1 1) (un3.2.1 2) (un3.2.1 6) (un3.2.1 7) (un3.2.1 8) (un3.2.1 4) (un3.2.1 5) (un3.2.1 3) v_written v_named v_sorted f_tape f_kind f_owner f_from f_size f_means f_signs f_oKind f_oIn f_oList f_oWords f_oFacts f_listIn f_sOwner f_hFacts f_weights f_lengths f_values (un3.2.2 0) (un3.2.2 1) (un3.2.2 2) (un3.2.2 3) (un3.2.2 4) (un3.2.2 5) (un3.2.2 6) (un3.2.2 7) (un3.2.2 8) (un3.2.2 15) (un3.2.2 18) (un3.2.2 16) (un3.2.2 17) (un3.2.2 9) (un3.2.2 10) (un3.2.2 11) (un3.2.2 12) (un3.2.2 13) (un3.2.2 14) f_out f_ranks) := hD
      refine lv_if_ne (tgt := 49) hx hb dX10_text_44 (by decide) (fun g4 => ?_) (fun g4 => ?_)
      · have g4 : ¬ n3.toInt = (0 : Int) := (not_congr (q3_eq rfl (by decide))).mp g4
        replace pn3_5 := pn3_5.resolve_left g4
        refine lv_aload_n hx hb dX10_text_49 rfl (lv_at hl 0 rfl) ?_
        refine lv_aload_n hx hb dX10_text_50 rfl (lv_at hl 0 rfl) ?_
        refine va_get (D := D) (ci := 10) (v := .int (un3.2.1 1)) (C := RX10) (T := TX10) (N := 66) hx hb hts iX10 hown hK hP 0 rfl rfl 34 (by decide) (hts (.fieldLink RX10 158 "ShortTellerModel" "rThings" "I") (List.mem_of_getElem? (i := 6) rfl)) (fun _ h9 => h9) rfl dX10_text_51 ?_
        refine va_put (D := D) (ci := 10) (v := .int (un3.2.1 1)) (ty := .int) (C := RX10) (T := TX10) (N := 66) hx hb hts iX10 tyX10 tyX10_ok nmX10 hown hK hP hD hS 0 rfl rfl 5 (by decide) (hts (.fieldLink RX10 227 "ShortTellerModel" "things" "I") (List.mem_of_getElem? (i := 7) rfl)) (fun _ h9 => h9) rfl (by decide +kernel) rfl rfl (Nat.le_of_ble_eq_true rfl) dX10_text_54 (fun H locs hP hD hS => ?_)
        have hP : va_P D vwCl (wM c y a (0) (0) (un3.2.1 9) (un3.2.1 10) (un3.2.1 1) v_options v_lists v_sentences v_headings v_words v_factBits v_known v_soundMany v_wholeLength (un3.2.1 0) x_n (un3.2.1 1) (un3.2.1 2) (un3.2.1 6) (un3.2.1 7) (un3.2.1 8) (un3.2.1 4) (un3.2.1 5) (un3.2.1 3) v_written v_named v_sorted f_tape f_kind f_owner f_from f_size f_means f_signs f_oKind f_oIn f_oList f_oWords f_oFacts f_listIn f_sOwner f_hFacts f_weights f_lengths f_values (un3.2.2 0) (un3.2.2 1) (un3.2.2 2) (un3.2.2 3) (un3.2.2 4) (un3.2.2 5) (un3.2.2 6) (un3.2.2 7) (un3.2.2 8) (un3.2.2 15) (un3.2.2 18) (un3.2.2 16) (un3.2.2 17) (un3.2.2 9) (un3.2.2 10) (un3.2.2 11) (un3.2.2 12) (un3.2.2 13) (un3.2.2 14) f_out f_ranks) H := hP
        have hD : va_D A (wM c y a (0) (0) (un3.2.1 9) (un3.2.1 10) (un3.2.1 1) v_options v_lists v_sentences v_headings v_words v_factBits v_known v_soundMany v_wholeLength (un3.2.1 0) x_n (un3.2.1 1) (un3.2.1 2) (un3.2.1 6) (un3.2.1 7) (un3.2.1 8) (un3.2.1 4) (un3.2.1 5) (un3.2.1 3) v_written v_named v_sorted f_tape f_kind f_owner f_from f_size f_means f_signs f_oKind f_oIn f_oList f_oWords f_oFacts f_listIn f_sOwner f_hFacts f_weights f_lengths f_values (un3.2.2 0) (un3.2.2 1) (un3.2.2 2) (un3.2.2 3) (un3.2.2 4) (un3.2.2 5) (un3.2.2 6) (un3.2.2 7) (un3.2.2 8) (un3.2.2 15) (un3.2.2 18) (un3.2.2 16) (un3.2.2 17) (un3.2.2 9) (un3.2.2 10) (un3.2.2 11) (un3.2.2 12) (un3.2.2 13) (un3.2.2 14) f_out f_ranks) := hD
        refine lv_aload_n hx hb dX10_text_57 rfl (lv_at hl 0 rfl) ?_
        refine lv_iconst (v := 0) hx hb dX10_text_58 (by decide) ?_
        refine va_put (D := D) (ci := 10) (v := .int 0) (ty := .int) (C := RX10) (T := TX10) (N := 66) hx hb hts iX10 tyX10 tyX10_ok nmX10 hown hK hP hD hS 0 rfl rfl 24 (by decide) (hts (.fieldLink RX10 230 "ShortTellerModel" "words" "I") (List.mem_of_getElem? (i := 8) rfl)) (fun _ h9 => h9) rfl (by decide +kernel) rfl rfl (Nat.le_of_ble_eq_true rfl) dX10_text_59 (fun H locs hP hD hS => ?_)
        have hP : va_P D vwCl (wM c y a (0) (0) (un3.2.1 9) (un3.2.1 10) (un3.2.1 1) v_options v_lists v_sentences v_headings (0) v_factBits v_known v_soundMany v_wholeLength (un3.2.1 0) x_n (un3.2.1 1) (un3.2.1 2) (un3.2.1 6) (un3.2.1 7) (un3.2.1 8) (un3.2.1 4) (un3.2.1 5) (un3.2.1 3) v_written v_named v_sorted f_tape f_kind f_owner f_from f_size f_means f_signs f_oKind f_oIn f_oList f_oWords f_oFacts f_listIn f_sOwner f_hFacts f_weights f_lengths f_values (un3.2.2 0) (un3.2.2 1) (un3.2.2 2) (un3.2.2 3) (un3.2.2 4) (un3.2.2 5) (un3.2.2 6) (un3.2.2 7) (un3.2.2 8) (un3.2.2 15) (un3.2.2 18) (un3.2.2 16) (un3.2.2 17) (un3.2.2 9) (un3.2.2 10) (un3.2.2 11) (un3.2.2 12) (un3.2.2 13) (un3.2.2 14) f_out f_ranks) H := hP
        have hD : va_D A (wM c y a (0) (0) (un3.2.1 9) (un3.2.1 10) (un3.2.1 1) v_options v_lists v_sentences v_headings (0) v_factBits v_known v_soundMany v_wholeLength (un3.2.1 0) x_n (un3.2.1 1) (un3.2.1 2) (un3.2.1 6) (un3.2.1 7) (un3.2.1 8) (un3.2.1 4) (un3.2.1 5) (un3.2.1 3) v_written v_named v_sorted f_tape f_kind f_owner f_from f_size f_means f_signs f_oKind f_oIn f_oList f_oWords f_oFacts f_listIn f_sOwner f_hFacts f_weights f_lengths f_values (un3.2.2 0) (un3.2.2 1) (un3.2.2 2) (un3.2.2 3) (un3.2.2 4) (un3.2.2 5) (un3.2.2 6) (un3.2.2 7) (un3.2.2 8) (un3.2.2 15) (un3.2.2 18) (un3.2.2 16) (un3.2.2 17) (un3.2.2 9) (un3.2.2 10) (un3.2.2 11) (un3.2.2 12) (un3.2.2 13) (un3.2.2 14) f_out f_ranks) := hD
        refine lv_iconst (v := 0) hx hb dX10_text_62 (by decide) ?_
        refine lv_istore_n (lv' := [(2, .int 0), (0, .ref y), (1, .int x_n)]) hx hb dX10_text_63 rfl hl (by decide) rfl (fun ls hl => ?_)
        have lp64 : ∀ (k : Nat) (s2_64 : Int32) (y_oWords_64 : Nat → Int32), (0 ≤ s2_64.toInt) → (s2_64.toInt ≤ 14) → (x_n.toInt ≤ 800) → 15 - s2_64.toInt < (k : Int) → ∀ (H : Heap) (locs : List Loc) (ls : Array Slot), va_P D vwCl (wM c y a (0) (0) (un3.2.1 9) (un3.2.1 10) (un3.2.1 1) v_options v_lists v_sentences v_headings (0) v_factBits v_known v_soundMany v_wholeLength (un3.2.1 0) x_n (un3.2.1 1) (un3.2.1 2) (un3.2.1 6) (un3.2.1 7) (un3.2.1 8) (un3.2.1 4) (un3.2.1 5) (un3.2.1 3) v_written v_named v_sorted f_tape f_kind f_owner f_from f_size f_means f_signs f_oKind f_oIn f_oList y_oWords_64 f_oFacts f_listIn f_sOwner f_hFacts f_weights f_lengths f_values (un3.2.2 0) (un3.2.2 1) (un3.2.2 2) (un3.2.2 3) (un3.2.2 4) (un3.2.2 5) (un3.2.2 6) (un3.2.2 7) (un3.2.2 8) (un3.2.2 15) (un3.2.2 18) (un3.2.2 16) (un3.2.2 17) (un3.2.2 9) (un3.2.2 10) (un3.2.2 11) (un3.2.2 12) (un3.2.2 13) (un3.2.2 14) f_out f_ranks) H → va_D A (wM c y a (0) (0) (un3.2.1 9) (un3.2.1 10) (un3.2.1 1) v_options v_lists v_sentences v_headings (0) v_factBits v_known v_soundMany v_wholeLength (un3.2.1 0) x_n (un3.2.1 1) (un3.2.1 2) (un3.2.1 6) (un3.2.1 7) (un3.2.1 8) (un3.2.1 4) (un3.2.1 5) (un3.2.1 3) v_written v_named v_sorted f_tape f_kind f_owner f_from f_size f_means f_signs f_oKind f_oIn f_oList y_oWords_64 f_oFacts f_listIn f_sOwner f_hFacts f_weights f_lengths f_values (un3.2.2 0) (un3.2.2 1) (un3.2.2 2) (un3.2.2 3) (un3.2.2 4) (un3.2.2 5) (un3.2.2 6) (un3.2.2 7) (un3.2.2 8) (un3.2.2 15) (un3.2.2 18) (un3.2.2 16) (un3.2.2 17) (un3.2.2 9) (un3.2.2 10) (un3.2.2 11) (un3.2.2 12) (un3.2.2 13) (un3.2.2 14) f_out f_ranks) → va_S A s.heap H locs → lv_has ls 4 [(2, .int s2_64), (0, .ref y), (1, .int x_n)] → W p l e ({ frames := 7, cells := 0, slots := 0, locals := 151 }) s m args below meth cd H locs 0 0 Q (F0 m 64 ls []) := by
          intro k
          induction k with
          | zero => intro s2_64 y_oWords_64 j0_64 j1_64 j2_64 hm; exfalso; omega
          | succ k ih_64 =>
            intro s2_64 y_oWords_64 j0_64 j1_64 j2_64 hm_64 H locs ls hP hD hS hl
            clear h6 h7 h8 h9 pn3_0 pn3_6 g4
            refine lv_iload_n hx hb dX10_text_64 rfl (lv_at hl 0 rfl) ?_
            refine lv_bipush (v := 14) hx hb dX10_text_65 (by decide) ?_
            refine lv_icmp_ge (tgt := 83) hx hb dX10_text_67 (by decide) (fun g5 => ?_) (fun g5 => ?_)
            · have g5 : (14 : Int) ≤ s2_64.toInt := (q3_le (by decide) rfl).mp g5
              refine lv_aload_n hx hb dX10_text_83 rfl (lv_at hl 1 rfl) ?_
              refine lv_aload_n hx hb dX10_text_84 rfl (lv_at hl 1 rfl) ?_
              refine va_get (D := D) (ci := 10) (v := .int (un3.2.1 2)) (C := RX10) (T := TX10) (N := 66) hx hb hts iX10 hown hK hP 0 rfl rfl 40 (by decide) (hts (.fieldLink RX10 181 "ShortTellerModel" "rOptions" "I") (List.mem_of_getElem? (i := 10) rfl)) (fun _ h9 => h9) rfl dX10_text_85 ?_
              refine va_put (D := D) (ci := 10) (v := .int (un3.2.1 2)) (ty := .int) (C := RX10) (T := TX10) (N := 66) hx hb hts iX10 tyX10 tyX10_ok nmX10 hown hK hP hD hS 0 rfl rfl 12 (by decide) (hts (.fieldLink RX10 233 "ShortTellerModel" "options" "I") (List.mem_of_getElem? (i := 11) rfl)) (fun _ h9 => h9) rfl (by decide +kernel) rfl rfl (Nat.le_of_ble_eq_true rfl) dX10_text_88 (fun H locs hP hD hS => ?_)
              have hP : va_P D vwCl (wM c y a (0) (0) (un3.2.1 9) (un3.2.1 10) (un3.2.1 1) (un3.2.1 2) v_lists v_sentences v_headings (0) v_factBits v_known v_soundMany v_wholeLength (un3.2.1 0) x_n (un3.2.1 1) (un3.2.1 2) (un3.2.1 6) (un3.2.1 7) (un3.2.1 8) (un3.2.1 4) (un3.2.1 5) (un3.2.1 3) v_written v_named v_sorted f_tape f_kind f_owner f_from f_size f_means f_signs f_oKind f_oIn f_oList y_oWords_64 f_oFacts f_listIn f_sOwner f_hFacts f_weights f_lengths f_values (un3.2.2 0) (un3.2.2 1) (un3.2.2 2) (un3.2.2 3) (un3.2.2 4) (un3.2.2 5) (un3.2.2 6) (un3.2.2 7) (un3.2.2 8) (un3.2.2 15) (un3.2.2 18) (un3.2.2 16) (un3.2.2 17) (un3.2.2 9) (un3.2.2 10) (un3.2.2 11) (un3.2.2 12) (un3.2.2 13) (un3.2.2 14) f_out f_ranks) H := hP
              have hD : va_D A (wM c y a (0) (0) (un3.2.1 9) (un3.2.1 10) (un3.2.1 1) (un3.2.1 2) v_lists v_sentences v_headings (0) v_factBits v_known v_soundMany v_wholeLength (un3.2.1 0) x_n (un3.2.1 1) (un3.2.1 2) (un3.2.1 6) (un3.2.1 7) (un3.2.1 8) (un3.2.1 4) (un3.2.1 5) (un3.2.1 3) v_written v_named v_sorted f_tape f_kind f_owner f_from f_size f_means f_signs f_oKind f_oIn f_oList y_oWords_64 f_oFacts f_listIn f_sOwner f_hFacts f_weights f_lengths f_values (un3.2.2 0) (un3.2.2 1) (un3.2.2 2) (un3.2.2 3) (un3.2.2 4) (un3.2.2 5) (un3.2.2 6) (un3.2.2 7) (un3.2.2 8) (un3.2.2 15) (un3.2.2 18) (un3.2.2 16) (un3.2.2 17) (un3.2.2 9) (un3.2.2 10) (un3.2.2 11) (un3.2.2 12) (un3.2.2 13) (un3.2.2 14) f_out f_ranks) := hD
              refine lv_iconst (v := 0) hx hb dX10_text_91 (by decide) ?_
              refine lv_istore_n (lv' := [(2, .int 0), (0, .ref y), (1, .int x_n)]) hx hb dX10_text_92 rfl hl (by decide) rfl (fun ls hl => ?_)
              have c6 : ∀ j : Nat, j < Int.toNat (0 : Int) → (f_oIn j).toInt < j := fun j hj => absurd hj (Nat.not_lt_zero _)
              have lp93 : ∀ (k : Nat) (s2_93 : Int32) (y_oKind_93 : Nat → Int32) (y_oIn_93 : Nat → Int32) (y_oList_93 : Nat → Int32) (y_oFacts_93 : Nat → Int32), (0 ≤ s2_93.toInt) → (s2_93.toInt ≤ 14) → (s2_93.toInt ≤ (un3.2.1 2).toInt) → (∀ j : Nat, j < Int.toNat s2_93.toInt → (y_oIn_93 j).toInt < j) → 15 - s2_93.toInt < (k : Int) → ∀ (H : Heap) (locs : List Loc) (ls : Array Slot), va_P D vwCl (wM c y a (0) (0) (un3.2.1 9) (un3.2.1 10) (un3.2.1 1) (un3.2.1 2) v_lists v_sentences v_headings (0) v_factBits v_known v_soundMany v_wholeLength (un3.2.1 0) x_n (un3.2.1 1) (un3.2.1 2) (un3.2.1 6) (un3.2.1 7) (un3.2.1 8) (un3.2.1 4) (un3.2.1 5) (un3.2.1 3) v_written v_named v_sorted f_tape f_kind f_owner f_from f_size f_means f_signs y_oKind_93 y_oIn_93 y_oList_93 y_oWords_64 y_oFacts_93 f_listIn f_sOwner f_hFacts f_weights f_lengths f_values (un3.2.2 0) (un3.2.2 1) (un3.2.2 2) (un3.2.2 3) (un3.2.2 4) (un3.2.2 5) (un3.2.2 6) (un3.2.2 7) (un3.2.2 8) (un3.2.2 15) (un3.2.2 18) (un3.2.2 16) (un3.2.2 17) (un3.2.2 9) (un3.2.2 10) (un3.2.2 11) (un3.2.2 12) (un3.2.2 13) (un3.2.2 14) f_out f_ranks) H → va_D A (wM c y a (0) (0) (un3.2.1 9) (un3.2.1 10) (un3.2.1 1) (un3.2.1 2) v_lists v_sentences v_headings (0) v_factBits v_known v_soundMany v_wholeLength (un3.2.1 0) x_n (un3.2.1 1) (un3.2.1 2) (un3.2.1 6) (un3.2.1 7) (un3.2.1 8) (un3.2.1 4) (un3.2.1 5) (un3.2.1 3) v_written v_named v_sorted f_tape f_kind f_owner f_from f_size f_means f_signs y_oKind_93 y_oIn_93 y_oList_93 y_oWords_64 y_oFacts_93 f_listIn f_sOwner f_hFacts f_weights f_lengths f_values (un3.2.2 0) (un3.2.2 1) (un3.2.2 2) (un3.2.2 3) (un3.2.2 4) (un3.2.2 5) (un3.2.2 6) (un3.2.2 7) (un3.2.2 8) (un3.2.2 15) (un3.2.2 18) (un3.2.2 16) (un3.2.2 17) (un3.2.2 9) (un3.2.2 10) (un3.2.2 11) (un3.2.2 12) (un3.2.2 13) (un3.2.2 14) f_out f_ranks) → va_S A s.heap H locs → lv_has ls 4 [(2, .int s2_93), (0, .ref y), (1, .int x_n)] → W p l e ({ frames := 7, cells := 0, slots := 0, locals := 151 }) s m args below meth cd H locs 0 0 Q (F0 m 93 ls []) := by
                intro k
                induction k with
                | zero => intro s2_93 y_oKind_93 y_oIn_93 y_oList_93 y_oFacts_93 j0_93 j1_93 j2_93 j3_93 hm; exfalso; omega
                | succ k ih_93 =>
                  intro s2_93 y_oKind_93 y_oIn_93 y_oList_93 y_oFacts_93 j0_93 j1_93 j2_93 j3_93 hm_93 H locs ls hP hD hS hl
                  clear h0 h1 j0_64 j1_64 hm_64 g5
                  refine lv_iload_n hx hb dX10_text_93 rfl (lv_at hl 0 rfl) ?_
                  refine lv_aload_n hx hb dX10_text_94 rfl (lv_at hl 1 rfl) ?_
                  refine va_get (D := D) (ci := 10) (v := .int (un3.2.1 2)) (C := RX10) (T := TX10) (N := 66) hx hb hts iX10 hown hK hP 0 rfl rfl 12 (by decide) (hts (.fieldLink RX10 233 "ShortTellerModel" "options" "I") (List.mem_of_getElem? (i := 11) rfl)) (fun _ h9 => h9) rfl dX10_text_95 ?_
                  refine lv_icmp_ge (tgt := 155) hx hb dX10_text_98 (by decide) (fun g7 => ?_) (fun g7 => ?_)
                  · have g7 : (un3.2.1 2).toInt ≤ s2_93.toInt := (q3_le rfl rfl).mp g7
                    have c8 : ∀ j : Nat, j < Int.toNat (un3.2.1 2).toInt → (y_oIn_93 j).toInt < j := q4_less (P := fun j => (y_oIn_93 j).toInt < j) j3_93 (by omega)
                    refine lv_iconst (v := 0) hx hb dX10_text_155 (by decide) ?_
                    refine lv_istore_n (lv' := [(2, .int 0), (0, .ref y), (1, .int x_n)]) hx hb dX10_text_156 rfl hl (by decide) rfl (fun ls hl => ?_)
                    have c9 : ∀ j : Nat, j < Int.toNat (0 : Int) → f_kind j = (un3.2.2 0) j ∧ f_size j = (un3.2.2 3) j := fun j hj => absurd hj (Nat.not_lt_zero _)
                    have lp157 : ∀ (k : Nat) (s2_157 : Int32) (z_words_157 : Int32) (y_kind_157 : Nat → Int32) (y_owner_157 : Nat → Int32) (y_from_157 : Nat → Int32) (y_size_157 : Nat → Int32) (y_means_157 : Nat → Int32) (y_oWords_157 : Nat → Int32), (0 ≤ s2_157.toInt) → (s2_157.toInt ≤ 814) → (s2_157.toInt ≤ (un3.2.1 1).toInt) → (q4_T y_kind_157 y_owner_157 y_from_157 y_size_157 y_means_157) → (∀ j : Nat, j < Int.toNat s2_157.toInt → y_kind_157 j = (un3.2.2 0) j ∧ y_size_157 j = (un3.2.2 3) j) → 815 - s2_157.toInt < (k : Int) → ∀ (H : Heap) (locs : List Loc) (ls : Array Slot), va_P D vwCl (wM c y a (0) (0) (un3.2.1 9) (un3.2.1 10) (un3.2.1 1) (un3.2.1 2) v_lists v_sentences v_headings z_words_157 v_factBits v_known v_soundMany v_wholeLength (un3.2.1 0) x_n (un3.2.1 1) (un3.2.1 2) (un3.2.1 6) (un3.2.1 7) (un3.2.1 8) (un3.2.1 4) (un3.2.1 5) (un3.2.1 3) v_written v_named v_sorted f_tape y_kind_157 y_owner_157 y_from_157 y_size_157 y_means_157 f_signs y_oKind_93 y_oIn_93 y_oList_93 y_oWords_157 y_oFacts_93 f_listIn f_sOwner f_hFacts f_weights f_lengths f_values (un3.2.2 0) (un3.2.2 1) (un3.2.2 2) (un3.2.2 3) (un3.2.2 4) (un3.2.2 5) (un3.2.2 6) (un3.2.2 7) (un3.2.2 8) (un3.2.2 15) (un3.2.2 18) (un3.2.2 16) (un3.2.2 17) (un3.2.2 9) (un3.2.2 10) (un3.2.2 11) (un3.2.2 12) (un3.2.2 13) (un3.2.2 14) f_out f_ranks) H → va_D A (wM c y a (0) (0) (un3.2.1 9) (un3.2.1 10) (un3.2.1 1) (un3.2.1 2) v_lists v_sentences v_headings z_words_157 v_factBits v_known v_soundMany v_wholeLength (un3.2.1 0) x_n (un3.2.1 1) (un3.2.1 2) (un3.2.1 6) (un3.2.1 7) (un3.2.1 8) (un3.2.1 4) (un3.2.1 5) (un3.2.1 3) v_written v_named v_sorted f_tape y_kind_157 y_owner_157 y_from_157 y_size_157 y_means_157 f_signs y_oKind_93 y_oIn_93 y_oList_93 y_oWords_157 y_oFacts_93 f_listIn f_sOwner f_hFacts f_weights f_lengths f_values (un3.2.2 0) (un3.2.2 1) (un3.2.2 2) (un3.2.2 3) (un3.2.2 4) (un3.2.2 5) (un3.2.2 6) (un3.2.2 7) (un3.2.2 8) (un3.2.2 15) (un3.2.2 18) (un3.2.2 16) (un3.2.2 17) (un3.2.2 9) (un3.2.2 10) (un3.2.2 11) (un3.2.2 12) (un3.2.2 13) (un3.2.2 14) f_out f_ranks) → va_S A s.heap H locs → lv_has ls 4 [(2, .int s2_157), (0, .ref y), (1, .int x_n)] → W p l e ({ frames := 7, cells := 0, slots := 0, locals := 151 }) s m args below meth cd H locs 0 0 Q (F0 m 157 ls []) := by
                      intro k
                      induction k with
                      | zero => intro s2_157 z_words_157 y_kind_157 y_owner_157 y_from_157 y_size_157 y_means_157 y_oWords_157 j0_157 j1_157 j2_157 j3_157 j4_157 hm; exfalso; omega
                      | succ k ih_157 =>
                        intro s2_157 z_words_157 y_kind_157 y_owner_157 y_from_157 y_size_157 y_means_157 y_oWords_157 j0_157 j1_157 j2_157 j3_157 j4_157 hm_157 H locs ls hP hD hS hl
                        clear j0_93 j1_93 j2_93 hm_93 g7
                        refine lv_iload_n hx hb dX10_text_157 rfl (lv_at hl 0 rfl) ?_
                        refine lv_aload_n hx hb dX10_text_158 rfl (lv_at hl 1 rfl) ?_
                        refine va_get (D := D) (ci := 10) (v := .int (un3.2.1 1)) (C := RX10) (T := TX10) (N := 66) hx hb hts iX10 hown hK hP 0 rfl rfl 5 (by decide) (hts (.fieldLink RX10 227 "ShortTellerModel" "things" "I") (List.mem_of_getElem? (i := 7) rfl)) (fun _ h9 => h9) rfl dX10_text_159 ?_
                        refine lv_icmp_ge (tgt := 285) hx hb dX10_text_162 (by decide) (fun g10 => ?_) (fun g10 => ?_)
                        · have g10 : (un3.2.1 1).toInt ≤ s2_157.toInt := (q3_le rfl rfl).mp g10
                          have wsP : q4_s y_kind_157 y_size_157 (Int.toNat (un3.2.1 1).toInt) = q4_s (un3.2.2 0) (un3.2.2 3) (Int.toNat (un3.2.1 1).toInt) := q4_s_congr (fun j hj => j4_157 j (by omega))
                          have nnP : q4_n y_kind_157 (Int.toNat (un3.2.1 1).toInt) = q4_n (un3.2.2 0) (Int.toNat (un3.2.1 1).toInt) := q4_n_congr (fun j hj => (j4_157 j (by omega)).1)
                          refine lv_iconst (v := 0) hx hb dX10_text_285 (by decide) ?_
                          refine lv_istore_n (lv' := [(2, .int 0), (0, .ref y), (1, .int x_n)]) hx hb dX10_text_286 rfl hl (by decide) rfl (fun ls hl => ?_)
                          have lp287 : ∀ (k : Nat) (s2_287 : Int32) (y_signs_287 : Nat → Int32), (0 ≤ s2_287.toInt) → (s2_287.toInt ≤ 800) → 801 - s2_287.toInt < (k : Int) → ∀ (H : Heap) (locs : List Loc) (ls : Array Slot), va_P D vwCl (wM c y a (0) (0) (un3.2.1 9) (un3.2.1 10) (un3.2.1 1) (un3.2.1 2) v_lists v_sentences v_headings z_words_157 v_factBits v_known v_soundMany v_wholeLength (un3.2.1 0) x_n (un3.2.1 1) (un3.2.1 2) (un3.2.1 6) (un3.2.1 7) (un3.2.1 8) (un3.2.1 4) (un3.2.1 5) (un3.2.1 3) v_written v_named v_sorted f_tape y_kind_157 y_owner_157 y_from_157 y_size_157 y_means_157 y_signs_287 y_oKind_93 y_oIn_93 y_oList_93 y_oWords_157 y_oFacts_93 f_listIn f_sOwner f_hFacts f_weights f_lengths f_values (un3.2.2 0) (un3.2.2 1) (un3.2.2 2) (un3.2.2 3) (un3.2.2 4) (un3.2.2 5) (un3.2.2 6) (un3.2.2 7) (un3.2.2 8) (un3.2.2 15) (un3.2.2 18) (un3.2.2 16) (un3.2.2 17) (un3.2.2 9) (un3.2.2 10) (un3.2.2 11) (un3.2.2 12) (un3.2.2 13) (un3.2.2 14) f_out f_ranks) H → va_D A (wM c y a (0) (0) (un3.2.1 9) (un3.2.1 10) (un3.2.1 1) (un3.2.1 2) v_lists v_sentences v_headings z_words_157 v_factBits v_known v_soundMany v_wholeLength (un3.2.1 0) x_n (un3.2.1 1) (un3.2.1 2) (un3.2.1 6) (un3.2.1 7) (un3.2.1 8) (un3.2.1 4) (un3.2.1 5) (un3.2.1 3) v_written v_named v_sorted f_tape y_kind_157 y_owner_157 y_from_157 y_size_157 y_means_157 y_signs_287 y_oKind_93 y_oIn_93 y_oList_93 y_oWords_157 y_oFacts_93 f_listIn f_sOwner f_hFacts f_weights f_lengths f_values (un3.2.2 0) (un3.2.2 1) (un3.2.2 2) (un3.2.2 3) (un3.2.2 4) (un3.2.2 5) (un3.2.2 6) (un3.2.2 7) (un3.2.2 8) (un3.2.2 15) (un3.2.2 18) (un3.2.2 16) (un3.2.2 17) (un3.2.2 9) (un3.2.2 10) (un3.2.2 11) (un3.2.2 12) (un3.2.2 13) (un3.2.2 14) f_out f_ranks) → va_S A s.heap H locs → lv_has ls 4 [(2, .int s2_287), (0, .ref y), (1, .int x_n)] → W p l e ({ frames := 7, cells := 0, slots := 0, locals := 151 }) s m args below meth cd H locs 0 0 Q (F0 m 287 ls []) := by
                            intro k
                            induction k with
                            | zero => intro s2_287 y_signs_287 j0_287 j1_287 hm; exfalso; omega
                            | succ k ih_287 =>
                              intro s2_287 y_signs_287 j0_287 j1_287 hm_287 H locs ls hP hD hS hl
                              clear j0_157 j1_157 j2_157 hm_157 g10
                              refine lv_iload_n hx hb dX10_text_287 rfl (lv_at hl 0 rfl) ?_
                              refine lv_aload_n hx hb dX10_text_288 rfl (lv_at hl 1 rfl) ?_
                              refine va_get (D := D) (ci := 10) (v := .int x_n) (C := RX10) (T := TX10) (N := 66) hx hb hts iX10 hown hK hP 0 rfl rfl 33 (by decide) (hts (.fieldLink RX10 147 "ShortTellerModel" "end" "I") (List.mem_of_getElem? (i := 3) rfl)) (fun _ h9 => h9) rfl dX10_text_289 ?_
                              refine lv_icmp_ge (tgt := 313) hx hb dX10_text_292 (by decide) (fun g11 => ?_) (fun g11 => ?_)
                              · have g11 : x_n.toInt ≤ s2_287.toInt := (q3_le rfl rfl).mp g11
                                refine lv_aload_n hx hb dX10_text_313 rfl (lv_at hl 1 rfl) ?_
                                refine lv_aload_n hx hb dX10_text_314 rfl (lv_at hl 1 rfl) ?_
                                refine va_get (D := D) (ci := 10) (v := .int (un3.2.1 6)) (C := RX10) (T := TX10) (N := 66) hx hb hts iX10 hown hK hP 0 rfl rfl 45 (by decide) (hts (.fieldLink RX10 200 "ShortTellerModel" "rLists" "I") (List.mem_of_getElem? (i := 32) rfl)) (fun _ h9 => h9) rfl dX10_text_315 ?_
                                refine va_put (D := D) (ci := 10) (v := .int (un3.2.1 6)) (ty := .int) (C := RX10) (T := TX10) (N := 66) hx hb hts iX10 tyX10 tyX10_ok nmX10 hown hK hP hD hS 0 rfl rfl 18 (by decide) (hts (.fieldLink RX10 236 "ShortTellerModel" "lists" "I") (List.mem_of_getElem? (i := 33) rfl)) (fun _ h9 => h9) rfl (by decide +kernel) rfl rfl (Nat.le_of_ble_eq_true rfl) dX10_text_318 (fun H locs hP hD hS => ?_)
                                have hP : va_P D vwCl (wM c y a (0) (0) (un3.2.1 9) (un3.2.1 10) (un3.2.1 1) (un3.2.1 2) (un3.2.1 6) v_sentences v_headings z_words_157 v_factBits v_known v_soundMany v_wholeLength (un3.2.1 0) x_n (un3.2.1 1) (un3.2.1 2) (un3.2.1 6) (un3.2.1 7) (un3.2.1 8) (un3.2.1 4) (un3.2.1 5) (un3.2.1 3) v_written v_named v_sorted f_tape y_kind_157 y_owner_157 y_from_157 y_size_157 y_means_157 y_signs_287 y_oKind_93 y_oIn_93 y_oList_93 y_oWords_157 y_oFacts_93 f_listIn f_sOwner f_hFacts f_weights f_lengths f_values (un3.2.2 0) (un3.2.2 1) (un3.2.2 2) (un3.2.2 3) (un3.2.2 4) (un3.2.2 5) (un3.2.2 6) (un3.2.2 7) (un3.2.2 8) (un3.2.2 15) (un3.2.2 18) (un3.2.2 16) (un3.2.2 17) (un3.2.2 9) (un3.2.2 10) (un3.2.2 11) (un3.2.2 12) (un3.2.2 13) (un3.2.2 14) f_out f_ranks) H := hP
                                have hD : va_D A (wM c y a (0) (0) (un3.2.1 9) (un3.2.1 10) (un3.2.1 1) (un3.2.1 2) (un3.2.1 6) v_sentences v_headings z_words_157 v_factBits v_known v_soundMany v_wholeLength (un3.2.1 0) x_n (un3.2.1 1) (un3.2.1 2) (un3.2.1 6) (un3.2.1 7) (un3.2.1 8) (un3.2.1 4) (un3.2.1 5) (un3.2.1 3) v_written v_named v_sorted f_tape y_kind_157 y_owner_157 y_from_157 y_size_157 y_means_157 y_signs_287 y_oKind_93 y_oIn_93 y_oList_93 y_oWords_157 y_oFacts_93 f_listIn f_sOwner f_hFacts f_weights f_lengths f_values (un3.2.2 0) (un3.2.2 1) (un3.2.2 2) (un3.2.2 3) (un3.2.2 4) (un3.2.2 5) (un3.2.2 6) (un3.2.2 7) (un3.2.2 8) (un3.2.2 15) (un3.2.2 18) (un3.2.2 16) (un3.2.2 17) (un3.2.2 9) (un3.2.2 10) (un3.2.2 11) (un3.2.2 12) (un3.2.2 13) (un3.2.2 14) f_out f_ranks) := hD
                                refine lv_iconst (v := 0) hx hb dX10_text_321 (by decide) ?_
                                refine lv_istore_n (lv' := [(2, .int 0), (0, .ref y), (1, .int x_n)]) hx hb dX10_text_322 rfl hl (by decide) rfl (fun ls hl => ?_)
                                have lp323 : ∀ (k : Nat) (s2_323 : Int32) (y_listIn_323 : Nat → Int32), (0 ≤ s2_323.toInt) → (s2_323.toInt ≤ 14) → 15 - s2_323.toInt < (k : Int) → ∀ (H : Heap) (locs : List Loc) (ls : Array Slot), va_P D vwCl (wM c y a (0) (0) (un3.2.1 9) (un3.2.1 10) (un3.2.1 1) (un3.2.1 2) (un3.2.1 6) v_sentences v_headings z_words_157 v_factBits v_known v_soundMany v_wholeLength (un3.2.1 0) x_n (un3.2.1 1) (un3.2.1 2) (un3.2.1 6) (un3.2.1 7) (un3.2.1 8) (un3.2.1 4) (un3.2.1 5) (un3.2.1 3) v_written v_named v_sorted f_tape y_kind_157 y_owner_157 y_from_157 y_size_157 y_means_157 y_signs_287 y_oKind_93 y_oIn_93 y_oList_93 y_oWords_157 y_oFacts_93 y_listIn_323 f_sOwner f_hFacts f_weights f_lengths f_values (un3.2.2 0) (un3.2.2 1) (un3.2.2 2) (un3.2.2 3) (un3.2.2 4) (un3.2.2 5) (un3.2.2 6) (un3.2.2 7) (un3.2.2 8) (un3.2.2 15) (un3.2.2 18) (un3.2.2 16) (un3.2.2 17) (un3.2.2 9) (un3.2.2 10) (un3.2.2 11) (un3.2.2 12) (un3.2.2 13) (un3.2.2 14) f_out f_ranks) H → va_D A (wM c y a (0) (0) (un3.2.1 9) (un3.2.1 10) (un3.2.1 1) (un3.2.1 2) (un3.2.1 6) v_sentences v_headings z_words_157 v_factBits v_known v_soundMany v_wholeLength (un3.2.1 0) x_n (un3.2.1 1) (un3.2.1 2) (un3.2.1 6) (un3.2.1 7) (un3.2.1 8) (un3.2.1 4) (un3.2.1 5) (un3.2.1 3) v_written v_named v_sorted f_tape y_kind_157 y_owner_157 y_from_157 y_size_157 y_means_157 y_signs_287 y_oKind_93 y_oIn_93 y_oList_93 y_oWords_157 y_oFacts_93 y_listIn_323 f_sOwner f_hFacts f_weights f_lengths f_values (un3.2.2 0) (un3.2.2 1) (un3.2.2 2) (un3.2.2 3) (un3.2.2 4) (un3.2.2 5) (un3.2.2 6) (un3.2.2 7) (un3.2.2 8) (un3.2.2 15) (un3.2.2 18) (un3.2.2 16) (un3.2.2 17) (un3.2.2 9) (un3.2.2 10) (un3.2.2 11) (un3.2.2 12) (un3.2.2 13) (un3.2.2 14) f_out f_ranks) → va_S A s.heap H locs → lv_has ls 4 [(2, .int s2_323), (0, .ref y), (1, .int x_n)] → W p l e ({ frames := 7, cells := 0, slots := 0, locals := 151 }) s m args below meth cd H locs 0 0 Q (F0 m 323 ls []) := by
                                  intro k
                                  induction k with
                                  | zero => intro s2_323 y_listIn_323 j0_323 j1_323 hm; exfalso; omega
                                  | succ k ih_323 =>
                                    intro s2_323 y_listIn_323 j0_323 j1_323 hm_323 H locs ls hP hD hS hl
                                    clear h2 h3 j0_287 j1_287 hm_287 g11
                                    refine lv_iload_n hx hb dX10_text_323 rfl (lv_at hl 0 rfl) ?_
                                    refine lv_aload_n hx hb dX10_text_324 rfl (lv_at hl 1 rfl) ?_
                                    refine va_get (D := D) (ci := 10) (v := .int (un3.2.1 6)) (C := RX10) (T := TX10) (N := 66) hx hb hts iX10 hown hK hP 0 rfl rfl 18 (by decide) (hts (.fieldLink RX10 236 "ShortTellerModel" "lists" "I") (List.mem_of_getElem? (i := 33) rfl)) (fun _ h9 => h9) rfl dX10_text_325 ?_
                                    refine lv_icmp_ge (tgt := 349) hx hb dX10_text_328 (by decide) (fun g12 => ?_) (fun g12 => ?_)
                                    · have g12 : (un3.2.1 6).toInt ≤ s2_323.toInt := (q3_le rfl rfl).mp g12
                                      refine lv_aload_n hx hb dX10_text_349 rfl (lv_at hl 1 rfl) ?_
                                      refine lv_aload_n hx hb dX10_text_350 rfl (lv_at hl 1 rfl) ?_
                                      refine va_get (D := D) (ci := 10) (v := .int (un3.2.1 7)) (C := RX10) (T := TX10) (N := 66) hx hb hts iX10 hown hK hP 0 rfl rfl 47 (by decide) (hts (.fieldLink RX10 212 "ShortTellerModel" "rSentences" "I") (List.mem_of_getElem? (i := 36) rfl)) (fun _ h9 => h9) rfl dX10_text_351 ?_
                                      refine va_put (D := D) (ci := 10) (v := .int (un3.2.1 7)) (ty := .int) (C := RX10) (T := TX10) (N := 66) hx hb hts iX10 tyX10 tyX10_ok nmX10 hown hK hP hD hS 0 rfl rfl 20 (by decide) (hts (.fieldLink RX10 239 "ShortTellerModel" "sentences" "I") (List.mem_of_getElem? (i := 37) rfl)) (fun _ h9 => h9) rfl (by decide +kernel) rfl rfl (Nat.le_of_ble_eq_true rfl) dX10_text_354 (fun H locs hP hD hS => ?_)
                                      have hP : va_P D vwCl (wM c y a (0) (0) (un3.2.1 9) (un3.2.1 10) (un3.2.1 1) (un3.2.1 2) (un3.2.1 6) (un3.2.1 7) v_headings z_words_157 v_factBits v_known v_soundMany v_wholeLength (un3.2.1 0) x_n (un3.2.1 1) (un3.2.1 2) (un3.2.1 6) (un3.2.1 7) (un3.2.1 8) (un3.2.1 4) (un3.2.1 5) (un3.2.1 3) v_written v_named v_sorted f_tape y_kind_157 y_owner_157 y_from_157 y_size_157 y_means_157 y_signs_287 y_oKind_93 y_oIn_93 y_oList_93 y_oWords_157 y_oFacts_93 y_listIn_323 f_sOwner f_hFacts f_weights f_lengths f_values (un3.2.2 0) (un3.2.2 1) (un3.2.2 2) (un3.2.2 3) (un3.2.2 4) (un3.2.2 5) (un3.2.2 6) (un3.2.2 7) (un3.2.2 8) (un3.2.2 15) (un3.2.2 18) (un3.2.2 16) (un3.2.2 17) (un3.2.2 9) (un3.2.2 10) (un3.2.2 11) (un3.2.2 12) (un3.2.2 13) (un3.2.2 14) f_out f_ranks) H := hP
                                      have hD : va_D A (wM c y a (0) (0) (un3.2.1 9) (un3.2.1 10) (un3.2.1 1) (un3.2.1 2) (un3.2.1 6) (un3.2.1 7) v_headings z_words_157 v_factBits v_known v_soundMany v_wholeLength (un3.2.1 0) x_n (un3.2.1 1) (un3.2.1 2) (un3.2.1 6) (un3.2.1 7) (un3.2.1 8) (un3.2.1 4) (un3.2.1 5) (un3.2.1 3) v_written v_named v_sorted f_tape y_kind_157 y_owner_157 y_from_157 y_size_157 y_means_157 y_signs_287 y_oKind_93 y_oIn_93 y_oList_93 y_oWords_157 y_oFacts_93 y_listIn_323 f_sOwner f_hFacts f_weights f_lengths f_values (un3.2.2 0) (un3.2.2 1) (un3.2.2 2) (un3.2.2 3) (un3.2.2 4) (un3.2.2 5) (un3.2.2 6) (un3.2.2 7) (un3.2.2 8) (un3.2.2 15) (un3.2.2 18) (un3.2.2 16) (un3.2.2 17) (un3.2.2 9) (un3.2.2 10) (un3.2.2 11) (un3.2.2 12) (un3.2.2 13) (un3.2.2 14) f_out f_ranks) := hD
                                      refine lv_iconst (v := 0) hx hb dX10_text_357 (by decide) ?_
                                      refine lv_istore_n (lv' := [(2, .int 0), (0, .ref y), (1, .int x_n)]) hx hb dX10_text_358 rfl hl (by decide) rfl (fun ls hl => ?_)
                                      have lp359 : ∀ (k : Nat) (s2_359 : Int32) (y_sOwner_359 : Nat → Int32), (0 ≤ s2_359.toInt) → (s2_359.toInt ≤ 414) → (∀ j : Nat, -422 < (y_sOwner_359 j).toInt ∧ (y_sOwner_359 j).toInt < 14 ∧ (y_sOwner_359 j).toInt ≠ -1) → 415 - s2_359.toInt < (k : Int) → ∀ (H : Heap) (locs : List Loc) (ls : Array Slot), va_P D vwCl (wM c y a (0) (0) (un3.2.1 9) (un3.2.1 10) (un3.2.1 1) (un3.2.1 2) (un3.2.1 6) (un3.2.1 7) v_headings z_words_157 v_factBits v_known v_soundMany v_wholeLength (un3.2.1 0) x_n (un3.2.1 1) (un3.2.1 2) (un3.2.1 6) (un3.2.1 7) (un3.2.1 8) (un3.2.1 4) (un3.2.1 5) (un3.2.1 3) v_written v_named v_sorted f_tape y_kind_157 y_owner_157 y_from_157 y_size_157 y_means_157 y_signs_287 y_oKind_93 y_oIn_93 y_oList_93 y_oWords_157 y_oFacts_93 y_listIn_323 y_sOwner_359 f_hFacts f_weights f_lengths f_values (un3.2.2 0) (un3.2.2 1) (un3.2.2 2) (un3.2.2 3) (un3.2.2 4) (un3.2.2 5) (un3.2.2 6) (un3.2.2 7) (un3.2.2 8) (un3.2.2 15) (un3.2.2 18) (un3.2.2 16) (un3.2.2 17) (un3.2.2 9) (un3.2.2 10) (un3.2.2 11) (un3.2.2 12) (un3.2.2 13) (un3.2.2 14) f_out f_ranks) H → va_D A (wM c y a (0) (0) (un3.2.1 9) (un3.2.1 10) (un3.2.1 1) (un3.2.1 2) (un3.2.1 6) (un3.2.1 7) v_headings z_words_157 v_factBits v_known v_soundMany v_wholeLength (un3.2.1 0) x_n (un3.2.1 1) (un3.2.1 2) (un3.2.1 6) (un3.2.1 7) (un3.2.1 8) (un3.2.1 4) (un3.2.1 5) (un3.2.1 3) v_written v_named v_sorted f_tape y_kind_157 y_owner_157 y_from_157 y_size_157 y_means_157 y_signs_287 y_oKind_93 y_oIn_93 y_oList_93 y_oWords_157 y_oFacts_93 y_listIn_323 y_sOwner_359 f_hFacts f_weights f_lengths f_values (un3.2.2 0) (un3.2.2 1) (un3.2.2 2) (un3.2.2 3) (un3.2.2 4) (un3.2.2 5) (un3.2.2 6) (un3.2.2 7) (un3.2.2 8) (un3.2.2 15) (un3.2.2 18) (un3.2.2 16) (un3.2.2 17) (un3.2.2 9) (un3.2.2 10) (un3.2.2 11) (un3.2.2 12) (un3.2.2 13) (un3.2.2 14) f_out f_ranks) → va_S A s.heap H locs → lv_has ls 4 [(2, .int s2_359), (0, .ref y), (1, .int x_n)] → W p l e ({ frames := 7, cells := 0, slots := 0, locals := 151 }) s m args below meth cd H locs 0 0 Q (F0 m 359 ls []) := by
                                        intro k
                                        induction k with
                                        | zero => intro s2_359 y_sOwner_359 j0_359 j1_359 j2_359 hm; exfalso; omega
                                        | succ k ih_359 =>
                                          intro s2_359 y_sOwner_359 j0_359 j1_359 j2_359 hm_359 H locs ls hP hD hS hl
                                          clear h4 h5 j0_323 j1_323 hm_323 g12
                                          refine lv_iload_n hx hb dX10_text_359 rfl (lv_at hl 0 rfl) ?_
                                          refine lv_aload_n hx hb dX10_text_360 rfl (lv_at hl 1 rfl) ?_
                                          refine va_get (D := D) (ci := 10) (v := .int (un3.2.1 7)) (C := RX10) (T := TX10) (N := 66) hx hb hts iX10 hown hK hP 0 rfl rfl 20 (by decide) (hts (.fieldLink RX10 239 "ShortTellerModel" "sentences" "I") (List.mem_of_getElem? (i := 37) rfl)) (fun _ h9 => h9) rfl dX10_text_361 ?_
                                          refine lv_icmp_ge (tgt := 385) hx hb dX10_text_364 (by decide) (fun g13 => ?_) (fun g13 => ?_)
                                          · have g13 : (un3.2.1 7).toInt ≤ s2_359.toInt := (q3_le rfl rfl).mp g13
                                            refine lv_aload_n hx hb dX10_text_385 rfl (lv_at hl 1 rfl) ?_
                                            refine lv_aload_n hx hb dX10_text_386 rfl (lv_at hl 1 rfl) ?_
                                            refine va_get (D := D) (ci := 10) (v := .int (un3.2.1 8)) (C := RX10) (T := TX10) (N := 66) hx hb hts iX10 hown hK hP 0 rfl rfl 49 (by decide) (hts (.fieldLink RX10 209 "ShortTellerModel" "rHeadings" "I") (List.mem_of_getElem? (i := 40) rfl)) (fun _ h9 => h9) rfl dX10_text_387 ?_
                                            refine va_put (D := D) (ci := 10) (v := .int (un3.2.1 8)) (ty := .int) (C := RX10) (T := TX10) (N := 66) hx hb hts iX10 tyX10 tyX10_ok nmX10 hown hK hP hD hS 0 rfl rfl 22 (by decide) (hts (.fieldLink RX10 242 "ShortTellerModel" "headings" "I") (List.mem_of_getElem? (i := 41) rfl)) (fun _ h9 => h9) rfl (by decide +kernel) rfl rfl (Nat.le_of_ble_eq_true rfl) dX10_text_390 (fun H locs hP hD hS => ?_)
                                            have hP : va_P D vwCl (wM c y a (0) (0) (un3.2.1 9) (un3.2.1 10) (un3.2.1 1) (un3.2.1 2) (un3.2.1 6) (un3.2.1 7) (un3.2.1 8) z_words_157 v_factBits v_known v_soundMany v_wholeLength (un3.2.1 0) x_n (un3.2.1 1) (un3.2.1 2) (un3.2.1 6) (un3.2.1 7) (un3.2.1 8) (un3.2.1 4) (un3.2.1 5) (un3.2.1 3) v_written v_named v_sorted f_tape y_kind_157 y_owner_157 y_from_157 y_size_157 y_means_157 y_signs_287 y_oKind_93 y_oIn_93 y_oList_93 y_oWords_157 y_oFacts_93 y_listIn_323 y_sOwner_359 f_hFacts f_weights f_lengths f_values (un3.2.2 0) (un3.2.2 1) (un3.2.2 2) (un3.2.2 3) (un3.2.2 4) (un3.2.2 5) (un3.2.2 6) (un3.2.2 7) (un3.2.2 8) (un3.2.2 15) (un3.2.2 18) (un3.2.2 16) (un3.2.2 17) (un3.2.2 9) (un3.2.2 10) (un3.2.2 11) (un3.2.2 12) (un3.2.2 13) (un3.2.2 14) f_out f_ranks) H := hP
                                            have hD : va_D A (wM c y a (0) (0) (un3.2.1 9) (un3.2.1 10) (un3.2.1 1) (un3.2.1 2) (un3.2.1 6) (un3.2.1 7) (un3.2.1 8) z_words_157 v_factBits v_known v_soundMany v_wholeLength (un3.2.1 0) x_n (un3.2.1 1) (un3.2.1 2) (un3.2.1 6) (un3.2.1 7) (un3.2.1 8) (un3.2.1 4) (un3.2.1 5) (un3.2.1 3) v_written v_named v_sorted f_tape y_kind_157 y_owner_157 y_from_157 y_size_157 y_means_157 y_signs_287 y_oKind_93 y_oIn_93 y_oList_93 y_oWords_157 y_oFacts_93 y_listIn_323 y_sOwner_359 f_hFacts f_weights f_lengths f_values (un3.2.2 0) (un3.2.2 1) (un3.2.2 2) (un3.2.2 3) (un3.2.2 4) (un3.2.2 5) (un3.2.2 6) (un3.2.2 7) (un3.2.2 8) (un3.2.2 15) (un3.2.2 18) (un3.2.2 16) (un3.2.2 17) (un3.2.2 9) (un3.2.2 10) (un3.2.2 11) (un3.2.2 12) (un3.2.2 13) (un3.2.2 14) f_out f_ranks) := hD
                                            refine lv_iconst (v := 0) hx hb dX10_text_393 (by decide) ?_
                                            refine lv_istore_n (lv' := [(2, .int 0), (0, .ref y), (1, .int x_n)]) hx hb dX10_text_394 rfl hl (by decide) rfl (fun ls hl => ?_)
                                            have lp395 : ∀ (k : Nat) (s2_395 : Int32) (y_hFacts_395 : Nat → Int32), (0 ≤ s2_395.toInt) → (s2_395.toInt ≤ 400) → 401 - s2_395.toInt < (k : Int) → ∀ (H : Heap) (locs : List Loc) (ls : Array Slot), va_P D vwCl (wM c y a (0) (0) (un3.2.1 9) (un3.2.1 10) (un3.2.1 1) (un3.2.1 2) (un3.2.1 6) (un3.2.1 7) (un3.2.1 8) z_words_157 v_factBits v_known v_soundMany v_wholeLength (un3.2.1 0) x_n (un3.2.1 1) (un3.2.1 2) (un3.2.1 6) (un3.2.1 7) (un3.2.1 8) (un3.2.1 4) (un3.2.1 5) (un3.2.1 3) v_written v_named v_sorted f_tape y_kind_157 y_owner_157 y_from_157 y_size_157 y_means_157 y_signs_287 y_oKind_93 y_oIn_93 y_oList_93 y_oWords_157 y_oFacts_93 y_listIn_323 y_sOwner_359 y_hFacts_395 f_weights f_lengths f_values (un3.2.2 0) (un3.2.2 1) (un3.2.2 2) (un3.2.2 3) (un3.2.2 4) (un3.2.2 5) (un3.2.2 6) (un3.2.2 7) (un3.2.2 8) (un3.2.2 15) (un3.2.2 18) (un3.2.2 16) (un3.2.2 17) (un3.2.2 9) (un3.2.2 10) (un3.2.2 11) (un3.2.2 12) (un3.2.2 13) (un3.2.2 14) f_out f_ranks) H → va_D A (wM c y a (0) (0) (un3.2.1 9) (un3.2.1 10) (un3.2.1 1) (un3.2.1 2) (un3.2.1 6) (un3.2.1 7) (un3.2.1 8) z_words_157 v_factBits v_known v_soundMany v_wholeLength (un3.2.1 0) x_n (un3.2.1 1) (un3.2.1 2) (un3.2.1 6) (un3.2.1 7) (un3.2.1 8) (un3.2.1 4) (un3.2.1 5) (un3.2.1 3) v_written v_named v_sorted f_tape y_kind_157 y_owner_157 y_from_157 y_size_157 y_means_157 y_signs_287 y_oKind_93 y_oIn_93 y_oList_93 y_oWords_157 y_oFacts_93 y_listIn_323 y_sOwner_359 y_hFacts_395 f_weights f_lengths f_values (un3.2.2 0) (un3.2.2 1) (un3.2.2 2) (un3.2.2 3) (un3.2.2 4) (un3.2.2 5) (un3.2.2 6) (un3.2.2 7) (un3.2.2 8) (un3.2.2 15) (un3.2.2 18) (un3.2.2 16) (un3.2.2 17) (un3.2.2 9) (un3.2.2 10) (un3.2.2 11) (un3.2.2 12) (un3.2.2 13) (un3.2.2 14) f_out f_ranks) → va_S A s.heap H locs → lv_has ls 4 [(2, .int s2_395), (0, .ref y), (1, .int x_n)] → W p l e ({ frames := 7, cells := 0, slots := 0, locals := 151 }) s m args below meth cd H locs 0 0 Q (F0 m 395 ls []) := by
                                              intro k
                                              induction k with
                                              | zero => intro s2_395 y_hFacts_395 j0_395 j1_395 hm; exfalso; omega
                                              | succ k ih_395 =>
                                                intro s2_395 y_hFacts_395 j0_395 j1_395 hm_395 H locs ls hP hD hS hl
                                                clear j0_359 j1_359 hm_359 g13
                                                refine lv_iload_n hx hb dX10_text_395 rfl (lv_at hl 0 rfl) ?_
                                                refine lv_aload_n hx hb dX10_text_396 rfl (lv_at hl 1 rfl) ?_
                                                refine va_get (D := D) (ci := 10) (v := .int (un3.2.1 8)) (C := RX10) (T := TX10) (N := 66) hx hb hts iX10 hown hK hP 0 rfl rfl 22 (by decide) (hts (.fieldLink RX10 242 "ShortTellerModel" "headings" "I") (List.mem_of_getElem? (i := 41) rfl)) (fun _ h9 => h9) rfl dX10_text_397 ?_
                                                refine lv_icmp_ge (tgt := 421) hx hb dX10_text_400 (by decide) (fun g14 => ?_) (fun g14 => ?_)
                                                · have g14 : (un3.2.1 8).toInt ≤ s2_395.toInt := (q3_le rfl rfl).mp g14
                                                  refine lv_aload_n hx hb dX10_text_421 rfl (lv_at hl 1 rfl) ?_
                                                  refine lv_iconst (v := 0) hx hb dX10_text_422 (by decide) ?_
                                                  refine va_put (D := D) (ci := 10) (v := .int 0) (ty := .int) (C := RX10) (T := TX10) (N := 66) hx hb hts iX10 tyX10 tyX10_ok nmX10 hown hK hP hD hS 0 rfl rfl 26 (by decide) (hts (.fieldLink RX10 245 "ShortTellerModel" "factBits" "I") (List.mem_of_getElem? (i := 44) rfl)) (fun _ h9 => h9) rfl (by decide +kernel) rfl rfl (Nat.le_of_ble_eq_true rfl) dX10_text_423 (fun H locs hP hD hS => ?_)
                                                  have hP : va_P D vwCl (wM c y a (0) (0) (un3.2.1 9) (un3.2.1 10) (un3.2.1 1) (un3.2.1 2) (un3.2.1 6) (un3.2.1 7) (un3.2.1 8) z_words_157 (0) v_known v_soundMany v_wholeLength (un3.2.1 0) x_n (un3.2.1 1) (un3.2.1 2) (un3.2.1 6) (un3.2.1 7) (un3.2.1 8) (un3.2.1 4) (un3.2.1 5) (un3.2.1 3) v_written v_named v_sorted f_tape y_kind_157 y_owner_157 y_from_157 y_size_157 y_means_157 y_signs_287 y_oKind_93 y_oIn_93 y_oList_93 y_oWords_157 y_oFacts_93 y_listIn_323 y_sOwner_359 y_hFacts_395 f_weights f_lengths f_values (un3.2.2 0) (un3.2.2 1) (un3.2.2 2) (un3.2.2 3) (un3.2.2 4) (un3.2.2 5) (un3.2.2 6) (un3.2.2 7) (un3.2.2 8) (un3.2.2 15) (un3.2.2 18) (un3.2.2 16) (un3.2.2 17) (un3.2.2 9) (un3.2.2 10) (un3.2.2 11) (un3.2.2 12) (un3.2.2 13) (un3.2.2 14) f_out f_ranks) H := hP
                                                  have hD : va_D A (wM c y a (0) (0) (un3.2.1 9) (un3.2.1 10) (un3.2.1 1) (un3.2.1 2) (un3.2.1 6) (un3.2.1 7) (un3.2.1 8) z_words_157 (0) v_known v_soundMany v_wholeLength (un3.2.1 0) x_n (un3.2.1 1) (un3.2.1 2) (un3.2.1 6) (un3.2.1 7) (un3.2.1 8) (un3.2.1 4) (un3.2.1 5) (un3.2.1 3) v_written v_named v_sorted f_tape y_kind_157 y_owner_157 y_from_157 y_size_157 y_means_157 y_signs_287 y_oKind_93 y_oIn_93 y_oList_93 y_oWords_157 y_oFacts_93 y_listIn_323 y_sOwner_359 y_hFacts_395 f_weights f_lengths f_values (un3.2.2 0) (un3.2.2 1) (un3.2.2 2) (un3.2.2 3) (un3.2.2 4) (un3.2.2 5) (un3.2.2 6) (un3.2.2 7) (un3.2.2 8) (un3.2.2 15) (un3.2.2 18) (un3.2.2 16) (un3.2.2 17) (un3.2.2 9) (un3.2.2 10) (un3.2.2 11) (un3.2.2 12) (un3.2.2 13) (un3.2.2 14) f_out f_ranks) := hD
                                                  refine lv_iconst (v := 0) hx hb dX10_text_426 (by decide) ?_
                                                  refine lv_istore_n (lv' := [(2, .int 0), (0, .ref y), (1, .int x_n)]) hx hb dX10_text_427 rfl hl (by decide) rfl (fun ls hl => ?_)
                                                  have lp428 : ∀ (k : Nat) (s2_428 : Int32) (z_factBits_428 : Int32) (y_weights_428 : Nat → Int32), (0 ≤ s2_428.toInt) → (s2_428.toInt ≤ 31) → 32 - s2_428.toInt < (k : Int) → ∀ (H : Heap) (locs : List Loc) (ls : Array Slot), va_P D vwCl (wM c y a (0) (0) (un3.2.1 9) (un3.2.1 10) (un3.2.1 1) (un3.2.1 2) (un3.2.1 6) (un3.2.1 7) (un3.2.1 8) z_words_157 z_factBits_428 v_known v_soundMany v_wholeLength (un3.2.1 0) x_n (un3.2.1 1) (un3.2.1 2) (un3.2.1 6) (un3.2.1 7) (un3.2.1 8) (un3.2.1 4) (un3.2.1 5) (un3.2.1 3) v_written v_named v_sorted f_tape y_kind_157 y_owner_157 y_from_157 y_size_157 y_means_157 y_signs_287 y_oKind_93 y_oIn_93 y_oList_93 y_oWords_157 y_oFacts_93 y_listIn_323 y_sOwner_359 y_hFacts_395 y_weights_428 f_lengths f_values (un3.2.2 0) (un3.2.2 1) (un3.2.2 2) (un3.2.2 3) (un3.2.2 4) (un3.2.2 5) (un3.2.2 6) (un3.2.2 7) (un3.2.2 8) (un3.2.2 15) (un3.2.2 18) (un3.2.2 16) (un3.2.2 17) (un3.2.2 9) (un3.2.2 10) (un3.2.2 11) (un3.2.2 12) (un3.2.2 13) (un3.2.2 14) f_out f_ranks) H → va_D A (wM c y a (0) (0) (un3.2.1 9) (un3.2.1 10) (un3.2.1 1) (un3.2.1 2) (un3.2.1 6) (un3.2.1 7) (un3.2.1 8) z_words_157 z_factBits_428 v_known v_soundMany v_wholeLength (un3.2.1 0) x_n (un3.2.1 1) (un3.2.1 2) (un3.2.1 6) (un3.2.1 7) (un3.2.1 8) (un3.2.1 4) (un3.2.1 5) (un3.2.1 3) v_written v_named v_sorted f_tape y_kind_157 y_owner_157 y_from_157 y_size_157 y_means_157 y_signs_287 y_oKind_93 y_oIn_93 y_oList_93 y_oWords_157 y_oFacts_93 y_listIn_323 y_sOwner_359 y_hFacts_395 y_weights_428 f_lengths f_values (un3.2.2 0) (un3.2.2 1) (un3.2.2 2) (un3.2.2 3) (un3.2.2 4) (un3.2.2 5) (un3.2.2 6) (un3.2.2 7) (un3.2.2 8) (un3.2.2 15) (un3.2.2 18) (un3.2.2 16) (un3.2.2 17) (un3.2.2 9) (un3.2.2 10) (un3.2.2 11) (un3.2.2 12) (un3.2.2 13) (un3.2.2 14) f_out f_ranks) → va_S A s.heap H locs → lv_has ls 4 [(2, .int s2_428), (0, .ref y), (1, .int x_n)] → W p l e ({ frames := 7, cells := 0, slots := 0, locals := 151 }) s m args below meth cd H locs 0 0 Q (F0 m 428 ls []) := by
                                                    intro k
                                                    induction k with
                                                    | zero => intro s2_428 z_factBits_428 y_weights_428 j0_428 j1_428 hm; exfalso; omega
                                                    | succ k ih_428 =>
                                                      intro s2_428 z_factBits_428 y_weights_428 j0_428 j1_428 hm_428 H locs ls hP hD hS hl
                                                      clear j0_395 j1_395 hm_395 g14
                                                      refine lv_iload_n hx hb dX10_text_428 rfl (lv_at hl 0 rfl) ?_
                                                      refine lv_bipush (v := 31) hx hb dX10_text_429 (by decide) ?_
                                                      refine lv_icmp_ge (tgt := 477) hx hb dX10_text_431 (by decide) (fun g15 => ?_) (fun g15 => ?_)
                                                      · have g15 : (31 : Int) ≤ s2_428.toInt := (q3_le (by decide) rfl).mp g15
                                                        refine lv_aload_n hx hb dX10_text_477 rfl (lv_at hl 1 rfl) ?_
                                                        refine lv_iconst (v := 0) hx hb dX10_text_478 (by decide) ?_
                                                        refine va_put (D := D) (ci := 10) (v := .int 0) (ty := .int) (C := RX10) (T := TX10) (N := 66) hx hb hts iX10 tyX10 tyX10_ok nmX10 hown hK hP hD hS 0 rfl rfl 27 (by decide) (hts (.fieldLink RX10 248 "ShortTellerModel" "known" "I") (List.mem_of_getElem? (i := 47) rfl)) (fun _ h9 => h9) rfl (by decide +kernel) rfl rfl (Nat.le_of_ble_eq_true rfl) dX10_text_479 (fun H locs hP hD hS => ?_)
                                                        have hP : va_P D vwCl (wM c y a (0) (0) (un3.2.1 9) (un3.2.1 10) (un3.2.1 1) (un3.2.1 2) (un3.2.1 6) (un3.2.1 7) (un3.2.1 8) z_words_157 z_factBits_428 (0) v_soundMany v_wholeLength (un3.2.1 0) x_n (un3.2.1 1) (un3.2.1 2) (un3.2.1 6) (un3.2.1 7) (un3.2.1 8) (un3.2.1 4) (un3.2.1 5) (un3.2.1 3) v_written v_named v_sorted f_tape y_kind_157 y_owner_157 y_from_157 y_size_157 y_means_157 y_signs_287 y_oKind_93 y_oIn_93 y_oList_93 y_oWords_157 y_oFacts_93 y_listIn_323 y_sOwner_359 y_hFacts_395 y_weights_428 f_lengths f_values (un3.2.2 0) (un3.2.2 1) (un3.2.2 2) (un3.2.2 3) (un3.2.2 4) (un3.2.2 5) (un3.2.2 6) (un3.2.2 7) (un3.2.2 8) (un3.2.2 15) (un3.2.2 18) (un3.2.2 16) (un3.2.2 17) (un3.2.2 9) (un3.2.2 10) (un3.2.2 11) (un3.2.2 12) (un3.2.2 13) (un3.2.2 14) f_out f_ranks) H := hP
                                                        have hD : va_D A (wM c y a (0) (0) (un3.2.1 9) (un3.2.1 10) (un3.2.1 1) (un3.2.1 2) (un3.2.1 6) (un3.2.1 7) (un3.2.1 8) z_words_157 z_factBits_428 (0) v_soundMany v_wholeLength (un3.2.1 0) x_n (un3.2.1 1) (un3.2.1 2) (un3.2.1 6) (un3.2.1 7) (un3.2.1 8) (un3.2.1 4) (un3.2.1 5) (un3.2.1 3) v_written v_named v_sorted f_tape y_kind_157 y_owner_157 y_from_157 y_size_157 y_means_157 y_signs_287 y_oKind_93 y_oIn_93 y_oList_93 y_oWords_157 y_oFacts_93 y_listIn_323 y_sOwner_359 y_hFacts_395 y_weights_428 f_lengths f_values (un3.2.2 0) (un3.2.2 1) (un3.2.2 2) (un3.2.2 3) (un3.2.2 4) (un3.2.2 5) (un3.2.2 6) (un3.2.2 7) (un3.2.2 8) (un3.2.2 15) (un3.2.2 18) (un3.2.2 16) (un3.2.2 17) (un3.2.2 9) (un3.2.2 10) (un3.2.2 11) (un3.2.2 12) (un3.2.2 13) (un3.2.2 14) f_out f_ranks) := hD
                                                        refine lv_aload_n hx hb dX10_text_482 rfl (lv_at hl 1 rfl) ?_
                                                        refine q3_cv (va_runV (As := []) (rest := []) ⟨hx, hb, hml, hown, hts⟩ (y3_finish l D c H.size y a (0) (0) (un3.2.1 9) (un3.2.1 10) (un3.2.1 1) (un3.2.1 2) (un3.2.1 6) (un3.2.1 7) (un3.2.1 8) z_words_157 z_factBits_428 (0) v_soundMany v_wholeLength (un3.2.1 0) x_n (un3.2.1 1) (un3.2.1 2) (un3.2.1 6) (un3.2.1 7) (un3.2.1 8) (un3.2.1 4) (un3.2.1 5) (un3.2.1 3) v_written v_named v_sorted f_tape y_kind_157 y_owner_157 y_from_157 y_size_157 y_means_157 y_signs_287 y_oKind_93 y_oIn_93 y_oList_93 y_oWords_157 y_oFacts_93 y_listIn_323 y_sOwner_359 y_hFacts_395 y_weights_428 f_lengths f_values (un3.2.2 0) (un3.2.2 1) (un3.2.2 2) (un3.2.2 3) (un3.2.2 4) (un3.2.2 5) (un3.2.2 6) (un3.2.2 7) (un3.2.2 8) (un3.2.2 15) (un3.2.2 18) (un3.2.2 16) (un3.2.2 17) (un3.2.2 9) (un3.2.2 10) (un3.2.2 11) (un3.2.2 12) (un3.2.2 13) (un3.2.2 14) f_out f_ranks pn3_3 pn3_4 (show 0 ≤ (un3.2.1 6).toInt by omega) (show (un3.2.1 6).toInt ≤ 14 by omega) (show 0 ≤ (un3.2.1 7).toInt by omega) (show (un3.2.1 7).toInt ≤ 414 by omega) pn3_1 pn3_2 (show q4_s y_kind_157 y_size_157 (Int.toNat (un3.2.1 1).toInt) ≤ 8456 by omega) (show q4_n y_kind_157 (Int.toNat (un3.2.1 1).toInt) ≤ (un3.2.1 7).toInt by omega) j2_359 h18 j3_157) (cwV 0 hts gX10_text_X10_finish rfl rfl rfl (by decide +kernel) ⟨Nat.le_of_ble_eq_true rfl, Nat.le_of_ble_eq_true rfl⟩) (q3_preV (c := c) (ci := 10) (q0 := 0) hP hK hD rfl rfl) rfl rfl hl.1 rfl (lv_room (Nat.le_of_ble_eq_true rfl)) dX10_text_483 ⟨Nat.le_of_ble_eq_true rfl, Nat.le_of_ble_eq_true rfl⟩) hD hS hA (fun un16 H locs pn16 hP hD hS => ?_)
                                                        have pn16 : (0 ≤ (un16.2.1 0).toInt) ∧ ((un16.2.1 0).toInt ≤ 16384) ∧ (∀ j : Nat, ((un16.2.2 0) j).toInt ≤ 10000) ∧ True := pn16
                                                        obtain ⟨pn16_0, pn16_1, pn16_2, -⟩ := pn16
                                                        have hP : va_P D vwCl (wM c y a (0) (0) (un3.2.1 9) (un3.2.1 10) (un3.2.1 1) (un3.2.1 2) (un3.2.1 6) (un3.2.1 7) (un3.2.1 8) z_words_157 z_factBits_428 (0) (un16.2.1 0) (un16.2.1 3) (un3.2.1 0) x_n (un3.2.1 1) (un3.2.1 2) (un3.2.1 6) (un3.2.1 7) (un3.2.1 8) (un3.2.1 4) (un3.2.1 5) (un3.2.1 3) (un16.2.1 1) (un16.2.1 2) (un16.2.1 4) f_tape y_kind_157 y_owner_157 y_from_157 y_size_157 y_means_157 y_signs_287 y_oKind_93 y_oIn_93 y_oList_93 y_oWords_157 y_oFacts_93 y_listIn_323 y_sOwner_359 y_hFacts_395 y_weights_428 (un16.2.2 0) (un16.2.2 2) (un3.2.2 0) (un3.2.2 1) (un3.2.2 2) (un3.2.2 3) (un3.2.2 4) (un3.2.2 5) (un3.2.2 6) (un3.2.2 7) (un3.2.2 8) (un3.2.2 15) (un3.2.2 18) (un3.2.2 16) (un3.2.2 17) (un3.2.2 9) (un3.2.2 10) (un3.2.2 11) (un3.2.2 12) (un3.2.2 13) (un3.2.2 14) (un16.2.2 1) f_ranks) H := hP
                                                        have hD : va_D A (wM c y a (0) (0) (un3.2.1 9) (un3.2.1 10) (un3.2.1 1) (un3.2.1 2) (un3.2.1 6) (un3.2.1 7) (un3.2.1 8) z_words_157 z_factBits_428 (0) (un16.2.1 0) (un16.2.1 3) (un3.2.1 0) x_n (un3.2.1 1) (un3.2.1 2) (un3.2.1 6) (un3.2.1 7) (un3.2.1 8) (un3.2.1 4) (un3.2.1 5) (un3.2.1 3) (un16.2.1 1) (un16.2.1 2) (un16.2.1 4) f_tape y_kind_157 y_owner_157 y_from_157 y_size_157 y_means_157 y_signs_287 y_oKind_93 y_oIn_93 y_oList_93 y_oWords_157 y_oFacts_93 y_listIn_323 y_sOwner_359 y_hFacts_395 y_weights_428 (un16.2.2 0) (un16.2.2 2) (un3.2.2 0) (un3.2.2 1) (un3.2.2 2) (un3.2.2 3) (un3.2.2 4) (un3.2.2 5) (un3.2.2 6) (un3.2.2 7) (un3.2.2 8) (un3.2.2 15) (un3.2.2 18) (un3.2.2 16) (un3.2.2 17) (un3.2.2 9) (un3.2.2 10) (un3.2.2 11) (un3.2.2 12) (un3.2.2 13) (un3.2.2 14) (un16.2.2 1) f_ranks) := hD
                                                        refine lv_aload_n hx hb dX10_text_486 rfl (lv_at hl 1 rfl) ?_
                                                        refine va_get (D := D) (ci := 10) (v := .int (un3.2.1 2)) (C := RX10) (T := TX10) (N := 66) hx hb hts iX10 hown hK hP 0 rfl rfl 12 (by decide) (hts (.fieldLink RX10 233 "ShortTellerModel" "options" "I") (List.mem_of_getElem? (i := 11) rfl)) (fun _ h9 => h9) rfl dX10_text_487 ?_
                                                        exact hret (un3.2.1 2) (q2_u [] [0, x_n, 0, un3.2.1 9, un3.2.1 10, un3.2.1 0, un3.2.1 1, un3.2.1 2, un3.2.1 3, un3.2.1 4, un3.2.1 5, un3.2.1 6, un3.2.1 7, un3.2.1 8, un3.2.1 1, z_words_157, un3.2.1 2, un3.2.1 6, un3.2.1 7, un3.2.1 8, z_factBits_428, 0, un16.2.1 0, un16.2.1 1, un16.2.1 2, un16.2.1 3, un16.2.1 4] [un3.2.2 0, un3.2.2 1, un3.2.2 2, un3.2.2 3, un3.2.2 4, un3.2.2 5, un3.2.2 6, un3.2.2 7, un3.2.2 8, un3.2.2 9, un3.2.2 10, un3.2.2 11, un3.2.2 12, un3.2.2 13, un3.2.2 14, un3.2.2 15, un3.2.2 16, un3.2.2 17, un3.2.2 18, y_oWords_157, y_oKind_93, y_oIn_93, y_oList_93, y_oFacts_93, y_kind_157, y_owner_157, y_from_157, y_size_157, y_means_157, y_signs_287, y_listIn_323, y_sOwner_359, y_hFacts_395, y_weights_428, un16.2.2 0, un16.2.2 1, un16.2.2 2]) _ _ _ _ ⟨pn3_3, pn3_4, (show 0 ≤ (un3.2.1 6).toInt by omega), (show (un3.2.1 6).toInt ≤ 14 by omega), (show 0 ≤ (un3.2.1 7).toInt by omega), (show (un3.2.1 7).toInt ≤ 414 by omega), pn3_1, pn3_2, (show q4_s y_kind_157 y_size_157 (Int.toNat (un3.2.1 1).toInt) ≤ 8456 by omega), (show q4_n y_kind_157 (Int.toNat (un3.2.1 1).toInt) ≤ (un3.2.1 7).toInt by omega), (show 0 ≤ (0 : Int) by omega), (show (0 : Int) ≤ 800 by omega), pn16_0, pn16_1, (show ((x_n.toInt < 0 ∨ v_tapeSize.toInt < x_n.toInt) ∧ (0 : Int) = v_tapeSize.toInt) ∨ (0 ≤ x_n.toInt ∧ x_n.toInt ≤ v_tapeSize.toInt ∧ (0 : Int) = 0) by omega), (show ((x_n.toInt < 0 ∨ v_tapeSize.toInt < x_n.toInt) ∧ (un3.2.1 2).toInt = -2 ∧ (un3.2.1 9).toInt = v_fault.toInt ∧ (un3.2.1 10).toInt = v_faultPlace.toInt) ∨ (0 ≤ x_n.toInt ∧ x_n.toInt ≤ v_tapeSize.toInt ∧ (((un3.2.1 9).toInt ≠ 0 ∧ (un3.2.1 2).toInt = -1) ∨ ((un3.2.1 9).toInt = 0 ∧ (un3.2.1 10).toInt = -1 ∧ (un3.2.1 2).toInt = (un3.2.1 2).toInt))) by omega), pn3_7, pn3_8, j2_359, pn16_2, (show e_TX x_n.toInt v_tapeSize.toInt f_tape (un3.2.1 9).toInt (un3.2.1 10).toInt (un3.2.1 2).toInt from fun _ _ => pn3_9), pn3_10, j3_157, trivial⟩ dX10_text_490 hP hD hS
                                                      · have g15 : ¬ (31 : Int) ≤ s2_428.toInt := (not_congr (q3_le (by decide) rfl)).mp g15
                                                        refine lv_aload_n hx hb dX10_text_434 rfl (lv_at hl 1 rfl) ?_
                                                        refine va_get (D := D) (ci := 10) (v := .ref (a 15)) (C := RX10) (T := TX10) (N := 66) hx hb hts iX10 hown hK hP 0 rfl rfl 25 (by decide) (hts (.fieldLink RX10 59 "ShortTellerModel" "weights" "[I") (List.mem_of_getElem? (i := 45) rfl)) (fun _ h9 => h9) rfl dX10_text_435 ?_
                                                        refine lv_iload_n hx hb dX10_text_438 rfl (lv_at hl 0 rfl) ?_
                                                        refine lv_aload_n hx hb dX10_text_439 rfl (lv_at hl 1 rfl) ?_
                                                        refine va_get (D := D) (ci := 10) (v := .ref (a 30)) (C := RX10) (T := TX10) (N := 66) hx hb hts iX10 hown hK hP 0 rfl rfl 51 (by decide) (hts (.fieldLink RX10 104 "ShortTellerModel" "rWeights" "[I") (List.mem_of_getElem? (i := 46) rfl)) (fun _ h9 => h9) rfl dX10_text_440 ?_
                                                        refine lv_iload_n hx hb dX10_text_443 rfl (lv_at hl 0 rfl) ?_
                                                        refine q3_iald (c := c) hx hb hK hP 31 rfl (q2_in (by omega) (by omega)) dX10_text_444 (fun n17 en17 => ?_)
                                                        have tn17 : n17.toInt = ((un3.2.2 17) s2_428.toNatClampNeg).toInt := by rw [en17]
                                                        refine q3_iast (c := c) hx hb hK hP hD hS 16 rfl (q2_in (by omega) (by omega)) dX10_text_445 (fun F18 eF18 H locs hP hD hS => ?_)
                                                        have hP : va_P D vwCl (wM c y a (0) (0) (un3.2.1 9) (un3.2.1 10) (un3.2.1 1) (un3.2.1 2) (un3.2.1 6) (un3.2.1 7) (un3.2.1 8) z_words_157 z_factBits_428 v_known v_soundMany v_wholeLength (un3.2.1 0) x_n (un3.2.1 1) (un3.2.1 2) (un3.2.1 6) (un3.2.1 7) (un3.2.1 8) (un3.2.1 4) (un3.2.1 5) (un3.2.1 3) v_written v_named v_sorted f_tape y_kind_157 y_owner_157 y_from_157 y_size_157 y_means_157 y_signs_287 y_oKind_93 y_oIn_93 y_oList_93 y_oWords_157 y_oFacts_93 y_listIn_323 y_sOwner_359 y_hFacts_395 F18 f_lengths f_values (un3.2.2 0) (un3.2.2 1) (un3.2.2 2) (un3.2.2 3) (un3.2.2 4) (un3.2.2 5) (un3.2.2 6) (un3.2.2 7) (un3.2.2 8) (un3.2.2 15) (un3.2.2 18) (un3.2.2 16) (un3.2.2 17) (un3.2.2 9) (un3.2.2 10) (un3.2.2 11) (un3.2.2 12) (un3.2.2 13) (un3.2.2 14) f_out f_ranks) H := hP
                                                        have hD : va_D A (wM c y a (0) (0) (un3.2.1 9) (un3.2.1 10) (un3.2.1 1) (un3.2.1 2) (un3.2.1 6) (un3.2.1 7) (un3.2.1 8) z_words_157 z_factBits_428 v_known v_soundMany v_wholeLength (un3.2.1 0) x_n (un3.2.1 1) (un3.2.1 2) (un3.2.1 6) (un3.2.1 7) (un3.2.1 8) (un3.2.1 4) (un3.2.1 5) (un3.2.1 3) v_written v_named v_sorted f_tape y_kind_157 y_owner_157 y_from_157 y_size_157 y_means_157 y_signs_287 y_oKind_93 y_oIn_93 y_oList_93 y_oWords_157 y_oFacts_93 y_listIn_323 y_sOwner_359 y_hFacts_395 F18 f_lengths f_values (un3.2.2 0) (un3.2.2 1) (un3.2.2 2) (un3.2.2 3) (un3.2.2 4) (un3.2.2 5) (un3.2.2 6) (un3.2.2 7) (un3.2.2 8) (un3.2.2 15) (un3.2.2 18) (un3.2.2 16) (un3.2.2 17) (un3.2.2 9) (un3.2.2 10) (un3.2.2 11) (un3.2.2 12) (un3.2.2 13) (un3.2.2 14) f_out f_ranks) := hD
                                                        refine lv_aload_n hx hb dX10_text_446 rfl (lv_at hl 1 rfl) ?_
                                                        refine lv_dup hx hb dX10_text_447 rfl ?_
                                                        refine va_get (D := D) (ci := 10) (v := .int z_factBits_428) (C := RX10) (T := TX10) (N := 66) hx hb hts iX10 hown hK hP 0 rfl rfl 26 (by decide) (hts (.fieldLink RX10 245 "ShortTellerModel" "factBits" "I") (List.mem_of_getElem? (i := 44) rfl)) (fun _ h9 => h9) rfl dX10_text_448 ?_
                                                        refine lv_aload_n hx hb dX10_text_451 rfl (lv_at hl 1 rfl) ?_
                                                        refine va_get (D := D) (ci := 10) (v := .ref (a 15)) (C := RX10) (T := TX10) (N := 66) hx hb hts iX10 hown hK hP 0 rfl rfl 25 (by decide) (hts (.fieldLink RX10 59 "ShortTellerModel" "weights" "[I") (List.mem_of_getElem? (i := 45) rfl)) (fun _ h9 => h9) rfl dX10_text_452 ?_
                                                        refine lv_iload_n hx hb dX10_text_455 rfl (lv_at hl 0 rfl) ?_
                                                        refine q3_iald (c := c) hx hb hK hP 16 rfl (q2_in (by omega) (by omega)) dX10_text_456 (fun n19 en19 => ?_)
                                                        have tn19 : n19.toInt = (F18 s2_428.toNatClampNeg).toInt := by rw [en19]
                                                        refine lv_if_le (tgt := 466) hx hb dX10_text_457 (by decide) (fun g20 => ?_) (fun g20 => ?_)
                                                        · have g20 : n19.toInt ≤ (0 : Int) := (q3_le rfl (by decide)).mp g20
                                                          refine lv_iconst (v := 0) hx hb dX10_text_466 (by decide) ?_
                                                          refine lv_ior hx hb dX10_text_467 ?_
                                                          refine lv_topi (fun n21 en21 => ?_)
                                                          refine va_put (D := D) (ci := 10) (v := .int n21) (ty := .int) (C := RX10) (T := TX10) (N := 66) hx hb hts iX10 tyX10 tyX10_ok nmX10 hown hK hP hD hS 0 rfl rfl 26 (by decide) (hts (.fieldLink RX10 245 "ShortTellerModel" "factBits" "I") (List.mem_of_getElem? (i := 44) rfl)) (fun _ h9 => h9) rfl (by decide +kernel) rfl rfl (Nat.le_of_ble_eq_true rfl) dX10_text_468 (fun H locs hP hD hS => ?_)
                                                          have hP : va_P D vwCl (wM c y a (0) (0) (un3.2.1 9) (un3.2.1 10) (un3.2.1 1) (un3.2.1 2) (un3.2.1 6) (un3.2.1 7) (un3.2.1 8) z_words_157 n21 v_known v_soundMany v_wholeLength (un3.2.1 0) x_n (un3.2.1 1) (un3.2.1 2) (un3.2.1 6) (un3.2.1 7) (un3.2.1 8) (un3.2.1 4) (un3.2.1 5) (un3.2.1 3) v_written v_named v_sorted f_tape y_kind_157 y_owner_157 y_from_157 y_size_157 y_means_157 y_signs_287 y_oKind_93 y_oIn_93 y_oList_93 y_oWords_157 y_oFacts_93 y_listIn_323 y_sOwner_359 y_hFacts_395 F18 f_lengths f_values (un3.2.2 0) (un3.2.2 1) (un3.2.2 2) (un3.2.2 3) (un3.2.2 4) (un3.2.2 5) (un3.2.2 6) (un3.2.2 7) (un3.2.2 8) (un3.2.2 15) (un3.2.2 18) (un3.2.2 16) (un3.2.2 17) (un3.2.2 9) (un3.2.2 10) (un3.2.2 11) (un3.2.2 12) (un3.2.2 13) (un3.2.2 14) f_out f_ranks) H := hP
                                                          have hD : va_D A (wM c y a (0) (0) (un3.2.1 9) (un3.2.1 10) (un3.2.1 1) (un3.2.1 2) (un3.2.1 6) (un3.2.1 7) (un3.2.1 8) z_words_157 n21 v_known v_soundMany v_wholeLength (un3.2.1 0) x_n (un3.2.1 1) (un3.2.1 2) (un3.2.1 6) (un3.2.1 7) (un3.2.1 8) (un3.2.1 4) (un3.2.1 5) (un3.2.1 3) v_written v_named v_sorted f_tape y_kind_157 y_owner_157 y_from_157 y_size_157 y_means_157 y_signs_287 y_oKind_93 y_oIn_93 y_oList_93 y_oWords_157 y_oFacts_93 y_listIn_323 y_sOwner_359 y_hFacts_395 F18 f_lengths f_values (un3.2.2 0) (un3.2.2 1) (un3.2.2 2) (un3.2.2 3) (un3.2.2 4) (un3.2.2 5) (un3.2.2 6) (un3.2.2 7) (un3.2.2 8) (un3.2.2 15) (un3.2.2 18) (un3.2.2 16) (un3.2.2 17) (un3.2.2 9) (un3.2.2 10) (un3.2.2 11) (un3.2.2 12) (un3.2.2 13) (un3.2.2 14) f_out f_ranks) := hD
                                                          obtain ⟨n22, en22⟩ : ∃ z : Int32, z = s2_428 + (1) := ⟨_, rfl⟩
                                                          have tn22 : n22.toInt = s2_428.toInt + (1 : Int) := q3_add en22 rfl (by decide) (by omega) (by omega)
                                                          refine lv_iinc (v := n22) (lv' := [(2, .int n22), (0, .ref y), (1, .int x_n)]) hx hb dX10_text_471 hl (k := 0) rfl (by rw [en22]; rfl) (by decide) rfl (fun ls hl => ?_)
                                                          refine lv_goto (tgt := 428) hx hb dX10_text_474 (by decide) ?_
                                                          exact ih_428 n22 n21 F18 (show 0 ≤ n22.toInt by omega) (show n22.toInt ≤ 31 by omega) (show 32 - n22.toInt < _ by omega) _ _ _ hP hD hS hl
                                                        · have g20 : ¬ n19.toInt ≤ (0 : Int) := (not_congr (q3_le rfl (by decide))).mp g20
                                                          refine lv_iconst (v := 1) hx hb dX10_text_460 (by decide) ?_
                                                          refine lv_iload_n hx hb dX10_text_461 rfl (lv_at hl 0 rfl) ?_
                                                          refine lv_ishl hx hb dX10_text_462 ?_
                                                          refine lv_topi (fun n23 en23 => ?_)
                                                          refine lv_goto (tgt := 467) hx hb dX10_text_463 (by decide) ?_
                                                          refine lv_ior hx hb dX10_text_467 ?_
                                                          refine lv_topi (fun n24 en24 => ?_)
                                                          refine va_put (D := D) (ci := 10) (v := .int n24) (ty := .int) (C := RX10) (T := TX10) (N := 66) hx hb hts iX10 tyX10 tyX10_ok nmX10 hown hK hP hD hS 0 rfl rfl 26 (by decide) (hts (.fieldLink RX10 245 "ShortTellerModel" "factBits" "I") (List.mem_of_getElem? (i := 44) rfl)) (fun _ h9 => h9) rfl (by decide +kernel) rfl rfl (Nat.le_of_ble_eq_true rfl) dX10_text_468 (fun H locs hP hD hS => ?_)
                                                          have hP : va_P D vwCl (wM c y a (0) (0) (un3.2.1 9) (un3.2.1 10) (un3.2.1 1) (un3.2.1 2) (un3.2.1 6) (un3.2.1 7) (un3.2.1 8) z_words_157 n24 v_known v_soundMany v_wholeLength (un3.2.1 0) x_n (un3.2.1 1) (un3.2.1 2) (un3.2.1 6) (un3.2.1 7) (un3.2.1 8) (un3.2.1 4) (un3.2.1 5) (un3.2.1 3) v_written v_named v_sorted f_tape y_kind_157 y_owner_157 y_from_157 y_size_157 y_means_157 y_signs_287 y_oKind_93 y_oIn_93 y_oList_93 y_oWords_157 y_oFacts_93 y_listIn_323 y_sOwner_359 y_hFacts_395 F18 f_lengths f_values (un3.2.2 0) (un3.2.2 1) (un3.2.2 2) (un3.2.2 3) (un3.2.2 4) (un3.2.2 5) (un3.2.2 6) (un3.2.2 7) (un3.2.2 8) (un3.2.2 15) (un3.2.2 18) (un3.2.2 16) (un3.2.2 17) (un3.2.2 9) (un3.2.2 10) (un3.2.2 11) (un3.2.2 12) (un3.2.2 13) (un3.2.2 14) f_out f_ranks) H := hP
                                                          have hD : va_D A (wM c y a (0) (0) (un3.2.1 9) (un3.2.1 10) (un3.2.1 1) (un3.2.1 2) (un3.2.1 6) (un3.2.1 7) (un3.2.1 8) z_words_157 n24 v_known v_soundMany v_wholeLength (un3.2.1 0) x_n (un3.2.1 1) (un3.2.1 2) (un3.2.1 6) (un3.2.1 7) (un3.2.1 8) (un3.2.1 4) (un3.2.1 5) (un3.2.1 3) v_written v_named v_sorted f_tape y_kind_157 y_owner_157 y_from_157 y_size_157 y_means_157 y_signs_287 y_oKind_93 y_oIn_93 y_oList_93 y_oWords_157 y_oFacts_93 y_listIn_323 y_sOwner_359 y_hFacts_395 F18 f_lengths f_values (un3.2.2 0) (un3.2.2 1) (un3.2.2 2) (un3.2.2 3) (un3.2.2 4) (un3.2.2 5) (un3.2.2 6) (un3.2.2 7) (un3.2.2 8) (un3.2.2 15) (un3.2.2 18) (un3.2.2 16) (un3.2.2 17) (un3.2.2 9) (un3.2.2 10) (un3.2.2 11) (un3.2.2 12) (un3.2.2 13) (un3.2.2 14) f_out f_ranks) := hD
                                                          obtain ⟨n25, en25⟩ : ∃ z : Int32, z = s2_428 + (1) := ⟨_, rfl⟩
                                                          have tn25 : n25.toInt = s2_428.toInt + (1 : Int) := q3_add en25 rfl (by decide) (by omega) (by omega)
                                                          refine lv_iinc (v := n25) (lv' := [(2, .int n25), (0, .ref y), (1, .int x_n)]) hx hb dX10_text_471 hl (k := 0) rfl (by rw [en25]; rfl) (by decide) rfl (fun ls hl => ?_)
                                                          refine lv_goto (tgt := 428) hx hb dX10_text_474 (by decide) ?_
                                                          exact ih_428 n25 n24 F18 (show 0 ≤ n25.toInt by omega) (show n25.toInt ≤ 31 by omega) (show 32 - n25.toInt < _ by omega) _ _ _ hP hD hS hl
                                                  exact lp428 (Int.toNat (32 - (0 : Int)) + 1) (0) (0) f_weights (show 0 ≤ (0 : Int) by omega) (show (0 : Int) ≤ 31 by omega) (show 32 - (0 : Int) < ((Int.toNat (32 - (0 : Int)) + 1 : Nat) : Int) by omega) _ _ _ hP hD hS hl
                                                · have g14 : ¬ (un3.2.1 8).toInt ≤ s2_395.toInt := (not_congr (q3_le rfl rfl)).mp g14
                                                  refine lv_aload_n hx hb dX10_text_403 rfl (lv_at hl 1 rfl) ?_
                                                  refine va_get (D := D) (ci := 10) (v := .ref (a 14)) (C := RX10) (T := TX10) (N := 66) hx hb hts iX10 hown hK hP 0 rfl rfl 23 (by decide) (hts (.fieldLink RX10 56 "ShortTellerModel" "hFacts" "[I") (List.mem_of_getElem? (i := 42) rfl)) (fun _ h9 => h9) rfl dX10_text_404 ?_
                                                  refine lv_iload_n hx hb dX10_text_407 rfl (lv_at hl 0 rfl) ?_
                                                  refine lv_aload_n hx hb dX10_text_408 rfl (lv_at hl 1 rfl) ?_
                                                  refine va_get (D := D) (ci := 10) (v := .ref (a 29)) (C := RX10) (T := TX10) (N := 66) hx hb hts iX10 hown hK hP 0 rfl rfl 50 (by decide) (hts (.fieldLink RX10 101 "ShortTellerModel" "rHFacts" "[I") (List.mem_of_getElem? (i := 43) rfl)) (fun _ h9 => h9) rfl dX10_text_409 ?_
                                                  refine lv_iload_n hx hb dX10_text_412 rfl (lv_at hl 0 rfl) ?_
                                                  refine q3_iald (c := c) hx hb hK hP 30 rfl (q2_in (by omega) (by omega)) dX10_text_413 (fun n26 en26 => ?_)
                                                  have tn26 : n26.toInt = ((un3.2.2 16) s2_395.toNatClampNeg).toInt := by rw [en26]
                                                  refine q3_iast (c := c) hx hb hK hP hD hS 15 rfl (q2_in (by omega) (by omega)) dX10_text_414 (fun F27 eF27 H locs hP hD hS => ?_)
                                                  have hP : va_P D vwCl (wM c y a (0) (0) (un3.2.1 9) (un3.2.1 10) (un3.2.1 1) (un3.2.1 2) (un3.2.1 6) (un3.2.1 7) (un3.2.1 8) z_words_157 v_factBits v_known v_soundMany v_wholeLength (un3.2.1 0) x_n (un3.2.1 1) (un3.2.1 2) (un3.2.1 6) (un3.2.1 7) (un3.2.1 8) (un3.2.1 4) (un3.2.1 5) (un3.2.1 3) v_written v_named v_sorted f_tape y_kind_157 y_owner_157 y_from_157 y_size_157 y_means_157 y_signs_287 y_oKind_93 y_oIn_93 y_oList_93 y_oWords_157 y_oFacts_93 y_listIn_323 y_sOwner_359 F27 f_weights f_lengths f_values (un3.2.2 0) (un3.2.2 1) (un3.2.2 2) (un3.2.2 3) (un3.2.2 4) (un3.2.2 5) (un3.2.2 6) (un3.2.2 7) (un3.2.2 8) (un3.2.2 15) (un3.2.2 18) (un3.2.2 16) (un3.2.2 17) (un3.2.2 9) (un3.2.2 10) (un3.2.2 11) (un3.2.2 12) (un3.2.2 13) (un3.2.2 14) f_out f_ranks) H := hP
                                                  have hD : va_D A (wM c y a (0) (0) (un3.2.1 9) (un3.2.1 10) (un3.2.1 1) (un3.2.1 2) (un3.2.1 6) (un3.2.1 7) (un3.2.1 8) z_words_157 v_factBits v_known v_soundMany v_wholeLength (un3.2.1 0) x_n (un3.2.1 1) (un3.2.1 2) (un3.2.1 6) (un3.2.1 7) (un3.2.1 8) (un3.2.1 4) (un3.2.1 5) (un3.2.1 3) v_written v_named v_sorted f_tape y_kind_157 y_owner_157 y_from_157 y_size_157 y_means_157 y_signs_287 y_oKind_93 y_oIn_93 y_oList_93 y_oWords_157 y_oFacts_93 y_listIn_323 y_sOwner_359 F27 f_weights f_lengths f_values (un3.2.2 0) (un3.2.2 1) (un3.2.2 2) (un3.2.2 3) (un3.2.2 4) (un3.2.2 5) (un3.2.2 6) (un3.2.2 7) (un3.2.2 8) (un3.2.2 15) (un3.2.2 18) (un3.2.2 16) (un3.2.2 17) (un3.2.2 9) (un3.2.2 10) (un3.2.2 11) (un3.2.2 12) (un3.2.2 13) (un3.2.2 14) f_out f_ranks) := hD
                                                  obtain ⟨n28, en28⟩ : ∃ z : Int32, z = s2_395 + (1) := ⟨_, rfl⟩
                                                  have tn28 : n28.toInt = s2_395.toInt + (1 : Int) := q3_add en28 rfl (by decide) (by omega) (by omega)
                                                  refine lv_iinc (v := n28) (lv' := [(2, .int n28), (0, .ref y), (1, .int x_n)]) hx hb dX10_text_415 hl (k := 0) rfl (by rw [en28]; rfl) (by decide) rfl (fun ls hl => ?_)
                                                  refine lv_goto (tgt := 395) hx hb dX10_text_418 (by decide) ?_
                                                  exact ih_395 n28 F27 (show 0 ≤ n28.toInt by omega) (show n28.toInt ≤ 400 by omega) (show 401 - n28.toInt < _ by omega) _ _ _ hP hD hS hl
                                            exact lp395 (Int.toNat (401 - (0 : Int)) + 1) (0) f_hFacts (show 0 ≤ (0 : Int) by omega) (show (0 : Int) ≤ 400 by omega) (show 401 - (0 : Int) < ((Int.toNat (401 - (0 : Int)) + 1 : Nat) : Int) by omega) _ _ _ hP hD hS hl
                                          · have g13 : ¬ (un3.2.1 7).toInt ≤ s2_359.toInt := (not_congr (q3_le rfl rfl)).mp g13
                                            refine lv_aload_n hx hb dX10_text_367 rfl (lv_at hl 1 rfl) ?_
                                            refine va_get (D := D) (ci := 10) (v := .ref (a 13)) (C := RX10) (T := TX10) (N := 66) hx hb hts iX10 hown hK hP 0 rfl rfl 21 (by decide) (hts (.fieldLink RX10 53 "ShortTellerModel" "sOwner" "[I") (List.mem_of_getElem? (i := 38) rfl)) (fun _ h9 => h9) rfl dX10_text_368 ?_
                                            refine lv_iload_n hx hb dX10_text_371 rfl (lv_at hl 0 rfl) ?_
                                            refine lv_aload_n hx hb dX10_text_372 rfl (lv_at hl 1 rfl) ?_
                                            refine va_get (D := D) (ci := 10) (v := .ref (a 28)) (C := RX10) (T := TX10) (N := 66) hx hb hts iX10 hown hK hP 0 rfl rfl 48 (by decide) (hts (.fieldLink RX10 98 "ShortTellerModel" "rSOwner" "[I") (List.mem_of_getElem? (i := 39) rfl)) (fun _ h9 => h9) rfl dX10_text_373 ?_
                                            refine lv_iload_n hx hb dX10_text_376 rfl (lv_at hl 0 rfl) ?_
                                            refine q3_iald (c := c) hx hb hK hP 29 rfl (q2_in (by omega) (by omega)) dX10_text_377 (fun n29 en29 => ?_)
                                            have tn29 : n29.toInt = ((un3.2.2 18) s2_359.toNatClampNeg).toInt := by rw [en29]
                                            have rn29 : -422 < n29.toInt ∧ n29.toInt < 14 ∧ n29.toInt ≠ -1 := by rw [en29]; exact pn3_8 _
                                            refine q3_iast (c := c) hx hb hK hP hD hS 14 rfl (q2_in (by omega) (by omega)) dX10_text_378 (fun F30 eF30 H locs hP hD hS => ?_)
                                            have hP : va_P D vwCl (wM c y a (0) (0) (un3.2.1 9) (un3.2.1 10) (un3.2.1 1) (un3.2.1 2) (un3.2.1 6) (un3.2.1 7) v_headings z_words_157 v_factBits v_known v_soundMany v_wholeLength (un3.2.1 0) x_n (un3.2.1 1) (un3.2.1 2) (un3.2.1 6) (un3.2.1 7) (un3.2.1 8) (un3.2.1 4) (un3.2.1 5) (un3.2.1 3) v_written v_named v_sorted f_tape y_kind_157 y_owner_157 y_from_157 y_size_157 y_means_157 y_signs_287 y_oKind_93 y_oIn_93 y_oList_93 y_oWords_157 y_oFacts_93 y_listIn_323 F30 f_hFacts f_weights f_lengths f_values (un3.2.2 0) (un3.2.2 1) (un3.2.2 2) (un3.2.2 3) (un3.2.2 4) (un3.2.2 5) (un3.2.2 6) (un3.2.2 7) (un3.2.2 8) (un3.2.2 15) (un3.2.2 18) (un3.2.2 16) (un3.2.2 17) (un3.2.2 9) (un3.2.2 10) (un3.2.2 11) (un3.2.2 12) (un3.2.2 13) (un3.2.2 14) f_out f_ranks) H := hP
                                            have hD : va_D A (wM c y a (0) (0) (un3.2.1 9) (un3.2.1 10) (un3.2.1 1) (un3.2.1 2) (un3.2.1 6) (un3.2.1 7) v_headings z_words_157 v_factBits v_known v_soundMany v_wholeLength (un3.2.1 0) x_n (un3.2.1 1) (un3.2.1 2) (un3.2.1 6) (un3.2.1 7) (un3.2.1 8) (un3.2.1 4) (un3.2.1 5) (un3.2.1 3) v_written v_named v_sorted f_tape y_kind_157 y_owner_157 y_from_157 y_size_157 y_means_157 y_signs_287 y_oKind_93 y_oIn_93 y_oList_93 y_oWords_157 y_oFacts_93 y_listIn_323 F30 f_hFacts f_weights f_lengths f_values (un3.2.2 0) (un3.2.2 1) (un3.2.2 2) (un3.2.2 3) (un3.2.2 4) (un3.2.2 5) (un3.2.2 6) (un3.2.2 7) (un3.2.2 8) (un3.2.2 15) (un3.2.2 18) (un3.2.2 16) (un3.2.2 17) (un3.2.2 9) (un3.2.2 10) (un3.2.2 11) (un3.2.2 12) (un3.2.2 13) (un3.2.2 14) f_out f_ranks) := hD
                                            have hF30_0 : ∀ j : Nat, -422 < (F30 j).toInt ∧ (F30 j).toInt < 14 ∧ (F30 j).toInt ≠ -1 := q3_up (P := fun z => -422 < z.toInt ∧ z.toInt < 14 ∧ z.toInt ≠ -1) eF30 j2_359 (show -422 < n29.toInt ∧ n29.toInt < 14 ∧ n29.toInt ≠ -1 by omega)
                                            obtain ⟨n31, en31⟩ : ∃ z : Int32, z = s2_359 + (1) := ⟨_, rfl⟩
                                            have tn31 : n31.toInt = s2_359.toInt + (1 : Int) := q3_add en31 rfl (by decide) (by omega) (by omega)
                                            refine lv_iinc (v := n31) (lv' := [(2, .int n31), (0, .ref y), (1, .int x_n)]) hx hb dX10_text_379 hl (k := 0) rfl (by rw [en31]; rfl) (by decide) rfl (fun ls hl => ?_)
                                            refine lv_goto (tgt := 359) hx hb dX10_text_382 (by decide) ?_
                                            exact ih_359 n31 F30 (show 0 ≤ n31.toInt by omega) (show n31.toInt ≤ 414 by omega) hF30_0 (show 415 - n31.toInt < _ by omega) _ _ _ hP hD hS hl
                                      exact lp359 (Int.toNat (415 - (0 : Int)) + 1) (0) f_sOwner (show 0 ≤ (0 : Int) by omega) (show (0 : Int) ≤ 414 by omega) h17 (show 415 - (0 : Int) < ((Int.toNat (415 - (0 : Int)) + 1 : Nat) : Int) by omega) _ _ _ hP hD hS hl
                                    · have g12 : ¬ (un3.2.1 6).toInt ≤ s2_323.toInt := (not_congr (q3_le rfl rfl)).mp g12
                                      refine lv_aload_n hx hb dX10_text_331 rfl (lv_at hl 1 rfl) ?_
                                      refine va_get (D := D) (ci := 10) (v := .ref (a 12)) (C := RX10) (T := TX10) (N := 66) hx hb hts iX10 hown hK hP 0 rfl rfl 19 (by decide) (hts (.fieldLink RX10 50 "ShortTellerModel" "listIn" "[I") (List.mem_of_getElem? (i := 34) rfl)) (fun _ h9 => h9) rfl dX10_text_332 ?_
                                      refine lv_iload_n hx hb dX10_text_335 rfl (lv_at hl 0 rfl) ?_
                                      refine lv_aload_n hx hb dX10_text_336 rfl (lv_at hl 1 rfl) ?_
                                      refine va_get (D := D) (ci := 10) (v := .ref (a 27)) (C := RX10) (T := TX10) (N := 66) hx hb hts iX10 hown hK hP 0 rfl rfl 46 (by decide) (hts (.fieldLink RX10 95 "ShortTellerModel" "rListIn" "[I") (List.mem_of_getElem? (i := 35) rfl)) (fun _ h9 => h9) rfl dX10_text_337 ?_
                                      refine lv_iload_n hx hb dX10_text_340 rfl (lv_at hl 0 rfl) ?_
                                      refine q3_iald (c := c) hx hb hK hP 28 rfl (q2_in (by omega) (by omega)) dX10_text_341 (fun n32 en32 => ?_)
                                      have tn32 : n32.toInt = ((un3.2.2 15) s2_323.toNatClampNeg).toInt := by rw [en32]
                                      refine q3_iast (c := c) hx hb hK hP hD hS 13 rfl (q2_in (by omega) (by omega)) dX10_text_342 (fun F33 eF33 H locs hP hD hS => ?_)
                                      have hP : va_P D vwCl (wM c y a (0) (0) (un3.2.1 9) (un3.2.1 10) (un3.2.1 1) (un3.2.1 2) (un3.2.1 6) v_sentences v_headings z_words_157 v_factBits v_known v_soundMany v_wholeLength (un3.2.1 0) x_n (un3.2.1 1) (un3.2.1 2) (un3.2.1 6) (un3.2.1 7) (un3.2.1 8) (un3.2.1 4) (un3.2.1 5) (un3.2.1 3) v_written v_named v_sorted f_tape y_kind_157 y_owner_157 y_from_157 y_size_157 y_means_157 y_signs_287 y_oKind_93 y_oIn_93 y_oList_93 y_oWords_157 y_oFacts_93 F33 f_sOwner f_hFacts f_weights f_lengths f_values (un3.2.2 0) (un3.2.2 1) (un3.2.2 2) (un3.2.2 3) (un3.2.2 4) (un3.2.2 5) (un3.2.2 6) (un3.2.2 7) (un3.2.2 8) (un3.2.2 15) (un3.2.2 18) (un3.2.2 16) (un3.2.2 17) (un3.2.2 9) (un3.2.2 10) (un3.2.2 11) (un3.2.2 12) (un3.2.2 13) (un3.2.2 14) f_out f_ranks) H := hP
                                      have hD : va_D A (wM c y a (0) (0) (un3.2.1 9) (un3.2.1 10) (un3.2.1 1) (un3.2.1 2) (un3.2.1 6) v_sentences v_headings z_words_157 v_factBits v_known v_soundMany v_wholeLength (un3.2.1 0) x_n (un3.2.1 1) (un3.2.1 2) (un3.2.1 6) (un3.2.1 7) (un3.2.1 8) (un3.2.1 4) (un3.2.1 5) (un3.2.1 3) v_written v_named v_sorted f_tape y_kind_157 y_owner_157 y_from_157 y_size_157 y_means_157 y_signs_287 y_oKind_93 y_oIn_93 y_oList_93 y_oWords_157 y_oFacts_93 F33 f_sOwner f_hFacts f_weights f_lengths f_values (un3.2.2 0) (un3.2.2 1) (un3.2.2 2) (un3.2.2 3) (un3.2.2 4) (un3.2.2 5) (un3.2.2 6) (un3.2.2 7) (un3.2.2 8) (un3.2.2 15) (un3.2.2 18) (un3.2.2 16) (un3.2.2 17) (un3.2.2 9) (un3.2.2 10) (un3.2.2 11) (un3.2.2 12) (un3.2.2 13) (un3.2.2 14) f_out f_ranks) := hD
                                      obtain ⟨n34, en34⟩ : ∃ z : Int32, z = s2_323 + (1) := ⟨_, rfl⟩
                                      have tn34 : n34.toInt = s2_323.toInt + (1 : Int) := q3_add en34 rfl (by decide) (by omega) (by omega)
                                      refine lv_iinc (v := n34) (lv' := [(2, .int n34), (0, .ref y), (1, .int x_n)]) hx hb dX10_text_343 hl (k := 0) rfl (by rw [en34]; rfl) (by decide) rfl (fun ls hl => ?_)
                                      refine lv_goto (tgt := 323) hx hb dX10_text_346 (by decide) ?_
                                      exact ih_323 n34 F33 (show 0 ≤ n34.toInt by omega) (show n34.toInt ≤ 14 by omega) (show 15 - n34.toInt < _ by omega) _ _ _ hP hD hS hl
                                exact lp323 (Int.toNat (15 - (0 : Int)) + 1) (0) f_listIn (show 0 ≤ (0 : Int) by omega) (show (0 : Int) ≤ 14 by omega) (show 15 - (0 : Int) < ((Int.toNat (15 - (0 : Int)) + 1 : Nat) : Int) by omega) _ _ _ hP hD hS hl
                              · have g11 : ¬ x_n.toInt ≤ s2_287.toInt := (not_congr (q3_le rfl rfl)).mp g11
                                refine lv_aload_n hx hb dX10_text_295 rfl (lv_at hl 1 rfl) ?_
                                refine va_get (D := D) (ci := 10) (v := .ref (a 6)) (C := RX10) (T := TX10) (N := 66) hx hb hts iX10 hown hK hP 0 rfl rfl 11 (by decide) (hts (.fieldLink RX10 32 "ShortTellerModel" "signs" "[I") (List.mem_of_getElem? (i := 30) rfl)) (fun _ h9 => h9) rfl dX10_text_296 ?_
                                refine lv_iload_n hx hb dX10_text_299 rfl (lv_at hl 0 rfl) ?_
                                refine lv_aload_n hx hb dX10_text_300 rfl (lv_at hl 1 rfl) ?_
                                refine va_get (D := D) (ci := 10) (v := .ref (a 0)) (C := RX10) (T := TX10) (N := 66) hx hb hts iX10 hown hK hP 0 rfl rfl 0 (by decide) (hts (.fieldLink RX10 7 "ShortTellerModel" "tape" "[I") (List.mem_of_getElem? (i := 31) rfl)) (fun _ h9 => h9) rfl dX10_text_301 ?_
                                refine lv_iload_n hx hb dX10_text_304 rfl (lv_at hl 0 rfl) ?_
                                refine q3_iald (c := c) hx hb hK hP 1 rfl (q2_in (by omega) (by omega)) dX10_text_305 (fun n35 en35 => ?_)
                                have tn35 : n35.toInt = (f_tape s2_287.toNatClampNeg).toInt := by rw [en35]
                                have rn35 : 0 ≤ n35.toInt ∧ n35.toInt ≤ 255 := by rw [en35]; exact h15 _
                                refine q3_iast (c := c) hx hb hK hP hD hS 7 rfl (q2_in (by omega) (by omega)) dX10_text_306 (fun F36 eF36 H locs hP hD hS => ?_)
                                have hP : va_P D vwCl (wM c y a (0) (0) (un3.2.1 9) (un3.2.1 10) (un3.2.1 1) (un3.2.1 2) v_lists v_sentences v_headings z_words_157 v_factBits v_known v_soundMany v_wholeLength (un3.2.1 0) x_n (un3.2.1 1) (un3.2.1 2) (un3.2.1 6) (un3.2.1 7) (un3.2.1 8) (un3.2.1 4) (un3.2.1 5) (un3.2.1 3) v_written v_named v_sorted f_tape y_kind_157 y_owner_157 y_from_157 y_size_157 y_means_157 F36 y_oKind_93 y_oIn_93 y_oList_93 y_oWords_157 y_oFacts_93 f_listIn f_sOwner f_hFacts f_weights f_lengths f_values (un3.2.2 0) (un3.2.2 1) (un3.2.2 2) (un3.2.2 3) (un3.2.2 4) (un3.2.2 5) (un3.2.2 6) (un3.2.2 7) (un3.2.2 8) (un3.2.2 15) (un3.2.2 18) (un3.2.2 16) (un3.2.2 17) (un3.2.2 9) (un3.2.2 10) (un3.2.2 11) (un3.2.2 12) (un3.2.2 13) (un3.2.2 14) f_out f_ranks) H := hP
                                have hD : va_D A (wM c y a (0) (0) (un3.2.1 9) (un3.2.1 10) (un3.2.1 1) (un3.2.1 2) v_lists v_sentences v_headings z_words_157 v_factBits v_known v_soundMany v_wholeLength (un3.2.1 0) x_n (un3.2.1 1) (un3.2.1 2) (un3.2.1 6) (un3.2.1 7) (un3.2.1 8) (un3.2.1 4) (un3.2.1 5) (un3.2.1 3) v_written v_named v_sorted f_tape y_kind_157 y_owner_157 y_from_157 y_size_157 y_means_157 F36 y_oKind_93 y_oIn_93 y_oList_93 y_oWords_157 y_oFacts_93 f_listIn f_sOwner f_hFacts f_weights f_lengths f_values (un3.2.2 0) (un3.2.2 1) (un3.2.2 2) (un3.2.2 3) (un3.2.2 4) (un3.2.2 5) (un3.2.2 6) (un3.2.2 7) (un3.2.2 8) (un3.2.2 15) (un3.2.2 18) (un3.2.2 16) (un3.2.2 17) (un3.2.2 9) (un3.2.2 10) (un3.2.2 11) (un3.2.2 12) (un3.2.2 13) (un3.2.2 14) f_out f_ranks) := hD
                                obtain ⟨n37, en37⟩ : ∃ z : Int32, z = s2_287 + (1) := ⟨_, rfl⟩
                                have tn37 : n37.toInt = s2_287.toInt + (1 : Int) := q3_add en37 rfl (by decide) (by omega) (by omega)
                                refine lv_iinc (v := n37) (lv' := [(2, .int n37), (0, .ref y), (1, .int x_n)]) hx hb dX10_text_307 hl (k := 0) rfl (by rw [en37]; rfl) (by decide) rfl (fun ls hl => ?_)
                                refine lv_goto (tgt := 287) hx hb dX10_text_310 (by decide) ?_
                                exact ih_287 n37 F36 (show 0 ≤ n37.toInt by omega) (show n37.toInt ≤ 800 by omega) (show 801 - n37.toInt < _ by omega) _ _ _ hP hD hS hl
                          exact lp287 (Int.toNat (801 - (0 : Int)) + 1) (0) f_signs (show 0 ≤ (0 : Int) by omega) (show (0 : Int) ≤ 800 by omega) (show 801 - (0 : Int) < ((Int.toNat (801 - (0 : Int)) + 1 : Nat) : Int) by omega) _ _ _ hP hD hS hl
                        · have g10 : ¬ (un3.2.1 1).toInt ≤ s2_157.toInt := (not_congr (q3_le rfl rfl)).mp g10
                          refine lv_aload_n hx hb dX10_text_165 rfl (lv_at hl 1 rfl) ?_
                          refine va_get (D := D) (ci := 10) (v := .ref (a 1)) (C := RX10) (T := TX10) (N := 66) hx hb hts iX10 hown hK hP 0 rfl rfl 6 (by decide) (hts (.fieldLink RX10 17 "ShortTellerModel" "kind" "[I") (List.mem_of_getElem? (i := 20) rfl)) (fun _ h9 => h9) rfl dX10_text_166 ?_
                          refine lv_iload_n hx hb dX10_text_169 rfl (lv_at hl 0 rfl) ?_
                          refine lv_aload_n hx hb dX10_text_170 rfl (lv_at hl 1 rfl) ?_
                          refine va_get (D := D) (ci := 10) (v := .ref (a 18)) (C := RX10) (T := TX10) (N := 66) hx hb hts iX10 hown hK hP 0 rfl rfl 35 (by decide) (hts (.fieldLink RX10 68 "ShortTellerModel" "rKind" "[I") (List.mem_of_getElem? (i := 21) rfl)) (fun _ h9 => h9) rfl dX10_text_171 ?_
                          refine lv_iload_n hx hb dX10_text_174 rfl (lv_at hl 0 rfl) ?_
                          refine q3_iald (c := c) hx hb hK hP 19 rfl (q2_in (by omega) (by omega)) dX10_text_175 (fun n38 en38 => ?_)
                          have tn38 : n38.toInt = ((un3.2.2 0) s2_157.toNatClampNeg).toInt := by rw [en38]
                          refine q3_iast (c := c) hx hb hK hP hD hS 2 rfl (q2_in (by omega) (by omega)) dX10_text_176 (fun F39 eF39 H locs hP hD hS => ?_)
                          have hP : va_P D vwCl (wM c y a (0) (0) (un3.2.1 9) (un3.2.1 10) (un3.2.1 1) (un3.2.1 2) v_lists v_sentences v_headings z_words_157 v_factBits v_known v_soundMany v_wholeLength (un3.2.1 0) x_n (un3.2.1 1) (un3.2.1 2) (un3.2.1 6) (un3.2.1 7) (un3.2.1 8) (un3.2.1 4) (un3.2.1 5) (un3.2.1 3) v_written v_named v_sorted f_tape F39 y_owner_157 y_from_157 y_size_157 y_means_157 f_signs y_oKind_93 y_oIn_93 y_oList_93 y_oWords_157 y_oFacts_93 f_listIn f_sOwner f_hFacts f_weights f_lengths f_values (un3.2.2 0) (un3.2.2 1) (un3.2.2 2) (un3.2.2 3) (un3.2.2 4) (un3.2.2 5) (un3.2.2 6) (un3.2.2 7) (un3.2.2 8) (un3.2.2 15) (un3.2.2 18) (un3.2.2 16) (un3.2.2 17) (un3.2.2 9) (un3.2.2 10) (un3.2.2 11) (un3.2.2 12) (un3.2.2 13) (un3.2.2 14) f_out f_ranks) H := hP
                          have hD : va_D A (wM c y a (0) (0) (un3.2.1 9) (un3.2.1 10) (un3.2.1 1) (un3.2.1 2) v_lists v_sentences v_headings z_words_157 v_factBits v_known v_soundMany v_wholeLength (un3.2.1 0) x_n (un3.2.1 1) (un3.2.1 2) (un3.2.1 6) (un3.2.1 7) (un3.2.1 8) (un3.2.1 4) (un3.2.1 5) (un3.2.1 3) v_written v_named v_sorted f_tape F39 y_owner_157 y_from_157 y_size_157 y_means_157 f_signs y_oKind_93 y_oIn_93 y_oList_93 y_oWords_157 y_oFacts_93 f_listIn f_sOwner f_hFacts f_weights f_lengths f_values (un3.2.2 0) (un3.2.2 1) (un3.2.2 2) (un3.2.2 3) (un3.2.2 4) (un3.2.2 5) (un3.2.2 6) (un3.2.2 7) (un3.2.2 8) (un3.2.2 15) (un3.2.2 18) (un3.2.2 16) (un3.2.2 17) (un3.2.2 9) (un3.2.2 10) (un3.2.2 11) (un3.2.2 12) (un3.2.2 13) (un3.2.2 14) f_out f_ranks) := hD
                          refine lv_aload_n hx hb dX10_text_177 rfl (lv_at hl 1 rfl) ?_
                          refine va_get (D := D) (ci := 10) (v := .ref (a 2)) (C := RX10) (T := TX10) (N := 66) hx hb hts iX10 hown hK hP 0 rfl rfl 7 (by decide) (hts (.fieldLink RX10 20 "ShortTellerModel" "owner" "[I") (List.mem_of_getElem? (i := 22) rfl)) (fun _ h9 => h9) rfl dX10_text_178 ?_
                          refine lv_iload_n hx hb dX10_text_181 rfl (lv_at hl 0 rfl) ?_
                          refine lv_aload_n hx hb dX10_text_182 rfl (lv_at hl 1 rfl) ?_
                          refine va_get (D := D) (ci := 10) (v := .ref (a 19)) (C := RX10) (T := TX10) (N := 66) hx hb hts iX10 hown hK hP 0 rfl rfl 36 (by decide) (hts (.fieldLink RX10 71 "ShortTellerModel" "rOwner" "[I") (List.mem_of_getElem? (i := 23) rfl)) (fun _ h9 => h9) rfl dX10_text_183 ?_
                          refine lv_iload_n hx hb dX10_text_186 rfl (lv_at hl 0 rfl) ?_
                          refine q3_iald (c := c) hx hb hK hP 20 rfl (q2_in (by omega) (by omega)) dX10_text_187 (fun n40 en40 => ?_)
                          have tn40 : n40.toInt = ((un3.2.2 1) s2_157.toNatClampNeg).toInt := by rw [en40]
                          refine q3_iast (c := c) hx hb hK hP hD hS 3 rfl (q2_in (by omega) (by omega)) dX10_text_188 (fun F41 eF41 H locs hP hD hS => ?_)
                          have hP : va_P D vwCl (wM c y a (0) (0) (un3.2.1 9) (un3.2.1 10) (un3.2.1 1) (un3.2.1 2) v_lists v_sentences v_headings z_words_157 v_factBits v_known v_soundMany v_wholeLength (un3.2.1 0) x_n (un3.2.1 1) (un3.2.1 2) (un3.2.1 6) (un3.2.1 7) (un3.2.1 8) (un3.2.1 4) (un3.2.1 5) (un3.2.1 3) v_written v_named v_sorted f_tape F39 F41 y_from_157 y_size_157 y_means_157 f_signs y_oKind_93 y_oIn_93 y_oList_93 y_oWords_157 y_oFacts_93 f_listIn f_sOwner f_hFacts f_weights f_lengths f_values (un3.2.2 0) (un3.2.2 1) (un3.2.2 2) (un3.2.2 3) (un3.2.2 4) (un3.2.2 5) (un3.2.2 6) (un3.2.2 7) (un3.2.2 8) (un3.2.2 15) (un3.2.2 18) (un3.2.2 16) (un3.2.2 17) (un3.2.2 9) (un3.2.2 10) (un3.2.2 11) (un3.2.2 12) (un3.2.2 13) (un3.2.2 14) f_out f_ranks) H := hP
                          have hD : va_D A (wM c y a (0) (0) (un3.2.1 9) (un3.2.1 10) (un3.2.1 1) (un3.2.1 2) v_lists v_sentences v_headings z_words_157 v_factBits v_known v_soundMany v_wholeLength (un3.2.1 0) x_n (un3.2.1 1) (un3.2.1 2) (un3.2.1 6) (un3.2.1 7) (un3.2.1 8) (un3.2.1 4) (un3.2.1 5) (un3.2.1 3) v_written v_named v_sorted f_tape F39 F41 y_from_157 y_size_157 y_means_157 f_signs y_oKind_93 y_oIn_93 y_oList_93 y_oWords_157 y_oFacts_93 f_listIn f_sOwner f_hFacts f_weights f_lengths f_values (un3.2.2 0) (un3.2.2 1) (un3.2.2 2) (un3.2.2 3) (un3.2.2 4) (un3.2.2 5) (un3.2.2 6) (un3.2.2 7) (un3.2.2 8) (un3.2.2 15) (un3.2.2 18) (un3.2.2 16) (un3.2.2 17) (un3.2.2 9) (un3.2.2 10) (un3.2.2 11) (un3.2.2 12) (un3.2.2 13) (un3.2.2 14) f_out f_ranks) := hD
                          refine lv_aload_n hx hb dX10_text_189 rfl (lv_at hl 1 rfl) ?_
                          refine va_get (D := D) (ci := 10) (v := .ref (a 3)) (C := RX10) (T := TX10) (N := 66) hx hb hts iX10 hown hK hP 0 rfl rfl 8 (by decide) (hts (.fieldLink RX10 23 "ShortTellerModel" "from" "[I") (List.mem_of_getElem? (i := 24) rfl)) (fun _ h9 => h9) rfl dX10_text_190 ?_
                          refine lv_iload_n hx hb dX10_text_193 rfl (lv_at hl 0 rfl) ?_
                          refine lv_aload_n hx hb dX10_text_194 rfl (lv_at hl 1 rfl) ?_
                          refine va_get (D := D) (ci := 10) (v := .ref (a 20)) (C := RX10) (T := TX10) (N := 66) hx hb hts iX10 hown hK hP 0 rfl rfl 37 (by decide) (hts (.fieldLink RX10 74 "ShortTellerModel" "rFrom" "[I") (List.mem_of_getElem? (i := 25) rfl)) (fun _ h9 => h9) rfl dX10_text_195 ?_
                          refine lv_iload_n hx hb dX10_text_198 rfl (lv_at hl 0 rfl) ?_
                          refine q3_iald (c := c) hx hb hK hP 21 rfl (q2_in (by omega) (by omega)) dX10_text_199 (fun n42 en42 => ?_)
                          have tn42 : n42.toInt = ((un3.2.2 2) s2_157.toNatClampNeg).toInt := by rw [en42]
                          refine q3_iast (c := c) hx hb hK hP hD hS 4 rfl (q2_in (by omega) (by omega)) dX10_text_200 (fun F43 eF43 H locs hP hD hS => ?_)
                          have hP : va_P D vwCl (wM c y a (0) (0) (un3.2.1 9) (un3.2.1 10) (un3.2.1 1) (un3.2.1 2) v_lists v_sentences v_headings z_words_157 v_factBits v_known v_soundMany v_wholeLength (un3.2.1 0) x_n (un3.2.1 1) (un3.2.1 2) (un3.2.1 6) (un3.2.1 7) (un3.2.1 8) (un3.2.1 4) (un3.2.1 5) (un3.2.1 3) v_written v_named v_sorted f_tape F39 F41 F43 y_size_157 y_means_157 f_signs y_oKind_93 y_oIn_93 y_oList_93 y_oWords_157 y_oFacts_93 f_listIn f_sOwner f_hFacts f_weights f_lengths f_values (un3.2.2 0) (un3.2.2 1) (un3.2.2 2) (un3.2.2 3) (un3.2.2 4) (un3.2.2 5) (un3.2.2 6) (un3.2.2 7) (un3.2.2 8) (un3.2.2 15) (un3.2.2 18) (un3.2.2 16) (un3.2.2 17) (un3.2.2 9) (un3.2.2 10) (un3.2.2 11) (un3.2.2 12) (un3.2.2 13) (un3.2.2 14) f_out f_ranks) H := hP
                          have hD : va_D A (wM c y a (0) (0) (un3.2.1 9) (un3.2.1 10) (un3.2.1 1) (un3.2.1 2) v_lists v_sentences v_headings z_words_157 v_factBits v_known v_soundMany v_wholeLength (un3.2.1 0) x_n (un3.2.1 1) (un3.2.1 2) (un3.2.1 6) (un3.2.1 7) (un3.2.1 8) (un3.2.1 4) (un3.2.1 5) (un3.2.1 3) v_written v_named v_sorted f_tape F39 F41 F43 y_size_157 y_means_157 f_signs y_oKind_93 y_oIn_93 y_oList_93 y_oWords_157 y_oFacts_93 f_listIn f_sOwner f_hFacts f_weights f_lengths f_values (un3.2.2 0) (un3.2.2 1) (un3.2.2 2) (un3.2.2 3) (un3.2.2 4) (un3.2.2 5) (un3.2.2 6) (un3.2.2 7) (un3.2.2 8) (un3.2.2 15) (un3.2.2 18) (un3.2.2 16) (un3.2.2 17) (un3.2.2 9) (un3.2.2 10) (un3.2.2 11) (un3.2.2 12) (un3.2.2 13) (un3.2.2 14) f_out f_ranks) := hD
                          refine lv_aload_n hx hb dX10_text_201 rfl (lv_at hl 1 rfl) ?_
                          refine va_get (D := D) (ci := 10) (v := .ref (a 4)) (C := RX10) (T := TX10) (N := 66) hx hb hts iX10 hown hK hP 0 rfl rfl 9 (by decide) (hts (.fieldLink RX10 26 "ShortTellerModel" "size" "[I") (List.mem_of_getElem? (i := 26) rfl)) (fun _ h9 => h9) rfl dX10_text_202 ?_
                          refine lv_iload_n hx hb dX10_text_205 rfl (lv_at hl 0 rfl) ?_
                          refine lv_aload_n hx hb dX10_text_206 rfl (lv_at hl 1 rfl) ?_
                          refine va_get (D := D) (ci := 10) (v := .ref (a 21)) (C := RX10) (T := TX10) (N := 66) hx hb hts iX10 hown hK hP 0 rfl rfl 38 (by decide) (hts (.fieldLink RX10 77 "ShortTellerModel" "rSize" "[I") (List.mem_of_getElem? (i := 27) rfl)) (fun _ h9 => h9) rfl dX10_text_207 ?_
                          refine lv_iload_n hx hb dX10_text_210 rfl (lv_at hl 0 rfl) ?_
                          refine q3_iald (c := c) hx hb hK hP 22 rfl (q2_in (by omega) (by omega)) dX10_text_211 (fun n44 en44 => ?_)
                          have tn44 : n44.toInt = ((un3.2.2 3) s2_157.toNatClampNeg).toInt := by rw [en44]
                          refine q3_iast (c := c) hx hb hK hP hD hS 5 rfl (q2_in (by omega) (by omega)) dX10_text_212 (fun F45 eF45 H locs hP hD hS => ?_)
                          have hP : va_P D vwCl (wM c y a (0) (0) (un3.2.1 9) (un3.2.1 10) (un3.2.1 1) (un3.2.1 2) v_lists v_sentences v_headings z_words_157 v_factBits v_known v_soundMany v_wholeLength (un3.2.1 0) x_n (un3.2.1 1) (un3.2.1 2) (un3.2.1 6) (un3.2.1 7) (un3.2.1 8) (un3.2.1 4) (un3.2.1 5) (un3.2.1 3) v_written v_named v_sorted f_tape F39 F41 F43 F45 y_means_157 f_signs y_oKind_93 y_oIn_93 y_oList_93 y_oWords_157 y_oFacts_93 f_listIn f_sOwner f_hFacts f_weights f_lengths f_values (un3.2.2 0) (un3.2.2 1) (un3.2.2 2) (un3.2.2 3) (un3.2.2 4) (un3.2.2 5) (un3.2.2 6) (un3.2.2 7) (un3.2.2 8) (un3.2.2 15) (un3.2.2 18) (un3.2.2 16) (un3.2.2 17) (un3.2.2 9) (un3.2.2 10) (un3.2.2 11) (un3.2.2 12) (un3.2.2 13) (un3.2.2 14) f_out f_ranks) H := hP
                          have hD : va_D A (wM c y a (0) (0) (un3.2.1 9) (un3.2.1 10) (un3.2.1 1) (un3.2.1 2) v_lists v_sentences v_headings z_words_157 v_factBits v_known v_soundMany v_wholeLength (un3.2.1 0) x_n (un3.2.1 1) (un3.2.1 2) (un3.2.1 6) (un3.2.1 7) (un3.2.1 8) (un3.2.1 4) (un3.2.1 5) (un3.2.1 3) v_written v_named v_sorted f_tape F39 F41 F43 F45 y_means_157 f_signs y_oKind_93 y_oIn_93 y_oList_93 y_oWords_157 y_oFacts_93 f_listIn f_sOwner f_hFacts f_weights f_lengths f_values (un3.2.2 0) (un3.2.2 1) (un3.2.2 2) (un3.2.2 3) (un3.2.2 4) (un3.2.2 5) (un3.2.2 6) (un3.2.2 7) (un3.2.2 8) (un3.2.2 15) (un3.2.2 18) (un3.2.2 16) (un3.2.2 17) (un3.2.2 9) (un3.2.2 10) (un3.2.2 11) (un3.2.2 12) (un3.2.2 13) (un3.2.2 14) f_out f_ranks) := hD
                          refine lv_aload_n hx hb dX10_text_213 rfl (lv_at hl 1 rfl) ?_
                          refine va_get (D := D) (ci := 10) (v := .ref (a 5)) (C := RX10) (T := TX10) (N := 66) hx hb hts iX10 hown hK hP 0 rfl rfl 10 (by decide) (hts (.fieldLink RX10 29 "ShortTellerModel" "means" "[I") (List.mem_of_getElem? (i := 28) rfl)) (fun _ h9 => h9) rfl dX10_text_214 ?_
                          refine lv_iload_n hx hb dX10_text_217 rfl (lv_at hl 0 rfl) ?_
                          refine lv_aload_n hx hb dX10_text_218 rfl (lv_at hl 1 rfl) ?_
                          refine va_get (D := D) (ci := 10) (v := .ref (a 22)) (C := RX10) (T := TX10) (N := 66) hx hb hts iX10 hown hK hP 0 rfl rfl 39 (by decide) (hts (.fieldLink RX10 80 "ShortTellerModel" "rMeans" "[I") (List.mem_of_getElem? (i := 29) rfl)) (fun _ h9 => h9) rfl dX10_text_219 ?_
                          refine lv_iload_n hx hb dX10_text_222 rfl (lv_at hl 0 rfl) ?_
                          refine q3_iald (c := c) hx hb hK hP 23 rfl (q2_in (by omega) (by omega)) dX10_text_223 (fun n46 en46 => ?_)
                          have tn46 : n46.toInt = ((un3.2.2 4) s2_157.toNatClampNeg).toInt := by rw [en46]
                          refine q3_iast (c := c) hx hb hK hP hD hS 6 rfl (q2_in (by omega) (by omega)) dX10_text_224 (fun F47 eF47 H locs hP hD hS => ?_)
                          have hP : va_P D vwCl (wM c y a (0) (0) (un3.2.1 9) (un3.2.1 10) (un3.2.1 1) (un3.2.1 2) v_lists v_sentences v_headings z_words_157 v_factBits v_known v_soundMany v_wholeLength (un3.2.1 0) x_n (un3.2.1 1) (un3.2.1 2) (un3.2.1 6) (un3.2.1 7) (un3.2.1 8) (un3.2.1 4) (un3.2.1 5) (un3.2.1 3) v_written v_named v_sorted f_tape F39 F41 F43 F45 F47 f_signs y_oKind_93 y_oIn_93 y_oList_93 y_oWords_157 y_oFacts_93 f_listIn f_sOwner f_hFacts f_weights f_lengths f_values (un3.2.2 0) (un3.2.2 1) (un3.2.2 2) (un3.2.2 3) (un3.2.2 4) (un3.2.2 5) (un3.2.2 6) (un3.2.2 7) (un3.2.2 8) (un3.2.2 15) (un3.2.2 18) (un3.2.2 16) (un3.2.2 17) (un3.2.2 9) (un3.2.2 10) (un3.2.2 11) (un3.2.2 12) (un3.2.2 13) (un3.2.2 14) f_out f_ranks) H := hP
                          have hD : va_D A (wM c y a (0) (0) (un3.2.1 9) (un3.2.1 10) (un3.2.1 1) (un3.2.1 2) v_lists v_sentences v_headings z_words_157 v_factBits v_known v_soundMany v_wholeLength (un3.2.1 0) x_n (un3.2.1 1) (un3.2.1 2) (un3.2.1 6) (un3.2.1 7) (un3.2.1 8) (un3.2.1 4) (un3.2.1 5) (un3.2.1 3) v_written v_named v_sorted f_tape F39 F41 F43 F45 F47 f_signs y_oKind_93 y_oIn_93 y_oList_93 y_oWords_157 y_oFacts_93 f_listIn f_sOwner f_hFacts f_weights f_lengths f_values (un3.2.2 0) (un3.2.2 1) (un3.2.2 2) (un3.2.2 3) (un3.2.2 4) (un3.2.2 5) (un3.2.2 6) (un3.2.2 7) (un3.2.2 8) (un3.2.2 15) (un3.2.2 18) (un3.2.2 16) (un3.2.2 17) (un3.2.2 9) (un3.2.2 10) (un3.2.2 11) (un3.2.2 12) (un3.2.2 13) (un3.2.2 14) f_out f_ranks) := hD
                          have c48 : q4_T F39 F41 F43 F45 F47 := q4_T_put j3_157 eF39 eF41 eF43 eF45 eF47 (by rw [en38, en40, en42, en44, en46]; exact pn3_10 _)
                          have so : n40.toInt < (un3.2.1 2).toInt := by rw [en40]; exact pn3_11 _ (show Int.toNat s2_157.toInt < Int.toNat (un3.2.1 1).toInt by omega)
                          have cp1 : ∀ j : Nat, j < Int.toNat (s2_157.toInt + 1) → F39 j = (un3.2.2 0) j ∧ F45 j = (un3.2.2 3) j := q4_cp eF39 eF45 en38 en44 (by omega) j4_157
                          refine lv_aload_n hx hb dX10_text_225 rfl (lv_at hl 1 rfl) ?_
                          refine va_get (D := D) (ci := 10) (v := .ref (a 1)) (C := RX10) (T := TX10) (N := 66) hx hb hts iX10 hown hK hP 0 rfl rfl 6 (by decide) (hts (.fieldLink RX10 17 "ShortTellerModel" "kind" "[I") (List.mem_of_getElem? (i := 20) rfl)) (fun _ h9 => h9) rfl dX10_text_226 ?_
                          refine lv_iload_n hx hb dX10_text_229 rfl (lv_at hl 0 rfl) ?_
                          refine q3_iald (c := c) hx hb hK hP 2 rfl (q2_in (by omega) (by omega)) dX10_text_230 (fun n49 en49 => ?_)
                          have tn49 : n49.toInt = (F39 s2_157.toNatClampNeg).toInt := by rw [en49]
                          have ct279 : ∀ (z_words_279 : Int32) (y_oWords_279 : Nat → Int32), ∀ (H : Heap) (locs : List Loc) (ls : Array Slot), va_P D vwCl (wM c y a (0) (0) (un3.2.1 9) (un3.2.1 10) (un3.2.1 1) (un3.2.1 2) v_lists v_sentences v_headings z_words_279 v_factBits v_known v_soundMany v_wholeLength (un3.2.1 0) x_n (un3.2.1 1) (un3.2.1 2) (un3.2.1 6) (un3.2.1 7) (un3.2.1 8) (un3.2.1 4) (un3.2.1 5) (un3.2.1 3) v_written v_named v_sorted f_tape F39 F41 F43 F45 F47 f_signs y_oKind_93 y_oIn_93 y_oList_93 y_oWords_279 y_oFacts_93 f_listIn f_sOwner f_hFacts f_weights f_lengths f_values (un3.2.2 0) (un3.2.2 1) (un3.2.2 2) (un3.2.2 3) (un3.2.2 4) (un3.2.2 5) (un3.2.2 6) (un3.2.2 7) (un3.2.2 8) (un3.2.2 15) (un3.2.2 18) (un3.2.2 16) (un3.2.2 17) (un3.2.2 9) (un3.2.2 10) (un3.2.2 11) (un3.2.2 12) (un3.2.2 13) (un3.2.2 14) f_out f_ranks) H → va_D A (wM c y a (0) (0) (un3.2.1 9) (un3.2.1 10) (un3.2.1 1) (un3.2.1 2) v_lists v_sentences v_headings z_words_279 v_factBits v_known v_soundMany v_wholeLength (un3.2.1 0) x_n (un3.2.1 1) (un3.2.1 2) (un3.2.1 6) (un3.2.1 7) (un3.2.1 8) (un3.2.1 4) (un3.2.1 5) (un3.2.1 3) v_written v_named v_sorted f_tape F39 F41 F43 F45 F47 f_signs y_oKind_93 y_oIn_93 y_oList_93 y_oWords_279 y_oFacts_93 f_listIn f_sOwner f_hFacts f_weights f_lengths f_values (un3.2.2 0) (un3.2.2 1) (un3.2.2 2) (un3.2.2 3) (un3.2.2 4) (un3.2.2 5) (un3.2.2 6) (un3.2.2 7) (un3.2.2 8) (un3.2.2 15) (un3.2.2 18) (un3.2.2 16) (un3.2.2 17) (un3.2.2 9) (un3.2.2 10) (un3.2.2 11) (un3.2.2 12) (un3.2.2 13) (un3.2.2 14) f_out f_ranks) → va_S A s.heap H locs → lv_has ls 4 [(2, .int s2_157), (0, .ref y), (1, .int x_n)] → W p l e ({ frames := 7, cells := 0, slots := 0, locals := 151 }) s m args below meth cd H locs 0 0 Q (F0 m 279 ls []) := by
                            intro z_words_279 y_oWords_279  H locs ls hP hD hS hl
                            obtain ⟨n50, en50⟩ : ∃ z : Int32, z = s2_157 + (1) := ⟨_, rfl⟩
                            have tn50 : n50.toInt = s2_157.toInt + (1 : Int) := q3_add en50 rfl (by decide) (by omega) (by omega)
                            refine lv_iinc (v := n50) (lv' := [(2, .int n50), (0, .ref y), (1, .int x_n)]) hx hb dX10_text_279 hl (k := 0) rfl (by rw [en50]; rfl) (by decide) rfl (fun ls hl => ?_)
                            have c51 : ∀ j : Nat, j < Int.toNat n50.toInt → F39 j = (un3.2.2 0) j ∧ F45 j = (un3.2.2 3) j := by rw [tn50]; exact cp1
                            refine lv_goto (tgt := 157) hx hb dX10_text_282 (by decide) ?_
                            exact ih_157 n50 z_words_279 F39 F41 F43 F45 F47 y_oWords_279 (show 0 ≤ n50.toInt by omega) (show n50.toInt ≤ 814 by omega) (show n50.toInt ≤ (un3.2.1 1).toInt by omega) c48 c51 (show 815 - n50.toInt < _ by omega) _ _ _ hP hD hS hl
                          refine lv_iconst (v := 2) hx hb dX10_text_231 (by decide) ?_
                          refine lv_icmp_le (tgt := 238) hx hb dX10_text_232 (by decide) (fun g52 => ?_) (fun g52 => ?_)
                          · have g52 : n49.toInt ≤ (2 : Int) := (q3_le rfl (by decide)).mp g52
                            refine lv_aload_n hx hb dX10_text_238 rfl (lv_at hl 1 rfl) ?_
                            refine lv_dup hx hb dX10_text_239 rfl ?_
                            refine va_get (D := D) (ci := 10) (v := .int z_words_157) (C := RX10) (T := TX10) (N := 66) hx hb hts iX10 hown hK hP 0 rfl rfl 24 (by decide) (hts (.fieldLink RX10 230 "ShortTellerModel" "words" "I") (List.mem_of_getElem? (i := 8) rfl)) (fun _ h9 => h9) rfl dX10_text_240 ?_
                            refine lv_iconst (v := 1) hx hb dX10_text_243 (by decide) ?_
                            refine lv_iadd hx hb dX10_text_244 ?_
                            refine lv_topi (fun n53 en53 => ?_)
                            refine va_put (D := D) (ci := 10) (v := .int n53) (ty := .int) (C := RX10) (T := TX10) (N := 66) hx hb hts iX10 tyX10 tyX10_ok nmX10 hown hK hP hD hS 0 rfl rfl 24 (by decide) (hts (.fieldLink RX10 230 "ShortTellerModel" "words" "I") (List.mem_of_getElem? (i := 8) rfl)) (fun _ h9 => h9) rfl (by decide +kernel) rfl rfl (Nat.le_of_ble_eq_true rfl) dX10_text_245 (fun H locs hP hD hS => ?_)
                            have hP : va_P D vwCl (wM c y a (0) (0) (un3.2.1 9) (un3.2.1 10) (un3.2.1 1) (un3.2.1 2) v_lists v_sentences v_headings n53 v_factBits v_known v_soundMany v_wholeLength (un3.2.1 0) x_n (un3.2.1 1) (un3.2.1 2) (un3.2.1 6) (un3.2.1 7) (un3.2.1 8) (un3.2.1 4) (un3.2.1 5) (un3.2.1 3) v_written v_named v_sorted f_tape F39 F41 F43 F45 F47 f_signs y_oKind_93 y_oIn_93 y_oList_93 y_oWords_157 y_oFacts_93 f_listIn f_sOwner f_hFacts f_weights f_lengths f_values (un3.2.2 0) (un3.2.2 1) (un3.2.2 2) (un3.2.2 3) (un3.2.2 4) (un3.2.2 5) (un3.2.2 6) (un3.2.2 7) (un3.2.2 8) (un3.2.2 15) (un3.2.2 18) (un3.2.2 16) (un3.2.2 17) (un3.2.2 9) (un3.2.2 10) (un3.2.2 11) (un3.2.2 12) (un3.2.2 13) (un3.2.2 14) f_out f_ranks) H := hP
                            have hD : va_D A (wM c y a (0) (0) (un3.2.1 9) (un3.2.1 10) (un3.2.1 1) (un3.2.1 2) v_lists v_sentences v_headings n53 v_factBits v_known v_soundMany v_wholeLength (un3.2.1 0) x_n (un3.2.1 1) (un3.2.1 2) (un3.2.1 6) (un3.2.1 7) (un3.2.1 8) (un3.2.1 4) (un3.2.1 5) (un3.2.1 3) v_written v_named v_sorted f_tape F39 F41 F43 F45 F47 f_signs y_oKind_93 y_oIn_93 y_oList_93 y_oWords_157 y_oFacts_93 f_listIn f_sOwner f_hFacts f_weights f_lengths f_values (un3.2.2 0) (un3.2.2 1) (un3.2.2 2) (un3.2.2 3) (un3.2.2 4) (un3.2.2 5) (un3.2.2 6) (un3.2.2 7) (un3.2.2 8) (un3.2.2 15) (un3.2.2 18) (un3.2.2 16) (un3.2.2 17) (un3.2.2 9) (un3.2.2 10) (un3.2.2 11) (un3.2.2 12) (un3.2.2 13) (un3.2.2 14) f_out f_ranks) := hD
                            refine lv_aload_n hx hb dX10_text_248 rfl (lv_at hl 1 rfl) ?_
                            refine va_get (D := D) (ci := 10) (v := .ref (a 2)) (C := RX10) (T := TX10) (N := 66) hx hb hts iX10 hown hK hP 0 rfl rfl 7 (by decide) (hts (.fieldLink RX10 20 "ShortTellerModel" "owner" "[I") (List.mem_of_getElem? (i := 22) rfl)) (fun _ h9 => h9) rfl dX10_text_249 ?_
                            refine lv_iload_n hx hb dX10_text_252 rfl (lv_at hl 0 rfl) ?_
                            refine q3_iald (c := c) hx hb hK hP 3 rfl (q2_in (by omega) (by omega)) dX10_text_253 (fun n54 en54 => ?_)
                            have tn54 : n54.toInt = (F41 s2_157.toNatClampNeg).toInt := by rw [en54]
                            have so1 : n54.toInt = n40.toInt := by rw [en54, eF41, q4_upd_eq]
                            refine lv_istore_n (lv' := [(3, .int n54), (2, .int s2_157), (0, .ref y), (1, .int x_n)]) hx hb dX10_text_254 rfl hl (by decide) rfl (fun ls hl => ?_)
                            have lp255 : ∀ (k : Nat) (s3_255 : Int32) (y_oWords_255 : Nat → Int32), (s3_255.toInt < (un3.2.1 2).toInt) → ((Int.toNat (s3_255.toInt + 1) : Nat) : Int) < (k : Int) → ∀ (H : Heap) (locs : List Loc) (ls : Array Slot), va_P D vwCl (wM c y a (0) (0) (un3.2.1 9) (un3.2.1 10) (un3.2.1 1) (un3.2.1 2) v_lists v_sentences v_headings n53 v_factBits v_known v_soundMany v_wholeLength (un3.2.1 0) x_n (un3.2.1 1) (un3.2.1 2) (un3.2.1 6) (un3.2.1 7) (un3.2.1 8) (un3.2.1 4) (un3.2.1 5) (un3.2.1 3) v_written v_named v_sorted f_tape F39 F41 F43 F45 F47 f_signs y_oKind_93 y_oIn_93 y_oList_93 y_oWords_255 y_oFacts_93 f_listIn f_sOwner f_hFacts f_weights f_lengths f_values (un3.2.2 0) (un3.2.2 1) (un3.2.2 2) (un3.2.2 3) (un3.2.2 4) (un3.2.2 5) (un3.2.2 6) (un3.2.2 7) (un3.2.2 8) (un3.2.2 15) (un3.2.2 18) (un3.2.2 16) (un3.2.2 17) (un3.2.2 9) (un3.2.2 10) (un3.2.2 11) (un3.2.2 12) (un3.2.2 13) (un3.2.2 14) f_out f_ranks) H → va_D A (wM c y a (0) (0) (un3.2.1 9) (un3.2.1 10) (un3.2.1 1) (un3.2.1 2) v_lists v_sentences v_headings n53 v_factBits v_known v_soundMany v_wholeLength (un3.2.1 0) x_n (un3.2.1 1) (un3.2.1 2) (un3.2.1 6) (un3.2.1 7) (un3.2.1 8) (un3.2.1 4) (un3.2.1 5) (un3.2.1 3) v_written v_named v_sorted f_tape F39 F41 F43 F45 F47 f_signs y_oKind_93 y_oIn_93 y_oList_93 y_oWords_255 y_oFacts_93 f_listIn f_sOwner f_hFacts f_weights f_lengths f_values (un3.2.2 0) (un3.2.2 1) (un3.2.2 2) (un3.2.2 3) (un3.2.2 4) (un3.2.2 5) (un3.2.2 6) (un3.2.2 7) (un3.2.2 8) (un3.2.2 15) (un3.2.2 18) (un3.2.2 16) (un3.2.2 17) (un3.2.2 9) (un3.2.2 10) (un3.2.2 11) (un3.2.2 12) (un3.2.2 13) (un3.2.2 14) f_out f_ranks) → va_S A s.heap H locs → lv_has ls 4 [(3, .int s3_255), (2, .int s2_157), (0, .ref y), (1, .int x_n)] → W p l e ({ frames := 7, cells := 0, slots := 0, locals := 151 }) s m args below meth cd H locs 0 0 Q (F0 m 255 ls []) := by
                              intro k
                              induction k with
                              | zero => intro s3_255 y_oWords_255 j0_255 hm; exfalso; omega
                              | succ k ih_255 =>
                                intro s3_255 y_oWords_255 j0_255 hm_255 H locs ls hP hD hS hl
                                clear tn38 tn40 tn42 tn44 tn46 tn49 g52 tn54
                                refine lv_iload_n hx hb dX10_text_255 rfl (lv_at hl 0 rfl) ?_
                                refine lv_if_lt (tgt := 279) hx hb dX10_text_256 (by decide) (fun g55 => ?_) (fun g55 => ?_)
                                · have g55 : s3_255.toInt < (0 : Int) := (q3_lt rfl (by decide)).mp g55
                                  exact ct279 n53 y_oWords_255  _ _ _ hP hD hS (lv_sub hl [1, 2, 3] rfl)
                                · have g55 : ¬ s3_255.toInt < (0 : Int) := (not_congr (q3_lt rfl (by decide))).mp g55
                                  refine lv_aload_n hx hb dX10_text_259 rfl (lv_at hl 2 rfl) ?_
                                  refine va_get (D := D) (ci := 10) (v := .ref (a 10)) (C := RX10) (T := TX10) (N := 66) hx hb hts iX10 hown hK hP 0 rfl rfl 16 (by decide) (hts (.fieldLink RX10 44 "ShortTellerModel" "oWords" "[I") (List.mem_of_getElem? (i := 9) rfl)) (fun _ h9 => h9) rfl dX10_text_260 ?_
                                  refine lv_iload_n hx hb dX10_text_263 rfl (lv_at hl 0 rfl) ?_
                                  refine lv_dup2_11 hx hb dX10_text_264 rfl rfl ?_
                                  refine q3_iald (c := c) hx hb hK hP 11 rfl (q2_in (by omega) (by omega)) dX10_text_265 (fun n56 en56 => ?_)
                                  have tn56 : n56.toInt = (y_oWords_255 s3_255.toNatClampNeg).toInt := by rw [en56]
                                  refine lv_iconst (v := 1) hx hb dX10_text_266 (by decide) ?_
                                  refine lv_iadd hx hb dX10_text_267 ?_
                                  refine lv_topi (fun n57 en57 => ?_)
                                  refine q3_iast (c := c) hx hb hK hP hD hS 11 rfl (q2_in (by omega) (by omega)) dX10_text_268 (fun F58 eF58 H locs hP hD hS => ?_)
                                  have hP : va_P D vwCl (wM c y a (0) (0) (un3.2.1 9) (un3.2.1 10) (un3.2.1 1) (un3.2.1 2) v_lists v_sentences v_headings n53 v_factBits v_known v_soundMany v_wholeLength (un3.2.1 0) x_n (un3.2.1 1) (un3.2.1 2) (un3.2.1 6) (un3.2.1 7) (un3.2.1 8) (un3.2.1 4) (un3.2.1 5) (un3.2.1 3) v_written v_named v_sorted f_tape F39 F41 F43 F45 F47 f_signs y_oKind_93 y_oIn_93 y_oList_93 F58 y_oFacts_93 f_listIn f_sOwner f_hFacts f_weights f_lengths f_values (un3.2.2 0) (un3.2.2 1) (un3.2.2 2) (un3.2.2 3) (un3.2.2 4) (un3.2.2 5) (un3.2.2 6) (un3.2.2 7) (un3.2.2 8) (un3.2.2 15) (un3.2.2 18) (un3.2.2 16) (un3.2.2 17) (un3.2.2 9) (un3.2.2 10) (un3.2.2 11) (un3.2.2 12) (un3.2.2 13) (un3.2.2 14) f_out f_ranks) H := hP
                                  have hD : va_D A (wM c y a (0) (0) (un3.2.1 9) (un3.2.1 10) (un3.2.1 1) (un3.2.1 2) v_lists v_sentences v_headings n53 v_factBits v_known v_soundMany v_wholeLength (un3.2.1 0) x_n (un3.2.1 1) (un3.2.1 2) (un3.2.1 6) (un3.2.1 7) (un3.2.1 8) (un3.2.1 4) (un3.2.1 5) (un3.2.1 3) v_written v_named v_sorted f_tape F39 F41 F43 F45 F47 f_signs y_oKind_93 y_oIn_93 y_oList_93 F58 y_oFacts_93 f_listIn f_sOwner f_hFacts f_weights f_lengths f_values (un3.2.2 0) (un3.2.2 1) (un3.2.2 2) (un3.2.2 3) (un3.2.2 4) (un3.2.2 5) (un3.2.2 6) (un3.2.2 7) (un3.2.2 8) (un3.2.2 15) (un3.2.2 18) (un3.2.2 16) (un3.2.2 17) (un3.2.2 9) (un3.2.2 10) (un3.2.2 11) (un3.2.2 12) (un3.2.2 13) (un3.2.2 14) f_out f_ranks) := hD
                                  refine lv_aload_n hx hb dX10_text_269 rfl (lv_at hl 2 rfl) ?_
                                  refine va_get (D := D) (ci := 10) (v := .ref (a 8)) (C := RX10) (T := TX10) (N := 66) hx hb hts iX10 hown hK hP 0 rfl rfl 14 (by decide) (hts (.fieldLink RX10 38 "ShortTellerModel" "oIn" "[I") (List.mem_of_getElem? (i := 14) rfl)) (fun _ h9 => h9) rfl dX10_text_270 ?_
                                  refine lv_iload_n hx hb dX10_text_273 rfl (lv_at hl 0 rfl) ?_
                                  refine q3_iald (c := c) hx hb hK hP 9 rfl (q2_in (by omega) (by omega)) dX10_text_274 (fun n59 en59 => ?_)
                                  have tn59 : n59.toInt = (y_oIn_93 s3_255.toNatClampNeg).toInt := by rw [en59]
                                  have spn59 : n59.toInt < ((Int.toNat s3_255.toInt : Nat) : Int) := by rw [en59]; exact c8 _ (show Int.toNat s3_255.toInt < Int.toNat (un3.2.1 2).toInt by omega)
                                  refine lv_istore_n (lv' := [(3, .int n59), (2, .int s2_157), (0, .ref y), (1, .int x_n)]) hx hb dX10_text_275 rfl hl (by decide) rfl (fun ls hl => ?_)
                                  refine lv_goto (tgt := 255) hx hb dX10_text_276 (by decide) ?_
                                  exact ih_255 n59 F58 (show n59.toInt < (un3.2.1 2).toInt by omega) (show ((Int.toNat (n59.toInt + 1) : Nat) : Int) < _ by omega) _ _ _ hP hD hS hl
                            exact lp255 (Int.toNat (((Int.toNat (n54.toInt + 1) : Nat) : Int)) + 1) n54 y_oWords_157 (show n54.toInt < (un3.2.1 2).toInt by omega) (show ((Int.toNat (n54.toInt + 1) : Nat) : Int) < ((Int.toNat (((Int.toNat (n54.toInt + 1) : Nat) : Int)) + 1 : Nat) : Int) by omega) _ _ _ hP hD hS hl
                          · have g52 : ¬ n49.toInt ≤ (2 : Int) := (not_congr (q3_le rfl (by decide))).mp g52
                            refine lv_goto (tgt := 279) hx hb dX10_text_235 (by decide) ?_
                            exact ct279 z_words_157 y_oWords_157  _ _ _ hP hD hS hl
                    exact lp157 (Int.toNat (815 - (0 : Int)) + 1) (0) (0) f_kind f_owner f_from f_size f_means y_oWords_64 (show 0 ≤ (0 : Int) by omega) (show (0 : Int) ≤ 814 by omega) (show (0 : Int) ≤ (un3.2.1 1).toInt by omega) h20 c9 (show 815 - (0 : Int) < ((Int.toNat (815 - (0 : Int)) + 1 : Nat) : Int) by omega) _ _ _ hP hD hS hl
                  · have g7 : ¬ (un3.2.1 2).toInt ≤ s2_93.toInt := (not_congr (q3_le rfl rfl)).mp g7
                    refine lv_aload_n hx hb dX10_text_101 rfl (lv_at hl 1 rfl) ?_
                    refine va_get (D := D) (ci := 10) (v := .ref (a 7)) (C := RX10) (T := TX10) (N := 66) hx hb hts iX10 hown hK hP 0 rfl rfl 13 (by decide) (hts (.fieldLink RX10 35 "ShortTellerModel" "oKind" "[I") (List.mem_of_getElem? (i := 12) rfl)) (fun _ h9 => h9) rfl dX10_text_102 ?_
                    refine lv_iload_n hx hb dX10_text_105 rfl (lv_at hl 0 rfl) ?_
                    refine lv_aload_n hx hb dX10_text_106 rfl (lv_at hl 1 rfl) ?_
                    refine va_get (D := D) (ci := 10) (v := .ref (a 23)) (C := RX10) (T := TX10) (N := 66) hx hb hts iX10 hown hK hP 0 rfl rfl 41 (by decide) (hts (.fieldLink RX10 83 "ShortTellerModel" "rOKind" "[I") (List.mem_of_getElem? (i := 13) rfl)) (fun _ h9 => h9) rfl dX10_text_107 ?_
                    refine lv_iload_n hx hb dX10_text_110 rfl (lv_at hl 0 rfl) ?_
                    refine q3_iald (c := c) hx hb hK hP 24 rfl (q2_in (by omega) (by omega)) dX10_text_111 (fun n60 en60 => ?_)
                    have tn60 : n60.toInt = ((un3.2.2 5) s2_93.toNatClampNeg).toInt := by rw [en60]
                    refine q3_iast (c := c) hx hb hK hP hD hS 8 rfl (q2_in (by omega) (by omega)) dX10_text_112 (fun F61 eF61 H locs hP hD hS => ?_)
                    have hP : va_P D vwCl (wM c y a (0) (0) (un3.2.1 9) (un3.2.1 10) (un3.2.1 1) (un3.2.1 2) v_lists v_sentences v_headings (0) v_factBits v_known v_soundMany v_wholeLength (un3.2.1 0) x_n (un3.2.1 1) (un3.2.1 2) (un3.2.1 6) (un3.2.1 7) (un3.2.1 8) (un3.2.1 4) (un3.2.1 5) (un3.2.1 3) v_written v_named v_sorted f_tape f_kind f_owner f_from f_size f_means f_signs F61 y_oIn_93 y_oList_93 y_oWords_64 y_oFacts_93 f_listIn f_sOwner f_hFacts f_weights f_lengths f_values (un3.2.2 0) (un3.2.2 1) (un3.2.2 2) (un3.2.2 3) (un3.2.2 4) (un3.2.2 5) (un3.2.2 6) (un3.2.2 7) (un3.2.2 8) (un3.2.2 15) (un3.2.2 18) (un3.2.2 16) (un3.2.2 17) (un3.2.2 9) (un3.2.2 10) (un3.2.2 11) (un3.2.2 12) (un3.2.2 13) (un3.2.2 14) f_out f_ranks) H := hP
                    have hD : va_D A (wM c y a (0) (0) (un3.2.1 9) (un3.2.1 10) (un3.2.1 1) (un3.2.1 2) v_lists v_sentences v_headings (0) v_factBits v_known v_soundMany v_wholeLength (un3.2.1 0) x_n (un3.2.1 1) (un3.2.1 2) (un3.2.1 6) (un3.2.1 7) (un3.2.1 8) (un3.2.1 4) (un3.2.1 5) (un3.2.1 3) v_written v_named v_sorted f_tape f_kind f_owner f_from f_size f_means f_signs F61 y_oIn_93 y_oList_93 y_oWords_64 y_oFacts_93 f_listIn f_sOwner f_hFacts f_weights f_lengths f_values (un3.2.2 0) (un3.2.2 1) (un3.2.2 2) (un3.2.2 3) (un3.2.2 4) (un3.2.2 5) (un3.2.2 6) (un3.2.2 7) (un3.2.2 8) (un3.2.2 15) (un3.2.2 18) (un3.2.2 16) (un3.2.2 17) (un3.2.2 9) (un3.2.2 10) (un3.2.2 11) (un3.2.2 12) (un3.2.2 13) (un3.2.2 14) f_out f_ranks) := hD
                    refine lv_aload_n hx hb dX10_text_113 rfl (lv_at hl 1 rfl) ?_
                    refine va_get (D := D) (ci := 10) (v := .ref (a 8)) (C := RX10) (T := TX10) (N := 66) hx hb hts iX10 hown hK hP 0 rfl rfl 14 (by decide) (hts (.fieldLink RX10 38 "ShortTellerModel" "oIn" "[I") (List.mem_of_getElem? (i := 14) rfl)) (fun _ h9 => h9) rfl dX10_text_114 ?_
                    refine lv_iload_n hx hb dX10_text_117 rfl (lv_at hl 0 rfl) ?_
                    refine lv_aload_n hx hb dX10_text_118 rfl (lv_at hl 1 rfl) ?_
                    refine va_get (D := D) (ci := 10) (v := .ref (a 24)) (C := RX10) (T := TX10) (N := 66) hx hb hts iX10 hown hK hP 0 rfl rfl 42 (by decide) (hts (.fieldLink RX10 86 "ShortTellerModel" "rOIn" "[I") (List.mem_of_getElem? (i := 15) rfl)) (fun _ h9 => h9) rfl dX10_text_119 ?_
                    refine lv_iload_n hx hb dX10_text_122 rfl (lv_at hl 0 rfl) ?_
                    refine q3_iald (c := c) hx hb hK hP 25 rfl (q2_in (by omega) (by omega)) dX10_text_123 (fun n62 en62 => ?_)
                    have tn62 : n62.toInt = ((un3.2.2 6) s2_93.toNatClampNeg).toInt := by rw [en62]
                    have si : n62.toInt < ((Int.toNat s2_93.toInt : Nat) : Int) := by rw [en62]; exact pn3_12 _ (show Int.toNat s2_93.toInt < Int.toNat (un3.2.1 2).toInt by omega)
                    refine q3_iast (c := c) hx hb hK hP hD hS 9 rfl (q2_in (by omega) (by omega)) dX10_text_124 (fun F63 eF63 H locs hP hD hS => ?_)
                    have hP : va_P D vwCl (wM c y a (0) (0) (un3.2.1 9) (un3.2.1 10) (un3.2.1 1) (un3.2.1 2) v_lists v_sentences v_headings (0) v_factBits v_known v_soundMany v_wholeLength (un3.2.1 0) x_n (un3.2.1 1) (un3.2.1 2) (un3.2.1 6) (un3.2.1 7) (un3.2.1 8) (un3.2.1 4) (un3.2.1 5) (un3.2.1 3) v_written v_named v_sorted f_tape f_kind f_owner f_from f_size f_means f_signs F61 F63 y_oList_93 y_oWords_64 y_oFacts_93 f_listIn f_sOwner f_hFacts f_weights f_lengths f_values (un3.2.2 0) (un3.2.2 1) (un3.2.2 2) (un3.2.2 3) (un3.2.2 4) (un3.2.2 5) (un3.2.2 6) (un3.2.2 7) (un3.2.2 8) (un3.2.2 15) (un3.2.2 18) (un3.2.2 16) (un3.2.2 17) (un3.2.2 9) (un3.2.2 10) (un3.2.2 11) (un3.2.2 12) (un3.2.2 13) (un3.2.2 14) f_out f_ranks) H := hP
                    have hD : va_D A (wM c y a (0) (0) (un3.2.1 9) (un3.2.1 10) (un3.2.1 1) (un3.2.1 2) v_lists v_sentences v_headings (0) v_factBits v_known v_soundMany v_wholeLength (un3.2.1 0) x_n (un3.2.1 1) (un3.2.1 2) (un3.2.1 6) (un3.2.1 7) (un3.2.1 8) (un3.2.1 4) (un3.2.1 5) (un3.2.1 3) v_written v_named v_sorted f_tape f_kind f_owner f_from f_size f_means f_signs F61 F63 y_oList_93 y_oWords_64 y_oFacts_93 f_listIn f_sOwner f_hFacts f_weights f_lengths f_values (un3.2.2 0) (un3.2.2 1) (un3.2.2 2) (un3.2.2 3) (un3.2.2 4) (un3.2.2 5) (un3.2.2 6) (un3.2.2 7) (un3.2.2 8) (un3.2.2 15) (un3.2.2 18) (un3.2.2 16) (un3.2.2 17) (un3.2.2 9) (un3.2.2 10) (un3.2.2 11) (un3.2.2 12) (un3.2.2 13) (un3.2.2 14) f_out f_ranks) := hD
                    refine lv_aload_n hx hb dX10_text_125 rfl (lv_at hl 1 rfl) ?_
                    refine va_get (D := D) (ci := 10) (v := .ref (a 9)) (C := RX10) (T := TX10) (N := 66) hx hb hts iX10 hown hK hP 0 rfl rfl 15 (by decide) (hts (.fieldLink RX10 41 "ShortTellerModel" "oList" "[I") (List.mem_of_getElem? (i := 16) rfl)) (fun _ h9 => h9) rfl dX10_text_126 ?_
                    refine lv_iload_n hx hb dX10_text_129 rfl (lv_at hl 0 rfl) ?_
                    refine lv_aload_n hx hb dX10_text_130 rfl (lv_at hl 1 rfl) ?_
                    refine va_get (D := D) (ci := 10) (v := .ref (a 25)) (C := RX10) (T := TX10) (N := 66) hx hb hts iX10 hown hK hP 0 rfl rfl 43 (by decide) (hts (.fieldLink RX10 89 "ShortTellerModel" "rOList" "[I") (List.mem_of_getElem? (i := 17) rfl)) (fun _ h9 => h9) rfl dX10_text_131 ?_
                    refine lv_iload_n hx hb dX10_text_134 rfl (lv_at hl 0 rfl) ?_
                    refine q3_iald (c := c) hx hb hK hP 26 rfl (q2_in (by omega) (by omega)) dX10_text_135 (fun n64 en64 => ?_)
                    have tn64 : n64.toInt = ((un3.2.2 7) s2_93.toNatClampNeg).toInt := by rw [en64]
                    refine q3_iast (c := c) hx hb hK hP hD hS 10 rfl (q2_in (by omega) (by omega)) dX10_text_136 (fun F65 eF65 H locs hP hD hS => ?_)
                    have hP : va_P D vwCl (wM c y a (0) (0) (un3.2.1 9) (un3.2.1 10) (un3.2.1 1) (un3.2.1 2) v_lists v_sentences v_headings (0) v_factBits v_known v_soundMany v_wholeLength (un3.2.1 0) x_n (un3.2.1 1) (un3.2.1 2) (un3.2.1 6) (un3.2.1 7) (un3.2.1 8) (un3.2.1 4) (un3.2.1 5) (un3.2.1 3) v_written v_named v_sorted f_tape f_kind f_owner f_from f_size f_means f_signs F61 F63 F65 y_oWords_64 y_oFacts_93 f_listIn f_sOwner f_hFacts f_weights f_lengths f_values (un3.2.2 0) (un3.2.2 1) (un3.2.2 2) (un3.2.2 3) (un3.2.2 4) (un3.2.2 5) (un3.2.2 6) (un3.2.2 7) (un3.2.2 8) (un3.2.2 15) (un3.2.2 18) (un3.2.2 16) (un3.2.2 17) (un3.2.2 9) (un3.2.2 10) (un3.2.2 11) (un3.2.2 12) (un3.2.2 13) (un3.2.2 14) f_out f_ranks) H := hP
                    have hD : va_D A (wM c y a (0) (0) (un3.2.1 9) (un3.2.1 10) (un3.2.1 1) (un3.2.1 2) v_lists v_sentences v_headings (0) v_factBits v_known v_soundMany v_wholeLength (un3.2.1 0) x_n (un3.2.1 1) (un3.2.1 2) (un3.2.1 6) (un3.2.1 7) (un3.2.1 8) (un3.2.1 4) (un3.2.1 5) (un3.2.1 3) v_written v_named v_sorted f_tape f_kind f_owner f_from f_size f_means f_signs F61 F63 F65 y_oWords_64 y_oFacts_93 f_listIn f_sOwner f_hFacts f_weights f_lengths f_values (un3.2.2 0) (un3.2.2 1) (un3.2.2 2) (un3.2.2 3) (un3.2.2 4) (un3.2.2 5) (un3.2.2 6) (un3.2.2 7) (un3.2.2 8) (un3.2.2 15) (un3.2.2 18) (un3.2.2 16) (un3.2.2 17) (un3.2.2 9) (un3.2.2 10) (un3.2.2 11) (un3.2.2 12) (un3.2.2 13) (un3.2.2 14) f_out f_ranks) := hD
                    refine lv_aload_n hx hb dX10_text_137 rfl (lv_at hl 1 rfl) ?_
                    refine va_get (D := D) (ci := 10) (v := .ref (a 11)) (C := RX10) (T := TX10) (N := 66) hx hb hts iX10 hown hK hP 0 rfl rfl 17 (by decide) (hts (.fieldLink RX10 47 "ShortTellerModel" "oFacts" "[I") (List.mem_of_getElem? (i := 18) rfl)) (fun _ h9 => h9) rfl dX10_text_138 ?_
                    refine lv_iload_n hx hb dX10_text_141 rfl (lv_at hl 0 rfl) ?_
                    refine lv_aload_n hx hb dX10_text_142 rfl (lv_at hl 1 rfl) ?_
                    refine va_get (D := D) (ci := 10) (v := .ref (a 26)) (C := RX10) (T := TX10) (N := 66) hx hb hts iX10 hown hK hP 0 rfl rfl 44 (by decide) (hts (.fieldLink RX10 92 "ShortTellerModel" "rOFacts" "[I") (List.mem_of_getElem? (i := 19) rfl)) (fun _ h9 => h9) rfl dX10_text_143 ?_
                    refine lv_iload_n hx hb dX10_text_146 rfl (lv_at hl 0 rfl) ?_
                    refine q3_iald (c := c) hx hb hK hP 27 rfl (q2_in (by omega) (by omega)) dX10_text_147 (fun n66 en66 => ?_)
                    have tn66 : n66.toInt = ((un3.2.2 8) s2_93.toNatClampNeg).toInt := by rw [en66]
                    refine q3_iast (c := c) hx hb hK hP hD hS 12 rfl (q2_in (by omega) (by omega)) dX10_text_148 (fun F67 eF67 H locs hP hD hS => ?_)
                    have hP : va_P D vwCl (wM c y a (0) (0) (un3.2.1 9) (un3.2.1 10) (un3.2.1 1) (un3.2.1 2) v_lists v_sentences v_headings (0) v_factBits v_known v_soundMany v_wholeLength (un3.2.1 0) x_n (un3.2.1 1) (un3.2.1 2) (un3.2.1 6) (un3.2.1 7) (un3.2.1 8) (un3.2.1 4) (un3.2.1 5) (un3.2.1 3) v_written v_named v_sorted f_tape f_kind f_owner f_from f_size f_means f_signs F61 F63 F65 y_oWords_64 F67 f_listIn f_sOwner f_hFacts f_weights f_lengths f_values (un3.2.2 0) (un3.2.2 1) (un3.2.2 2) (un3.2.2 3) (un3.2.2 4) (un3.2.2 5) (un3.2.2 6) (un3.2.2 7) (un3.2.2 8) (un3.2.2 15) (un3.2.2 18) (un3.2.2 16) (un3.2.2 17) (un3.2.2 9) (un3.2.2 10) (un3.2.2 11) (un3.2.2 12) (un3.2.2 13) (un3.2.2 14) f_out f_ranks) H := hP
                    have hD : va_D A (wM c y a (0) (0) (un3.2.1 9) (un3.2.1 10) (un3.2.1 1) (un3.2.1 2) v_lists v_sentences v_headings (0) v_factBits v_known v_soundMany v_wholeLength (un3.2.1 0) x_n (un3.2.1 1) (un3.2.1 2) (un3.2.1 6) (un3.2.1 7) (un3.2.1 8) (un3.2.1 4) (un3.2.1 5) (un3.2.1 3) v_written v_named v_sorted f_tape f_kind f_owner f_from f_size f_means f_signs F61 F63 F65 y_oWords_64 F67 f_listIn f_sOwner f_hFacts f_weights f_lengths f_values (un3.2.2 0) (un3.2.2 1) (un3.2.2 2) (un3.2.2 3) (un3.2.2 4) (un3.2.2 5) (un3.2.2 6) (un3.2.2 7) (un3.2.2 8) (un3.2.2 15) (un3.2.2 18) (un3.2.2 16) (un3.2.2 17) (un3.2.2 9) (un3.2.2 10) (un3.2.2 11) (un3.2.2 12) (un3.2.2 13) (un3.2.2 14) f_out f_ranks) := hD
                    obtain ⟨n68, en68⟩ : ∃ z : Int32, z = s2_93 + (1) := ⟨_, rfl⟩
                    have tn68 : n68.toInt = s2_93.toInt + (1 : Int) := q3_add en68 rfl (by decide) (by omega) (by omega)
                    refine lv_iinc (v := n68) (lv' := [(2, .int n68), (0, .ref y), (1, .int x_n)]) hx hb dX10_text_149 hl (k := 0) rfl (by rw [en68]; rfl) (by decide) rfl (fun ls hl => ?_)
                    have c69 : ∀ j : Nat, j < Int.toNat n68.toInt → (F63 j).toInt < j := q4_ext (P := fun j z => z.toInt < j) eF63 (by omega) j3_93 si (by omega)
                    refine lv_goto (tgt := 93) hx hb dX10_text_152 (by decide) ?_
                    exact ih_93 n68 F61 F63 F65 F67 (show 0 ≤ n68.toInt by omega) (show n68.toInt ≤ 14 by omega) (show n68.toInt ≤ (un3.2.1 2).toInt by omega) c69 (show 15 - n68.toInt < _ by omega) _ _ _ hP hD hS hl
              exact lp93 (Int.toNat (15 - (0 : Int)) + 1) (0) f_oKind f_oIn f_oList f_oFacts (show 0 ≤ (0 : Int) by omega) (show (0 : Int) ≤ 14 by omega) (show (0 : Int) ≤ (un3.2.1 2).toInt by omega) c6 (show 15 - (0 : Int) < ((Int.toNat (15 - (0 : Int)) + 1 : Nat) : Int) by omega) _ _ _ hP hD hS hl
            · have g5 : ¬ (14 : Int) ≤ s2_64.toInt := (not_congr (q3_le (by decide) rfl)).mp g5
              refine lv_aload_n hx hb dX10_text_70 rfl (lv_at hl 1 rfl) ?_
              refine va_get (D := D) (ci := 10) (v := .ref (a 10)) (C := RX10) (T := TX10) (N := 66) hx hb hts iX10 hown hK hP 0 rfl rfl 16 (by decide) (hts (.fieldLink RX10 44 "ShortTellerModel" "oWords" "[I") (List.mem_of_getElem? (i := 9) rfl)) (fun _ h9 => h9) rfl dX10_text_71 ?_
              refine lv_iload_n hx hb dX10_text_74 rfl (lv_at hl 0 rfl) ?_
              refine lv_iconst (v := 0) hx hb dX10_text_75 (by decide) ?_
              refine q3_iast (c := c) hx hb hK hP hD hS 11 rfl (q2_in (by omega) (by omega)) dX10_text_76 (fun F70 eF70 H locs hP hD hS => ?_)
              have hP : va_P D vwCl (wM c y a (0) (0) (un3.2.1 9) (un3.2.1 10) (un3.2.1 1) v_options v_lists v_sentences v_headings (0) v_factBits v_known v_soundMany v_wholeLength (un3.2.1 0) x_n (un3.2.1 1) (un3.2.1 2) (un3.2.1 6) (un3.2.1 7) (un3.2.1 8) (un3.2.1 4) (un3.2.1 5) (un3.2.1 3) v_written v_named v_sorted f_tape f_kind f_owner f_from f_size f_means f_signs f_oKind f_oIn f_oList F70 f_oFacts f_listIn f_sOwner f_hFacts f_weights f_lengths f_values (un3.2.2 0) (un3.2.2 1) (un3.2.2 2) (un3.2.2 3) (un3.2.2 4) (un3.2.2 5) (un3.2.2 6) (un3.2.2 7) (un3.2.2 8) (un3.2.2 15) (un3.2.2 18) (un3.2.2 16) (un3.2.2 17) (un3.2.2 9) (un3.2.2 10) (un3.2.2 11) (un3.2.2 12) (un3.2.2 13) (un3.2.2 14) f_out f_ranks) H := hP
              have hD : va_D A (wM c y a (0) (0) (un3.2.1 9) (un3.2.1 10) (un3.2.1 1) v_options v_lists v_sentences v_headings (0) v_factBits v_known v_soundMany v_wholeLength (un3.2.1 0) x_n (un3.2.1 1) (un3.2.1 2) (un3.2.1 6) (un3.2.1 7) (un3.2.1 8) (un3.2.1 4) (un3.2.1 5) (un3.2.1 3) v_written v_named v_sorted f_tape f_kind f_owner f_from f_size f_means f_signs f_oKind f_oIn f_oList F70 f_oFacts f_listIn f_sOwner f_hFacts f_weights f_lengths f_values (un3.2.2 0) (un3.2.2 1) (un3.2.2 2) (un3.2.2 3) (un3.2.2 4) (un3.2.2 5) (un3.2.2 6) (un3.2.2 7) (un3.2.2 8) (un3.2.2 15) (un3.2.2 18) (un3.2.2 16) (un3.2.2 17) (un3.2.2 9) (un3.2.2 10) (un3.2.2 11) (un3.2.2 12) (un3.2.2 13) (un3.2.2 14) f_out f_ranks) := hD
              obtain ⟨n71, en71⟩ : ∃ z : Int32, z = s2_64 + (1) := ⟨_, rfl⟩
              have tn71 : n71.toInt = s2_64.toInt + (1 : Int) := q3_add en71 rfl (by decide) (by omega) (by omega)
              refine lv_iinc (v := n71) (lv' := [(2, .int n71), (0, .ref y), (1, .int x_n)]) hx hb dX10_text_77 hl (k := 0) rfl (by rw [en71]; rfl) (by decide) rfl (fun ls hl => ?_)
              refine lv_goto (tgt := 64) hx hb dX10_text_80 (by decide) ?_
              exact ih_64 n71 F70 (show 0 ≤ n71.toInt by omega) (show n71.toInt ≤ 14 by omega) j2_64 (show 15 - n71.toInt < _ by omega) _ _ _ hP hD hS hl
        exact lp64 (Int.toNat (15 - (0 : Int)) + 1) (0) f_oWords (show 0 ≤ (0 : Int) by omega) (show (0 : Int) ≤ 14 by omega) (show x_n.toInt ≤ 800 by omega) (show 15 - (0 : Int) < ((Int.toNat (15 - (0 : Int)) + 1 : Nat) : Int) by omega) _ _ _ hP hD hS hl
      · have g4 : n3.toInt = (0 : Int) := (q3_eq rfl (by decide)).mp g4
        clear pn3_5
        refine lv_iconst (v := -1) hx hb dX10_text_47 (by decide) ?_
        exact hret (-1) (q2_u [] [0, x_n, 0, un3.2.1 9, un3.2.1 10, un3.2.1 0, un3.2.1 1, un3.2.1 2, un3.2.1 3, un3.2.1 4, un3.2.1 5, un3.2.1 6, un3.2.1 7, un3.2.1 8, v_things, v_words, v_options, v_lists, v_sentences, v_headings, v_factBits, v_known, v_soundMany, v_written, v_named, v_wholeLength, v_sorted] [un3.2.2 0, un3.2.2 1, un3.2.2 2, un3.2.2 3, un3.2.2 4, un3.2.2 5, un3.2.2 6, un3.2.2 7, un3.2.2 8, un3.2.2 9, un3.2.2 10, un3.2.2 11, un3.2.2 12, un3.2.2 13, un3.2.2 14, un3.2.2 15, un3.2.2 16, un3.2.2 17, un3.2.2 18, f_oWords, f_oKind, f_oIn, f_oList, f_oFacts, f_kind, f_owner, f_from, f_size, f_means, f_signs, f_listIn, f_sOwner, f_hFacts, f_weights, f_lengths, f_out, f_values]) _ _ _ _ ⟨h0, h1, h2, h3, h4, h5, h6, h7, h8, h9, (show 0 ≤ (0 : Int) by omega), (show (0 : Int) ≤ 800 by omega), h12, h13, (show ((x_n.toInt < 0 ∨ v_tapeSize.toInt < x_n.toInt) ∧ (0 : Int) = v_tapeSize.toInt) ∨ (0 ≤ x_n.toInt ∧ x_n.toInt ≤ v_tapeSize.toInt ∧ (0 : Int) = 0) by omega), (show ((x_n.toInt < 0 ∨ v_tapeSize.toInt < x_n.toInt) ∧ (-1 : Int) = -2 ∧ (un3.2.1 9).toInt = v_fault.toInt ∧ (un3.2.1 10).toInt = v_faultPlace.toInt) ∨ (0 ≤ x_n.toInt ∧ x_n.toInt ≤ v_tapeSize.toInt ∧ (((un3.2.1 9).toInt ≠ 0 ∧ (-1 : Int) = -1) ∨ ((un3.2.1 9).toInt = 0 ∧ (un3.2.1 10).toInt = -1 ∧ (-1 : Int) = (un3.2.1 2).toInt))) by omega), pn3_7, pn3_8, h17, h18, (show e_TX x_n.toInt v_tapeSize.toInt f_tape (un3.2.1 9).toInt (un3.2.1 10).toInt (un3.2.1 2).toInt from fun _ _ => pn3_9), pn3_10, h20, trivial⟩ dX10_text_48 hP hD hS
    · have g2 : ¬ x_n.toInt ≤ v_tapeSize.toInt := (not_congr (q3_le rfl rfl)).mp g2
      refine lv_bipush (v := -2) hx hb dX10_text_17 (by decide) ?_
      exact hret (-2) (q2_u [] [0, v_end, v_tapeSize, v_fault, v_faultPlace, v_next, v_rThings, v_rOptions, v_open, v_lastName, v_inSentence, v_rLists, v_rSentences, v_rHeadings, v_things, v_words, v_options, v_lists, v_sentences, v_headings, v_factBits, v_known, v_soundMany, v_written, v_named, v_wholeLength, v_sorted] [f_rKind, f_rOwner, f_rFrom, f_rSize, f_rMeans, f_rOKind, f_rOIn, f_rOList, f_rOFacts, f_opKind, f_opFrom, f_opWord, f_opOwner, f_opList, f_opItems, f_rListIn, f_rHFacts, f_rWeights, f_rSOwner, f_oWords, f_oKind, f_oIn, f_oList, f_oFacts, f_kind, f_owner, f_from, f_size, f_means, f_signs, f_listIn, f_sOwner, f_hFacts, f_weights, f_lengths, f_out, f_values]) _ _ _ _ ⟨h0, h1, h2, h3, h4, h5, h6, h7, h8, h9, h10, h11, h12, h13, (show ((x_n.toInt < 0 ∨ v_tapeSize.toInt < x_n.toInt) ∧ v_tapeSize.toInt = v_tapeSize.toInt) ∨ (0 ≤ x_n.toInt ∧ x_n.toInt ≤ v_tapeSize.toInt ∧ v_tapeSize.toInt = 0) by omega), (show ((x_n.toInt < 0 ∨ v_tapeSize.toInt < x_n.toInt) ∧ (-2 : Int) = -2 ∧ v_fault.toInt = v_fault.toInt ∧ v_faultPlace.toInt = v_faultPlace.toInt) ∨ (0 ≤ x_n.toInt ∧ x_n.toInt ≤ v_tapeSize.toInt ∧ ((v_fault.toInt ≠ 0 ∧ (-2 : Int) = -1) ∨ (v_fault.toInt = 0 ∧ v_faultPlace.toInt = -1 ∧ (-2 : Int) = v_rOptions.toInt))) by omega), h14, h16, h17, h18, (show e_TX x_n.toInt v_tapeSize.toInt f_tape v_fault.toInt v_faultPlace.toInt v_rOptions.toInt from fun h8 _ => absurd h8 (by omega)), h19, h20, trivial⟩ dX10_text_19 hP hD hS
