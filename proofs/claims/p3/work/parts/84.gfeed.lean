def e_byX (w s : Int32) : Int32 := (w.toUInt32 >>> (s.toUInt32 &&& Int32.toUInt32 31)).toInt32 &&& 255
def e_byM (w s : Int32) : Int32 := (w >>> (s &&& 31)) &&& 255
theorem e_m255f : ∀ i : Fin 32, (255#32)[i.val] = decide (i.val < 8) := by decide
theorem e_m255 (a : BitVec 32) (i : Nat) (hi : i < 32) : (a &&& 255#32)[i] = (decide (i < 8) && a[i]) := by
  rw [BitVec.getElem_and]
  have : (255#32)[i] = decide (i < 8) := e_m255f ⟨i, hi⟩
  rw [this, Bool.and_comm]
theorem e_by {w : Int32} {k : Nat} (hk : k + 8 ≤ 32) : w.toBitVec.ushiftRight k &&& 255#32 = w.toBitVec.sshiftRight k &&& 255#32 := by
  apply BitVec.eq_of_getElem_eq
  intro i hi
  rw [e_m255, e_m255]
  by_cases h : i < 8
  · simp only [h, decide_true, Bool.true_and]
    have h1 : (w.toBitVec.ushiftRight k)[i] = w.toBitVec.getLsbD (k + i) := by
      show (w.toBitVec >>> k)[i] = _
      rw [BitVec.getElem_ushiftRight]
    rw [h1, BitVec.getElem_sshiftRight, dif_pos (by omega)]
    rfl
  · simp [h]
theorem e_b24 (w : Int32) : e_byX w 24 = e_byM w 24 := by
  apply Int32.toBitVec_inj.mp
  have := e_by (w := w) (k := 24) (by decide)
  exact this
theorem e_b16 (w : Int32) : e_byX w 16 = e_byM w 16 := by
  apply Int32.toBitVec_inj.mp
  have := e_by (w := w) (k := 16) (by decide)
  exact this
theorem e_b8 (w : Int32) : e_byX w 8 = e_byM w 8 := by
  apply Int32.toBitVec_inj.mp
  have := e_by (w := w) (k := 8) (by decide)
  exact this
theorem e_b0 (w : Int32) : e_byX w 0 = e_byM w 0 := by
  apply Int32.toBitVec_inj.mp
  have := e_by (w := w) (k := 0) (by decide)
  exact this
/-- the twenty bytes that are fed -/
def e_fb (a b d e g : Int32) (k : Nat) : Int32 := e_byM (if k < 4 then a else if k < 8 then b else if k < 12 then d else if k < 16 then e else g) (if k % 4 = 0 then 24 else if k % 4 = 1 then 16 else if k % 4 = 2 then 8 else 0)
/-- a tape that has got K bytes from t on -/
def e_Fd (f0 f : Nat → Int32) (t : Int) (K : Nat) (B : Nat → Int32) : Prop := (∀ j : Nat, (j : Int) < t → f j = f0 j) ∧ ∀ k : Nat, k < K → f (Int.toNat (t + k)) = B k
theorem e_Fd.nil {f : Nat → Int32} {t : Int} {B : Nat → Int32} : e_Fd f f t 0 B := ⟨fun _ _ => rfl, fun k h => absurd h (Nat.not_lt_zero _)⟩
theorem e_Fd.more {f0 f F : Nat → Int32} {t : Int} {K : Nat} {B : Nat → Int32} {i v : Int32} (h : e_Fd f0 f t K B) (e : F = upd f i.toNatClampNeg v) (h0 : 0 ≤ t) (hi : i.toInt = t + K) (hv : v = B K) : e_Fd f0 F t (K + 1) B := by
  have ne : ∀ j : Nat, (j : Int) ≠ t + K → F j = f j := fun j hj => by
    rw [e]; unfold upd; rw [if_neg]
    intro h9
    have : (j : Int) = (Int.toNat i.toInt : Nat) := by rw [h9]; rfl
    omega
  refine ⟨fun j hj => by rw [ne j (by omega)]; exact h.1 j hj, fun k hk => ?_⟩
  by_cases hkK : k = K
  · subst hkK
    have : Int.toNat (t + k) = i.toNatClampNeg := by show _ = Int.toNat i.toInt; rw [hi]
    rw [this, e]; unfold upd; rw [if_pos rfl, hv]
  · rw [ne _ (by omega)]; exact h.2 k (by omega)
theorem e_Fd.join {f0 f1 f2 : Nat → Int32} {t t1 : Int} {K K2 : Nat} {B C : Nat → Int32} (h : e_Fd f0 f1 t K B) (h2 : e_Fd f1 f2 t1 K2 C) (h0 : 0 ≤ t) (ht : t1 = t + K) (hc : ∀ k, k < K2 → C k = B (K + k)) : e_Fd f0 f2 t (K + K2) B := by
  subst ht
  refine ⟨fun j hj => by rw [h2.1 j (by omega), h.1 j hj], fun k hk => ?_⟩
  by_cases hkK : k < K
  · rw [h2.1 _ (by omega)]; exact h.2 k hkK
  · have := h2.2 (k - K) (by omega)
    rw [hc _ (by omega), show K + (k - K) = k by omega] at this
    rw [← this]; congr 1; omega
theorem e_Fd.same {f0 f g0 g : Nat → Int32} {t : Int} {K : Nat} {B : Nat → Int32} (h : e_Fd f0 f t K B) (h' : e_Fd g0 g t K B) (he : ∀ j : Nat, (j : Int) < t → f0 j = g0 j) : ∀ j : Nat, (j : Int) < t + K → f j = g j := fun j hj => by
  by_cases hlt : (j : Int) < t
  · rw [h.1 j hlt, h'.1 j hlt]; exact he j hlt
  · by_cases h0 : 0 ≤ t
    · have a := h.2 (Int.toNat (j - t)) (by omega)
      have b := h'.2 (Int.toNat (j - t)) (by omega)
      rw [show Int.toNat (t + ((Int.toNat (j - t) : Nat) : Int)) = j by omega] at a b
      rw [a, b]
    · have a := h.2 (Int.toNat (j - t)) (by omega)
      have b := h'.2 (Int.toNat (j - t)) (by omega)
      rw [show Int.toNat (t + ((Int.toNat (j - t) : Nat) : Int)) = j by omega] at a b
      rw [a, b]
/-! the machine reads nothing behind n -/
theorem e_len_cg {f : Int → Bool} {sg sg' : Nat → Int} {n : Int} (h : ∀ j : Nat, (j : Int) < n → sg j = sg' j) : ∀ (k : Nat) (i : Int), 0 ≤ i → e_len f sg n k i = e_len f sg' n k i := by
  intro k
  induction k with
  | zero => intros; rfl
  | succ k ih =>
    intro i hi
    unfold e_len
    by_cases hn : i < n
    · rw [h i.toNat (by omega), ih (i + 1) (by omega)]
    · rw [if_neg (fun h9 => hn h9.1), if_neg (fun h9 => hn h9.1)]
theorem e_len_le {f : Int → Bool} {sg : Nat → Int} {n : Int} : ∀ (k : Nat) (i : Int), i ≤ n → (e_len f sg n k i : Int) ≤ n - i := by
  intro k
  induction k with
  | zero => intro i hi; show (0 : Int) ≤ _; omega
  | succ k ih =>
    intro i hi
    unfold e_len
    by_cases hn : i < n ∧ f (sg i.toNat) = true
    · rw [if_pos hn]; have := ih (i + 1) (by omega); omega
    · rw [if_neg hn]; omega
theorem e_dec_cg {sg sg' : Nat → Int} {n i : Int} (h : ∀ j : Nat, (j : Int) < n → sg j = sg' j) (hi : 0 ≤ i) : ∀ m : Nat, i + m ≤ n → e_dec sg i m = e_dec sg' i m := by
  intro m
  induction m with
  | zero => intro _; rfl
  | succ m ih => intro hm; unfold e_dec; rw [ih (by omega), h (i + m).toNat (by omega)]
theorem e_word_cg {sg sg' : Nat → Int} {n k fr : Int} {s : e_S} (h : ∀ j : Nat, (j : Int) < n → sg j = sg' j) (h0 : 0 ≤ fr) : e_word sg n k fr s = e_word sg' n k fr s := by
  obtain ⟨a, fs, op, ls, sw, nm⟩ := s
  cases fs with
  | nil => rfl
  | cons x fs => obtain ⟨p, q, r, t, u⟩ := x; simp only [e_word]; rw [e_len_cg h _ _ h0]
theorem e_part_cg {sg sg' : Nat → Int} {n : Int} {s : e_S} (h : ∀ j : Nat, (j : Int) < n → sg j = sg' j) (h0 : 0 ≤ s.1) (h1 : s.1 < n) : e_part sg n s = e_part sg' n s := by
  obtain ⟨a, fs, op, ls, sw, nm⟩ := s
  have h0 : 0 ≤ a := h0
  have h1 : a < n := h1
  cases fs with
  | nil => rfl
  | cons x fs =>
    obtain ⟨p, q, r, t, u⟩ := x
    simp only [e_part]
    have hl := e_len_le (f := e_dg) (sg := sg') (n := n) 801 (a + 1) (by omega)
    rw [h a.toNat (by omega), e_len_cg h _ _ (show 0 ≤ a + 1 by omega), e_dec_cg h (show 0 ≤ a + 1 by omega) _ (by omega), e_word_cg h (show 0 ≤ a + 1 by omega), e_word_cg (k := 2) h (show 0 ≤ a + 1 by omega), e_word_cg (k := 0) h h0]
    by_cases hx : a + 1 + (e_len e_dg sg' n 801 (a + 1) : Int) < n
    · rw [h (a + 1 + (e_len e_dg sg' n 801 (a + 1) : Int)).toNat (by omega)]
    · simp only [hx, false_and, if_false]
theorem e_step_cg {sg sg' : Nat → Int} {n : Int} {s : e_S} (h : ∀ j : Nat, (j : Int) < n → sg j = sg' j) (h0 : 0 ≤ s.1) : e_step sg n s = e_step sg' n s := by
  obtain ⟨a, fs, op, ls, sw, nm⟩ := s
  have h0 : 0 ≤ a := h0
  by_cases hn : n ≤ a
  · cases fs with
    | nil => simp only [e_step, if_pos hn]
    | cons x fs => obtain ⟨p, q, r, t, u⟩ := x; simp only [e_step, if_pos hn]
  · cases fs with
    | nil => simp only [e_step]; rw [h a.toNat (by omega)]
    | cons x fs => obtain ⟨p, q, r, t, u⟩ := x; simp only [e_step]; rw [h a.toNat (by omega), e_part_cg h h0 (show a < n by omega)]
theorem e_word_up {sg : Nat → Int} {n k fr : Int} {s t : e_S} (h0 : 0 ≤ fr) (h : e_word sg n k fr s = .inl t) : 0 ≤ t.1 := by
  obtain ⟨a, fs, op, ls, sw, nm⟩ := s
  cases fs with
  | nil => cases h
  | cons x fs =>
    obtain ⟨p, q, r, t', u⟩ := x
    simp only [e_word] at h
    split at h
    · cases h
    · split at h
      · cases h
      · injection h with h; rw [← h]; show 0 ≤ fr + _; omega
theorem e_part_up {sg : Nat → Int} {n : Int} {s t : e_S} (h0 : 0 ≤ s.1) (h : e_part sg n s = .inl t) : 0 ≤ t.1 := by
  obtain ⟨a, fs, op, ls, sw, nm⟩ := s
  have h0 : 0 ≤ a := h0
  cases fs with
  | nil => cases h
  | cons x fs =>
    obtain ⟨p, q, r, t', u⟩ := x
    simp only [e_part] at h
    by_cases c1 : sg a.toNat = 40
    · rw [if_pos c1] at h; split at h
      · cases h
      · injection h with h; rw [← h]; show 0 ≤ a + 1; omega
    · rw [if_neg c1] at h
      by_cases c2 : sg a.toNat = 123
      · rw [if_pos c2] at h; split at h
        · cases h
        · injection h with h; rw [← h]; show 0 ≤ a + 1; omega
      · rw [if_neg c2] at h
        by_cases c3 : sg a.toNat = 60
        · rw [if_pos c3] at h; split at h
          · cases h
          · split at h
            · cases h
            · split at h
              · injection h with h; rw [← h]; show 0 ≤ a + 2 + _; omega
              · cases h
        · rw [if_neg c3] at h
          by_cases c4 : sg a.toNat = 42
          · rw [if_pos c4] at h; exact e_word_up (by omega) h
          · rw [if_neg c4] at h
            by_cases c5 : sg a.toNat = 126
            · rw [if_pos c5] at h; split at h
              · cases h
              · exact e_word_up (by omega) h
            · rw [if_neg c5] at h; exact e_word_up h0 h
theorem e_step_up {sg : Nat → Int} {n : Int} {s t : e_S} (h0 : 0 ≤ s.1) (h : e_step sg n s = .inl t) : 0 ≤ t.1 := by
  obtain ⟨a, fs, op, ls, sw, nm⟩ := s
  have h0 : 0 ≤ a := h0
  cases fs with
  | nil =>
    simp only [e_step] at h
    split at h
    · cases h
    · split at h
      · injection h with h; rw [← h]; show 0 ≤ a + 1; omega
      · split at h
        · injection h with h; rw [← h]; show 0 ≤ a + 1; omega
        · split at h
          · split at h
            · cases h
            · injection h with h; rw [← h]; exact h0
          · cases h
  | cons x fs =>
    obtain ⟨p, q, r, t', u⟩ := x
    simp only [e_step] at h
    split at h
    · cases h
    · split at h
      · injection h with h; rw [← h]; show 0 ≤ a + 1; omega
      · split at h
        · split at h
          · split at h
            · split at h
              · cases h
              · injection h with h; rw [← h]; exact h0
            · injection h with h; rw [← h]; exact h0
          · exact e_part_up h0 h
        · split at h
          · simp only [e_close] at h
            split at h
            · cases h
            · split at h
              · injection h with h; rw [← h]; show 0 ≤ a + 1; omega
              · split at h
                · injection h with h; rw [← h]; show 0 ≤ a + 1; omega
                · injection h with h; rw [← h]; show 0 ≤ a + 1; omega
          · cases h
theorem e_run_cg {sg sg' : Nat → Int} {n : Int} (h : ∀ j : Nat, (j : Int) < n → sg j = sg' j) : ∀ (k : Nat) (s : e_S), 0 ≤ s.1 → e_run sg n k s = e_run sg' n k s := by
  intro k
  induction k with
  | zero => intros; rfl
  | succ k ih =>
    intro s h0
    simp only [e_run]
    rw [← e_step_cg h h0]
    cases hs : e_step sg n s with
    | inl t => exact ih t (e_step_up h0 hs)
    | inr r => rfl
theorem e_Ev.cg {sg sg' : Nat → Int} {n : Int} {s : e_S} {r : e_R} (hr : e_Ev sg n s r) (h : ∀ j : Nat, (j : Int) < n → sg j = sg' j) (h0 : 0 ≤ s.1) : e_Ev sg' n s r := by
  obtain ⟨k, hr⟩ := hr; exact ⟨k, by rw [← e_run_cg h k s h0]; exact hr⟩
theorem e_fin_op {f p a b : Int} (h : f ≠ 0) : e_fin f p a = e_fin f p b := by unfold e_fin; rw [if_neg h, if_neg h]
/-- both say the same -/
theorem e_fin_one {sg : Nat → Int} {n f p op f' p' op' : Int} {s : e_S} (h : e_Ev sg n s (e_fin f p op)) (h' : e_Ev sg n s (e_fin f' p' op')) (hp : f ≠ 0 ∨ p = -1) (hp' : f' ≠ 0 ∨ p' = -1) : f = f' ∧ p = p' ∧ (f = 0 → op = op') := by
  have e := h.one h'
  unfold e_fin at e
  by_cases h1 : f = 0
  · rw [if_pos h1] at e
    by_cases h2 : f' = 0
    · rw [if_pos h2] at e
      injection e with e1 e2
      injection e2 with e2 e3
      exact ⟨by omega, by omega, fun _ => e3⟩
    · rw [if_neg h2] at e
      injection e with e1 e2
      omega
  · rw [if_neg h1] at e
    by_cases h2 : f' = 0
    · rw [if_pos h2] at e
      injection e with e1 e2
      omega
    · rw [if_neg h2] at e
      injection e with e1 e2
      injection e2 with e2 e3
      exact ⟨e1, e2, fun h9 => absurd h9 h1⟩
theorem e_Fd.more' {f0 f F : Nat → Int32} {t : Int} {K K' : Nat} {B : Nat → Int32} {i v : Int32} (h : e_Fd f0 f t K B) (e : F = upd f i.toNatClampNeg v) (h0 : 0 ≤ t) (hi : i.toInt = t + K) (hv : v = B K) (hK : K' = K + 1) : e_Fd f0 F t K' B := by
  subst hK; exact h.more e h0 hi hv
def e_fw (a b d e g : Int32) (k : Nat) : Int32 := if k < 4 then a else if k < 8 then b else if k < 12 then d else if k < 16 then e else g
theorem e_shk {i : Int32} (h0 : 0 ≤ i.toInt) (h1 : i.toInt < 20) : (24 : Int32) - 8 * (i - i / 4 * 4) = (if (Int.toNat i.toInt) % 4 = 0 then 24 else if (Int.toNat i.toInt) % 4 = 1 then 16 else if (Int.toNat i.toInt) % 4 = 2 then 8 else 0) := by
  have h : i.toInt = 0 ∨ i.toInt = 1 ∨ i.toInt = 2 ∨ i.toInt = 3 ∨ i.toInt = 4 ∨ i.toInt = 5 ∨ i.toInt = 6 ∨ i.toInt = 7 ∨ i.toInt = 8 ∨ i.toInt = 9 ∨ i.toInt = 10 ∨ i.toInt = 11 ∨ i.toInt = 12 ∨ i.toInt = 13 ∨ i.toInt = 14 ∨ i.toInt = 15 ∨ i.toInt = 16 ∨ i.toInt = 17 ∨ i.toInt = 18 ∨ i.toInt = 19 := by omega
  have e : i = Int32.ofInt i.toInt := by rw [Int32.ofInt_toInt]
  rcases h with h | h | h | h | h | h | h | h | h | h | h | h | h | h | h | h | h | h | h | h <;> (rw [h] at e; subst e; decide)
theorem e_fbv {a b d e g w i n1 n2 n3 n4 v : Int32} (hw : e_Hid (w = e_fw a b d e g (Int.toNat i.toInt))) (h1 : n1 = i - i / 4 * 4) (h2 : n2 = 8 * n1) (h3 : n3 = 24 - n2) (h4 : n4 = w >>> (n3 &&& 31)) (hv : v = n4 &&& 255) (h0 : 0 ≤ i.toInt) (hi : i.toInt < 20) : v = e_fb a b d e g (Int.toNat i.toInt) := by
  have hw : w = e_fw a b d e g (Int.toNat i.toInt) := hw
  rw [hv, h4, h3, h2, h1, e_shk h0 hi, hw]; rfl
def e_b4 (w : Int32) (k : Nat) : Int32 := e_byM w (if k % 4 = 0 then 24 else if k % 4 = 1 then 16 else if k % 4 = 2 then 8 else 0)
theorem e_b4_0 {a b d e g : Int32} : ∀ k, k < 4 → e_b4 a k = e_fb a b d e g (0 + k)
  | 0, _ => rfl
  | 1, _ => rfl
  | 2, _ => rfl
  | 3, _ => rfl
  | k + 4, h => by omega
theorem e_b4_1 {a b d e g : Int32} : ∀ k, k < 4 → e_b4 b k = e_fb a b d e g (0 + 4 + k)
  | 0, _ => rfl
  | 1, _ => rfl
  | 2, _ => rfl
  | 3, _ => rfl
  | k + 4, h => by omega
theorem e_b4_2 {a b d e g : Int32} : ∀ k, k < 4 → e_b4 d k = e_fb a b d e g (0 + 4 + 4 + k)
  | 0, _ => rfl
  | 1, _ => rfl
  | 2, _ => rfl
  | 3, _ => rfl
  | k + 4, h => by omega
theorem e_b4_3 {a b d e g : Int32} : ∀ k, k < 4 → e_b4 e k = e_fb a b d e g (0 + 4 + 4 + 4 + k)
  | 0, _ => rfl
  | 1, _ => rfl
  | 2, _ => rfl
  | 3, _ => rfl
  | k + 4, h => by omega
theorem e_b4_4 {a b d e g : Int32} : ∀ k, k < 4 → e_b4 g k = e_fb a b d e g (0 + 4 + 4 + 4 + 4 + k)
  | 0, _ => rfl
  | 1, _ => rfl
  | 2, _ => rfl
  | 3, _ => rfl
  | k + 4, h => by omega
def e_FX (t : Int) (f0 f : Nat → Int32) (B : Nat → Int32) : Prop := (t + 20 ≤ 800 → e_Fd f0 f t 20 B) ∧ (800 < t + 20 → f = f0)
def e_TX (n t : Int) (f : Nat → Int32) (ft p op : Int) : Prop := 0 ≤ n → n ≤ t → e_Ev (e_sg f) n (0, [], 0, 0, 0, 0) (e_fin ft p op)
theorem e_FX.same {f0 f g0 g : Nat → Int32} {t t' t2 : Int} {B : Nat → Int32} (h : e_FX t f0 f B) (h' : e_FX t' g0 g B) (ht : t = t') (he : ∀ j : Nat, (j : Int) < t → f0 j = g0 j) (h2 : (t + 20 ≤ 800 ∧ t2 = t + 20) ∨ (800 < t + 20 ∧ t2 = t)) : ∀ j : Nat, (j : Int) < t2 → f j = g j := by
  subst ht
  rcases h2 with ⟨a, b⟩ | ⟨a, b⟩
  · subst b; exact (h.1 a).same (h'.1 a) he
  · subst b; rw [h.2 a, h'.2 a]; exact he
theorem e_TX.same {n t : Int} {f g : Nat → Int32} {ft p op ft' p' op' : Int} (h : e_TX n t f ft p op) (h' : e_TX n t g ft' p' op') (h0 : 0 ≤ n) (hn : n ≤ t) (he : ∀ j : Nat, (j : Int) < t → f j = g j) (hp : ft ≠ 0 ∨ p = -1) (hp' : ft' ≠ 0 ∨ p' = -1) : ft = ft' ∧ p = p' ∧ (ft = 0 → op = op') :=
  e_fin_one ((h h0 hn).cg (sg' := e_sg g) (fun j hj => by show (f j).toInt = (g j).toInt; rw [he j (by omega)]) (Int.le_refl _)) (h' h0 hn) hp hp'
theorem e_law_tx {n n2 t t2 f p fm pm f' p' fm' pm' r rm op om : Int} {tape g : Nat → Int32}
    (hx : ((n < 0 ∨ t < n) ∧ r = -2 ∧ f' = f ∧ p' = p) ∨ (0 ≤ n ∧ n ≤ t ∧ ((f' ≠ 0 ∧ r = -1) ∨ (f' = 0 ∧ p' = -1 ∧ r = op))))
    (hm : ((n2 < 0 ∨ t2 < n2) ∧ rm = -2 ∧ fm' = fm ∧ pm' = pm) ∨ (0 ≤ n2 ∧ n2 ≤ t2 ∧ ((fm' ≠ 0 ∧ rm = -1) ∨ (fm' = 0 ∧ pm' = -1 ∧ rm = om))))
    (h8 : e_TX n t tape f' p' op) (h9 : e_TX n t2 g fm' pm' om) (hn : n2 = n) (ht : t2 = t) (tpl : ∀ j : Nat, (j : Int) < t → tape j = g j) (hf : f = fm) (hp : p = pm) : f' = fm' ∧ p' = pm' ∧ r = rm := by
  subst hn; subst ht
  by_cases h : 0 ≤ n2 ∧ n2 ≤ t2
  · have a := e_TX.same h8 h9 h.1 h.2 tpl (by omega) (by omega)
    have hx := hx.resolve_left (by omega)
    have hm := hm.resolve_left (by omega)
    refine ⟨a.1, a.2.1, ?_⟩
    by_cases h0 : f' = 0
    · have := a.2.2 h0; omega
    · omega
  · have hx := hx.resolve_right (by omega)
    have hm := hm.resolve_right (by omega)
    omega

set_option maxHeartbeats 4000000 in
set_option maxRecDepth 100000 in
theorem g4_fault (l : Launch) (D : va_G) (c : Nat → ClassId) (sz : Nat) (y : Nat) (a : Nat → Nat) (v_tapeSize v_thrown v_fault v_faultPlace v_things v_options v_lists v_sentences v_headings v_words v_factBits v_known v_soundMany v_wholeLength v_next v_end v_rThings v_rOptions v_rLists v_rSentences v_rHeadings v_lastName v_inSentence v_open v_written v_named v_sorted : Int32) (f_tape f_kind f_owner f_from f_size f_means f_signs f_oKind f_oIn f_oList f_oWords f_oFacts f_listIn f_sOwner f_hFacts f_weights f_lengths f_values f_rKind f_rOwner f_rFrom f_rSize f_rMeans f_rOKind f_rOIn f_rOList f_rOFacts f_rListIn f_rSOwner f_rHFacts f_rWeights f_opKind f_opFrom f_opWord f_opOwner f_opList f_opItems f_out f_ranks : Nat → Int32) (x_what : Int32) : Met l yX10_fault wsX10_fault ({ frames := 0, cells := 0, slots := 0, locals := 0 }) (q3_P D c (wM c y a v_tapeSize v_thrown v_fault v_faultPlace v_things v_options v_lists v_sentences v_headings v_words v_factBits v_known v_soundMany v_wholeLength v_next v_end v_rThings v_rOptions v_rLists v_rSentences v_rHeadings v_lastName v_inSentence v_open v_written v_named v_sorted f_tape f_kind f_owner f_from f_size f_means f_signs f_oKind f_oIn f_oList f_oWords f_oFacts f_listIn f_sOwner f_hFacts f_weights f_lengths f_values f_rKind f_rOwner f_rFrom f_rSize f_rMeans f_rOKind f_rOIn f_rOList f_rOFacts f_rListIn f_rSOwner f_rHFacts f_rWeights f_opKind f_opFrom f_opWord f_opOwner f_opList f_opItems f_out f_ranks) sz [.ref y, .int x_what]) (q2_i D (wM c y a v_tapeSize v_thrown v_fault v_faultPlace v_things v_options v_lists v_sentences v_headings v_words v_factBits v_known v_soundMany v_wholeLength v_next v_end v_rThings v_rOptions v_rLists v_rSentences v_rHeadings v_lastName v_inSentence v_open v_written v_named v_sorted f_tape f_kind f_owner f_from f_size f_means f_signs f_oKind f_oIn f_oList f_oWords f_oFacts f_listIn f_sOwner f_hFacts f_weights f_lengths f_values f_rKind f_rOwner f_rFrom f_rSize f_rMeans f_rOKind f_rOIn f_rOList f_rOFacts f_rListIn f_rSOwner f_rHFacts f_rWeights f_opKind f_opFrom f_opWord f_opOwner f_opList f_opItems f_out f_ranks) sz (fun r u => ((x_what.toInt = 0 ∧ r.toInt = v_fault.toInt) ∨ (x_what.toInt = 1 ∧ r.toInt = v_faultPlace.toInt) ∨ (x_what.toInt ≠ 0 ∧ x_what.toInt ≠ 1 ∧ r.toInt = -1)) ∧ True) (fun u => wM c y a v_tapeSize (u.2.1 0) v_fault v_faultPlace v_things v_options v_lists v_sentences v_headings v_words v_factBits v_known v_soundMany v_wholeLength v_next v_end v_rThings v_rOptions v_rLists v_rSentences v_rHeadings v_lastName v_inSentence v_open v_written v_named v_sorted f_tape f_kind f_owner f_from f_size f_means f_signs f_oKind f_oIn f_oList f_oWords f_oFacts f_listIn f_sOwner f_hFacts f_weights f_lengths f_values f_rKind f_rOwner f_rFrom f_rSize f_rMeans f_rOKind f_rOIn f_rOList f_rOFacts f_rListIn f_rSOwner f_rHFacts f_rWeights f_opKind f_opFrom f_opWord f_opOwner f_opList f_opItems f_out f_ranks)) (0) (0) (va_A (wM c y a v_tapeSize v_thrown v_fault v_faultPlace v_things v_options v_lists v_sentences v_headings v_words v_factBits v_known v_soundMany v_wholeLength v_next v_end v_rThings v_rOptions v_rLists v_rSentences v_rHeadings v_lastName v_inSentence v_open v_written v_named v_sorted f_tape f_kind f_owner f_from f_size f_means f_signs f_oKind f_oIn f_oList f_oWords f_oFacts f_listIn f_sOwner f_hFacts f_weights f_lengths f_values f_rKind f_rOwner f_rFrom f_rSize f_rMeans f_rOKind f_rOIn f_rOList f_rOFacts f_rListIn f_rSOwner f_rHFacts f_rWeights f_opKind f_opFrom f_opWord f_opOwner f_opList f_opItems f_out f_ranks) sz) := by
  refine q3_of_i (ty := .int) (fun _ _ _ => rfl) (cc := cX10_fault) (maxL := 2) (by decide) rfl (Nat.le_of_ble_eq_true rfl) (fun p e s m args below meth cd A Q ls hx hb hml hown hts hA hS hP hD hK hl hret => ?_)
  have hown : s.vm.findClass RX10 = some m.cls := hown
  obtain ⟨H, eH⟩ : ∃ z, z = s.heap := ⟨_, rfl⟩
  have hP : va_P D vwCl (wM c y a v_tapeSize v_thrown v_fault v_faultPlace v_things v_options v_lists v_sentences v_headings v_words v_factBits v_known v_soundMany v_wholeLength v_next v_end v_rThings v_rOptions v_rLists v_rSentences v_rHeadings v_lastName v_inSentence v_open v_written v_named v_sorted f_tape f_kind f_owner f_from f_size f_means f_signs f_oKind f_oIn f_oList f_oWords f_oFacts f_listIn f_sOwner f_hFacts f_weights f_lengths f_values f_rKind f_rOwner f_rFrom f_rSize f_rMeans f_rOKind f_rOIn f_rOList f_rOFacts f_rListIn f_rSOwner f_rHFacts f_rWeights f_opKind f_opFrom f_opWord f_opOwner f_opList f_opItems f_out f_ranks) H := by rw [eH]; exact hP
  have hS : va_S A s.heap H [] := by rw [eH]; exact hS
  rw [← eH]
  have iX10 : ∀ w ∈ wsX100, w ∈ wsX10_fault := fun w h => List.mem_cons_of_mem _ (List.mem_append_right _ h)
  have hl : lv_has ls 2 [(0, .ref y), (1, .int x_what)] := hl
  refine lv_aload_n hx hb dX10_fault_0 rfl (lv_at hl 0 rfl) ?_
  refine lv_iconst (v := 0) hx hb dX10_fault_1 (by decide) ?_
  refine va_put (D := D) (ci := 10) (v := .int 0) (ty := .int) (C := RX10) (T := TX10) (N := 66) hx hb hts iX10 tyX10 tyX10_ok nmX10 hown hK hP hD hS 0 rfl rfl 2 (by decide) (hts (.fieldLink RX10 135 "ShortTellerModel" "thrown" "I") (List.mem_of_getElem? (i := 1) rfl)) (fun _ h9 => h9) rfl (by decide +kernel) rfl rfl (Nat.le_of_ble_eq_true rfl) dX10_fault_2 (fun H locs hP hD hS => ?_)
  have hP : va_P D vwCl (wM c y a v_tapeSize (0) v_fault v_faultPlace v_things v_options v_lists v_sentences v_headings v_words v_factBits v_known v_soundMany v_wholeLength v_next v_end v_rThings v_rOptions v_rLists v_rSentences v_rHeadings v_lastName v_inSentence v_open v_written v_named v_sorted f_tape f_kind f_owner f_from f_size f_means f_signs f_oKind f_oIn f_oList f_oWords f_oFacts f_listIn f_sOwner f_hFacts f_weights f_lengths f_values f_rKind f_rOwner f_rFrom f_rSize f_rMeans f_rOKind f_rOIn f_rOList f_rOFacts f_rListIn f_rSOwner f_rHFacts f_rWeights f_opKind f_opFrom f_opWord f_opOwner f_opList f_opItems f_out f_ranks) H := hP
  have hD : va_D A (wM c y a v_tapeSize (0) v_fault v_faultPlace v_things v_options v_lists v_sentences v_headings v_words v_factBits v_known v_soundMany v_wholeLength v_next v_end v_rThings v_rOptions v_rLists v_rSentences v_rHeadings v_lastName v_inSentence v_open v_written v_named v_sorted f_tape f_kind f_owner f_from f_size f_means f_signs f_oKind f_oIn f_oList f_oWords f_oFacts f_listIn f_sOwner f_hFacts f_weights f_lengths f_values f_rKind f_rOwner f_rFrom f_rSize f_rMeans f_rOKind f_rOIn f_rOList f_rOFacts f_rListIn f_rSOwner f_rHFacts f_rWeights f_opKind f_opFrom f_opWord f_opOwner f_opList f_opItems f_out f_ranks) := hD
  refine lv_iload_n hx hb dX10_fault_5 rfl (lv_at hl 1 rfl) ?_
  refine lv_if_ne (tgt := 16) hx hb dX10_fault_6 (by decide) (fun g1 => ?_) (fun g1 => ?_)
  · have g1 : ¬ x_what.toInt = (0 : Int) := (not_congr (q3_eq rfl (by decide))).mp g1
    refine lv_iload_n hx hb dX10_fault_16 rfl (lv_at hl 1 rfl) ?_
    refine lv_iconst (v := 1) hx hb dX10_fault_17 (by decide) ?_
    refine lv_icmp_ne (tgt := 28) hx hb dX10_fault_18 (by decide) (fun g2 => ?_) (fun g2 => ?_)
    · have g2 : ¬ x_what.toInt = (1 : Int) := (not_congr (q3_eq rfl (by decide))).mp g2
      refine lv_iconst (v := -1) hx hb dX10_fault_28 (by decide) ?_
      exact hret (-1) (q2_u [] [0] []) _ _ _ _ ⟨(show (x_what.toInt = 0 ∧ (-1 : Int) = v_fault.toInt) ∨ (x_what.toInt = 1 ∧ (-1 : Int) = v_faultPlace.toInt) ∨ (x_what.toInt ≠ 0 ∧ x_what.toInt ≠ 1 ∧ (-1 : Int) = -1) by omega), trivial⟩ dX10_fault_29 hP hD hS
    · have g2 : x_what.toInt = (1 : Int) := (q3_eq rfl (by decide)).mp g2
      refine lv_aload_n hx hb dX10_fault_21 rfl (lv_at hl 0 rfl) ?_
      refine va_get (D := D) (ci := 10) (v := .int v_faultPlace) (C := RX10) (T := TX10) (N := 66) hx hb hts iX10 hown hK hP 0 rfl rfl 4 (by decide) (hts (.fieldLink RX10 13 "ShortTellerModel" "faultPlace" "I") (List.mem_of_getElem? (i := 3) rfl)) (fun _ h9 => h9) rfl dX10_fault_22 ?_
      refine lv_goto (tgt := 29) hx hb dX10_fault_25 (by decide) ?_
      exact hret (v_faultPlace) (q2_u [] [0] []) _ _ _ _ ⟨(show (x_what.toInt = 0 ∧ v_faultPlace.toInt = v_fault.toInt) ∨ (x_what.toInt = 1 ∧ v_faultPlace.toInt = v_faultPlace.toInt) ∨ (x_what.toInt ≠ 0 ∧ x_what.toInt ≠ 1 ∧ v_faultPlace.toInt = -1) by omega), trivial⟩ dX10_fault_29 hP hD hS
  · have g1 : x_what.toInt = (0 : Int) := (q3_eq rfl (by decide)).mp g1
    refine lv_aload_n hx hb dX10_fault_9 rfl (lv_at hl 0 rfl) ?_
    refine va_get (D := D) (ci := 10) (v := .int v_fault) (C := RX10) (T := TX10) (N := 66) hx hb hts iX10 hown hK hP 0 rfl rfl 3 (by decide) (hts (.fieldLink RX10 141 "ShortTellerModel" "fault" "I") (List.mem_of_getElem? (i := 2) rfl)) (fun _ h9 => h9) rfl dX10_fault_10 ?_
    refine lv_goto (tgt := 29) hx hb dX10_fault_13 (by decide) ?_
    exact hret (v_fault) (q2_u [] [0] []) _ _ _ _ ⟨(show (x_what.toInt = 0 ∧ v_fault.toInt = v_fault.toInt) ∨ (x_what.toInt = 1 ∧ v_fault.toInt = v_faultPlace.toInt) ∨ (x_what.toInt ≠ 0 ∧ x_what.toInt ≠ 1 ∧ v_fault.toInt = -1) by omega), trivial⟩ dX10_fault_29 hP hD hS
set_option maxHeartbeats 4000000 in
set_option maxRecDepth 100000 in
theorem g4_feed (l : Launch) (D : va_G) (c : Nat → ClassId) (sz : Nat) (y : Nat) (a : Nat → Nat) (v_tapeSize v_thrown v_fault v_faultPlace v_things v_options v_lists v_sentences v_headings v_words v_factBits v_known v_soundMany v_wholeLength v_next v_end v_rThings v_rOptions v_rLists v_rSentences v_rHeadings v_lastName v_inSentence v_open v_written v_named v_sorted : Int32) (f_tape f_kind f_owner f_from f_size f_means f_signs f_oKind f_oIn f_oList f_oWords f_oFacts f_listIn f_sOwner f_hFacts f_weights f_lengths f_values f_rKind f_rOwner f_rFrom f_rSize f_rMeans f_rOKind f_rOIn f_rOList f_rOFacts f_rListIn f_rSOwner f_rHFacts f_rWeights f_opKind f_opFrom f_opWord f_opOwner f_opList f_opItems f_out f_ranks : Nat → Int32) (x_a : Int32) (x_b : Int32) (x_d : Int32) (x_e : Int32) (x_g : Int32) (h0 : 0 ≤ v_tapeSize.toInt) (h1 : v_tapeSize.toInt ≤ 800) (h2 : ∀ j : Nat, 0 ≤ (f_tape j).toInt ∧ (f_tape j).toInt ≤ 255) : Met l yX10_feed wsX10_feed ({ frames := 0, cells := 0, slots := 0, locals := 0 }) (q3_P D c (wM c y a v_tapeSize v_thrown v_fault v_faultPlace v_things v_options v_lists v_sentences v_headings v_words v_factBits v_known v_soundMany v_wholeLength v_next v_end v_rThings v_rOptions v_rLists v_rSentences v_rHeadings v_lastName v_inSentence v_open v_written v_named v_sorted f_tape f_kind f_owner f_from f_size f_means f_signs f_oKind f_oIn f_oList f_oWords f_oFacts f_listIn f_sOwner f_hFacts f_weights f_lengths f_values f_rKind f_rOwner f_rFrom f_rSize f_rMeans f_rOKind f_rOIn f_rOList f_rOFacts f_rListIn f_rSOwner f_rHFacts f_rWeights f_opKind f_opFrom f_opWord f_opOwner f_opList f_opItems f_out f_ranks) sz [.ref y, .int x_a, .int x_b, .int x_d, .int x_e, .int x_g]) (q2_i D (wM c y a v_tapeSize v_thrown v_fault v_faultPlace v_things v_options v_lists v_sentences v_headings v_words v_factBits v_known v_soundMany v_wholeLength v_next v_end v_rThings v_rOptions v_rLists v_rSentences v_rHeadings v_lastName v_inSentence v_open v_written v_named v_sorted f_tape f_kind f_owner f_from f_size f_means f_signs f_oKind f_oIn f_oList f_oWords f_oFacts f_listIn f_sOwner f_hFacts f_weights f_lengths f_values f_rKind f_rOwner f_rFrom f_rSize f_rMeans f_rOKind f_rOIn f_rOList f_rOFacts f_rListIn f_rSOwner f_rHFacts f_rWeights f_opKind f_opFrom f_opWord f_opOwner f_opList f_opItems f_out f_ranks) sz (fun r u => ((v_tapeSize.toInt + 20 ≤ 800 ∧ r.toInt = v_tapeSize.toInt + 20 ∧ (u.2.1 1).toInt = v_tapeSize.toInt + 20) ∨ (800 < v_tapeSize.toInt + 20 ∧ r.toInt = -1 ∧ (u.2.1 1).toInt = v_tapeSize.toInt)) ∧ (∀ j : Nat, 0 ≤ ((u.2.2 0) j).toInt ∧ ((u.2.2 0) j).toInt ≤ 255) ∧ (e_FX v_tapeSize.toInt f_tape (u.2.2 0) (e_fb x_a x_b x_d x_e x_g)) ∧ True) (fun u => wM c y a (u.2.1 1) (u.2.1 0) v_fault v_faultPlace v_things v_options v_lists v_sentences v_headings v_words v_factBits v_known v_soundMany v_wholeLength v_next v_end v_rThings v_rOptions v_rLists v_rSentences v_rHeadings v_lastName v_inSentence v_open v_written v_named v_sorted (u.2.2 0) f_kind f_owner f_from f_size f_means f_signs f_oKind f_oIn f_oList f_oWords f_oFacts f_listIn f_sOwner f_hFacts f_weights f_lengths f_values f_rKind f_rOwner f_rFrom f_rSize f_rMeans f_rOKind f_rOIn f_rOList f_rOFacts f_rListIn f_rSOwner f_rHFacts f_rWeights f_opKind f_opFrom f_opWord f_opOwner f_opList f_opItems f_out f_ranks)) (0) (0) (va_A (wM c y a v_tapeSize v_thrown v_fault v_faultPlace v_things v_options v_lists v_sentences v_headings v_words v_factBits v_known v_soundMany v_wholeLength v_next v_end v_rThings v_rOptions v_rLists v_rSentences v_rHeadings v_lastName v_inSentence v_open v_written v_named v_sorted f_tape f_kind f_owner f_from f_size f_means f_signs f_oKind f_oIn f_oList f_oWords f_oFacts f_listIn f_sOwner f_hFacts f_weights f_lengths f_values f_rKind f_rOwner f_rFrom f_rSize f_rMeans f_rOKind f_rOIn f_rOList f_rOFacts f_rListIn f_rSOwner f_rHFacts f_rWeights f_opKind f_opFrom f_opWord f_opOwner f_opList f_opItems f_out f_ranks) sz) := by
  refine q3_of_i (ty := .int) (fun _ _ _ => rfl) (cc := cX10_feed) (maxL := 8) (by decide) rfl (Nat.le_of_ble_eq_true rfl) (fun p e s m args below meth cd A Q ls hx hb hml hown hts hA hS hP hD hK hl hret => ?_)
  have hown : s.vm.findClass RX10 = some m.cls := hown
  obtain ⟨H, eH⟩ : ∃ z, z = s.heap := ⟨_, rfl⟩
  have hP : va_P D vwCl (wM c y a v_tapeSize v_thrown v_fault v_faultPlace v_things v_options v_lists v_sentences v_headings v_words v_factBits v_known v_soundMany v_wholeLength v_next v_end v_rThings v_rOptions v_rLists v_rSentences v_rHeadings v_lastName v_inSentence v_open v_written v_named v_sorted f_tape f_kind f_owner f_from f_size f_means f_signs f_oKind f_oIn f_oList f_oWords f_oFacts f_listIn f_sOwner f_hFacts f_weights f_lengths f_values f_rKind f_rOwner f_rFrom f_rSize f_rMeans f_rOKind f_rOIn f_rOList f_rOFacts f_rListIn f_rSOwner f_rHFacts f_rWeights f_opKind f_opFrom f_opWord f_opOwner f_opList f_opItems f_out f_ranks) H := by rw [eH]; exact hP
  have hS : va_S A s.heap H [] := by rw [eH]; exact hS
  rw [← eH]
  have iX10 : ∀ w ∈ wsX100, w ∈ wsX10_feed := fun w h => List.mem_cons_of_mem _ (List.mem_append_right _ h)
  have hl : lv_has ls 8 [(0, .ref y), (1, .int x_a), (2, .int x_b), (3, .int x_d), (4, .int x_e), (5, .int x_g)] := hl
  refine lv_aload_n hx hb dX10_feed_0 rfl (lv_at hl 0 rfl) ?_
  refine lv_iconst (v := 0) hx hb dX10_feed_1 (by decide) ?_
  refine va_put (D := D) (ci := 10) (v := .int 0) (ty := .int) (C := RX10) (T := TX10) (N := 66) hx hb hts iX10 tyX10 tyX10_ok nmX10 hown hK hP hD hS 0 rfl rfl 2 (by decide) (hts (.fieldLink RX10 135 "ShortTellerModel" "thrown" "I") (List.mem_of_getElem? (i := 1) rfl)) (fun _ h9 => h9) rfl (by decide +kernel) rfl rfl (Nat.le_of_ble_eq_true rfl) dX10_feed_2 (fun H locs hP hD hS => ?_)
  have hP : va_P D vwCl (wM c y a v_tapeSize (0) v_fault v_faultPlace v_things v_options v_lists v_sentences v_headings v_words v_factBits v_known v_soundMany v_wholeLength v_next v_end v_rThings v_rOptions v_rLists v_rSentences v_rHeadings v_lastName v_inSentence v_open v_written v_named v_sorted f_tape f_kind f_owner f_from f_size f_means f_signs f_oKind f_oIn f_oList f_oWords f_oFacts f_listIn f_sOwner f_hFacts f_weights f_lengths f_values f_rKind f_rOwner f_rFrom f_rSize f_rMeans f_rOKind f_rOIn f_rOList f_rOFacts f_rListIn f_rSOwner f_rHFacts f_rWeights f_opKind f_opFrom f_opWord f_opOwner f_opList f_opItems f_out f_ranks) H := hP
  have hD : va_D A (wM c y a v_tapeSize (0) v_fault v_faultPlace v_things v_options v_lists v_sentences v_headings v_words v_factBits v_known v_soundMany v_wholeLength v_next v_end v_rThings v_rOptions v_rLists v_rSentences v_rHeadings v_lastName v_inSentence v_open v_written v_named v_sorted f_tape f_kind f_owner f_from f_size f_means f_signs f_oKind f_oIn f_oList f_oWords f_oFacts f_listIn f_sOwner f_hFacts f_weights f_lengths f_values f_rKind f_rOwner f_rFrom f_rSize f_rMeans f_rOKind f_rOIn f_rOList f_rOFacts f_rListIn f_rSOwner f_rHFacts f_rWeights f_opKind f_opFrom f_opWord f_opOwner f_opList f_opItems f_out f_ranks) := hD
  refine lv_aload_n hx hb dX10_feed_5 rfl (lv_at hl 0 rfl) ?_
  refine va_get (D := D) (ci := 10) (v := .int v_tapeSize) (C := RX10) (T := TX10) (N := 66) hx hb hts iX10 hown hK hP 0 rfl rfl 1 (by decide) (hts (.fieldLink RX10 138 "ShortTellerModel" "tapeSize" "I") (List.mem_of_getElem? (i := 2) rfl)) (fun _ h9 => h9) rfl dX10_feed_6 ?_
  refine lv_bipush (v := 20) hx hb dX10_feed_9 (by decide) ?_
  refine lv_iadd hx hb dX10_feed_11 ?_
  refine lv_topi (fun n1 en1 => ?_)
  have tn1 : n1.toInt = v_tapeSize.toInt + (20 : Int) := q3_add en1 rfl (by decide) (by omega) (by omega)
  refine lv_sipush (v := 800) hx hb dX10_feed_12 (by decide) ?_
  refine lv_icmp_le (tgt := 20) hx hb dX10_feed_15 (by decide) (fun g2 => ?_) (fun g2 => ?_)
  · have g2 : n1.toInt ≤ (800 : Int) := (q3_le rfl (by decide)).mp g2
    refine lv_iconst (v := 0) hx hb dX10_feed_20 (by decide) ?_
    refine lv_istore (lv' := [(6, .int 0), (0, .ref y), (1, .int x_a), (2, .int x_b), (3, .int x_d), (4, .int x_e), (5, .int x_g)]) hx hb dX10_feed_21 hl (by decide) rfl (fun ls hl => ?_)
    have c3 : e_Fd f_tape f_tape v_tapeSize.toInt (Int.toNat (0 : Int)) (e_fb x_a x_b x_d x_e x_g) := e_Fd.nil
    have lp23 : ∀ (k : Nat) (s6_23 : Int32) (y_tape_23 : Nat → Int32), (0 ≤ s6_23.toInt) → (s6_23.toInt ≤ 20) → (v_tapeSize.toInt + 20 ≤ 800) → (∀ j : Nat, 0 ≤ (y_tape_23 j).toInt ∧ (y_tape_23 j).toInt ≤ 255) → (e_Fd f_tape y_tape_23 v_tapeSize.toInt (Int.toNat s6_23.toInt) (e_fb x_a x_b x_d x_e x_g)) → 21 - s6_23.toInt < (k : Int) → ∀ (H : Heap) (locs : List Loc) (ls : Array Slot), va_P D vwCl (wM c y a v_tapeSize (0) v_fault v_faultPlace v_things v_options v_lists v_sentences v_headings v_words v_factBits v_known v_soundMany v_wholeLength v_next v_end v_rThings v_rOptions v_rLists v_rSentences v_rHeadings v_lastName v_inSentence v_open v_written v_named v_sorted y_tape_23 f_kind f_owner f_from f_size f_means f_signs f_oKind f_oIn f_oList f_oWords f_oFacts f_listIn f_sOwner f_hFacts f_weights f_lengths f_values f_rKind f_rOwner f_rFrom f_rSize f_rMeans f_rOKind f_rOIn f_rOList f_rOFacts f_rListIn f_rSOwner f_rHFacts f_rWeights f_opKind f_opFrom f_opWord f_opOwner f_opList f_opItems f_out f_ranks) H → va_D A (wM c y a v_tapeSize (0) v_fault v_faultPlace v_things v_options v_lists v_sentences v_headings v_words v_factBits v_known v_soundMany v_wholeLength v_next v_end v_rThings v_rOptions v_rLists v_rSentences v_rHeadings v_lastName v_inSentence v_open v_written v_named v_sorted y_tape_23 f_kind f_owner f_from f_size f_means f_signs f_oKind f_oIn f_oList f_oWords f_oFacts f_listIn f_sOwner f_hFacts f_weights f_lengths f_values f_rKind f_rOwner f_rFrom f_rSize f_rMeans f_rOKind f_rOIn f_rOList f_rOFacts f_rListIn f_rSOwner f_rHFacts f_rWeights f_opKind f_opFrom f_opWord f_opOwner f_opList f_opItems f_out f_ranks) → va_S A s.heap H locs → lv_has ls 8 [(6, .int s6_23), (0, .ref y), (1, .int x_a), (2, .int x_b), (3, .int x_d), (4, .int x_e), (5, .int x_g)] → W p l e ({ frames := 0, cells := 0, slots := 0, locals := 0 }) s m args below meth cd H locs 0 0 Q (F0 m 23 ls []) := by
      intro k
      induction k with
      | zero => intro s6_23 y_tape_23 j0_23 j1_23 j2_23 j3_23 j4_23 hm; exfalso; omega
      | succ k ih_23 =>
        intro s6_23 y_tape_23 j0_23 j1_23 j2_23 j3_23 j4_23 hm_23 H locs ls hP hD hS hl
        clear tn1 g2
        refine lv_iload hx hb dX10_feed_23 (lv_at hl 0 rfl) ?_
        refine lv_bipush (v := 20) hx hb dX10_feed_25 (by decide) ?_
        refine lv_icmp_ge (tgt := 113) hx hb dX10_feed_27 (by decide) (fun g4 => ?_) (fun g4 => ?_)
        · have g4 : (20 : Int) ≤ s6_23.toInt := (q3_le (by decide) rfl).mp g4
          have fd20 : e_Fd f_tape y_tape_23 v_tapeSize.toInt 20 (e_fb x_a x_b x_d x_e x_g) := by have h9 := j4_23; rw [show Int.toNat s6_23.toInt = 20 by omega] at h9; exact h9
          refine lv_aload_n hx hb dX10_feed_113 rfl (lv_at hl 1 rfl) ?_
          refine lv_dup hx hb dX10_feed_114 rfl ?_
          refine va_get (D := D) (ci := 10) (v := .int v_tapeSize) (C := RX10) (T := TX10) (N := 66) hx hb hts iX10 hown hK hP 0 rfl rfl 1 (by decide) (hts (.fieldLink RX10 138 "ShortTellerModel" "tapeSize" "I") (List.mem_of_getElem? (i := 2) rfl)) (fun _ h9 => h9) rfl dX10_feed_115 ?_
          refine lv_bipush (v := 20) hx hb dX10_feed_118 (by decide) ?_
          refine lv_iadd hx hb dX10_feed_120 ?_
          refine lv_topi (fun n5 en5 => ?_)
          have tn5 : n5.toInt = v_tapeSize.toInt + (20 : Int) := q3_add en5 rfl (by decide) (by omega) (by omega)
          refine va_put (D := D) (ci := 10) (v := .int n5) (ty := .int) (C := RX10) (T := TX10) (N := 66) hx hb hts iX10 tyX10 tyX10_ok nmX10 hown hK hP hD hS 0 rfl rfl 1 (by decide) (hts (.fieldLink RX10 138 "ShortTellerModel" "tapeSize" "I") (List.mem_of_getElem? (i := 2) rfl)) (fun _ h9 => h9) rfl (by decide +kernel) rfl rfl (Nat.le_of_ble_eq_true rfl) dX10_feed_121 (fun H locs hP hD hS => ?_)
          have hP : va_P D vwCl (wM c y a n5 (0) v_fault v_faultPlace v_things v_options v_lists v_sentences v_headings v_words v_factBits v_known v_soundMany v_wholeLength v_next v_end v_rThings v_rOptions v_rLists v_rSentences v_rHeadings v_lastName v_inSentence v_open v_written v_named v_sorted y_tape_23 f_kind f_owner f_from f_size f_means f_signs f_oKind f_oIn f_oList f_oWords f_oFacts f_listIn f_sOwner f_hFacts f_weights f_lengths f_values f_rKind f_rOwner f_rFrom f_rSize f_rMeans f_rOKind f_rOIn f_rOList f_rOFacts f_rListIn f_rSOwner f_rHFacts f_rWeights f_opKind f_opFrom f_opWord f_opOwner f_opList f_opItems f_out f_ranks) H := hP
          have hD : va_D A (wM c y a n5 (0) v_fault v_faultPlace v_things v_options v_lists v_sentences v_headings v_words v_factBits v_known v_soundMany v_wholeLength v_next v_end v_rThings v_rOptions v_rLists v_rSentences v_rHeadings v_lastName v_inSentence v_open v_written v_named v_sorted y_tape_23 f_kind f_owner f_from f_size f_means f_signs f_oKind f_oIn f_oList f_oWords f_oFacts f_listIn f_sOwner f_hFacts f_weights f_lengths f_values f_rKind f_rOwner f_rFrom f_rSize f_rMeans f_rOKind f_rOIn f_rOList f_rOFacts f_rListIn f_rSOwner f_rHFacts f_rWeights f_opKind f_opFrom f_opWord f_opOwner f_opList f_opItems f_out f_ranks) := hD
          refine lv_aload_n hx hb dX10_feed_124 rfl (lv_at hl 1 rfl) ?_
          refine va_get (D := D) (ci := 10) (v := .int n5) (C := RX10) (T := TX10) (N := 66) hx hb hts iX10 hown hK hP 0 rfl rfl 1 (by decide) (hts (.fieldLink RX10 138 "ShortTellerModel" "tapeSize" "I") (List.mem_of_getElem? (i := 2) rfl)) (fun _ h9 => h9) rfl dX10_feed_125 ?_
          exact hret (n5) (q2_u [] [0, n5] [y_tape_23]) _ _ _ _ ⟨(show (v_tapeSize.toInt + 20 ≤ 800 ∧ n5.toInt = v_tapeSize.toInt + 20 ∧ n5.toInt = v_tapeSize.toInt + 20) ∨ (800 < v_tapeSize.toInt + 20 ∧ n5.toInt = -1 ∧ n5.toInt = v_tapeSize.toInt) by omega), j3_23, (show e_FX v_tapeSize.toInt f_tape y_tape_23 (e_fb x_a x_b x_d x_e x_g) from And.intro (fun _ => fd20) (fun h8 => absurd h8 (by omega))), trivial⟩ dX10_feed_128 hP hD hS
        · have g4 : ¬ (20 : Int) ≤ s6_23.toInt := (not_congr (q3_le (by decide) rfl)).mp g4
          have ct76 : ∀ (k0_76 : Int32), (e_Hid (k0_76 = e_fw x_a x_b x_d x_e x_g (Int.toNat s6_23.toInt))) → ∀ (H : Heap) (locs : List Loc) (ls : Array Slot), va_P D vwCl (wM c y a v_tapeSize (0) v_fault v_faultPlace v_things v_options v_lists v_sentences v_headings v_words v_factBits v_known v_soundMany v_wholeLength v_next v_end v_rThings v_rOptions v_rLists v_rSentences v_rHeadings v_lastName v_inSentence v_open v_written v_named v_sorted y_tape_23 f_kind f_owner f_from f_size f_means f_signs f_oKind f_oIn f_oList f_oWords f_oFacts f_listIn f_sOwner f_hFacts f_weights f_lengths f_values f_rKind f_rOwner f_rFrom f_rSize f_rMeans f_rOKind f_rOIn f_rOList f_rOFacts f_rListIn f_rSOwner f_rHFacts f_rWeights f_opKind f_opFrom f_opWord f_opOwner f_opList f_opItems f_out f_ranks) H → va_D A (wM c y a v_tapeSize (0) v_fault v_faultPlace v_things v_options v_lists v_sentences v_headings v_words v_factBits v_known v_soundMany v_wholeLength v_next v_end v_rThings v_rOptions v_rLists v_rSentences v_rHeadings v_lastName v_inSentence v_open v_written v_named v_sorted y_tape_23 f_kind f_owner f_from f_size f_means f_signs f_oKind f_oIn f_oList f_oWords f_oFacts f_listIn f_sOwner f_hFacts f_weights f_lengths f_values f_rKind f_rOwner f_rFrom f_rSize f_rMeans f_rOKind f_rOIn f_rOList f_rOFacts f_rListIn f_rSOwner f_rHFacts f_rWeights f_opKind f_opFrom f_opWord f_opOwner f_opList f_opItems f_out f_ranks) → va_S A s.heap H locs → lv_has ls 8 [(6, .int s6_23), (0, .ref y), (1, .int x_a), (2, .int x_b), (3, .int x_d), (4, .int x_e), (5, .int x_g)] → W p l e ({ frames := 0, cells := 0, slots := 0, locals := 0 }) s m args below meth cd H locs 0 0 Q (F0 m 76 ls [.int k0_76]) := by
            intro k0_76 j0_76 H locs ls hP hD hS hl
            refine lv_istore (lv' := [(7, .int k0_76), (6, .int s6_23), (0, .ref y), (1, .int x_a), (2, .int x_b), (3, .int x_d), (4, .int x_e), (5, .int x_g)]) hx hb dX10_feed_76 hl (by decide) rfl (fun ls hl => ?_)
            refine lv_aload_n hx hb dX10_feed_78 rfl (lv_at hl 2 rfl) ?_
            refine va_get (D := D) (ci := 10) (v := .ref (a 0)) (C := RX10) (T := TX10) (N := 66) hx hb hts iX10 hown hK hP 0 rfl rfl 0 (by decide) (hts (.fieldLink RX10 7 "ShortTellerModel" "tape" "[I") (List.mem_of_getElem? (i := 3) rfl)) (fun _ h9 => h9) rfl dX10_feed_79 ?_
            refine lv_aload_n hx hb dX10_feed_82 rfl (lv_at hl 2 rfl) ?_
            refine va_get (D := D) (ci := 10) (v := .int v_tapeSize) (C := RX10) (T := TX10) (N := 66) hx hb hts iX10 hown hK hP 0 rfl rfl 1 (by decide) (hts (.fieldLink RX10 138 "ShortTellerModel" "tapeSize" "I") (List.mem_of_getElem? (i := 2) rfl)) (fun _ h9 => h9) rfl dX10_feed_83 ?_
            refine lv_iload hx hb dX10_feed_86 (lv_at hl 1 rfl) ?_
            refine lv_iadd hx hb dX10_feed_88 ?_
            refine lv_topi (fun n6 en6 => ?_)
            have tn6 : n6.toInt = v_tapeSize.toInt + s6_23.toInt := q3_add en6 rfl rfl (by omega) (by omega)
            refine lv_iload hx hb dX10_feed_89 (lv_at hl 0 rfl) ?_
            refine lv_bipush (v := 24) hx hb dX10_feed_91 (by decide) ?_
            refine lv_bipush (v := 8) hx hb dX10_feed_93 (by decide) ?_
            refine lv_iload hx hb dX10_feed_95 (lv_at hl 1 rfl) ?_
            refine lv_iconst (v := 4) hx hb dX10_feed_97 (by decide) ?_
            refine lv_irem hx hb dX10_feed_98 (by decide) ?_
            refine lv_topi (fun n7 en7 => ?_)
            refine lv_imul hx hb dX10_feed_99 ?_
            refine lv_topi (fun n8 en8 => ?_)
            refine lv_isub hx hb dX10_feed_100 ?_
            refine lv_topi (fun n9 en9 => ?_)
            refine lv_ishr hx hb dX10_feed_101 ?_
            refine lv_topi (fun n10 en10 => ?_)
            refine lv_sipush (v := 255) hx hb dX10_feed_102 (by decide) ?_
            refine lv_iand hx hb dX10_feed_105 ?_
            refine lv_topi (fun n11 en11 => ?_)
            have tn11 := q3_and255 en11
            refine q3_iast (c := c) hx hb hK hP hD hS 1 rfl (q2_in (by omega) (by omega)) dX10_feed_106 (fun F12 eF12 H locs hP hD hS => ?_)
            have hP : va_P D vwCl (wM c y a v_tapeSize (0) v_fault v_faultPlace v_things v_options v_lists v_sentences v_headings v_words v_factBits v_known v_soundMany v_wholeLength v_next v_end v_rThings v_rOptions v_rLists v_rSentences v_rHeadings v_lastName v_inSentence v_open v_written v_named v_sorted F12 f_kind f_owner f_from f_size f_means f_signs f_oKind f_oIn f_oList f_oWords f_oFacts f_listIn f_sOwner f_hFacts f_weights f_lengths f_values f_rKind f_rOwner f_rFrom f_rSize f_rMeans f_rOKind f_rOIn f_rOList f_rOFacts f_rListIn f_rSOwner f_rHFacts f_rWeights f_opKind f_opFrom f_opWord f_opOwner f_opList f_opItems f_out f_ranks) H := hP
            have hD : va_D A (wM c y a v_tapeSize (0) v_fault v_faultPlace v_things v_options v_lists v_sentences v_headings v_words v_factBits v_known v_soundMany v_wholeLength v_next v_end v_rThings v_rOptions v_rLists v_rSentences v_rHeadings v_lastName v_inSentence v_open v_written v_named v_sorted F12 f_kind f_owner f_from f_size f_means f_signs f_oKind f_oIn f_oList f_oWords f_oFacts f_listIn f_sOwner f_hFacts f_weights f_lengths f_values f_rKind f_rOwner f_rFrom f_rSize f_rMeans f_rOKind f_rOIn f_rOList f_rOFacts f_rListIn f_rSOwner f_rHFacts f_rWeights f_opKind f_opFrom f_opWord f_opOwner f_opList f_opItems f_out f_ranks) := hD
            have hF12_0 : ∀ j : Nat, 0 ≤ (F12 j).toInt ∧ (F12 j).toInt ≤ 255 := q3_up (P := fun z => 0 ≤ z.toInt ∧ z.toInt ≤ 255) eF12 j3_23 (show 0 ≤ n11.toInt ∧ n11.toInt ≤ 255 by omega)
            obtain ⟨n13, en13⟩ : ∃ z : Int32, z = s6_23 + (1) := ⟨_, rfl⟩
            have tn13 : n13.toInt = s6_23.toInt + (1 : Int) := q3_add en13 rfl (by decide) (by omega) (by omega)
            refine lv_iinc (v := n13) (lv' := [(6, .int n13), (7, .int k0_76), (0, .ref y), (1, .int x_a), (2, .int x_b), (3, .int x_d), (4, .int x_e), (5, .int x_g)]) hx hb dX10_feed_107 hl (k := 1) rfl (by rw [en13]; rfl) (by decide) rfl (fun ls hl => ?_)
            have c14 : e_Fd f_tape F12 v_tapeSize.toInt (Int.toNat n13.toInt) (e_fb x_a x_b x_d x_e x_g) := j4_23.more' (i := n6) eF12 (by omega) (by omega) (e_fbv j0_76 en7 en8 en9 en10 en11 (by omega) (by omega)) (by omega)
            refine lv_goto (tgt := 23) hx hb dX10_feed_110 (by decide) ?_
            exact ih_23 n13 F12 (show 0 ≤ n13.toInt by omega) (show n13.toInt ≤ 20 by omega) j2_23 hF12_0 c14 (show 21 - n13.toInt < _ by omega) _ _ _ hP hD hS (lv_sub hl [0, 2, 3, 4, 5, 6, 7] rfl)
          refine lv_iload hx hb dX10_feed_30 (lv_at hl 0 rfl) ?_
          refine lv_iconst (v := 4) hx hb dX10_feed_32 (by decide) ?_
          refine lv_icmp_ge (tgt := 40) hx hb dX10_feed_33 (by decide) (fun g15 => ?_) (fun g15 => ?_)
          · have g15 : (4 : Int) ≤ s6_23.toInt := (q3_le (by decide) rfl).mp g15
            refine lv_iload hx hb dX10_feed_40 (lv_at hl 0 rfl) ?_
            refine lv_bipush (v := 8) hx hb dX10_feed_42 (by decide) ?_
            refine lv_icmp_ge (tgt := 51) hx hb dX10_feed_44 (by decide) (fun g16 => ?_) (fun g16 => ?_)
            · have g16 : (8 : Int) ≤ s6_23.toInt := (q3_le (by decide) rfl).mp g16
              refine lv_iload hx hb dX10_feed_51 (lv_at hl 0 rfl) ?_
              refine lv_bipush (v := 12) hx hb dX10_feed_53 (by decide) ?_
              refine lv_icmp_ge (tgt := 62) hx hb dX10_feed_55 (by decide) (fun g17 => ?_) (fun g17 => ?_)
              · have g17 : (12 : Int) ≤ s6_23.toInt := (q3_le (by decide) rfl).mp g17
                refine lv_iload hx hb dX10_feed_62 (lv_at hl 0 rfl) ?_
                refine lv_bipush (v := 16) hx hb dX10_feed_64 (by decide) ?_
                refine lv_icmp_ge (tgt := 74) hx hb dX10_feed_66 (by decide) (fun g18 => ?_) (fun g18 => ?_)
                · have g18 : (16 : Int) ≤ s6_23.toInt := (q3_le (by decide) rfl).mp g18
                  refine lv_iload hx hb dX10_feed_74 (lv_at hl 6 rfl) ?_
                  have c19 : e_Hid (x_g = e_fw x_a x_b x_d x_e x_g (Int.toNat s6_23.toInt)) := (show x_g = e_fw x_a x_b x_d x_e x_g (Int.toNat s6_23.toInt) by unfold e_fw; rw [if_neg (by omega), if_neg (by omega), if_neg (by omega), if_neg (by omega)])
                  exact ct76 x_g c19  _ _ _ hP hD hS hl
                · have g18 : ¬ (16 : Int) ≤ s6_23.toInt := (not_congr (q3_le (by decide) rfl)).mp g18
                  refine lv_iload hx hb dX10_feed_69 (lv_at hl 5 rfl) ?_
                  refine lv_goto (tgt := 76) hx hb dX10_feed_71 (by decide) ?_
                  have c20 : e_Hid (x_e = e_fw x_a x_b x_d x_e x_g (Int.toNat s6_23.toInt)) := (show x_e = e_fw x_a x_b x_d x_e x_g (Int.toNat s6_23.toInt) by unfold e_fw; rw [if_neg (by omega), if_neg (by omega), if_neg (by omega), if_pos (by omega)])
                  exact ct76 x_e c20  _ _ _ hP hD hS hl
              · have g17 : ¬ (12 : Int) ≤ s6_23.toInt := (not_congr (q3_le (by decide) rfl)).mp g17
                refine lv_iload_n hx hb dX10_feed_58 rfl (lv_at hl 4 rfl) ?_
                refine lv_goto (tgt := 76) hx hb dX10_feed_59 (by decide) ?_
                have c21 : e_Hid (x_d = e_fw x_a x_b x_d x_e x_g (Int.toNat s6_23.toInt)) := (show x_d = e_fw x_a x_b x_d x_e x_g (Int.toNat s6_23.toInt) by unfold e_fw; rw [if_neg (by omega), if_neg (by omega), if_pos (by omega)])
                exact ct76 x_d c21  _ _ _ hP hD hS hl
            · have g16 : ¬ (8 : Int) ≤ s6_23.toInt := (not_congr (q3_le (by decide) rfl)).mp g16
              refine lv_iload_n hx hb dX10_feed_47 rfl (lv_at hl 3 rfl) ?_
              refine lv_goto (tgt := 76) hx hb dX10_feed_48 (by decide) ?_
              have c22 : e_Hid (x_b = e_fw x_a x_b x_d x_e x_g (Int.toNat s6_23.toInt)) := (show x_b = e_fw x_a x_b x_d x_e x_g (Int.toNat s6_23.toInt) by unfold e_fw; rw [if_neg (by omega), if_pos (by omega)])
              exact ct76 x_b c22  _ _ _ hP hD hS hl
          · have g15 : ¬ (4 : Int) ≤ s6_23.toInt := (not_congr (q3_le (by decide) rfl)).mp g15
            refine lv_iload_n hx hb dX10_feed_36 rfl (lv_at hl 2 rfl) ?_
            refine lv_goto (tgt := 76) hx hb dX10_feed_37 (by decide) ?_
            have c23 : e_Hid (x_a = e_fw x_a x_b x_d x_e x_g (Int.toNat s6_23.toInt)) := (show x_a = e_fw x_a x_b x_d x_e x_g (Int.toNat s6_23.toInt) by unfold e_fw; rw [if_pos (by omega)])
            exact ct76 x_a c23  _ _ _ hP hD hS hl
    exact lp23 (Int.toNat (21 - (0 : Int)) + 1) (0) f_tape (show 0 ≤ (0 : Int) by omega) (show (0 : Int) ≤ 20 by omega) (show v_tapeSize.toInt + 20 ≤ 800 by omega) h2 c3 (show 21 - (0 : Int) < ((Int.toNat (21 - (0 : Int)) + 1 : Nat) : Int) by omega) _ _ _ hP hD hS hl
  · have g2 : ¬ n1.toInt ≤ (800 : Int) := (not_congr (q3_le rfl (by decide))).mp g2
    refine lv_iconst (v := -1) hx hb dX10_feed_18 (by decide) ?_
    exact hret (-1) (q2_u [] [0, v_tapeSize] [f_tape]) _ _ _ _ ⟨(show (v_tapeSize.toInt + 20 ≤ 800 ∧ (-1 : Int) = v_tapeSize.toInt + 20 ∧ v_tapeSize.toInt = v_tapeSize.toInt + 20) ∨ (800 < v_tapeSize.toInt + 20 ∧ (-1 : Int) = -1 ∧ v_tapeSize.toInt = v_tapeSize.toInt) by omega), h2, (show e_FX v_tapeSize.toInt f_tape f_tape (e_fb x_a x_b x_d x_e x_g) from And.intro (fun h8 => absurd h8 (by omega)) (fun _ => rfl)), trivial⟩ dX10_feed_19 hP hD hS
