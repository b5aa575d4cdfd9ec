/-! ===== BEGIN the abstract scanner: one machine for both parsers ===== -/
/-- a frame: kind (0 sentence, 1 aside, 2 item, 3 heading), begun, worded (0, 1), start, items -/
abbrev e_F := Int × Int × Int × Int × Int
/-- a state: place, frames (innermost first), options, lists, words of the sentence, whether a name was ahead (0, 1) -/
abbrev e_S := Int × List e_F × Int × Int × Int × Int
abbrev e_R := Int × Int × Int
def e_own (c : Int) : Bool := c == 40 || c == 41 || c == 123 || c == 124 || c == 125 || c == 60 || c == 62 || c == 126 || c == 42 || c == 61 || c == 46
def e_w (c : Int) : Bool := decide (33 ≤ c) && decide (c ≤ 126) && !e_own c
def e_dg (c : Int) : Bool := decide (48 ≤ c) && decide (c ≤ 57)
def e_p (c : Int) : Bool := e_w c || c == 40 || c == 123 || c == 60 || c == 42 || c == 126
/-- how many signs that f holds of stand from i on -/
def e_len (f : Int → Bool) (sg : Nat → Int) (n : Int) : Nat → Int → Nat
  | 0, _ => 0
  | k + 1, i => if i < n ∧ f (sg i.toNat) = true then e_len f sg n k (i + 1) + 1 else 0
theorem e_len_is {f : Int → Bool} {sg : Nat → Int} {n : Int} : ∀ (k : Nat) (i e : Int), i ≤ e → e ≤ n → e - i < k → (∀ j : Int, i ≤ j → j < e → f (sg j.toNat) = true) → (e = n ∨ f (sg e.toNat) = false) → (e_len f sg n k i : Int) = e - i := by
  intro k
  induction k with
  | zero => intro i e h1 h2 h3 _ _; omega
  | succ k ih =>
    intro i e h1 h2 h3 h4 h5
    unfold e_len
    by_cases h : i = e
    · subst h
      have hn : ¬ (i < n ∧ f (sg i.toNat) = true) := by
        rintro ⟨a, b⟩
        rcases h5 with h5 | h5
        · omega
        · rw [h5] at b; cases b
      rw [if_neg hn]; omega
    · have hy : i < n ∧ f (sg i.toNat) = true := ⟨by omega, h4 i (Int.le_refl _) (by omega)⟩
      rw [if_pos hy]
      have := ih (i + 1) e (by omega) h2 (by omega) (fun j a b => h4 j (by omega) b) h5
      omega
/-- the decimal number of m signs from i on -/
def e_dec (sg : Nat → Int) (i : Int) : Nat → Int
  | 0 => 0
  | m + 1 => 10 * e_dec sg i m + (sg (i + m).toNat - 48)
/-- one step: a new state, or the end -/
def e_word (sg : Nat → Int) (n : Int) (k from_ : Int) : e_S → e_S ⊕ e_R
  | (_, (kd, bg, _, st, it) :: fs, op, ls, sw, nm) =>
    let m : Int := e_len e_w sg n 801 from_
    if m = 0 then .inr (1, from_, -1) else if 20 < m ∨ 40 ≤ sw then .inr (2, from_, -1)
    else .inl (from_ + m, (kd, bg, 1, st, it) :: fs, op, ls, sw + 1, if k = 1 then 1 else nm)
  | (at_, [], _) => .inr (1, at_, -1)
def e_part (sg : Nat → Int) (n : Int) : e_S → e_S ⊕ e_R
  | (at_, (kd, bg, wd, st, it) :: fs, op, ls, sw, nm) =>
    let c := sg at_.toNat
    if c = 40 then
      (if 5 ≤ ((kd, bg, wd, st, it) :: fs).length ∨ 14 ≤ op then .inr (2, at_, -1) else .inl (at_ + 1, (1, 0, 0, at_, 0) :: (kd, bg, wd, st, it) :: fs, op + 1, ls, sw, nm))
    else if c = 123 then
      (if 5 ≤ ((kd, bg, wd, st, it) :: fs).length ∨ 15 ≤ ls then .inr (2, at_, -1) else .inl (at_ + 1, (2, 0, 0, at_, 0) :: (kd, bg, 1, st, it) :: fs, op, ls + 1, sw, nm))
    else if c = 60 then
      let m : Nat := e_len e_dg sg n 801 (at_ + 1)
      if m = 0 then .inr (1, at_ + 1, -1) else if 30 < e_dec sg (at_ + 1) m then .inr (2, at_ + 1, -1)
      else if at_ + 1 + m < n ∧ sg (at_ + 1 + m).toNat = 62 then .inl (at_ + 2 + m, (kd, bg, wd, st, it) :: fs, op, ls, sw, nm) else .inr (1, at_ + 1 + m, -1)
    else if c = 42 then e_word sg n 1 (at_ + 1) (at_, (kd, bg, wd, st, it) :: fs, op, ls, sw, nm)
    else if c = 126 then (if nm = 0 then .inr (3, at_, -1) else e_word sg n 2 (at_ + 1) (at_, (kd, bg, wd, st, it) :: fs, op, ls, sw, nm))
    else e_word sg n 0 at_ (at_, (kd, bg, wd, st, it) :: fs, op, ls, sw, nm)
  | (at_, [], _) => .inr (1, at_, -1)
def e_close (c at_ : Int) : e_F → List e_F → Int → Int → Int → Int → e_S ⊕ e_R
  | (kd, _, wd, st, it), fs, op, ls, sw, nm =>
    if wd = 0 then .inr (4, st, -1)
    else if c = 124 then .inl (at_ + 1, (kd, 0, 0, st, it) :: fs, op, ls, sw, nm)
    else if c = 46 then .inl (at_ + 1, [], op, ls, sw, nm)
    else .inl (at_ + 1, fs, op, ls, sw, nm)
def e_ends (kd it c : Int) : Bool := if kd = 1 then c == 41 else if kd = 2 then c == 124 || c == 125 && decide (1 < it) else c == 46
def e_step (sg : Nat → Int) (n : Int) : e_S → e_S ⊕ e_R
  | (at_, [], op, ls, sw, nm) =>
    if n ≤ at_ then .inr (0, -1, op)
    else
      let c := sg at_.toNat
      if c = 10 ∨ c = 32 then .inl (at_ + 1, [], op, ls, sw, nm)
      else if c = 61 then .inl (at_ + 1, [(3, 0, 0, at_, 0)], op, ls, 0, nm)
      else if e_p c = true then (if 14 ≤ op then .inr (2, at_, -1) else .inl (at_, [(0, 1, 0, at_, 0)], op + 1, ls, 0, nm))
      else .inr (1, at_, -1)
  | (at_, (kd, bg, wd, st, it) :: fs, op, ls, sw, nm) =>
    if n ≤ at_ then .inr (1, n, -1)
    else
      let c := sg at_.toNat
      if c = 10 ∨ c = 32 then .inl (at_ + 1, (kd, bg, wd, st, it) :: fs, op, ls, sw, nm)
      else if e_p c = true ∧ (kd = 3 → c ≠ 40 ∧ c ≠ 123 ∧ c ≠ 126) then
        (if bg = 0 then
          (if kd = 2 then (if 14 ≤ op then .inr (2, at_, -1) else .inl (at_, (kd, 1, wd, at_, it + 1) :: fs, op + 1, ls, sw, nm))
           else .inl (at_, (kd, 1, wd, st, it) :: fs, op, ls, sw, nm))
         else e_part sg n (at_, (kd, bg, wd, st, it) :: fs, op, ls, sw, nm))
      else if e_p c = false ∧ bg ≠ 0 ∧ e_ends kd it c = true then e_close c at_ (kd, bg, wd, st, it) fs op ls sw nm
      else .inr (1, at_, -1)
def e_run (sg : Nat → Int) (n : Int) : Nat → e_S → Option e_R
  | 0, _ => none
  | k + 1, s => match e_step sg n s with
    | .inl t => e_run sg n k t
    | .inr r => some r
def e_Ev (sg : Nat → Int) (n : Int) (s : e_S) (r : e_R) : Prop := ∃ k, e_run sg n k s = some r
theorem e_more {sg : Nat → Int} {n : Int} {r : e_R} : ∀ (k : Nat) (s : e_S), e_run sg n k s = some r → e_run sg n (k + 1) s = some r := by
  intro k
  induction k with
  | zero => intro s h; simp [e_run] at h
  | succ k ih =>
    intro s h
    rw [e_run] at h ⊢
    split at h
    · exact ih _ h
    · exact h
theorem e_mono {sg : Nat → Int} {n : Int} {r : e_R} {s : e_S} {k : Nat} (h : e_run sg n k s = some r) : ∀ d, e_run sg n (k + d) s = some r := by
  intro d
  induction d with
  | zero => exact h
  | succ d ih => exact e_more _ _ ih
theorem e_Ev.one {sg : Nat → Int} {n : Int} {s : e_S} {r r' : e_R} (h : e_Ev sg n s r) (h' : e_Ev sg n s r') : r = r' := by
  obtain ⟨k, h⟩ := h
  obtain ⟨k', h'⟩ := h'
  have a := e_mono h k'
  have b := e_mono h' k
  rw [Nat.add_comm k' k, a] at b
  exact Option.some.inj b
theorem e_Ev.go {sg : Nat → Int} {n : Int} {s t : e_S} {r : e_R} (h : e_step sg n s = .inl t) (h' : e_Ev sg n t r) : e_Ev sg n s r := by
  obtain ⟨k, h'⟩ := h'
  exact ⟨k + 1, by rw [e_run, h]; exact h'⟩
theorem e_Ev.stop {sg : Nat → Int} {n : Int} {s : e_S} {r : e_R} (h : e_step sg n s = .inr r) : e_Ev sg n s r := ⟨1, by rw [e_run, h]⟩
/-- frames from rows: k of them, u the kind of what stands above -/
def e_fl (g : Nat → e_F) : Nat → Int → List e_F
  | 0, _ => []
  | k + 1, u => ((g k).1, (g k).2.1, (if u = 2 then 1 else (g k).2.2.1), (g k).2.2.2.1, (g k).2.2.2.2) :: e_fl g k (g k).1
theorem e_fl_len (g : Nat → e_F) : ∀ (k : Nat) (u : Int), (e_fl g k u).length = k
  | 0, _ => rfl
  | k + 1, _ => by rw [e_fl, List.length_cons, e_fl_len g k]
theorem e_fl_congr {g h : Nat → e_F} : ∀ (k : Nat) (u : Int), (∀ j, j < k → g j = h j) → e_fl g k u = e_fl h k u
  | 0, _, _ => rfl
  | k + 1, u, e => by rw [e_fl, e_fl, e k (Nat.lt_succ_self k), e_fl_congr k _ (fun j hj => e j (Nat.lt_succ_of_lt hj))]
theorem e_fl_one (g : Nat → e_F) (k : Nat) (u : Int) (h : u ≠ 2) : e_fl g (k + 1) u = g k :: e_fl g k (g k).1 := by
  rw [e_fl, if_neg h]
/-- what goes on, or has ended -/
def e_Es (sg : Nat → Int) (n : Int) (x : e_S ⊕ e_R) (r : e_R) : Prop := match x with
  | .inl t => e_Ev sg n t r
  | .inr r' => r = r'
theorem e_Ev.step {sg : Nat → Int} {n : Int} {s : e_S} {r : e_R} (h : e_Es sg n (e_step sg n s) r) : e_Ev sg n s r := by
  unfold e_Es at h
  split at h
  · exact e_Ev.go (by assumption) h
  · subst h; exact e_Ev.stop (by assumption)
/-! signs as numbers 0, 1 -/
def e_wI (c : Int) : Int := if 33 ≤ c ∧ c ≤ 126 ∧ c ≠ 40 ∧ c ≠ 41 ∧ c ≠ 42 ∧ c ≠ 46 ∧ c ≠ 60 ∧ c ≠ 61 ∧ c ≠ 62 ∧ c ≠ 123 ∧ c ≠ 124 ∧ c ≠ 125 ∧ c ≠ 126 then 1 else 0
theorem e_wI_1 {c : Int} (h : 33 ≤ c ∧ c ≤ 126 ∧ c ≠ 40 ∧ c ≠ 41 ∧ c ≠ 42 ∧ c ≠ 46 ∧ c ≠ 60 ∧ c ≠ 61 ∧ c ≠ 62 ∧ c ≠ 123 ∧ c ≠ 124 ∧ c ≠ 125 ∧ c ≠ 126) : 1 = e_wI c := by unfold e_wI; rw [if_pos h]
theorem e_wI_0 {c : Int} (h : ¬ (33 ≤ c ∧ c ≤ 126 ∧ c ≠ 40 ∧ c ≠ 41 ∧ c ≠ 42 ∧ c ≠ 46 ∧ c ≠ 60 ∧ c ≠ 61 ∧ c ≠ 62 ∧ c ≠ 123 ∧ c ≠ 124 ∧ c ≠ 125 ∧ c ≠ 126)) : 0 = e_wI c := by unfold e_wI; rw [if_neg h]
theorem e_wI_w (c : Int) : e_w c = decide (e_wI c = 1) := by
  unfold e_wI
  split
  · rename_i h
    have : e_w c = true := by simp [e_w, e_own]; omega
    rw [this]; rfl
  · rename_i h
    have : e_w c = false := by
      rw [Bool.eq_false_iff]; intro h9; simp [e_w, e_own] at h9; omega
    rw [this]; rfl
def e_pI (c : Int) : Int := if c = 40 ∨ c = 123 ∨ c = 60 ∨ c = 42 ∨ c = 126 then 1 else e_wI c
theorem e_pI_1 {c : Int} (h : (c = 40 ∨ c = 123 ∨ c = 60 ∨ c = 42 ∨ c = 126) ∨ e_wI c = 1) : 1 = e_pI c := by
  unfold e_pI; split
  · rfl
  · exact (h.resolve_left (by assumption)).symm
theorem e_pI_0 {c : Int} (h : (c ≠ 40 ∧ c ≠ 123 ∧ c ≠ 60 ∧ c ≠ 42 ∧ c ≠ 126) ∧ e_wI c = 0) : 0 = e_pI c := by
  unfold e_pI; rw [if_neg (by omega)]; exact h.2.symm
theorem e_wI_b (c : Int) : e_wI c = 0 ∨ e_wI c = 1 := by unfold e_wI; split <;> simp
theorem e_pI_b (c : Int) : e_pI c = 0 ∨ e_pI c = 1 := by
  unfold e_pI; split
  · exact Or.inr rfl
  · exact e_wI_b c
theorem e_pI_p (c : Int) : e_p c = decide (e_pI c = 1) := by
  unfold e_pI e_p
  rw [e_wI_w]
  split
  · rename_i h
    rcases h with h | h | h | h | h <;> subst h <;> decide
  · rename_i h
    have h1 : (c == 40) = false := by simp; omega
    have h2 : (c == 123) = false := by simp; omega
    have h3 : (c == 60) = false := by simp; omega
    have h4 : (c == 42) = false := by simp; omega
    have h5 : (c == 126) = false := by simp; omega
    rw [h1, h2, h3, h4, h5]; simp
def e_dI (c : Int) : Int := if 48 ≤ c ∧ c ≤ 57 then 1 else 0
theorem e_dI_1 {c : Int} (h : 48 ≤ c ∧ c ≤ 57) : 1 = e_dI c := by unfold e_dI; rw [if_pos h]
theorem e_dI_0 {c : Int} (h : ¬ (48 ≤ c ∧ c ≤ 57)) : 0 = e_dI c := by unfold e_dI; rw [if_neg h]
theorem e_dI_d (c : Int) : e_dg c = decide (e_dI c = 1) := by
  unfold e_dI e_dg; split <;> simp <;> omega
def e_nI (kd it c : Int) : Int := if (kd = 1 ∧ c = 41) ∨ (kd = 2 ∧ (c = 124 ∨ (c = 125 ∧ 1 < it))) ∨ (kd ≠ 1 ∧ kd ≠ 2 ∧ c = 46) then 1 else 0
theorem e_nI_1 {kd it c : Int} (h : (kd = 1 ∧ c = 41) ∨ (kd = 2 ∧ (c = 124 ∨ (c = 125 ∧ 1 < it))) ∨ (kd ≠ 1 ∧ kd ≠ 2 ∧ c = 46)) : 1 = e_nI kd it c := by unfold e_nI; rw [if_pos h]
theorem e_nI_0 {kd it c : Int} (h : ¬ ((kd = 1 ∧ c = 41) ∨ (kd = 2 ∧ (c = 124 ∨ (c = 125 ∧ 1 < it))) ∨ (kd ≠ 1 ∧ kd ≠ 2 ∧ c = 46))) : 0 = e_nI kd it c := by unfold e_nI; rw [if_neg h]
/-- whether a sign may stand -/
def e_MS (L c kd bg it : Int) : Prop := (L = -1 ∧ (c = 61 ∨ e_pI c = 1)) ∨ (L ≠ -1 ∧ e_pI c = 1 ∧ (kd ≠ 3 ∨ (c ≠ 40 ∧ c ≠ 123 ∧ c ≠ 126))) ∨ (L ≠ -1 ∧ e_pI c = 0 ∧ bg ≠ 0 ∧ e_nI kd it c = 1)
