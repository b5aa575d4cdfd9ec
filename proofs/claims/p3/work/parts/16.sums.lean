/-! the reference's things: what a reading of them writes at most, and how many sentences begin -/
def q4_c (k n : Int32) : Int := if k = 2 then 21 else if k = 3 then 4 else if k = 5 then 1 else if k = 4 then 0 else n.toInt + 1
def q4_s (fk fs : Nat → Int32) : Nat → Int
  | 0 => 0
  | n + 1 => q4_s fk fs n + q4_c (fk n) (fs n)
def q4_n (fk : Nat → Int32) : Nat → Int
  | 0 => 0
  | n + 1 => q4_n fk n + (if fk n = 4 then 1 else 0)
def q4_t (k o f s m : Int32) : Prop := 0 ≤ f.toInt ∧ 0 ≤ s.toInt ∧ s.toInt ≤ 20 ∧ f.toInt + s.toInt ≤ 800 ∧ -1 ≤ m.toInt ∧ m.toInt < 900 ∧ (k.toInt ≠ 2 ∨ 0 ≤ m.toInt) ∧ -422 < o.toInt ∧ o.toInt < 14 ∧ o.toInt ≠ -1 ∧ (k.toInt ≠ 3 ∨ 0 ≤ o.toInt)
def q4_T (fk fo ff fs fm : Nat → Int32) : Prop := ∀ j, q4_t (fk j) (fo j) (ff j) (fs j) (fm j)
theorem q4_u0 {f F : Nat → Int32} {k x : Int32} (e : F = upd f k.toNatClampNeg x) (h : 0 ≤ k.toInt) : (k.toInt = 0 ∧ (F 0).toInt = x.toInt) ∨ (k.toInt ≠ 0 ∧ (F 0).toInt = (f 0).toInt) := by
  rw [e]; unfold upd
  have hc : k.toNatClampNeg = k.toInt.toNat := rfl
  by_cases h0 : k.toInt = 0
  · left; refine ⟨h0, ?_⟩
    rw [if_pos (by rw [hc]; omega)]
  · right; refine ⟨h0, ?_⟩
    rw [if_neg (by rw [hc]; omega)]
theorem q4_ext {P : Nat → Int32 → Prop} {f F : Nat → Int32} {k x : Int32} {n : Int} (e : F = upd f k.toNatClampNeg x) (hk : 0 ≤ k.toInt) (h : ∀ j : Nat, j < Int.toNat k.toInt → P j (f j)) (hx : P (Int.toNat k.toInt) x) (hn : n = k.toInt + 1) : ∀ j : Nat, j < Int.toNat n → P j (F j) := by
  intro j hj
  have hc : k.toNatClampNeg = k.toInt.toNat := rfl
  rw [e]; unfold upd
  by_cases hjk : j = k.toInt.toNat
  · rw [if_pos (by rw [hc]; exact hjk), hjk]; exact hx
  · rw [if_neg (by rw [hc]; exact hjk)]; exact h j (by omega)
theorem q4_mono {f : Nat → Int32} {n : Nat} {a b : Int} (h : ∀ j : Nat, j < n → (f j).toInt < a) (hab : a ≤ b) : ∀ j : Nat, j < n → (f j).toInt < b := fun j hj => Int.lt_of_lt_of_le (h j hj) hab
theorem q4_less {P : Nat → Prop} {n m : Int} (h : ∀ j : Nat, j < Int.toNat n → P j) (hm : m ≤ n) : ∀ j : Nat, j < Int.toNat m → P j := fun j hj => h j (by omega)
theorem q4_s_congr {fk fs gk gs : Nat → Int32} : ∀ {n : Nat}, (∀ j, j < n → fk j = gk j ∧ fs j = gs j) → q4_s fk fs n = q4_s gk gs n
  | 0, _ => rfl
  | n + 1, h => by
    unfold q4_s
    rw [q4_s_congr (n := n) (fun j hj => h j (by omega)), (h n (by omega)).1, (h n (by omega)).2]
theorem q4_n_congr {fk gk : Nat → Int32} : ∀ {n : Nat}, (∀ j, j < n → fk j = gk j) → q4_n fk n = q4_n gk n
  | 0, _ => rfl
  | n + 1, h => by
    unfold q4_n
    rw [q4_n_congr (n := n) (fun j hj => h j (by omega)), h n (by omega)]
theorem q4_upd_lt {f : Nat → Int32} {k j : Nat} {x : Int32} (h : j < k) : upd f k x j = f j := by unfold upd; rw [if_neg (by omega)]
theorem q4_upd_eq {f : Nat → Int32} {k : Nat} {x : Int32} : upd f k x k = x := by unfold upd; rw [if_pos rfl]
theorem q4_s_put {fk fs Fk Fs : Nat → Int32} {r x z : Int32} {n : Int} (ek : Fk = upd fk r.toNatClampNeg x) (es : Fs = upd fs r.toNatClampNeg z) (h0 : 0 ≤ r.toInt) (hn : n = r.toInt + 1) : q4_s Fk Fs (Int.toNat n) = q4_s fk fs (Int.toNat r.toInt) + q4_c x z := by
  have hc : r.toNatClampNeg = r.toInt.toNat := rfl
  rw [hc] at ek es
  have e1 : Int.toNat n = r.toInt.toNat + 1 := by omega
  rw [e1]
  show q4_s Fk Fs r.toInt.toNat + q4_c (Fk r.toInt.toNat) (Fs r.toInt.toNat) = _
  rw [q4_s_congr (gk := fk) (gs := fs) (fun j hj => ⟨by rw [ek, q4_upd_lt hj], by rw [es, q4_upd_lt hj]⟩), ek, es, q4_upd_eq, q4_upd_eq]
theorem q4_n_put {fk Fk : Nat → Int32} {r x : Int32} {n : Int} (ek : Fk = upd fk r.toNatClampNeg x) (h0 : 0 ≤ r.toInt) (hn : n = r.toInt + 1) : q4_n Fk (Int.toNat n) = q4_n fk (Int.toNat r.toInt) + (if x = 4 then 1 else 0) := by
  have hc : r.toNatClampNeg = r.toInt.toNat := rfl
  rw [hc] at ek
  have e1 : Int.toNat n = r.toInt.toNat + 1 := by omega
  rw [e1]
  show q4_n Fk r.toInt.toNat + (if Fk r.toInt.toNat = 4 then 1 else 0) = _
  rw [q4_n_congr (gk := fk) (fun j hj => by rw [ek, q4_upd_lt hj]), ek, q4_upd_eq]
theorem q4_T_put {fk fo ff fs fm Fk Fo Ff Fs Fm : Nat → Int32} {t : Nat} {k o f s m : Int32} (h : q4_T fk fo ff fs fm) (e1 : Fk = upd fk t k) (e2 : Fo = upd fo t o) (e3 : Ff = upd ff t f) (e4 : Fs = upd fs t s) (e5 : Fm = upd fm t m) (hx : q4_t k o f s m) : q4_T Fk Fo Ff Fs Fm := by
  intro j
  rw [e1, e2, e3, e4, e5]; unfold upd; split
  · exact hx
  · exact h j
theorem q4_c_w {k n : Int32} (h0 : 0 ≤ k.toInt) (h2 : k.toInt ≤ 2) : (k.toInt = 2 ∧ q4_c k n = 21) ∨ (k.toInt ≠ 2 ∧ q4_c k n = n.toInt + 1) := by
  unfold q4_c
  by_cases h : k = 2
  · left; rw [if_pos h]; exact ⟨by rw [h]; decide, rfl⟩
  · right
    have h' : ∀ z : Int32, k = z → k.toInt = z.toInt := fun z e => by rw [e]
    have n3 : ¬ k = 3 := fun e => by have := h' 3 e; rw [show (3 : Int32).toInt = 3 by decide] at this; omega
    have n5 : ¬ k = 5 := fun e => by have := h' 5 e; rw [show (5 : Int32).toInt = 5 by decide] at this; omega
    have n4 : ¬ k = 4 := fun e => by have := h' 4 e; rw [show (4 : Int32).toInt = 4 by decide] at this; omega
    rw [if_neg h, if_neg n3, if_neg n5, if_neg n4]
    refine ⟨fun e => h ((z_eq _ _).mpr (by rw [e]; decide)), rfl⟩
theorem q4_c4 {k : Int32} (h : k.toInt ≠ 4) : (if k = 4 then (1 : Int) else 0) = 0 := by
  rw [if_neg (fun e => h (by rw [e]; decide))]
theorem q4_s_mono {fk fs : Nat → Int32} (hs : ∀ j, 0 ≤ (fs j).toInt) : ∀ {n m : Nat}, m ≤ n → q4_s fk fs m ≤ q4_s fk fs n := by
  intro n
  induction n with
  | zero => intro m h; rw [Nat.le_zero.mp h]; exact Int.le_refl _
  | succ n ih =>
    intro m h
    by_cases e : m = n + 1
    · rw [e]; exact Int.le_refl _
    · have h1 := ih (show m ≤ n by omega)
      have h2 : 0 ≤ q4_c (fk n) (fs n) := by
        have := hs n
        unfold q4_c; split
        · omega
        · split
          · omega
          · split
            · omega
            · split <;> omega
      show _ ≤ q4_s fk fs n + q4_c (fk n) (fs n)
      omega
theorem q4_n_mono {fk : Nat → Int32} : ∀ {n m : Nat}, m ≤ n → q4_n fk m ≤ q4_n fk n := by
  intro n
  induction n with
  | zero => intro m h; rw [Nat.le_zero.mp h]; exact Int.le_refl _
  | succ n ih =>
    intro m h
    by_cases e : m = n + 1
    · rw [e]; exact Int.le_refl _
    · have h1 := ih (show m ≤ n by omega)
      show _ ≤ q4_n fk n + (if fk n = 4 then 1 else 0)
      split <;> omega
theorem q4_s_step (fk fs : Nat → Int32) {t : Int32} (h : 0 ≤ t.toInt) : q4_s fk fs (Int.toNat (t.toInt + 1)) = q4_s fk fs (Int.toNat t.toInt) + q4_c (fk t.toNatClampNeg) (fs t.toNatClampNeg) := by
  have hc : t.toNatClampNeg = t.toInt.toNat := rfl
  rw [show Int.toNat (t.toInt + 1) = Int.toNat t.toInt + 1 by omega, hc]; rfl
theorem q4_n_step (fk : Nat → Int32) {t : Int32} (h : 0 ≤ t.toInt) : q4_n fk (Int.toNat (t.toInt + 1)) = q4_n fk (Int.toNat t.toInt) + (if fk t.toNatClampNeg = 4 then 1 else 0) := by
  have hc : t.toNatClampNeg = t.toInt.toNat := rfl
  rw [show Int.toNat (t.toInt + 1) = Int.toNat t.toInt + 1 by omega, hc]; rfl
theorem q4_c_nn {k n : Int32} (h : 0 ≤ n.toInt) : 0 ≤ q4_c k n := by
  unfold q4_c; split
  · omega
  · split
    · omega
    · split
      · omega
      · split <;> omega
theorem q4_i_nn {k : Int32} : 0 ≤ (if k = 4 then (1 : Int) else 0) := by split <;> omega
theorem q4_i_4 {k : Int32} (h : k.toInt = 4) : (if k = 4 then (1 : Int) else 0) = 1 := by
  rw [if_pos ((z_eq _ _).mpr (by rw [h]; decide))]
theorem q4_c_4 {k n : Int32} (h : k.toInt = 4) : q4_c k n = 0 := by
  have e : k = 4 := (z_eq _ _).mpr (by rw [h]; decide)
  rw [e]; rfl
theorem q4_c_5 {k n : Int32} (h : k.toInt = 5) : q4_c k n = 1 := by
  have e : k = 5 := (z_eq _ _).mpr (by rw [h]; decide)
  rw [e]; rfl
theorem q4_c_3 {k n : Int32} (h : k.toInt = 3) : q4_c k n = 4 := by
  have e : k = 3 := (z_eq _ _).mpr (by rw [h]; decide)
  rw [e]; rfl
theorem q4_c_o {k n : Int32} (h3 : k.toInt ≠ 3) (h4 : k.toInt ≠ 4) (h5 : k.toInt ≠ 5) : (k.toInt = 2 ∧ q4_c k n = 21) ∨ (k.toInt ≠ 2 ∧ q4_c k n = n.toInt + 1) := by
  unfold q4_c
  have h' : ∀ z : Int32, k = z → k.toInt = z.toInt := fun z e => by rw [e]
  have n3 : ¬ k = 3 := fun e => by have := h' 3 e; rw [show (3 : Int32).toInt = 3 by decide] at this; omega
  have n5 : ¬ k = 5 := fun e => by have := h' 5 e; rw [show (5 : Int32).toInt = 5 by decide] at this; omega
  have n4 : ¬ k = 4 := fun e => by have := h' 4 e; rw [show (4 : Int32).toInt = 4 by decide] at this; omega
  by_cases h : k = 2
  · left; rw [if_pos h]; exact ⟨by rw [h]; decide, rfl⟩
  · right
    rw [if_neg h, if_neg n3, if_neg n5, if_neg n4]
    exact ⟨fun e => h ((z_eq _ _).mpr (by rw [e]; decide)), rfl⟩
theorem q4_cp {fk fs gk gs Fk Fs : Nat → Int32} {i x z : Int32} (ek : Fk = upd fk i.toNatClampNeg x) (es : Fs = upd fs i.toNatClampNeg z) (ex : x = gk i.toNatClampNeg) (ez : z = gs i.toNatClampNeg) (h0 : 0 ≤ i.toInt) (h : ∀ j : Nat, j < Int.toNat i.toInt → fk j = gk j ∧ fs j = gs j) : ∀ j : Nat, j < Int.toNat (i.toInt + 1) → Fk j = gk j ∧ Fs j = gs j := by
  intro j hj
  have hc : i.toNatClampNeg = i.toInt.toNat := rfl
  rw [hc] at ek es ex ez
  by_cases e : j = i.toInt.toNat
  · subst e; rw [ek, es, q4_upd_eq, q4_upd_eq, ex, ez]; exact ⟨rfl, rfl⟩
  · rw [ek, es, q4_upd_lt (by omega), q4_upd_lt (by omega)]; exact h j (by omega)
