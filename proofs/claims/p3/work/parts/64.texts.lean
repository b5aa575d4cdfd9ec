/-! two sides and the law's own row -/
theorem q7_l {D : va_G} {u v : va_W} {H : Heap} (h : va_P D vwCl (u ++ v) H) : va_P D vwCl u H := fun k q hk => h k q (by rw [List.getElem?_append_left (List.getElem?_eq_some_iff.mp hk).1]; exact hk)
theorem q7_r {D : va_G} {u v : va_W} {H : Heap} (h : va_P D vwCl (u ++ v) H) : va_P D vwCl v H := fun k q hk => h (u.length + k) q (by rw [List.getElem?_append_right (by omega), Nat.add_sub_cancel_left]; exact hk)
theorem q7_app {D : va_G} {u v : va_W} {H : Heap} (h1 : va_P D vwCl u H) (h2 : va_P D vwCl v H) : va_P D vwCl (u ++ v) H := fun k q hk => by
  by_cases hl : k < u.length
  · rw [List.getElem?_append_left hl] at hk; exact h1 k q hk
  · rw [List.getElem?_append_right (by omega)] at hk; exact h2 _ q hk
theorem q7_Dr {A : Nat → Prop} {u v : va_W} (h : va_D A (u ++ v)) : va_D A v := by
  have k : ∀ (i : Nat) (p : Nat × va_E), v[i]? = some p → (u ++ v)[u.length + i]? = some p := fun i p hi => by rw [List.getElem?_append_right (by omega), Nat.add_sub_cancel_left]; exact hi
  exact ⟨fun i j p q hi hj e => by have := h.1 _ _ p q (k i p hi) (k j q hj) e; omega, fun i p hi => h.2 _ p (k i p hi)⟩
theorem q7_Dx {A : Nat → Prop} {u v : va_W} (h : va_D A (u ++ v)) : ∀ (i j : Nat) (p q : Nat × va_E), u[i]? = some p → v[j]? = some q → p.1 ≠ q.1 := fun i j p q hi hj e => by
  have h1 : (u ++ v)[i]? = some p := by rw [List.getElem?_append_left (List.getElem?_eq_some_iff.mp hi).1]; exact hi
  have h2 : (u ++ v)[u.length + j]? = some q := by rw [List.getElem?_append_right (by omega), Nat.add_sub_cancel_left]; exact hj
  have h3 := h.1 _ _ p q h1 h2 e
  have h4 := (List.getElem?_eq_some_iff.mp hi).1
  omega
theorem q7_swap {A : Nat → Prop} {u v w : va_W} (h : va_D A (u ++ (v ++ w))) : va_D A (v ++ (u ++ w)) := by
  have hvw := q7_Dr h
  have hx := q7_Dx h
  have hvw2 := q7_Dx hvw
  have at1 : ∀ {a b : va_W} (i : Nat) (p : Nat × va_E), (a ++ b)[i]? = some p → (∃ j : Nat, a[j]? = some p) ∨ ∃ j : Nat, b[j]? = some p := fun {a b} i p hi => by
    by_cases hl : i < a.length
    · rw [List.getElem?_append_left hl] at hi; exact Or.inl ⟨i, hi⟩
    · rw [List.getElem?_append_right (by omega)] at hi; exact Or.inr ⟨_, hi⟩
  have toV : ∀ (j : Nat) (p : Nat × va_E), v[j]? = some p → ∃ k : Nat, (v ++ w)[k]? = some p := fun j p hj => ⟨j, by rw [List.getElem?_append_left (List.getElem?_eq_some_iff.mp hj).1]; exact hj⟩
  have toW : ∀ (j : Nat) (p : Nat × va_E), w[j]? = some p → ∃ k : Nat, (v ++ w)[k]? = some p := fun j p hj => ⟨v.length + j, by rw [List.getElem?_append_right (by omega), Nat.add_sub_cancel_left]; exact hj⟩
  refine va_D.app (q5_Dl hvw) (va_D.app (q5_Dl h) (q7_Dr hvw) (fun i j p q hi hj => ?_)) (fun i j p q hi hj => ?_)
  · obtain ⟨k, hk⟩ := toW j q hj
    exact hx i k p q hi hk
  · rcases at1 j q hj with ⟨k, hk⟩ | ⟨k, hk⟩
    · obtain ⟨k2, hk2⟩ := toV i p hi
      exact fun e => hx k k2 q p hk hk2 e.symm
    · exact hvw2 i k p q hi hk
theorem q7_after {D : va_G} {A0 : Nat → Prop} {w1 w2 w1' : va_W} {H H1 : Heap} (hP2 : va_P D vwCl w2 H) (hD : va_D A0 (w1 ++ w2)) (hF : ∀ q, va_A w1 H.size q → A0 q) (hk : ∀ q : Nat, q < H.size → ¬ va_A w1 H.size q → H1[q]? = H[q]?) (hD1 : va_D (va_A w1 H.size) w1') : va_P D vwCl w2 H1 ∧ va_D A0 (w1' ++ w2) := by
  have hx := q7_Dx hD
  have out : ∀ (j : Nat) (q : Nat × va_E), w2[j]? = some q → ¬ va_A w1 H.size q.1 := fun j q hj h => by
    rcases h with ⟨k, e, h⟩ | h
    · exact hx k j _ q h hj rfl
    · exact Nat.not_le.mpr ((hP2 j q hj).lt) h
  refine ⟨fun j q hj => (hP2 j q hj).kept (hk q.1 ((hP2 j q hj).lt) (out j q hj)), va_D.app (hD1.weaken (fun _ _ _ h => hF _ h)) (q7_Dr hD) (fun i j p q hi hj e => ?_)⟩
  exact out j q hj (by rw [← e]; exact hD1.2 i p hi)
section Q7
variable {p : Program} {l : Launch} {e : Env} {R : Room} {s : State} {m : MethodId} {args : Array Value} {below : List Frame} {meth : Method} {cd : Code} {H H0 : Heap} {locs : List Loc} {cells slots mc ms : Nat} {Q : State → Prop} {A0 A : Nat → Prop} {D : va_G} {c : Nat → ClassId} {w1 w2 : va_W} {ws' : q2_S → va_W} {ps : q2_S → Nat} {pc : Nat} {ls : Array Slot} {st0 rest : List Value} {a : Array Value} {cc : ByteArray}
theorem q7_F (hD : va_D A0 (w1 ++ w2)) (hS : va_S A0 H0 H locs) (hA : ∀ q, H0.size ≤ q → A0 q) : ∀ q, va_A w1 H.size q → A0 q := by
  intro q h
  rcases h with ⟨k, e, h⟩ | h
  · exact (q5_Dl hD).2 k _ h
  · exact hA q (Nat.le_trans hS.1 h)
theorem q7_ci {post : Int32 → q2_S → Prop} (hr : va_Run p l e R s m args below meth cd H locs cells slots mc ms (F0 m pc ls st0) rest (q2_i D w1 H.size post ws' a) (va_A w1 H.size)) (hP2 : va_P D vwCl w2 H) (hD : va_D A0 (w1 ++ w2)) (hS : va_S A0 H0 H locs) (hA : ∀ q, H0.size ≤ q → A0 q)
    (kk : ∀ (r : Int32) (u : q2_S) (H1 : Heap) (locs1 : List Loc), post r u → va_P D vwCl (ws' u) H1 → va_P D vwCl w2 H1 → va_D A0 (ws' u ++ w2) → va_S A0 H0 H1 locs1 → W p l e R s m args below meth cd H1 locs1 (cells + mc) (slots + ms) Q (F0 m (pc + 3) ls (.int r :: rest))) : W p l e R s m args below meth cd H locs cells slots Q (F0 m pc ls st0) := by
  have hF := q7_F hD hS hA
  refine va_calli hr hS (fun q _ h => hF q h) hF (fun r u t H1 locs1 ht hvm hw hB hz hk hS1 => ?_)
  obtain ⟨hP1, hD1⟩ := hB
  rw [ht] at hP1
  obtain ⟨h2, h3⟩ := q7_after hP2 hD hF hk hD1
  exact kk r u H1 locs1 hw hP1 h2 h3 hS1
theorem q7_cj {post : Int32 → q2_S → Prop} (hr : va_Run p l e R s m args below meth cd H locs cells slots mc ms (F0 m pc ls st0) rest (q5_i D w1 H.size post ws' ps a) (va_A w1 H.size)) (hP2 : va_P D vwCl w2 H) (hD : va_D A0 (w1 ++ w2)) (hS : va_S A0 H0 H locs) (hA : ∀ q, H0.size ≤ q → A0 q)
    (kk : ∀ (r : Int32) (u : q2_S) (H1 : Heap) (locs1 : List Loc), post r u → va_P D vwCl (ws' u) H1 → va_P D vwCl w2 H1 → va_D A0 (ws' u ++ w2) → va_S A0 H0 H1 locs1 → W p l e R s m args below meth cd H1 locs1 (cells + mc) (slots + ps u) Q (F0 m (pc + 3) ls (.int r :: rest))) : W p l e R s m args below meth cd H locs cells slots Q (F0 m pc ls st0) := by
  have hF := q7_F hD hS hA
  intro T hT X
  obtain ⟨v, st₀, t, T', L, h0, X', hL, e1, e2, ⟨⟨r, u, hv, hp, ⟨hP1, hD1⟩, hz⟩, hsz, hk⟩, st⟩ := hr T hT X
  cases hv
  rw [h0] at hsz hk hz
  rw [← e1] at hP1 hsz hk hz
  obtain ⟨h2, h3⟩ := q7_after hP2 hD hF hk hD1
  obtain ⟨t2, a1, b1⟩ := kk r u T'.heap (locs ++ L) hp hP1 h2 h3
    ⟨Nat.le_trans hS.1 hsz, fun q h1 h2 => by rw [hk q (Nat.lt_of_lt_of_le h1 hS.1) (fun z => h2 (hF q z))]; exact hS.2.1 q h1 h2, fun q hq => by
      rcases List.mem_append.mp hq with h | h
      · exact hS.2.2 q h
      · exact hF _ (hL q h)⟩ T' rfl (q5_tight X X' (by rw [hT]; exact hz))
  exact ⟨t2, st t2 a1, b1⟩
end Q7
