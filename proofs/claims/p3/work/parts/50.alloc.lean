/-! contracts of methods that make rows: how much is new, by what they end with -/
def q5_Z (H H1 : Heap) (n : Nat) : Prop := (∀ (a : Nat) (x : Cell), H[a]? = some x → ∃ x', H1[a]? = some x' ∧ x'.slots.size = x.slots.size) ∧ ((H1.toList.drop H.size).map (·.slots.size)).sum ≤ n
def q5_i (D : va_G) (ws : va_W) (sz : Nat) (post : Int32 → q2_S → Prop) (ws' : q2_S → va_W) (ps : q2_S → Nat) : Array Value → State → Outcome → State → Prop := fun _ st oc t => (∃ (r : Int32) (u : q2_S), oc = .returned (some (.int r)) ∧ post r u ∧ q2_B D ws sz ws' u t ∧ q5_Z st.heap t.heap (ps u)) ∧ va_F (va_A ws sz) st t
def q5_v (D : va_G) (ws : va_W) (sz : Nat) (post : q2_S → Prop) (ws' : q2_S → va_W) (ps : q2_S → Nat) : Array Value → State → Outcome → State → Prop := fun _ st oc t => (∃ u : q2_S, oc = .returned none ∧ post u ∧ q2_B D ws sz ws' u t ∧ q5_Z st.heap t.heap (ps u)) ∧ va_F (va_A ws sz) st t
theorem q5_sum {L L' : List Cell} (n : Nat) (hn : n ≤ L.length) (hs : ∀ (a : Nat) (x : Cell), L[a]? = some x → ∃ x', L'[a]? = some x' ∧ x'.slots.size = x.slots.size) : ((L'.drop n).map (·.slots.size)).sum = ((L.drop n).map (·.slots.size)).sum + ((L'.drop L.length).map (·.slots.size)).sum := by
  have e1 : (L'.take L.length).map (·.slots.size) = L.map (·.slots.size) := by
    apply List.ext_getElem?
    intro i
    rw [List.getElem?_map, List.getElem?_map]
    by_cases hi : i < L.length
    · obtain ⟨x', h1, h2⟩ := hs i L[i] (List.getElem?_eq_getElem hi)
      rw [List.getElem?_take_of_lt hi, h1, List.getElem?_eq_getElem hi]
      simp only [Option.map_some, h2]
    · rw [List.getElem?_eq_none (by simp only [List.length_take]; omega), List.getElem?_eq_none (by omega)]
  have e2 : L'.map (·.slots.size) = L.map (·.slots.size) ++ (L'.drop L.length).map (·.slots.size) := by
    rw [← e1, ← List.map_append, List.take_append_drop]
  rw [List.map_drop, e2, List.drop_append_of_le_length (by rw [List.length_map]; exact hn), List.sum_append, ← List.map_drop]
section Q5
variable {p : Program} {l : Launch} {e : Env} {R : Room} {s : State} {m : MethodId} {args : Array Value} {below : List Frame} {meth : Method} {cd : Code} {H H0 : Heap} {locs : List Loc} {cells slots mc ms : Nat} {Q : State → Prop} {A0 A : Nat → Prop} {D : va_G} {c : Nat → ClassId} {ws : va_W} {ws' : q2_S → va_W} {ps : q2_S → Nat} {pc : Nat} {ls : Array Slot} {st0 rest : List Value} {a : Array Value} {cc : ByteArray} {T : State}
theorem q5_Zof (X : Stand p l e R s m args below meth cd T locs cells slots) (hT : T.heap = H) {n : Nat} (hn : slots ≤ n) : q5_Z s.heap H n := by
  refine ⟨fun a x h => ?_, ?_⟩
  · obtain ⟨c', h1, -, h3, -⟩ := X.same.2.2.2.2.2 a x h
    exact ⟨c', by rw [← hT]; exact h1, h3⟩
  · rw [← hT]; exact Nat.le_trans X.same.2.2.2.2.1 hn
theorem q5_tight {T' : State} (X : Stand p l e R s m args below meth cd T locs cells slots) {locs' : List Loc} {c1 n1 : Nat} (X' : Stand p l e R s m args below meth cd T' locs' c1 n1) {n : Nat} (hz : q5_Z T.heap T'.heap n) : Stand p l e R s m args below meth cd T' locs' c1 (slots + n) := by
  have b0 : ((T.heap.toList.drop s.heap.size).map (·.slots.size)).sum ≤ slots := X.same.2.2.2.2.1
  have b1 : s.heap.size ≤ T.heap.size := X.same.2.1
  have b2 : ((T'.heap.toList.drop s.heap.size).map (·.slots.size)).sum ≤ slots + n := by
    rw [q5_sum (L := T.heap.toList) s.heap.size (by rw [Array.length_toList]; exact b1) (fun a x h => by
      rw [Array.getElem?_toList] at h
      obtain ⟨x', h1, h2⟩ := hz.1 a x h
      exact ⟨x', by rw [Array.getElem?_toList]; exact h1, h2⟩), Array.length_toList]
    exact Nat.add_le_add b0 hz.2
  exact { X' with same := ⟨X'.same.1, X'.same.2.1, X'.same.2.2.1, X'.same.2.2.2.1, b2, X'.same.2.2.2.2.2⟩ }
theorem q5_ci {post : Int32 → q2_S → Prop} (hr : va_Run p l e R s m args below meth cd H locs cells slots mc ms (F0 m pc ls st0) rest (q5_i D ws H.size post ws' ps a) (va_A ws H.size)) (hD : va_D A0 ws) (hS : va_S A0 H0 H locs) (hA : ∀ q, H0.size ≤ q → A0 q)
    (kk : ∀ (r : Int32) (u : q2_S) (H1 : Heap) (locs1 : List Loc), post r u → va_P D vwCl (ws' u) H1 → va_D A0 (ws' u) → va_S A0 H0 H1 locs1 → W p l e R s m args below meth cd H1 locs1 (cells + mc) (slots + ps u) Q (F0 m (pc + 3) ls (.int r :: rest))) : W p l e R s m args below meth cd H locs cells slots Q (F0 m pc ls st0) := by
  have hF : ∀ q, va_A ws H.size q → A0 q := by
    intro q h
    rcases h with ⟨k, e, h⟩ | h
    · exact hD.2 k _ h
    · exact hA q (Nat.le_trans hS.1 h)
  intro T hT X
  obtain ⟨v, st₀, t, T', L, h0, X', hL, e1, e2, ⟨⟨r, u, hv, hp, ⟨hP1, hD1⟩, hz⟩, hsz, hk⟩, st⟩ := hr T hT X
  cases hv
  rw [h0] at hsz hk hz
  rw [← e1] at hP1 hsz hk hz
  obtain ⟨t2, a1, b1⟩ := kk r u T'.heap (locs ++ L) hp hP1 (hD1.weaken (fun _ _ _ h => hF _ h))
    ⟨Nat.le_trans hS.1 hsz, fun q h1 h2 => by rw [hk q (Nat.lt_of_lt_of_le h1 hS.1) (fun z => h2 (hF q z))]; exact hS.2.1 q h1 h2, fun q hq => by
      rcases List.mem_append.mp hq with h | h
      · exact hS.2.2 q h
      · exact hF _ (hL q h)⟩ T' rfl (q5_tight X X' (by rw [hT]; exact hz))
  exact ⟨t2, st t2 a1, b1⟩
theorem q5_cv {post : q2_S → Prop} (hr : va_Run p l e R s m args below meth cd H locs cells slots mc ms (F0 m pc ls st0) rest (q5_v D ws H.size post ws' ps a) (va_A ws H.size)) (hD : va_D A0 ws) (hS : va_S A0 H0 H locs) (hA : ∀ q, H0.size ≤ q → A0 q)
    (kk : ∀ (u : q2_S) (H1 : Heap) (locs1 : List Loc), post u → va_P D vwCl (ws' u) H1 → va_D A0 (ws' u) → va_S A0 H0 H1 locs1 → W p l e R s m args below meth cd H1 locs1 (cells + mc) (slots + ps u) Q (F0 m (pc + 3) ls rest)) : W p l e R s m args below meth cd H locs cells slots Q (F0 m pc ls st0) := by
  have hF : ∀ q, va_A ws H.size q → A0 q := by
    intro q h
    rcases h with ⟨k, e, h⟩ | h
    · exact hD.2 k _ h
    · exact hA q (Nat.le_trans hS.1 h)
  intro T hT X
  obtain ⟨v, st₀, t, T', L, h0, X', hL, e1, e2, ⟨⟨u, hv, hp, ⟨hP1, hD1⟩, hz⟩, hsz, hk⟩, st⟩ := hr T hT X
  cases hv
  rw [h0] at hsz hk hz
  rw [← e1] at hP1 hsz hk hz
  obtain ⟨t2, a1, b1⟩ := kk u T'.heap (locs ++ L) hp hP1 (hD1.weaken (fun _ _ _ h => hF _ h))
    ⟨Nat.le_trans hS.1 hsz, fun q h1 h2 => by rw [hk q (Nat.lt_of_lt_of_le h1 hS.1) (fun z => h2 (hF q z))]; exact hS.2.1 q h1 h2, fun q hq => by
      rcases List.mem_append.mp hq with h | h
      · exact hS.2.2 q h
      · exact hF _ (hL q h)⟩ T' rfl (q5_tight X X' (by rw [hT]; exact hz))
  exact ⟨t2, st t2 a1, b1⟩
theorem q3_newa (hexec : p.tables.exec = Jvm.exec) (hb : cd.code = cc) {atype : ArrayType} {ty : FieldType} (t0 : Nat) {cA : ClassId} (ht : (q3_ty c)[t0]? = some (cA, ty)) (hp : ∀ n, ty ≠ .object n) (harr : (Cond.arrayClass (newarray.typeOf atype)).before args s = true) (hty : newarray.typeOf atype = ty) (hK : va_K D vwCl (q3_ty c) s) (hP : va_P D vwCl ws H) (hD : va_D A ws) (hS : va_S A H0 H locs) (hA : ∀ q, H0.size ≤ q → A q)
    {n : Int32} {N : Nat} {a0 : vp_A} (ha : ∀ cA : ClassId, vp_cell cA a0 = arrV cA N (fun _ => defaultValue ty)) (hn : 0 ≤ n.toInt) (hN : N = n.toNatClampNeg) (hbytes : N * componentBytes ty ≤ 536870912) (hcells : cells + 1 ≤ R.cells) (hslots : slots + N ≤ R.slots) (hdg : decode cc pc = .ok (.newarray atype, 2))
    (kk : ∀ (q : Nat) (H1 : Heap), va_P D vwCl (ws ++ [(q, .inl (cA, a0))]) H1 → va_D A (ws ++ [(q, .inl (cA, a0))]) → va_S A H0 H1 locs →
      W p l e R s m args below meth cd H1 locs (cells + 1) (slots + N) Q (F0 m (pc + 2) ls (.ref q :: rest))) : W p l e R s m args below meth cd H locs cells slots Q (F0 m pc ls (.int n :: rest)) := by
  refine va_newa hexec hb harr hty hK hP hD hS hA ha (fun h => by rw [z_lt, z_lit0] at h; omega) hN.symm hbytes hcells hslots hdg (fun q cB H1 hK1 hP1 hD1 hS1 => ?_)
  have e1 : cB = cA := q1_uni hK1 t0 ht hp
  subst e1
  exact kk q H1 hP1 hD1 hS1
end Q5
section Q5of
variable {l : Launch} {y : MethodName} {wsl wsl' : List Cond} {rm : Room} {D : va_G} {c : Nat → ClassId} {ws : va_W} {sz : Nat} {av : List Value} {ws' : q2_S → va_W} {ps : q2_S → Nat} {mc ms : Nat} {cc : ByteArray} {maxL : Nat}
theorem q5_of_i {post : Int32 → q2_S → Prop} {ty : FieldType} (hn : ∀ r u, post r u → narrow ty (.int r) = .int r) (hy : plainName y.cls = true) (hw : wsl = Cond.code y cc maxL (some ty) :: wsl') (hlen : (lg_sl av).length ≤ maxL)
    (body : ∀ (p : Program) (e : Env) (s : State) (m : MethodId) (args : Array Value) (below : List Frame) (meth : Method) (cd : Code) (A : Nat → Prop) (Q : State → Prop) (ls : Array Slot), p.tables.exec = Jvm.exec → cd.code = cc → cd.maxLocals = maxL → s.vm.findClass y.cls = some m.cls → (∀ w ∈ wsl, w.before args s = true) → (∀ q, s.heap.size ≤ q → A q) → va_S A s.heap s.heap [] → va_P D vwCl ws s.heap → va_D A ws → va_K D vwCl (q3_ty c) s → lv_has ls maxL (lv_args 0 av) →
      (∀ (r : Int32) (u : q2_S) (H : Heap) (locs : List Loc) (pc : Nat) (ls : Array Slot) (cells slots : Nat), post r u → cells ≤ mc → slots ≤ ms → slots ≤ ps u → decode cc pc = .ok (.ireturn, 1) → va_P D vwCl (ws' u) H → va_D A (ws' u) → va_S A s.heap H locs → W p l e rm s m args below meth cd H locs cells slots Q (F0 m pc ls [.int r])) →
      W p l e rm s m args below meth cd s.heap [] 0 0 Q (F0 m 0 ls [])) : Met l y wsl rm (q3_P D c ws sz av) (q5_i D ws sz post ws' ps) mc ms (va_A ws sz) := by
  refine Met.ofW (cc := cc) (maxL := maxL) (ret := some ty) hy hw ?_
  intro p e s m args below meth cd s₁ B hml hv
  obtain ⟨rfl, hsz, hP, hK, hD0⟩ := hv
  subst hsz
  have hl := lv_entry av (n := maxL) hlen
  rw [lg_entry_eq]
  have hlocks := B.notSynchronized
  refine body p e s m _ below meth cd (va_A ws s.heap.size) _ _ B.exec B.bytes hml (findClass_of_methodNamed B.named) (atoms_spec (ws := wsl) B.pre) (fun q h => Or.inr h) va_S.rf hP hD0.self hK hl ?_
  intro r u H locs pc ls cells slots hp hc1 hs1 hs2 hd hP9 hD9 hS9
  intro T hT X
  have hZ := q5_Zof X hT hs2
  exact (W.widen hc1 hs1 (W.zret B.exec B.bytes B.returns (hn r u hp) (fun t ht hW => ⟨⟨r, u, rfl, hp, ⟨by rw [ht]; exact hP9, hD9⟩, by rw [ht]; exact hZ⟩, hS9.F ht⟩) hS9.2.2 hd)) T hT X
theorem q5_of_v {post : q2_S → Prop} (hy : plainName y.cls = true) (hw : wsl = Cond.code y cc maxL none :: wsl') (hlen : (lg_sl av).length ≤ maxL)
    (body : ∀ (p : Program) (e : Env) (s : State) (m : MethodId) (args : Array Value) (below : List Frame) (meth : Method) (cd : Code) (A : Nat → Prop) (Q : State → Prop) (ls : Array Slot), p.tables.exec = Jvm.exec → cd.code = cc → cd.maxLocals = maxL → s.vm.findClass y.cls = some m.cls → (∀ w ∈ wsl, w.before args s = true) → (∀ q, s.heap.size ≤ q → A q) → va_S A s.heap s.heap [] → va_P D vwCl ws s.heap → va_D A ws → va_K D vwCl (q3_ty c) s → lv_has ls maxL (lv_args 0 av) →
      (∀ (u : q2_S) (H : Heap) (locs : List Loc) (pc : Nat) (ls : Array Slot) (cells slots : Nat), post u → cells ≤ mc → slots ≤ ms → slots ≤ ps u → decode cc pc = .ok (.return_, 1) → va_P D vwCl (ws' u) H → va_D A (ws' u) → va_S A s.heap H locs → W p l e rm s m args below meth cd H locs cells slots Q (F0 m pc ls [])) →
      W p l e rm s m args below meth cd s.heap [] 0 0 Q (F0 m 0 ls [])) : Met l y wsl rm (q3_P D c ws sz av) (q5_v D ws sz post ws' ps) mc ms (va_A ws sz) := by
  refine Met.ofW (cc := cc) (maxL := maxL) (ret := none) hy hw ?_
  intro p e s m args below meth cd s₁ B hml hv
  obtain ⟨rfl, hsz, hP, hK, hD0⟩ := hv
  subst hsz
  have hl := lv_entry av (n := maxL) hlen
  rw [lg_entry_eq]
  have hlocks := B.notSynchronized
  refine body p e s m _ below meth cd (va_A ws s.heap.size) _ _ B.exec B.bytes hml (findClass_of_methodNamed B.named) (atoms_spec (ws := wsl) B.pre) (fun q h => Or.inr h) va_S.rf hP hD0.self hK hl ?_
  intro u H locs pc ls cells slots hp hc1 hs1 hs2 hd hP9 hD9 hS9
  intro T hT X
  have hZ := q5_Zof X hT hs2
  exact (W.widen hc1 hs1 (W.vret B.exec B.bytes B.returns (fun t ht hW => ⟨⟨u, rfl, hp, ⟨by rw [ht]; exact hP9, hD9⟩, by rw [ht]; exact hZ⟩, hS9.F ht⟩) hS9.2.2 hd)) T hT X
end Q5of
/-- a new row in the place of an old one -/
theorem q5_nwat {Y : va_W} {c : Nat × va_E} {p i : Nat} {u : Nat × va_E} (h : (Y.set p c)[i]? = some u) : (Y ++ [c])[if i = p then Y.length else i]? = some u := by
  have hi : i < Y.length := by have := (List.getElem?_eq_some_iff.mp h).1; rwa [List.length_set] at this
  by_cases e : i = p
  · rw [if_pos e, List.getElem?_append_right (Nat.le_refl _), Nat.sub_self]
    rw [e, List.getElem?_set_self (by omega)] at h
    exact h
  · rw [if_neg e, List.getElem?_append_left hi]
    rw [List.getElem?_set_ne (fun z => e z.symm)] at h
    exact h
theorem q5_nwP {D : va_G} {X : va_W} {H : Heap} {c o e0 : Nat × va_E} {q0 : Nat} (p : Nat) (hx : X[q0]? = some e0) (h : va_P D vwCl ((X ++ [c]).set q0 o) H) : va_P D vwCl ((X.set q0 o).set p c) H := by
  rw [List.set_append_left _ _ (List.getElem?_eq_some_iff.mp hx).1] at h
  exact fun k q hk => h _ q (q5_nwat hk)
theorem q5_nwD {A : Nat → Prop} {X : va_W} {c o e0 : Nat × va_E} {q0 : Nat} (p : Nat) (hx : X[q0]? = some e0) (h : va_D A ((X ++ [c]).set q0 o)) : va_D A ((X.set q0 o).set p c) := by
  rw [List.set_append_left _ _ (List.getElem?_eq_some_iff.mp hx).1] at h
  refine ⟨fun i j u v hi hj e => ?_, fun k q hk => h.2 _ q (q5_nwat hk)⟩
  have hi1 : i < (X.set q0 o).length := by have := (List.getElem?_eq_some_iff.mp hi).1; rwa [List.length_set] at this
  have hj1 : j < (X.set q0 o).length := by have := (List.getElem?_eq_some_iff.mp hj).1; rwa [List.length_set] at this
  have := h.1 _ _ u v (q5_nwat hi) (q5_nwat hj) e
  split at this <;> split at this <;> omega
/-! powers of two -/
def q5_pws : List Int := [0, 1, 2, 4, 8, 16, 32, 64, 128, 256, 512, 1024, 2048, 4096, 8192, 16384]
def q5_pw (x : Int) : Prop := x ∈ q5_pws
theorem q5_pw2 {a b : Int} (ha : q5_pw a) (hb : q5_pw b) (h : a < b) : 2 * a ≤ b :=
  (show ∀ a ∈ q5_pws, ∀ b ∈ q5_pws, a < b → 2 * a ≤ b by decide) a ha b hb h
theorem q5_shv : ∀ k : Fin 15, ((1 : Int32) <<< (Int32.ofNat k.val &&& 31)).toInt ∈ q5_pws := by decide
theorem q5_sh {n y : Int32} (e : n = (1 : Int32) <<< (y &&& 31)) (h0 : 0 ≤ y.toInt) (h1 : y.toInt ≤ 14) : q5_pw n.toInt := by
  have h := q5_shv ⟨y.toInt.toNat, by omega⟩
  have ey : Int32.ofNat y.toInt.toNat = y := (z_eq _ _).mpr (by rw [q3_ofNat (by omega)]; omega)
  simp only [ey] at h
  rw [e]; exact h
theorem q5_one {f F : Nat → Int32} (e : F = upd f (0 : Int32).toNatClampNeg 0) {g : Nat} : ∀ j : Nat, j < Int.toNat (1 : Int) → 0 ≤ (F j).toInt ∧ (F j).toInt ≤ g := by
  intro j hj
  have hj0 : j = (0 : Int32).toNatClampNeg := by
    have : j < 1 := hj
    show j = 0; omega
  rw [e, hj0, q4_upd_eq]
  exact ⟨by decide, by rw [z_lit0]; omega⟩
