/-! words of ours for a call on a fresh object: a contract takes a world of cells and gives one back, the answer is one number -/
abbrev q6_ty (c : Nat → ClassId) : List (ClassId × FieldType) := q3_ty c
abbrev q6_S : Type := (Nat → Nat) × (Nat → Nat → Int32)
abbrev q6_u (as : List Nat) (fs : List (Nat → Int32)) : q6_S := (fun k => as.getD k 0, fun k => fs.getD k (fun _ => 0))
def q6_N (U : State) : Prop := va_Nw (.methodLinkNest RX8 54 yX2_init "ShortTeller") U ∧ va_Nw (.methodLinkNest RX8 68 yX4_init "ShortTeller") U ∧ va_Nw (.methodLinkNest RX9 26 yX0_init "ShortTeller") U ∧ va_Nw (.methodLinkNest RX7 44 yX1_init "ShortTeller") U ∧ va_AO RX4 U ∧ va_AO RX1 U
theorem q6_N.same {u U : State} (h : u.vm = U.vm) (hN : q6_N u) : q6_N U := ⟨hN.1.same rfl h, hN.2.1.same rfl h, hN.2.2.1.same rfl h, hN.2.2.2.1.same rfl h, hN.2.2.2.2.1.moved (by rw [h]; exact Vm.Alike.refl _), hN.2.2.2.2.2.moved (by rw [h]; exact Vm.Alike.refl _)⟩
theorem q6_N.warm {s U : State} (hW : s.WarmedH U.vm) (hN : q6_N s) : q6_N U := ⟨hN.1.warmM hW, hN.2.1.warmM hW, hN.2.2.1.warmM hW, hN.2.2.2.1.warmM hW, hN.2.2.2.2.1.moved hW.alike, hN.2.2.2.2.2.moved hW.alike⟩
def q6_P (D : va_G) (c : Nat → ClassId) (ws : va_W) (sz : Nat) (av : List Value) : Array Value → State → Prop := va_Pc av (fun U => U.heap.size = sz ∧ va_P D vwCl ws U.heap ∧ va_K D vwCl (q6_ty c) U ∧ va_D (fun _ => True) ws ∧ q6_N U)
def q6_B (D : va_G) (ws : va_W) (sz : Nat) (ws' : q6_S → va_W) (u : q6_S) (t : State) : Prop := va_P D vwCl (ws' u) t.heap ∧ va_D (va_A ws sz) (ws' u)
def q6_i (D : va_G) (ws : va_W) (sz : Nat) (r : Int32) (ws' : q6_S → va_W) : Array Value → State → Outcome → State → Prop := va_Qi (fun r' (_ : q6_S) => r' = r) (q6_B D ws sz ws') (va_A ws sz)
def q6_v (D : va_G) (ws : va_W) (sz : Nat) (ws' : q6_S → va_W) : Array Value → State → Outcome → State → Prop := va_Qv (fun (_ : q6_S) => True) (q6_B D ws sz ws') (va_A ws sz)
theorem q6_blind {D : va_G} {c : Nat → ClassId} {ws : va_W} {sz : Nat} {av : List Value} : FrameBlind (q6_P D c ws sz av) := fun a U g mk q => by
  obtain ⟨h0, h1, h2, h3, h4, h5⟩ := q
  exact ⟨h0, h1, h2, va_K.moved (u := U) (U := U.calling g mk a) (Vm.Alike.refl U.vm) h3, h4, h5.same (U := U.calling g mk a) rfl⟩
theorem q6_preS {D : va_G} {c : Nat → ClassId} {wc : va_W} {av : List Value} {s : State} {H : Heap} {A : Nat → Prop} (hP : va_P D vwCl wc H) (hK : va_K D vwCl (q6_ty c) s) (hD : va_D A wc) (hN : q6_N s) : PreS s H (q6_P D c wc H.size av) av :=
  ⟨q6_blind, fun U hU hW => ⟨rfl, by rw [hU], by rw [hU]; exact hP, va_K.moved hW.alike hK, hD.weaken (fun _ _ _ _ => trivial), hN.warm hW⟩⟩
theorem q6_preV {D : va_G} {c : Nat → ClassId} {wc : va_W} {b : Nat} {As : List Value} {s : State} {H : Heap} {A : Nat → Prop} (hP : va_P D vwCl wc H) (hK : va_K D vwCl (q6_ty c) s) (hD : va_D A wc) (hN : q6_N s) {q0 ci : Nat} {q : vw_C} {fs : List Value} (hc : vwCl[ci]? = some q) (he : wc[q0]? = some (b, .inr (ci, fs))) : PreV s H q.1 b (q6_P D c wc H.size (.ref b :: As)) As :=
  ⟨q6_blind, va_recv hK hP hc he, fun U hU hW => ⟨rfl, by rw [hU], by rw [hU]; exact hP, va_K.moved hW.alike hK, hD.weaken (fun _ _ _ _ => trivial), hN.warm hW⟩⟩
section Q1
variable {p : Program} {l : Launch} {e : Env} {R : Room} {s : State} {m : MethodId} {args : Array Value} {below : List Frame} {meth : Method} {cd : Code} {H H0 : Heap} {locs : List Loc} {cells slots mc ms : Nat} {Q : State → Prop} {A0 A : Nat → Prop} {D : va_G} {c : Nat → ClassId} {ws wc wr : va_W} {ws' : q6_S → va_W} {r : Int32} {pc : Nat} {ls : Array Slot} {st0 rest : List Value} {a : Array Value} {cc : ByteArray}
theorem q6_ci (hr : va_Run p l e R s m args below meth cd H locs cells slots mc ms (F0 m pc ls st0) rest (q6_i D wc H.size r ws' a) (va_A wc H.size)) (hP : va_P D vwCl ws H) (hD : va_D A0 ws) (hS : va_S A0 H0 H locs) (hA : ∀ q, H0.size ≤ q → A0 q) (isC isR : List Nat) (hC : isC.map (fun i => ws[i]?) = wc.map some) (hR : isR.map (fun i => ws[i]?) = wr.map some) (hn : va_nd isR = true) (hdis : ∀ i ∈ isR, i ∉ isC)
    (kk : ∀ (u : q6_S) (H1 : Heap) (locs1 : List Loc), va_P D vwCl (wr ++ ws' u) H1 → va_D A0 (wr ++ ws' u) → va_S A0 H0 H1 locs1 → W p l e R s m args below meth cd H1 locs1 (cells + mc) (slots + ms) Q (F0 m (pc + 3) ls (.int r :: rest))) : W p l e R s m args below meth cd H locs cells slots Q (F0 m pc ls st0) := by
  have hF := va_free (wc := wc) hD hS hA isC hC
  refine va_calli hr hS (fun q _ h => hF q h) hF (fun r' u t H1 locs1 ht hvm hw hB hz hk hS1 => ?_)
  subst hw
  obtain ⟨hP1, hD1⟩ := hB
  rw [ht] at hP1
  obtain ⟨hP2, hD2⟩ := va_join hP hD isC isR hC hR hn hdis hk hF hP1 hD1
  exact kk u H1 locs1 hP2 hD2 hS1
theorem q6_cv (hr : va_Run p l e R s m args below meth cd H locs cells slots mc ms (F0 m pc ls st0) rest (q6_v D wc H.size ws' a) (va_A wc H.size)) (hP : va_P D vwCl ws H) (hD : va_D A0 ws) (hS : va_S A0 H0 H locs) (hA : ∀ q, H0.size ≤ q → A0 q) (isC isR : List Nat) (hC : isC.map (fun i => ws[i]?) = wc.map some) (hR : isR.map (fun i => ws[i]?) = wr.map some) (hn : va_nd isR = true) (hdis : ∀ i ∈ isR, i ∉ isC)
    (kk : ∀ (u : q6_S) (H1 : Heap) (locs1 : List Loc), va_P D vwCl (wr ++ ws' u) H1 → va_D A0 (wr ++ ws' u) → va_S A0 H0 H1 locs1 → W p l e R s m args below meth cd H1 locs1 (cells + mc) (slots + ms) Q (F0 m (pc + 3) ls rest)) : W p l e R s m args below meth cd H locs cells slots Q (F0 m pc ls st0) := by
  have hF := va_free (wc := wc) hD hS hA isC hC
  refine va_callv hr hS (fun q _ h => hF q h) hF (fun u t H1 locs1 ht hvm hw hB hz hk hS1 => ?_)
  obtain ⟨hP1, hD1⟩ := hB
  rw [ht] at hP1
  obtain ⟨hP2, hD2⟩ := va_join hP hD isC isR hC hR hn hdis hk hF hP1 hD1
  exact kk u H1 locs1 hP2 hD2 hS1
theorem q6_top {x v : Int32} (h : x = v) (k : W p l e R s m args below meth cd H locs cells slots Q (F0 m pc ls (.int v :: rest))) : W p l e R s m args below meth cd H locs cells slots Q (F0 m pc ls (.int x :: rest)) := by
  subst h; exact k
theorem q6_vp {i : Int32} {n K : Nat} (hk : i.toNatClampNeg = K) (h0 : ¬ i < 0) (h1 : K < n) : vp_in i n := fun h => h.elim h0 (fun h => by omega)
theorem q6_iald (hexec : p.tables.exec = Jvm.exec) (hb : cd.code = cc) (hK : va_K D vwCl (q6_ty c) s) (hP : va_P D vwCl ws H) (q0 : Nat) {b n K : Nat} {f : Nat → Int32} {i v : Int32} (ha : ws[q0]? = some (b, .inl (c 0, n, .inl f))) (hk : i.toNatClampNeg = K) (h0 : ¬ i < 0) (h1 : K < n) (hv : f K = v) (hdg : decode cc pc = .ok (.iaload, 1))
    (kk : W p l e R s m args below meth cd H locs cells slots Q (F0 m (pc + 1) ls (.int v :: rest))) : W p l e R s m args below meth cd H locs cells slots Q (F0 m pc ls (.int i :: .ref b :: rest)) := by
  refine va_iald hexec hb hK hP q0 0 ha rfl (q6_vp hk h0 h1) hdg ?_
  rw [hk, hv]; exact kk
theorem q6_iast (hexec : p.tables.exec = Jvm.exec) (hb : cd.code = cc) (hK : va_K D vwCl (q6_ty c) s) (hP : va_P D vwCl ws H) (hD : va_D A ws) (hS : va_S A H0 H locs) (q0 : Nat) {b n K : Nat} {f F : Nat → Int32} {i x : Int32} (ha : ws[q0]? = some (b, .inl (c 0, n, .inl f))) (hk : i.toNatClampNeg = K) (h0 : ¬ i < 0) (h1 : K < n) (hF : upd f K x = F) (hdg : decode cc pc = .ok (.iastore, 1))
    (kk : ∀ (H1 : Heap) (locs1 : List Loc), va_P D vwCl (ws.set q0 (b, .inl (c 0, n, .inl F))) H1 → va_D A (ws.set q0 (b, .inl (c 0, n, .inl F))) → va_S A H0 H1 locs1 → W p l e R s m args below meth cd H1 locs1 cells slots Q (F0 m (pc + 1) ls rest)) : W p l e R s m args below meth cd H locs cells slots Q (F0 m pc ls (.int x :: .int i :: .ref b :: rest)) := by
  refine va_iast hexec hb hK hP hD hS q0 0 ha rfl (q6_vp hk h0 h1) hdg (fun H1 locs1 h1 h2 h3 => ?_)
  rw [hk, hF] at h1 h2
  exact kk H1 locs1 h1 h2 h3
theorem q6_uni {U : State} {tys : List (ClassId × FieldType)} {ty : FieldType} {ca cb : ClassId} (h : va_K D vwCl (tys ++ [(ca, ty)]) U) (t0 : Nat) (ht : tys[t0]? = some (cb, ty)) (hp : ∀ n, ty ≠ .object n) : ca = cb := by
  have h1 := (h.2 tys.length (ca, ty) (by simp)).2
  have h2 := (h.2 t0 (cb, ty) (by rw [List.getElem?_append_left (List.getElem?_eq_some_iff.mp ht).1]; exact ht)).2
  cases ty with
  | object n => exact absurd rfl (hp n)
  | _ => simp only [va_RA] at h1 h2; exact Option.some.inj (h1.symm.trans h2)
theorem q6_newa (hexec : p.tables.exec = Jvm.exec) (hb : cd.code = cc) {atype : ArrayType} {ty : FieldType} (t0 : Nat) {cA : ClassId} (ht : (q6_ty c)[t0]? = some (cA, ty)) (hp : ∀ n, ty ≠ .object n) (harr : (Cond.arrayClass (newarray.typeOf atype)).before args s = true) (hty : newarray.typeOf atype = ty) (hK : va_K D vwCl (q6_ty c) s) (hP : va_P D vwCl ws H) (hD : va_D A ws) (hS : va_S A H0 H locs) (hA : ∀ q, H0.size ≤ q → A q)
    {n : Int32} {N : Nat} {a0 : vp_A} (ha : ∀ cA : ClassId, vp_cell cA a0 = arrV cA N (fun _ => defaultValue ty)) (hn : ¬ n < 0) (hN : n.toNatClampNeg = N) (hbytes : N * componentBytes ty ≤ 536870912) (hcells : cells + 1 ≤ R.cells) (hslots : slots + N ≤ R.slots) (hdg : decode cc pc = .ok (.newarray atype, 2))
    (kk : ∀ (q : Nat) (H1 : Heap), va_P D vwCl (ws ++ [(q, .inl (cA, a0))]) H1 → va_D A (ws ++ [(q, .inl (cA, a0))]) → va_S A H0 H1 locs →
      W p l e R s m args below meth cd H1 locs (cells + 1) (slots + N) Q (F0 m (pc + 2) ls (.ref q :: rest))) : W p l e R s m args below meth cd H locs cells slots Q (F0 m pc ls (.int n :: rest)) := by
  refine va_newa hexec hb harr hty hK hP hD hS hA ha hn hN hbytes hcells hslots hdg (fun q cB H1 hK1 hP1 hD1 hS1 => ?_)
  have e1 : cB = cA := q6_uni hK1 t0 ht hp
  subst e1
  exact kk q H1 hP1 hD1 hS1
theorem q6_alen (hexec : p.tables.exec = Jvm.exec) (hb : cd.code = cc) (hK : va_K D vwCl (q6_ty c) s) (hP : va_P D vwCl ws H) (q0 t0 : Nat) {b : Nat} {cA : ClassId} {x : vp_A} {ty : FieldType} {v : Int32} (ha : ws[q0]? = some (b, .inl (cA, x))) (ht : (q6_ty c)[t0]? = some (cA, ty)) (hv : Int32.ofNat x.1 = v) (hdg : decode cc pc = .ok (.arraylength, 1))
    (kk : W p l e R s m args below meth cd H locs cells slots Q (F0 m (pc + 1) ls (.int v :: rest))) : W p l e R s m args below meth cd H locs cells slots Q (F0 m pc ls (.ref b :: rest)) := va_alen hexec hb hK hP q0 t0 ha ht hv hdg kk
end Q1
theorem q6_upds {f : Nat → Int32} {k : Nat} {x : Int32} (h : f k = x) : upd f k x = f := by
  funext j; unfold upd; split
  · rename_i e; rw [e]; exact h.symm
  · rfl
theorem q6_updd {f : Nat → Int32} {k : Nat} {x y : Int32} : upd (upd f k x) k y = upd f k y := by
  funext j; unfold upd; split <;> rfl
theorem q6_updds {f : Nat → Int32} {k : Nat} {x y : Int32} (h : f k = y) : upd (upd f k x) k y = f := by rw [q6_updd, q6_upds h]
section Q1of
variable {l : Launch} {y : MethodName} {wsl wsl' : List Cond} {rm : Room} {D : va_G} {c : Nat → ClassId} {ws : va_W} {sz : Nat} {av : List Value} {ws' : q6_S → va_W} {mc ms : Nat} {cc : ByteArray} {maxL : Nat} {r : Int32}
/-- the start of a method's walk: an int, a boolean, nothing -/
theorem q6_of_i {ty : FieldType} (hn : narrow ty (.int r) = .int r) (hy : plainName y.cls = true) (hw : wsl = Cond.code y cc maxL (some ty) :: wsl') (hlen : (lg_sl av).length ≤ maxL)
    (body : ∀ (p : Program) (e : Env) (s : State) (m : MethodId) (args : Array Value) (below : List Frame) (meth : Method) (cd : Code) (A : Nat → Prop) (Q : State → Prop) (ls : Array Slot), p.tables.exec = Jvm.exec → cd.code = cc → cd.maxLocals = maxL → s.vm.findClass y.cls = some m.cls → (∀ w ∈ wsl, w.before args s = true) → meth.name = y.name → (∀ q, s.heap.size ≤ q → A q) → va_S A s.heap s.heap [] → va_P D vwCl ws s.heap → va_D A ws → va_K D vwCl (q6_ty c) s → q6_N s → lv_has ls maxL (lv_args 0 av) →
      (∀ (u : q6_S) (H : Heap) (locs : List Loc) (pc : Nat) (ls : Array Slot), decode cc pc = .ok (.ireturn, 1) → va_P D vwCl (ws' u) H → va_D A (ws' u) → va_S A s.heap H locs → W p l e rm s m args below meth cd H locs mc ms Q (F0 m pc ls [.int r])) →
      W p l e rm s m args below meth cd s.heap [] 0 0 Q (F0 m 0 ls [])) : Met l y wsl rm (q6_P D c ws sz av) (q6_i D ws sz r ws') mc ms (va_A ws sz) := by
  refine Met.ofW (cc := cc) (maxL := maxL) (ret := some ty) hy hw ?_
  intro p e s m args below meth cd s₁ B hml hv
  obtain ⟨rfl, hsz, hP, hK, hD0, hN⟩ := hv
  subst hsz
  have hl := lv_entry av (n := maxL) hlen
  rw [lg_entry_eq]
  have hlocks := B.notSynchronized
  refine body p e s m _ below meth cd (va_A ws s.heap.size) _ _ B.exec B.bytes hml (findClass_of_methodNamed B.named) (atoms_spec (ws := wsl) B.pre) (name_of_methodNamed B.named B.method).1 (fun q h => Or.inr h) va_S.rf hP hD0.self hK hN hl ?_
  intro u H locs pc ls hd hP9 hD9 hS9
  exact W.zret B.exec B.bytes B.returns hn (fun t ht hW => ⟨⟨r, u, rfl, rfl, by rw [ht]; exact hP9, hD9⟩, hS9.F ht⟩) hS9.2.2 hd
theorem q6_of_v (hy : plainName y.cls = true) (hw : wsl = Cond.code y cc maxL none :: wsl') (hlen : (lg_sl av).length ≤ maxL)
    (body : ∀ (p : Program) (e : Env) (s : State) (m : MethodId) (args : Array Value) (below : List Frame) (meth : Method) (cd : Code) (A : Nat → Prop) (Q : State → Prop) (ls : Array Slot), p.tables.exec = Jvm.exec → cd.code = cc → cd.maxLocals = maxL → s.vm.findClass y.cls = some m.cls → (∀ w ∈ wsl, w.before args s = true) → meth.name = y.name → (∀ q, s.heap.size ≤ q → A q) → va_S A s.heap s.heap [] → va_P D vwCl ws s.heap → va_D A ws → va_K D vwCl (q6_ty c) s → q6_N s → lv_has ls maxL (lv_args 0 av) →
      (∀ (u : q6_S) (H : Heap) (locs : List Loc) (pc : Nat) (ls : Array Slot), decode cc pc = .ok (.return_, 1) → va_P D vwCl (ws' u) H → va_D A (ws' u) → va_S A s.heap H locs → W p l e rm s m args below meth cd H locs mc ms Q (F0 m pc ls [])) →
      W p l e rm s m args below meth cd s.heap [] 0 0 Q (F0 m 0 ls [])) : Met l y wsl rm (q6_P D c ws sz av) (q6_v D ws sz ws') mc ms (va_A ws sz) := by
  refine Met.ofW (cc := cc) (maxL := maxL) (ret := none) hy hw ?_
  intro p e s m args below meth cd s₁ B hml hv
  obtain ⟨rfl, hsz, hP, hK, hD0, hN⟩ := hv
  subst hsz
  have hl := lv_entry av (n := maxL) hlen
  rw [lg_entry_eq]
  have hlocks := B.notSynchronized
  refine body p e s m _ below meth cd (va_A ws s.heap.size) _ _ B.exec B.bytes hml (findClass_of_methodNamed B.named) (atoms_spec (ws := wsl) B.pre) (name_of_methodNamed B.named B.method).1 (fun q h => Or.inr h) va_S.rf hP hD0.self hK hN hl ?_
  intro u H locs pc ls hd hP9 hD9 hS9
  exact W.vret B.exec B.bytes B.returns (fun t ht hW => ⟨⟨u, rfl, trivial, by rw [ht]; exact hP9, hD9⟩, hS9.F ht⟩) hS9.2.2 hd
end Q1of
theorem q6_lst (L : List Nat) (a : Nat) : va_up (fun j => L[j]?) L.length (some a) = fun j => (L ++ [a])[j]? := by
  funext j
  unfold va_up
  split
  · rename_i h; rw [h, List.getElem?_append_right (Nat.le_refl _), Nat.sub_self]; rfl
  · rename_i h
    show L[j]? = (L ++ [a])[j]?
    by_cases hj : j < L.length
    · rw [List.getElem?_append_left hj]
    · have h1 : L[j]? = none := List.getElem?_eq_none (by omega)
      have h2 : (L ++ [a])[j]? = none := List.getElem?_eq_none (by rw [List.length_append]; show L.length + 1 ≤ j; omega)
      rw [h1, h2]
section Q6n
variable {p : Program} {l : Launch} {e : Env} {R : Room} {s : State} {m : MethodId} {args : Array Value} {below : List Frame} {meth : Method} {cd : Code} {H H0 : Heap} {locs : List Loc} {cells slots : Nat} {Q : State → Prop} {A : Nat → Prop} {D : va_G} {c : Nat → ClassId} {ws : va_W} {pc : Nat} {ls : Array Slot} {rest : List Value} {cc : ByteArray}
theorem q6_newq (hexec : p.tables.exec = Jvm.exec) (hb : cd.code = cc) {own C : String} {index : Nat} (hown : s.vm.findClass own = some m.cls) (hclink : (Cond.classLink own index C).before args s = true) (hover : va_AO C s) (t0 : Nat) {cT : ClassId} (ht : (q3_ty c)[t0]? = some (cT, .object C)) (hK : va_K D vwCl (q3_ty c) s) (hP : va_P D vwCl ws H) (hD : va_D A ws) (hS : va_S A H0 H locs) (hA : ∀ q, H0.size ≤ q → A q)
    {n : Int32} {N' : Nat} (hn : ¬ n < 0) (hN : n.toNatClampNeg = N') (hbytes : N' * 4 ≤ 536870912) (hcells : cells + 1 ≤ R.cells) (hslots : slots + N' ≤ R.slots) (hdg : decode cc pc = .ok (.anewarray index, 3))
    (kk : ∀ (q : Nat) (H1 : Heap), va_P D vwCl (ws ++ [(q, .inl (cT, N', .inr (.inr (.inr (.inr (fun j => ([] : List Nat)[j]?))))))]) H1 → va_D A (ws ++ [(q, .inl (cT, N', .inr (.inr (.inr (.inr (fun j => ([] : List Nat)[j]?))))))]) → va_S A H0 H1 locs →
      W p l e R s m args below meth cd H1 locs (cells + 1) (slots + N') Q (F0 m (pc + 3) ls (.ref q :: rest))) : W p l e R s m args below meth cd H locs cells slots Q (F0 m pc ls (.int n :: rest)) := by
  refine va_newq hexec hb hown hclink hover hK hP hD hS hA hn hN hbytes hcells hslots hdg (fun q cA H1 hK1 hP1 hD1 hS1 => ?_)
  have e1 : cA = cT := by
    have h1 := (hK1.2 (q3_ty c).length (cA, .object C) (by simp)).2
    have h2 := (hK.2 t0 (cT, .object C) ht).2
    obtain ⟨_, _, _, _, _, f1⟩ := h1
    obtain ⟨_, _, _, _, _, f2⟩ := h2
    exact Option.some.inj (f1.symm.trans f2)
  subst e1
  exact kk q H1 hP1 hD1 hS1
end Q6n
