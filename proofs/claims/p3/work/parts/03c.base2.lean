/-! contracts for any state: what is unknown is named by u (addresses and lengths, numbers, rows), and a word 'post' says what holds of the answer and of them -/
abbrev q2_S : Type := (Nat → Nat) × (Nat → Int32) × (Nat → Nat → Int32)
abbrev q2_u (as : List Nat) (xs : List Int32) (fs : List (Nat → Int32)) : q2_S := (fun k => as.getD k 0, fun k => xs.getD k 0, fun k => fs.getD k (fun _ => 0))
def q2_B (D : va_G) (ws : va_W) (sz : Nat) (ws' : q2_S → va_W) (u : q2_S) (t : State) : Prop := va_P D vwCl (ws' u) t.heap ∧ va_D (va_A ws sz) (ws' u)
def q2_i (D : va_G) (ws : va_W) (sz : Nat) (post : Int32 → q2_S → Prop) (ws' : q2_S → va_W) : Array Value → State → Outcome → State → Prop := va_Qi post (q2_B D ws sz ws') (va_A ws sz)
def q2_v (D : va_G) (ws : va_W) (sz : Nat) (post : q2_S → Prop) (ws' : q2_S → va_W) : Array Value → State → Outcome → State → Prop := va_Qv post (q2_B D ws sz ws') (va_A ws sz)
section Q2
variable {p : Program} {l : Launch} {e : Env} {R : Room} {s : State} {m : MethodId} {args : Array Value} {below : List Frame} {meth : Method} {cd : Code} {H H0 : Heap} {locs : List Loc} {cells slots mc ms : Nat} {Q : State → Prop} {A0 A : Nat → Prop} {D : va_G} {c : Nat → ClassId} {ws wc wr : va_W} {ws' : q2_S → va_W} {pc : Nat} {ls : Array Slot} {st0 rest : List Value} {a : Array Value} {cc : ByteArray}
theorem q2_ci {post : Int32 → q2_S → Prop} (hr : va_Run p l e R s m args below meth cd H locs cells slots mc ms (F0 m pc ls st0) rest (q2_i D wc H.size post ws' a) (va_A wc H.size)) (hP : va_P D vwCl ws H) (hD : va_D A0 ws) (hS : va_S A0 H0 H locs) (hA : ∀ q, H0.size ≤ q → A0 q) (isC isR : List Nat) (hC : isC.map (fun i => ws[i]?) = wc.map some) (hR : isR.map (fun i => ws[i]?) = wr.map some) (hn : va_nd isR = true) (hdis : ∀ i ∈ isR, i ∉ isC)
    (kk : ∀ (r : Int32) (u : q2_S) (H1 : Heap) (locs1 : List Loc), post r u → va_P D vwCl (wr ++ ws' u) H1 → va_D A0 (wr ++ ws' u) → va_S A0 H0 H1 locs1 → W p l e R s m args below meth cd H1 locs1 (cells + mc) (slots + ms) Q (F0 m (pc + 3) ls (.int r :: rest))) : W p l e R s m args below meth cd H locs cells slots Q (F0 m pc ls st0) := by
  have hF := va_free (wc := wc) hD hS hA isC hC
  refine va_calli hr hS (fun q _ h => hF q h) hF (fun r u t H1 locs1 ht hvm hw hB hz hk hS1 => ?_)
  obtain ⟨hP1, hD1⟩ := hB
  rw [ht] at hP1
  obtain ⟨hP2, hD2⟩ := va_join hP hD isC isR hC hR hn hdis hk hF hP1 hD1
  exact kk r u H1 locs1 hw hP2 hD2 hS1
theorem q2_cv {post : q2_S → Prop} (hr : va_Run p l e R s m args below meth cd H locs cells slots mc ms (F0 m pc ls st0) rest (q2_v D wc H.size post ws' a) (va_A wc H.size)) (hP : va_P D vwCl ws H) (hD : va_D A0 ws) (hS : va_S A0 H0 H locs) (hA : ∀ q, H0.size ≤ q → A0 q) (isC isR : List Nat) (hC : isC.map (fun i => ws[i]?) = wc.map some) (hR : isR.map (fun i => ws[i]?) = wr.map some) (hn : va_nd isR = true) (hdis : ∀ i ∈ isR, i ∉ isC)
    (kk : ∀ (u : q2_S) (H1 : Heap) (locs1 : List Loc), post u → va_P D vwCl (wr ++ ws' u) H1 → va_D A0 (wr ++ ws' u) → va_S A0 H0 H1 locs1 → W p l e R s m args below meth cd H1 locs1 (cells + mc) (slots + ms) Q (F0 m (pc + 3) ls rest)) : W p l e R s m args below meth cd H locs cells slots Q (F0 m pc ls st0) := by
  have hF := va_free (wc := wc) hD hS hA isC hC
  refine va_callv hr hS (fun q _ h => hF q h) hF (fun u t H1 locs1 ht hvm hw hB hz hk hS1 => ?_)
  obtain ⟨hP1, hD1⟩ := hB
  rw [ht] at hP1
  obtain ⟨hP2, hD2⟩ := va_join hP hD isC isR hC hR hn hdis hk hF hP1 hD1
  exact kk u H1 locs1 hw hP2 hD2 hS1
/-- an index by its whole number -/
theorem q2_in {x : Int32} {n : Nat} (h0 : 0 ≤ x.toInt) (h1 : x.toInt < n) : vp_in x n := vp_in_iff.mpr ⟨h0, h1⟩
end Q2
section Q2of
variable {l : Launch} {y : MethodName} {wsl wsl' : List Cond} {rm : Room} {D : va_G} {c : Nat → ClassId} {ws : va_W} {sz : Nat} {av : List Value} {ws' : q2_S → va_W} {mc ms : Nat} {cc : ByteArray} {maxL : Nat}
theorem q2_of_i {post : Int32 → q2_S → Prop} {ty : FieldType} (hn : ∀ r u, post r u → narrow ty (.int r) = .int r) (hy : plainName y.cls = true) (hw : wsl = Cond.code y cc maxL (some ty) :: wsl') (hlen : (lg_sl av).length ≤ maxL)
    (body : ∀ (p : Program) (e : Env) (s : State) (m : MethodId) (args : Array Value) (below : List Frame) (meth : Method) (cd : Code) (A : Nat → Prop) (Q : State → Prop) (ls : Array Slot), p.tables.exec = Jvm.exec → cd.code = cc → cd.maxLocals = maxL → s.vm.findClass y.cls = some m.cls → (∀ w ∈ wsl, w.before args s = true) → meth.name = y.name → (∀ q, s.heap.size ≤ q → A q) → va_S A s.heap s.heap [] → va_P D vwCl ws s.heap → va_D A ws → va_K D vwCl (q1_ty c) s → q1_N s → lv_has ls maxL (lv_args 0 av) →
      (∀ (r : Int32) (u : q2_S) (H : Heap) (locs : List Loc) (pc : Nat) (ls : Array Slot), post r u → decode cc pc = .ok (.ireturn, 1) → va_P D vwCl (ws' u) H → va_D A (ws' u) → va_S A s.heap H locs → W p l e rm s m args below meth cd H locs mc ms Q (F0 m pc ls [.int r])) →
      W p l e rm s m args below meth cd s.heap [] 0 0 Q (F0 m 0 ls [])) : Met l y wsl rm (q1_P D c ws sz av) (q2_i D ws sz post ws') mc ms (va_A ws sz) := by
  refine Met.ofW (cc := cc) (maxL := maxL) (ret := some ty) hy hw ?_
  intro p e s m args below meth cd s₁ B hml hv
  obtain ⟨rfl, hsz, hP, hK, hD0, hN⟩ := hv
  subst hsz
  have hl := lv_entry av (n := maxL) hlen
  rw [lg_entry_eq]
  have hlocks := B.notSynchronized
  refine body p e s m _ below meth cd (va_A ws s.heap.size) _ _ B.exec B.bytes hml (findClass_of_methodNamed B.named) (atoms_spec (ws := wsl) B.pre) (name_of_methodNamed B.named B.method).1 (fun q h => Or.inr h) va_S.rf hP hD0.self hK hN hl ?_
  intro r u H locs pc ls hp hd hP9 hD9 hS9
  exact W.zret B.exec B.bytes B.returns (hn r u hp) (fun t ht hW => ⟨⟨r, u, rfl, hp, by rw [ht]; exact hP9, hD9⟩, hS9.F ht⟩) hS9.2.2 hd
theorem q2_of_v {post : q2_S → Prop} (hy : plainName y.cls = true) (hw : wsl = Cond.code y cc maxL none :: wsl') (hlen : (lg_sl av).length ≤ maxL)
    (body : ∀ (p : Program) (e : Env) (s : State) (m : MethodId) (args : Array Value) (below : List Frame) (meth : Method) (cd : Code) (A : Nat → Prop) (Q : State → Prop) (ls : Array Slot), p.tables.exec = Jvm.exec → cd.code = cc → cd.maxLocals = maxL → s.vm.findClass y.cls = some m.cls → (∀ w ∈ wsl, w.before args s = true) → meth.name = y.name → (∀ q, s.heap.size ≤ q → A q) → va_S A s.heap s.heap [] → va_P D vwCl ws s.heap → va_D A ws → va_K D vwCl (q1_ty c) s → q1_N s → lv_has ls maxL (lv_args 0 av) →
      (∀ (u : q2_S) (H : Heap) (locs : List Loc) (pc : Nat) (ls : Array Slot), post u → decode cc pc = .ok (.return_, 1) → va_P D vwCl (ws' u) H → va_D A (ws' u) → va_S A s.heap H locs → W p l e rm s m args below meth cd H locs mc ms Q (F0 m pc ls [])) →
      W p l e rm s m args below meth cd s.heap [] 0 0 Q (F0 m 0 ls [])) : Met l y wsl rm (q1_P D c ws sz av) (q2_v D ws sz post ws') mc ms (va_A ws sz) := by
  refine Met.ofW (cc := cc) (maxL := maxL) (ret := none) hy hw ?_
  intro p e s m args below meth cd s₁ B hml hv
  obtain ⟨rfl, hsz, hP, hK, hD0, hN⟩ := hv
  subst hsz
  have hl := lv_entry av (n := maxL) hlen
  rw [lg_entry_eq]
  have hlocks := B.notSynchronized
  refine body p e s m _ below meth cd (va_A ws s.heap.size) _ _ B.exec B.bytes hml (findClass_of_methodNamed B.named) (atoms_spec (ws := wsl) B.pre) (name_of_methodNamed B.named B.method).1 (fun q h => Or.inr h) va_S.rf hP hD0.self hK hN hl ?_
  intro u H locs pc ls hp hd hP9 hD9 hS9
  exact W.vret B.exec B.bytes B.returns (fun t ht hW => ⟨⟨u, rfl, hp, by rw [ht]; exact hP9, hD9⟩, hS9.F ht⟩) hS9.2.2 hd
end Q2of
theorem z_lt (a b : Int32) : a < b ↔ a.toInt < b.toInt := Int32.lt_iff_toInt_lt
theorem z_le (a b : Int32) : a ≤ b ↔ a.toInt ≤ b.toInt := Int32.le_iff_toInt_le
theorem z_eq (a b : Int32) : a = b ↔ a.toInt = b.toInt := Int32.toInt_inj.symm
