/-! contracts over a side's whole world -/
abbrev q3_ty (c : Nat → ClassId) : List (ClassId × FieldType) := [(c 0, .int), (c 1, .char), (c 2, .boolean), (c 3, .long), (c 4, .object RX4), (c 5, .object RX1)]
def q3_P (D : va_G) (c : Nat → ClassId) (ws : va_W) (sz : Nat) (av : List Value) : Array Value → State → Prop := va_Pc av (fun U => U.heap.size = sz ∧ va_P D vwCl ws U.heap ∧ va_K D vwCl (q3_ty c) U ∧ va_D (fun _ => True) ws)
theorem q3_blind {D : va_G} {c : Nat → ClassId} {ws : va_W} {sz : Nat} {av : List Value} : FrameBlind (q3_P D c ws sz av) := fun a U g mk q => by
  obtain ⟨h0, h1, h2, h3, h4⟩ := q
  exact ⟨h0, h1, h2, va_K.moved (u := U) (U := U.calling g mk a) (Vm.Alike.refl U.vm) h3, h4⟩
theorem q3_preS {D : va_G} {c : Nat → ClassId} {wc : va_W} {av : List Value} {s : State} {H : Heap} {A : Nat → Prop} (hP : va_P D vwCl wc H) (hK : va_K D vwCl (q3_ty c) s) (hD : va_D A wc) : PreS s H (q3_P D c wc H.size av) av :=
  ⟨q3_blind, fun U hU hW => ⟨rfl, by rw [hU], by rw [hU]; exact hP, va_K.moved hW.alike hK, hD.weaken (fun _ _ _ _ => trivial)⟩⟩
theorem q3_preV {D : va_G} {c : Nat → ClassId} {wc : va_W} {b : Nat} {As : List Value} {s : State} {H : Heap} {A : Nat → Prop} (hP : va_P D vwCl wc H) (hK : va_K D vwCl (q3_ty c) s) (hD : va_D A wc) {q0 ci : Nat} {q : vw_C} {fs : List Value} (hc : vwCl[ci]? = some q) (he : wc[q0]? = some (b, .inr (ci, fs))) : PreV s H q.1 b (q3_P D c wc H.size (.ref b :: As)) As :=
  ⟨q3_blind, va_recv hK hP hc he, fun U hU hW => ⟨rfl, by rw [hU], by rw [hU]; exact hP, va_K.moved hW.alike hK, hD.weaken (fun _ _ _ _ => trivial)⟩⟩
section Q3
variable {p : Program} {l : Launch} {e : Env} {R : Room} {s : State} {m : MethodId} {args : Array Value} {below : List Frame} {meth : Method} {cd : Code} {H H0 : Heap} {locs : List Loc} {cells slots mc ms : Nat} {Q : State → Prop} {A0 A : Nat → Prop} {D : va_G} {c : Nat → ClassId} {ws wc wr : va_W} {ws' : q2_S → va_W} {pc : Nat} {ls : Array Slot} {st0 rest : List Value} {a : Array Value} {cc : ByteArray}
theorem q3_ci {post : Int32 → q2_S → Prop} (hr : va_Run p l e R s m args below meth cd H locs cells slots mc ms (F0 m pc ls st0) rest (q2_i D ws H.size post ws' a) (va_A ws H.size)) (hD : va_D A0 ws) (hS : va_S A0 H0 H locs) (hA : ∀ q, H0.size ≤ q → A0 q)
    (kk : ∀ (r : Int32) (u : q2_S) (H1 : Heap) (locs1 : List Loc), post r u → va_P D vwCl (ws' u) H1 → va_D A0 (ws' u) → va_S A0 H0 H1 locs1 → W p l e R s m args below meth cd H1 locs1 (cells + mc) (slots + ms) Q (F0 m (pc + 3) ls (.int r :: rest))) : W p l e R s m args below meth cd H locs cells slots Q (F0 m pc ls st0) := by
  have hF : ∀ q, va_A ws H.size q → A0 q := by
    intro q h
    rcases h with ⟨k, e, h⟩ | h
    · exact hD.2 k _ h
    · exact hA q (Nat.le_trans hS.1 h)
  refine va_calli hr hS (fun q _ h => hF q h) hF (fun r u t H1 locs1 ht hvm hw hB hz hk hS1 => ?_)
  obtain ⟨hP1, hD1⟩ := hB
  rw [ht] at hP1
  exact kk r u H1 locs1 hw hP1 (hD1.weaken (fun _ _ _ h => hF _ h)) hS1
theorem q3_cv {post : q2_S → Prop} (hr : va_Run p l e R s m args below meth cd H locs cells slots mc ms (F0 m pc ls st0) rest (q2_v D ws H.size post ws' a) (va_A ws H.size)) (hD : va_D A0 ws) (hS : va_S A0 H0 H locs) (hA : ∀ q, H0.size ≤ q → A0 q)
    (kk : ∀ (u : q2_S) (H1 : Heap) (locs1 : List Loc), post u → va_P D vwCl (ws' u) H1 → va_D A0 (ws' u) → va_S A0 H0 H1 locs1 → W p l e R s m args below meth cd H1 locs1 (cells + mc) (slots + ms) Q (F0 m (pc + 3) ls rest)) : W p l e R s m args below meth cd H locs cells slots Q (F0 m pc ls st0) := by
  have hF : ∀ q, va_A ws H.size q → A0 q := by
    intro q h
    rcases h with ⟨k, e, h⟩ | h
    · exact hD.2 k _ h
    · exact hA q (Nat.le_trans hS.1 h)
  refine va_callv hr hS (fun q _ h => hF q h) hF (fun u t H1 locs1 ht hvm hw hB hz hk hS1 => ?_)
  obtain ⟨hP1, hD1⟩ := hB
  rw [ht] at hP1
  exact kk u H1 locs1 hw hP1 (hD1.weaken (fun _ _ _ h => hF _ h)) hS1
theorem q3_iald (hexec : p.tables.exec = Jvm.exec) (hb : cd.code = cc) (hK : va_K D vwCl (q3_ty c) s) (hP : va_P D vwCl ws H) (q0 : Nat) {b n : Nat} {f : Nat → Int32} {i : Int32} (ha : ws[q0]? = some (b, .inl (c 0, n, .inl f))) (hin : vp_in i n) (hdg : decode cc pc = .ok (.iaload, 1))
    (kk : ∀ v : Int32, v = f i.toNatClampNeg → W p l e R s m args below meth cd H locs cells slots Q (F0 m (pc + 1) ls (.int v :: rest))) : W p l e R s m args below meth cd H locs cells slots Q (F0 m pc ls (.int i :: .ref b :: rest)) :=
  va_iald hexec hb hK hP q0 0 ha rfl hin hdg (kk _ rfl)
theorem q3_zald (hexec : p.tables.exec = Jvm.exec) (hb : cd.code = cc) (hK : va_K D vwCl (q3_ty c) s) (hP : va_P D vwCl ws H) (q0 : Nat) {b n : Nat} {f : Nat → Int32} {i : Int32} (ha : ws[q0]? = some (b, .inl (c 2, n, .inl f))) (hin : vp_in i n) (hdg : decode cc pc = .ok (.baload, 1))
    (kk : ∀ v : Int32, v = f i.toNatClampNeg → W p l e R s m args below meth cd H locs cells slots Q (F0 m (pc + 1) ls (.int v :: rest))) : W p l e R s m args below meth cd H locs cells slots Q (F0 m pc ls (.int i :: .ref b :: rest)) :=
  va_zald hexec hb hK hP q0 2 ha rfl hin hdg (kk _ rfl)
theorem q3_cald (hexec : p.tables.exec = Jvm.exec) (hb : cd.code = cc) (hK : va_K D vwCl (q3_ty c) s) (hP : va_P D vwCl ws H) (q0 : Nat) {b n : Nat} {f : Nat → Int32} {i : Int32} (ha : ws[q0]? = some (b, .inl (c 1, n, .inl f))) (hin : vp_in i n) (hdg : decode cc pc = .ok (.caload, 1))
    (kk : ∀ v : Int32, v = f i.toNatClampNeg → W p l e R s m args below meth cd H locs cells slots Q (F0 m (pc + 1) ls (.int v :: rest))) : W p l e R s m args below meth cd H locs cells slots Q (F0 m pc ls (.int i :: .ref b :: rest)) :=
  va_cald hexec hb hK hP q0 1 ha rfl hin hdg (kk _ rfl)
theorem q3_iast (hexec : p.tables.exec = Jvm.exec) (hb : cd.code = cc) (hK : va_K D vwCl (q3_ty c) s) (hP : va_P D vwCl ws H) (hD : va_D A ws) (hS : va_S A H0 H locs) (q0 : Nat) {b n : Nat} {f : Nat → Int32} {i x : Int32} (ha : ws[q0]? = some (b, .inl (c 0, n, .inl f))) (hin : vp_in i n) (hdg : decode cc pc = .ok (.iastore, 1))
    (kk : ∀ F : Nat → Int32, F = upd f i.toNatClampNeg x → ∀ (H1 : Heap) (locs1 : List Loc), va_P D vwCl (ws.set q0 (b, .inl (c 0, n, .inl F))) H1 → va_D A (ws.set q0 (b, .inl (c 0, n, .inl F))) → va_S A H0 H1 locs1 → W p l e R s m args below meth cd H1 locs1 cells slots Q (F0 m (pc + 1) ls rest)) : W p l e R s m args below meth cd H locs cells slots Q (F0 m pc ls (.int x :: .int i :: .ref b :: rest)) :=
  va_iast hexec hb hK hP hD hS q0 0 ha rfl hin hdg (kk _ rfl)
theorem q3_zast (hexec : p.tables.exec = Jvm.exec) (hb : cd.code = cc) (hK : va_K D vwCl (q3_ty c) s) (hP : va_P D vwCl ws H) (hD : va_D A ws) (hS : va_S A H0 H locs) (q0 : Nat) {b n : Nat} {f : Nat → Int32} {i x : Int32} (ha : ws[q0]? = some (b, .inl (c 2, n, .inl f))) (hin : vp_in i n) (hdg : decode cc pc = .ok (.bastore, 1))
    (kk : ∀ F : Nat → Int32, F = upd f i.toNatClampNeg (vp_nar .boolean x) → ∀ (H1 : Heap) (locs1 : List Loc), va_P D vwCl (ws.set q0 (b, .inl (c 2, n, .inl F))) H1 → va_D A (ws.set q0 (b, .inl (c 2, n, .inl F))) → va_S A H0 H1 locs1 → W p l e R s m args below meth cd H1 locs1 cells slots Q (F0 m (pc + 1) ls rest)) : W p l e R s m args below meth cd H locs cells slots Q (F0 m pc ls (.int x :: .int i :: .ref b :: rest)) :=
  va_zast hexec hb hK hP hD hS q0 2 ha rfl hin hdg (kk _ rfl)
theorem q3_cast (hexec : p.tables.exec = Jvm.exec) (hb : cd.code = cc) (hK : va_K D vwCl (q3_ty c) s) (hP : va_P D vwCl ws H) (hD : va_D A ws) (hS : va_S A H0 H locs) (q0 : Nat) {b n : Nat} {f : Nat → Int32} {i x : Int32} (ha : ws[q0]? = some (b, .inl (c 1, n, .inl f))) (hin : vp_in i n) (hdg : decode cc pc = .ok (.castore, 1))
    (kk : ∀ F : Nat → Int32, F = upd f i.toNatClampNeg (vp_nar .char x) → ∀ (H1 : Heap) (locs1 : List Loc), va_P D vwCl (ws.set q0 (b, .inl (c 1, n, .inl F))) H1 → va_D A (ws.set q0 (b, .inl (c 1, n, .inl F))) → va_S A H0 H1 locs1 → W p l e R s m args below meth cd H1 locs1 cells slots Q (F0 m (pc + 1) ls rest)) : W p l e R s m args below meth cd H locs cells slots Q (F0 m pc ls (.int x :: .int i :: .ref b :: rest)) :=
  va_cast hexec hb hK hP hD hS q0 1 ha rfl hin hdg (kk _ rfl)
end Q3
section Q3of
variable {l : Launch} {y : MethodName} {wsl wsl' : List Cond} {rm : Room} {D : va_G} {c : Nat → ClassId} {ws : va_W} {sz : Nat} {av : List Value} {ws' : q2_S → va_W} {mc ms : Nat} {cc : ByteArray} {maxL : Nat}
theorem q3_of_i {post : Int32 → q2_S → Prop} {ty : FieldType} (hn : ∀ r u, post r u → narrow ty (.int r) = .int r) (hy : plainName y.cls = true) (hw : wsl = Cond.code y cc maxL (some ty) :: wsl') (hlen : (lg_sl av).length ≤ maxL)
    (body : ∀ (p : Program) (e : Env) (s : State) (m : MethodId) (args : Array Value) (below : List Frame) (meth : Method) (cd : Code) (A : Nat → Prop) (Q : State → Prop) (ls : Array Slot), p.tables.exec = Jvm.exec → cd.code = cc → cd.maxLocals = maxL → s.vm.findClass y.cls = some m.cls → (∀ w ∈ wsl, w.before args s = true) → (∀ q, s.heap.size ≤ q → A q) → va_S A s.heap s.heap [] → va_P D vwCl ws s.heap → va_D A ws → va_K D vwCl (q3_ty c) s → lv_has ls maxL (lv_args 0 av) →
      (∀ (r : Int32) (u : q2_S) (H : Heap) (locs : List Loc) (pc : Nat) (ls : Array Slot), post r u → decode cc pc = .ok (.ireturn, 1) → va_P D vwCl (ws' u) H → va_D A (ws' u) → va_S A s.heap H locs → W p l e rm s m args below meth cd H locs mc ms Q (F0 m pc ls [.int r])) →
      W p l e rm s m args below meth cd s.heap [] 0 0 Q (F0 m 0 ls [])) : Met l y wsl rm (q3_P D c ws sz av) (q2_i D ws sz post ws') mc ms (va_A ws sz) := by
  refine Met.ofW (cc := cc) (maxL := maxL) (ret := some ty) hy hw ?_
  intro p e s m args below meth cd s₁ B hml hv
  obtain ⟨rfl, hsz, hP, hK, hD0⟩ := hv
  subst hsz
  have hl := lv_entry av (n := maxL) hlen
  rw [lg_entry_eq]
  have hlocks := B.notSynchronized
  refine body p e s m _ below meth cd (va_A ws s.heap.size) _ _ B.exec B.bytes hml (findClass_of_methodNamed B.named) (atoms_spec (ws := wsl) B.pre) (fun q h => Or.inr h) va_S.rf hP hD0.self hK hl ?_
  intro r u H locs pc ls hp hd hP9 hD9 hS9
  exact W.zret B.exec B.bytes B.returns (hn r u hp) (fun t ht hW => ⟨⟨r, u, rfl, hp, by rw [ht]; exact hP9, hD9⟩, hS9.F ht⟩) hS9.2.2 hd
theorem q3_of_v {post : q2_S → Prop} (hy : plainName y.cls = true) (hw : wsl = Cond.code y cc maxL none :: wsl') (hlen : (lg_sl av).length ≤ maxL)
    (body : ∀ (p : Program) (e : Env) (s : State) (m : MethodId) (args : Array Value) (below : List Frame) (meth : Method) (cd : Code) (A : Nat → Prop) (Q : State → Prop) (ls : Array Slot), p.tables.exec = Jvm.exec → cd.code = cc → cd.maxLocals = maxL → s.vm.findClass y.cls = some m.cls → (∀ w ∈ wsl, w.before args s = true) → (∀ q, s.heap.size ≤ q → A q) → va_S A s.heap s.heap [] → va_P D vwCl ws s.heap → va_D A ws → va_K D vwCl (q3_ty c) s → lv_has ls maxL (lv_args 0 av) →
      (∀ (u : q2_S) (H : Heap) (locs : List Loc) (pc : Nat) (ls : Array Slot), post u → decode cc pc = .ok (.return_, 1) → va_P D vwCl (ws' u) H → va_D A (ws' u) → va_S A s.heap H locs → W p l e rm s m args below meth cd H locs mc ms Q (F0 m pc ls [])) →
      W p l e rm s m args below meth cd s.heap [] 0 0 Q (F0 m 0 ls [])) : Met l y wsl rm (q3_P D c ws sz av) (q2_v D ws sz post ws') mc ms (va_A ws sz) := by
  refine Met.ofW (cc := cc) (maxL := maxL) (ret := none) hy hw ?_
  intro p e s m args below meth cd s₁ B hml hv
  obtain ⟨rfl, hsz, hP, hK, hD0⟩ := hv
  subst hsz
  have hl := lv_entry av (n := maxL) hlen
  rw [lg_entry_eq]
  have hlocks := B.notSynchronized
  refine body p e s m _ below meth cd (va_A ws s.heap.size) _ _ B.exec B.bytes hml (findClass_of_methodNamed B.named) (atoms_spec (ws := wsl) B.pre) (fun q h => Or.inr h) va_S.rf hP hD0.self hK hl ?_
  intro u H locs pc ls hp hd hP9 hD9 hS9
  exact W.vret B.exec B.bytes B.returns (fun t ht hW => ⟨⟨u, rfl, hp, by rw [ht]; exact hP9, hD9⟩, hS9.F ht⟩) hS9.2.2 hd
end Q3of
/-! numbers -/
theorem q3_nb {r : Int32} (h : r.toInt = 0 ∨ r.toInt = 1) : narrow .boolean (.int r) = .int r := by
  rcases h with h | h
  · have e : r = 0 := (z_eq _ _).mpr (by rw [h]; decide)
    rw [e]; rfl
  · have e : r = 1 := (z_eq _ _).mpr (by rw [h]; decide)
    rw [e]; rfl
theorem q3_add {n x y : Int32} {X Y : Int} (e : n = x + y) (hx : x.toInt = X) (hy : y.toInt = Y) (h1 : -2147483648 ≤ X + Y) (h2 : X + Y < 2147483648) : n.toInt = X + Y := by
  subst hx; subst hy; rw [e]; exact fb_addI h1 h2
theorem q3_sub {n x y : Int32} {X Y : Int} (e : n = x - y) (hx : x.toInt = X) (hy : y.toInt = Y) (h1 : -2147483648 ≤ X - Y) (h2 : X - Y < 2147483648) : n.toInt = X - Y := by
  subst hx; subst hy; rw [e]; exact fb_subI h1 h2
theorem q3_mul {n x y : Int32} {X Y : Int} (e : n = x * y) (hx : x.toInt = X) (hy : y.toInt = Y) (h1 : -2147483648 ≤ X * Y) (h2 : X * Y < 2147483648) : n.toInt = X * Y := by
  subst hx; subst hy; rw [e, Int32.toInt_mul, fb_bmod h1 h2]
theorem q3_neg {n x : Int32} (e : n = -x) (h1 : -2147483648 < x.toInt) : n.toInt = -x.toInt := by
  have h2 := x.toInt_lt
  rw [e, Int32.toInt_neg, fb_bmod (by omega) (by omega)]
theorem q3_lt {x y : Int32} {X Y : Int} (hx : x.toInt = X) (hy : y.toInt = Y) : x < y ↔ X < Y := by subst hx; subst hy; exact z_lt _ _
theorem q3_le {x y : Int32} {X Y : Int} (hx : x.toInt = X) (hy : y.toInt = Y) : x ≤ y ↔ X ≤ Y := by subst hx; subst hy; exact z_le _ _
theorem q3_eq {x y : Int32} {X Y : Int} (hx : x.toInt = X) (hy : y.toInt = Y) : x = y ↔ X = Y := by subst hx; subst hy; exact z_eq _ _
theorem q3_up {P : Int32 → Prop} {f F : Nat → Int32} {k : Nat} {x : Int32} (e : F = upd f k x) (h : ∀ j, P (f j)) (hx : P x) : ∀ j, P (F j) := by
  intro j; rw [e]; unfold upd; split
  · exact hx
  · exact h j
theorem q3_ofNat {n : Nat} (h : n ≤ 2000000000) : (Int32.ofNat n).toInt = n := Int32.toInt_ofNat_of_lt (by omega)
theorem q3_max {n x y : Int32} {X Y : Int} (e : n = if x < y then y else x) (hx : x.toInt = X) (hy : y.toInt = Y) : X ≤ n.toInt ∧ Y ≤ n.toInt ∧ (n.toInt = X ∨ n.toInt = Y) := by
  subst hx; subst hy; rw [e]; split
  · rename_i h; rw [z_lt] at h; omega
  · rename_i h; rw [z_lt] at h; omega
theorem q3_min {n x y : Int32} {X Y : Int} (e : n = if y < x then y else x) (hx : x.toInt = X) (hy : y.toInt = Y) : n.toInt ≤ X ∧ n.toInt ≤ Y ∧ (n.toInt = X ∨ n.toInt = Y) := by
  subst hx; subst hy; rw [e]; split
  · rename_i h; rw [z_lt] at h; omega
  · rename_i h; rw [z_lt] at h; omega
theorem q3_shv : ∀ k : Fin 15, 1 ≤ ((1 : Int32) <<< (Int32.ofNat k.val &&& 31)).toInt ∧ ((1 : Int32) <<< (Int32.ofNat k.val &&& 31)).toInt ≤ 16384 := by decide
theorem q3_sh {n y : Int32} (e : n = (1 : Int32) <<< (y &&& 31)) (h0 : 0 ≤ y.toInt) (h1 : y.toInt ≤ 14) : 1 ≤ n.toInt ∧ n.toInt ≤ 16384 := by
  have h := q3_shv ⟨y.toInt.toNat, by omega⟩
  have ey : Int32.ofNat y.toInt.toNat = y := (z_eq _ _).mpr (by rw [q3_ofNat (by omega)]; omega)
  simp only [ey] at h
  rw [e]; exact h
theorem q3_div2 {n x : Int32} (e : n = x / 2) (h0 : 0 ≤ x.toInt) : n.toInt = x.toInt / 2 := by
  rw [e, Int32.toInt_div, show (2 : Int32).toInt = 2 by decide, Int.tdiv_eq_ediv_of_nonneg h0]
  have h2 := x.toInt_lt
  exact fb_bmod (by omega) (by omega)
theorem q3_andv (m : Nat) (h : m < 2147483648) {n x : Int32} (e : n = x &&& Int32.ofNat m) : 0 ≤ n.toInt ∧ n.toInt ≤ m := by
  have h1 : n.toBitVec = x.toBitVec &&& (Int32.ofNat m).toBitVec := by rw [e]; rfl
  have h2 : (Int32.ofNat m).toBitVec.toNat = m := by
    show (BitVec.ofNat 32 m).toNat = m
    simp only [BitVec.toNat_ofNat]; omega
  have h3 : n.toBitVec.toNat ≤ m := by
    rw [h1, BitVec.toNat_and, h2]; exact Nat.and_le_right
  have h4 : n.toInt = n.toBitVec.toInt := rfl
  rw [h4, BitVec.toInt_eq_toNat_of_lt (by omega)]
  omega
theorem q3_and1 {n x : Int32} (e : n = x &&& 1) : 0 ≤ n.toInt ∧ n.toInt ≤ 1 := q3_andv 1 (by decide) e
theorem q3_and15 {n x : Int32} (e : n = x &&& 15) : 0 ≤ n.toInt ∧ n.toInt ≤ 15 := q3_andv 15 (by decide) e
theorem q3_and63 {n x : Int32} (e : n = x &&& 63) : 0 ≤ n.toInt ∧ n.toInt ≤ 63 := q3_andv 63 (by decide) e
theorem q3_and255 {n x : Int32} (e : n = x &&& 255) : 0 ≤ n.toInt ∧ n.toInt ≤ 255 := q3_andv 255 (by decide) e
