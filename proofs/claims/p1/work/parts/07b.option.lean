/-! a throw that is caught by the first row of the method's own table -/
section Y1
theorem y1_find {e : Env} {s : State} {f : JFrame} {a : Addr} {meth : Method} {code : Code} (hm : s.vm.method? f.method = some meth) (hc : meth.code = some code)
    {x : ExceptionTableEntry} {rest : List ExceptionTableEntry} (hsplit : code.exceptionTable.toList = x :: rest) (hx : covers x f.pc = true) (h0 : x.catchType ≠ 0) {c : ClassId} {cell : Cell}
    (hl : s.vm.ClassLinks e.platform f.method.cls x.catchType c) (hcell : s.heap[a]? = some cell) (hobj : ∀ k, cell.vm ≠ .statics k)
    (hk : ∃ k, s.vm.classes[cell.cls]? = some k) (hcl : ∃ k, s.vm.classes[c]? = some k) (hfit : s.vm.assignable cell.cls c = true) (Q : Handler → Pre) (E : CtlPost) (d : Bool) (acts : List Action) :
    wp (findHandler f a) Q E e d acts s ↔ Q (.found x.handlerPc) d acts (s.setVm (s.vm.noted f.method.cls x.catchType (.cls c))) := by
  rw [_root_.Jvm.W.findHandler_eq hm hc, hsplit]
  simp only [covers] at hx
  obtain ⟨ha, ht⟩ := (resolveClass_links e.toSetting hl).op (op := VmOp.resolveClass f.method.cls x.catchType) rfl
  have hal : s.vm.Alike (s.vm.noted f.method.cls x.catchType (.cls c)) := (Vm.Alike.refl s.vm).noted _ _ _
  obtain ⟨k1, hk1⟩ := hk
  obtain ⟨k2, hk2⟩ := hcl
  obtain ⟨k1', hk1', -⟩ := hal.2.2 _ _ hk1
  obtain ⟨k2', hk2', -⟩ := hal.2.2 _ _ hk2
  have hfit' : (s.vm.noted f.method.cls x.catchType (.cls c)).assignable cell.cls c = true := by rw [hal.assignable]; exact hfit
  simp [findHandler.go, hx, h0, ha, ht, hcell, hobj, hk1', hk2', hfit', VmOp.dirties, VmOp.acts]
theorem y1_step {e : Env} {s : State} {a : Addr} {f : JFrame} {r : List Frame} {pc : Nat} {vm' : Vm} (hfind : ∀ (Q : Handler → Pre) (E : CtlPost) (d : Bool) (acts : List Action), wp (findHandler f a) Q E e d acts s ↔ Q (.found pc) d acts (s.setVm vm')) :
    (stepThrowing e s a (.java f :: r)).1 = (s.setVm vm').setFrames (.java { f with pc := pc, stack := [.ref a] } :: r) := by
  simp only [stepThrowing, searchFrame, vmDo]
  generalize hr : Sem.go _ e false [] s = res
  obtain ⟨as, rfl, ha⟩ := Sem.eq_ok_of hr (a := Handler.found pc) (s' := s.setVm vm') (acts' := []) (by simp [hfind _ _ _ _])
  rfl
theorem y1_sets (u : State) (vm' : Vm) (F G : List Frame) : ((u.setFrames F).setVm vm').setFrames G = (u.setVm vm').setFrames G := by
  have h1 : (u.setFrames F).setVm vm' = (u.setVm vm').setFrames F := rfl
  rw [h1, State.setFrames_setFrames]
theorem y1_to {tb : Tables} {e : Env} {s target : State} {g : JFrame} {c : Code} {below : List Frame} {a : Addr} (h : At s g.method c below) {pc : Nat} {vm' : Vm}
    (hfind : ∀ (Q : Handler → Pre) (E : CtlPost) (d : Bool) (acts : List Action), wp (findHandler g a) Q E e d acts ((s.setTop g).pushFrame (.throwing a)) ↔ Q (.found pc) d acts (((s.setTop g).pushFrame (.throwing a)).setVm vm')) (hrest : Steps tb e below ((s.setVm vm').setTop { g with pc := pc, stack := [.ref a] }) target) :
    Steps tb e below ((s.setTop g).pushFrame (.throwing a)) target := by
  obtain ⟨hgo, hw⟩ := h.throwing a
  refine Steps.head hgo hw ?_
  rw [stepThread_throwing (frames_entered h.top _), y1_step (s := (s.setTop g).pushFrame (.throwing a)) hfind]
  obtain ⟨g₀, hg⟩ := Option.isSome_iff_exists.mp h.top
  obtain ⟨r, hr⟩ := State.topJava?_eq_some.mp hg
  have hr' : (s.setVm vm').frames = .java g₀ :: r := hr
  rw [State.setTop_of_frames _ hr'] at hrest
  rw [hr, List.tail_cons, State.pushFrame, y1_sets, State.setTop_of_frames _ hr, y1_sets]
  exact hrest
variable {p : Program} {l : Launch} {e : Env} {R : Room} {s : State} {m : MethodId} {args : Array Value} {below : List Frame} {meth : Method} {c : Code} {H : Heap} {locs : List Loc} {cells slots : Nat} {Q : State → Prop} {pc : Nat} {ls : Array Slot} {rest : List Value}
theorem y1_catch {own name : String} {E : String} {ce : Cell} {q : Addr} (hown : s.vm.findClass own = some m.cls) (x : ExceptionTableEntry) (suf : List ExceptionTableEntry) (hsplit : c.exceptionTable.toList = x :: suf)
    (hx : covers x pc = true) (h0 : x.catchType ≠ 0) (hlink : (Cond.classLink own x.catchType name).before args s = true) (hcast : (Cond.castable E name).before args s = true) (hcell : H[q]? = some ce) (hv : ce.vm = .none) (hcl : s.vm.findClass E = some ce.cls)
    (kk : W p l e R s m args below meth c H locs cells slots Q (F0 m x.handlerPc ls [.ref q])) : vx_W p l e R s m args below meth c H locs cells slots Q (F0 m pc ls rest) q := by
  intro T hT X
  have hpl : e.platform.magicAccessors = ({} : Platform).magicAccessors := by rw [X.admits.platform]
  obtain ⟨c3, c4, hc3, hc4, hasg⟩ := Cond.castable_spec hcast
  cases Option.some.inj (hc3.symm.trans hcl)
  obtain ⟨c5, hc5, hcl5⟩ := Cond.classLink_spec hown hlink e.platform hpl
  cases Option.some.inj (hc4.symm.trans hc5)
  obtain ⟨dk, _, _, kt, hd, _, _, _, _, hkt, _, hopen⟩ := hcl5.here
  have hal := X.warmed.alike
  have hW' : s.WarmedH (T.vm.noted m.cls x.catchType (.cls c4)) := X.warmed.noted hd hopen (State.rightAt_cls hcl5)
  obtain ⟨kt', hkt', -⟩ := hal.2.2 _ _ hkt
  have hfit' : T.vm.assignable ce.cls c4 = true := by rw [hal.assignable]; exact hasg
  have hce : T.heap[q]? = some ce := by rw [hT]; exact hcell
  obtain ⟨t, a1, b1⟩ := kk (T.setVm (T.vm.noted m.cls x.catchType (.cls c4))) hT (X.noted hW')
  refine ⟨t, ?_, b1⟩
  refine y1_to (g := F0 m pc ls rest) (pc := x.handlerPc) (vm' := T.vm.noted m.cls x.catchType (.cls c4)) X.here (fun Q E d acts => ?_) a1
  exact y1_find (s := (T.setTop (F0 m pc ls rest)).pushFrame (.throwing q)) (f := F0 m pc ls rest) (meth := meth) (code := c) X.method' X.code hsplit hx h0 (c := c4) (cell := ce) (X.warmed.classLinks hcl5) hce (fun k h => by rw [hv] at h; cases h) (Vm.classAt_of_assignable hfit' ⟨kt', hkt'⟩) ⟨kt', hkt'⟩ hfit' Q E d acts
end Y1
theorem dX9_option_0 : decode cX9_option 0 = .ok (.iload_n 1, 1) := by decide +kernel
theorem dX9_option_1 : decode cX9_option 1 = .ok (.ifCond .lt 14, 3) := by decide +kernel
theorem dX9_option_4 : decode cX9_option 4 = .ok (.iload_n 1, 1) := by decide +kernel
theorem dX9_option_5 : decode cX9_option 5 = .ok (.aload_n 0, 1) := by decide +kernel
theorem dX9_option_6 : decode cX9_option 6 = .ok (.getfield 20, 3) := by decide +kernel
theorem dX9_option_9 : decode cX9_option 9 = .ok (.getfield 90, 3) := by decide +kernel
theorem dX9_option_12 : decode cX9_option 12 = .ok (.if_icmp .lt 13, 3) := by decide +kernel
theorem dX9_option_15 : decode cX9_option 15 = .ok (.new 96, 3) := by decide +kernel
theorem dX9_option_18 : decode cX9_option 18 = .ok (.dup, 1) := by decide +kernel
theorem dX9_option_19 : decode cX9_option 19 = .ok (.ldc 98, 2) := by decide +kernel
theorem dX9_option_21 : decode cX9_option 21 = .ok (.invokespecial 100, 3) := by decide +kernel
theorem dX9_option_24 : decode cX9_option 24 = .ok (.athrow, 1) := by decide +kernel
theorem dL_option_0 : decode cL_option 0 = .ok (.aload_n 3, 1) := by decide +kernel
theorem dL_option_1 : decode cL_option 1 = .ok (.iconst 0, 1) := by decide +kernel
theorem dL_option_2 : decode cL_option 2 = .ok (.aload_n 0, 1) := by decide +kernel
theorem dL_option_3 : decode cL_option 3 = .ok (.iload_n 1, 1) := by decide +kernel
theorem dL_option_4 : decode cL_option 4 = .ok (.iload_n 2, 1) := by decide +kernel
theorem dL_option_5 : decode cL_option 5 = .ok (.invokevirtual 7, 3) := by decide +kernel
theorem dL_option_13 : decode cL_option 13 = .ok (.astore 4, 2) := by decide +kernel
theorem dL_option_15 : decode cL_option 15 = .ok (.iconst 1, 1) := by decide +kernel
theorem dL_option_16 : decode cL_option 16 = .ok (.ireturn, 1) := by decide +kernel
abbrev o1_at : List Cond := vx_atS RX9 100 "java/lang/IndexOutOfBoundsException" ["java/lang/RuntimeException", "java/lang/Exception"]
abbrev o1_L : List Cond := [.classLink RX9 96 "java/lang/IndexOutOfBoundsException", .initialized "java/lang/IndexOutOfBoundsException", .fieldLink RX9 20 "ShortTeller" "story" "LShortTeller$Story;", .fieldLink RX9 90 "ShortTeller$Story" "options" "I"]
def w_opt : List Cond := .code yX9_option cX9_option 4 (some .int) :: (o1_L ++ wsX90 ++ wsX80 ++ o1_at.filter goodWord)
def w_lopt : List Cond := .codeWith yL_option cL_option 5 (some .int) [(0, 10, 13, 13), (0, 10, 17, 15)] :: (([.classLink RL 13 "java/lang/IndexOutOfBoundsException", .methodLink RL 7 yX9_option, .instanceMethod yX9_option, .selects RX9 yX9_option yX9_option, .initialized RX9, .code yX9_option cX9_option 4 (some .int), .classLink RX9 96 "java/lang/IndexOutOfBoundsException", .initialized "java/lang/IndexOutOfBoundsException", .fieldLink RX9 20 "ShortTeller" "story" "LShortTeller$Story;", .fieldLink RX9 90 "ShortTeller$Story" "options" "I"] : List Cond) ++ wsX90 ++ wsX80 ++ o1_at.filter goodWord)
theorem o1_gF {big : List Cond} (h : ∀ w ∈ o1_at.filter goodWord, w ∈ big) : GoodIn big (o1_at.filter goodWord) := goodIn_sub h (List.all_eq_true.mpr (fun w hw => (List.mem_filter.mp hw).2))
theorem o1_g9 {big : List Cond} (h : ∀ w ∈ wsX90, w ∈ big) : GoodIn big wsX90 := goodIn_sub h (by decide +kernel)
theorem o1_g8 {big : List Cond} (h : ∀ w ∈ wsX80, w ∈ big) : GoodIn big wsX80 := goodIn_sub h (by decide +kernel)
theorem g_lopt : GoodIn w_lopt (wsV RL 7 RX9 yX9_option w_opt) := goodIn_app (goodIn_r _ [2, 3, 4, 5] (by decide +kernel) (by decide +kernel)) (goodIn_ca (goodIn_ca (goodIn_ca (goodIn_r _ [6, 7, 8, 9, 10] (by decide +kernel) (by decide +kernel)) (o1_g9 (fun w h => List.mem_cons_of_mem _ (List.mem_append_left _ (List.mem_append_left _ (List.mem_append_right _ h)))))) (o1_g8 (fun w h => List.mem_cons_of_mem _ (List.mem_append_left _ (List.mem_append_right _ h))))) (o1_gF (fun w h => List.mem_cons_of_mem _ (List.mem_append_right _ h))))
def o1_W (U : State) : Prop := va_Nw (.castable "java/lang/IndexOutOfBoundsException" "java/lang/IndexOutOfBoundsException") U ∧ va_Nw (.declares ⟨"java/lang/RuntimeException", "<init>", "(Ljava/lang/String;)V"⟩) U ∧ va_Nw (.declares ⟨"java/lang/Exception", "<init>", "(Ljava/lang/String;)V"⟩) U ∧ va_Nw (.declares ⟨"java/lang/Throwable", "<init>", "(Ljava/lang/String;)V"⟩) U
theorem o1_W.same {u U : State} (h : u.vm = U.vm) (q : o1_W u) : o1_W U := ⟨q.1.same rfl h, q.2.1.same rfl h, q.2.2.1.same rfl h, q.2.2.2.same rfl h⟩
theorem o1_W.warm {s U : State} (hW : s.WarmedH U.vm) (q : o1_W s) : o1_W U := ⟨q.1.warmC hW, q.2.1.warmD hW, q.2.2.1.warmD hW, q.2.2.2.warmD hW⟩
def o1_E (sa : Nat) (A : Nat → Prop) (U : State) (H : Heap) : Prop := vk_R RX9 98 "no such option" sa U ∧ o1_W U ∧ vx_Zq Bundle.tN "UNASSIGNED_STACK" Bundle.steD A U H ∧ vx_Zq Bundle.tN "SUPPRESSED_SENTINEL" Bundle.listD A U H
def o1_P (D : va_G) (c : Nat → ClassId) (ws : va_W) (sz : Nat) (av : List Value) (sa : Nat) : Array Value → State → Prop := va_Pc av (fun U => U.heap.size = sz ∧ va_P D vwCl ws U.heap ∧ va_K D vwCl (q1_ty c) U ∧ va_D (fun _ => True) ws ∧ o1_E sa (va_A ws sz) U U.heap)
theorem o1_blind {D : va_G} {c : Nat → ClassId} {ws : va_W} {sz sa : Nat} {av : List Value} : FrameBlind (o1_P D c ws sz av sa) := fun a U g mk q => by
  obtain ⟨h0, h1, h2, h3, h4, h5, h6, h7, h8⟩ := q
  exact ⟨h0, h1, h2, va_K.moved (u := U) (U := U.calling g mk a) (Vm.Alike.refl U.vm) h3, h4, vk_R.same (u := U) (U := U.calling g mk a) rfl h5, o1_W.same (u := U) (U := U.calling g mk a) rfl h6, vx_Zq.moved (u := U) (U := U.calling g mk a) (Vm.Alike.refl U.vm) h7, vx_Zq.moved (u := U) (U := U.calling g mk a) (Vm.Alike.refl U.vm) h8⟩
theorem o1_pre {D : va_G} {c : Nat → ClassId} {wc : va_W} {sa : Nat} {av : List Value} {s : State} {H : Heap} {A : Nat → Prop} (hP : va_P D vwCl wc H) (hK : va_K D vwCl (q1_ty c) s) (hD : va_D A wc) (hE : o1_E sa (va_A wc H.size) s H) : ∀ U : State, U.heap = H → s.WarmedH U.vm → o1_P D c wc H.size av sa av.toArray U :=
  fun U hU hW => ⟨rfl, by rw [hU], by rw [hU]; exact hP, va_K.moved hW.alike hK, hD.weaken (fun _ _ _ _ => trivial), hE.1.warm hW, hE.2.1.warm hW, by rw [hU]; exact vx_Zq.moved hW.alike hE.2.2.1, by rw [hU]; exact vx_Zq.moved hW.alike hE.2.2.2⟩
set_option maxHeartbeats 4000000 in
set_option maxRecDepth 100000 in
theorem k_opt (l : Launch) (hst : l.stackTraces = false) (D : va_G) (c : Nat → ClassId) (sz sa : Nat) (b0 b1 b2 b3 b4 b5 b6 b7 b8 b9 b10 b11 b12 b13 b14 : Nat) (x0 x1 : Int32) : vx_Met l yX9_option w_opt ({ frames := 6, cells := 1, slots := 6, locals := 100 }) (o1_P D c [(b0, .inr (9, [.ref b1, .int 0, .ref b2, .ref b3, .ref b4, .ref b5, .ref b6, .ref b7])), (b2, .inr (8, [.ref b8, .int 0, .ref b9, .int 0, .int 14, .int 0, .int 0, .int 0, .int 0, .ref b10, .ref b11, .int 0, .ref b12, .ref b13, .ref b14, .int 0]))] sz [.ref b0, .int x0, .int x1] sa) (va_Qi (fun _ (_ : Unit) => False) (fun _ _ => True) (va_A [(b0, .inr (9, [.ref b1, .int 0, .ref b2, .ref b3, .ref b4, .ref b5, .ref b6, .ref b7])), (b2, .inr (8, [.ref b8, .int 0, .ref b9, .int 0, .int 14, .int 0, .int 0, .int 0, .int 0, .ref b10, .ref b11, .int 0, .ref b12, .ref b13, .ref b14, .int 0]))] sz)) (vx_X (fun _ : Unit => True) (fun E _ _ => E = "java/lang/IndexOutOfBoundsException") (va_A [(b0, .inr (9, [.ref b1, .int 0, .ref b2, .ref b3, .ref b4, .ref b5, .ref b6, .ref b7])), (b2, .inr (8, [.ref b8, .int 0, .ref b9, .int 0, .int 14, .int 0, .int 0, .int 0, .int 0, .ref b10, .ref b11, .int 0, .ref b12, .ref b13, .ref b14, .int 0]))] sz)) 1 6 (va_A [(b0, .inr (9, [.ref b1, .int 0, .ref b2, .ref b3, .ref b4, .ref b5, .ref b6, .ref b7])), (b2, .inr (8, [.ref b8, .int 0, .ref b9, .int 0, .int 14, .int 0, .int 0, .int 0, .int 0, .ref b10, .ref b11, .int 0, .ref b12, .ref b13, .ref b14, .int 0]))] sz) := by
  refine vx_ofW (cc := cX9_option) (maxL := 4) (ret := some .int) (by decide) rfl ?_
  intro p e s m args below meth cd s₁ B hml htab hv
  obtain ⟨rfl, hsz, hP, hK, hD0, h5, h6, h7, h8⟩ := hv
  subst hsz
  have hx := B.exec
  have hb := B.bytes
  have hts := atoms_spec (ws := w_opt) B.pre
  have hown : s.vm.findClass RX9 = some m.cls := findClass_of_methodNamed B.named
  have hlocks := B.notSynchronized
  have hl := lv_entry ([.ref b0, .int x0, .int x1]) (n := 4) (Nat.le_of_ble_eq_true rfl)
  rw [lg_entry_eq]
  generalize (lg_sl ([.ref b0, .int x0, .int x1]) ++ List.replicate (4 - (lg_sl ([.ref b0, .int x0, .int x1])).length) Slot.unset).toArray = ls at hl ⊢
  have hl : lv_has ls 4 [(0, .ref b0), (1, .int x0), (2, .int x1)] := hl
  have i9 : ∀ w ∈ wsX90, w ∈ w_opt := fun w h => List.mem_cons_of_mem _ (List.mem_append_left _ (List.mem_append_left _ (List.mem_append_right _ h)))
  have i8 : ∀ w ∈ wsX80, w ∈ w_opt := fun w h => List.mem_cons_of_mem _ (List.mem_append_left _ (List.mem_append_right _ h))
  have hat : ∀ w ∈ o1_at, w.before #[Value.ref b0, .int x0, .int x1] s = true := vx_hat (B := [.castable "java/lang/IndexOutOfBoundsException" "java/lang/IndexOutOfBoundsException", .declares ⟨"java/lang/RuntimeException", "<init>", "(Ljava/lang/String;)V"⟩, .declares ⟨"java/lang/Exception", "<init>", "(Ljava/lang/String;)V"⟩, .declares ⟨"java/lang/Throwable", "<init>", "(Ljava/lang/String;)V"⟩]) (fun w h => hts w (List.mem_cons_of_mem _ (List.mem_append_right _ h))) (by decide +kernel) (vx_c (va_Nw.use rfl h6.1) (vx_c (va_Nw.use rfl h6.2.1) (vx_c (va_Nw.use rfl h6.2.2.1) (vx_c (va_Nw.use rfl h6.2.2.2) vx_n))))
  have T := vx_throwS (p := p) (e := e) (R := { frames := 6, cells := 1, slots := 6, locals := 100 }) (below := below) (meth := meth) (H := s.heap) (locs := []) (cells := 0) (slots := 0) (rest := []) (Qc := va_Qi (fun _ (_ : Unit) => False) (fun _ _ => True) (va_A [(b0, .inr (9, [.ref b1, .int 0, .ref b2, .ref b3, .ref b4, .ref b5, .ref b6, .ref b7])), (b2, .inr (8, [.ref b8, .int 0, .ref b9, .int 0, .int 14, .int 0, .int 0, .int 0, .int 0, .ref b10, .ref b11, .int 0, .ref b12, .ref b13, .ref b14, .int 0]))] s.heap.size)) (XC := vx_X (fun _ : Unit => True) (fun E _ _ => E = "java/lang/IndexOutOfBoundsException") (va_A [(b0, .inr (9, [.ref b1, .int 0, .ref b2, .ref b3, .ref b4, .ref b5, .ref b6, .ref b7])), (b2, .inr (8, [.ref b8, .int 0, .ref b9, .int 0, .int 14, .int 0, .int 0, .int 0, .int 0, .ref b10, .ref b11, .int 0, .ref b12, .ref b13, .ref b14, .int 0]))] s.heap.size)) (free := va_A [(b0, .inr (9, [.ref b1, .int 0, .ref b2, .ref b3, .ref b4, .ref b5, .ref b6, .ref b7])), (b2, .inr (8, [.ref b8, .int 0, .ref b9, .int 0, .int 14, .int 0, .int 0, .int 0, .int 0, .ref b10, .ref b11, .int 0, .ref b12, .ref b13, .ref b14, .int 0]))] s.heap.size) (pc := 15) (mc := 1) (ms := 6) (ls := ls) (own := RX9) (cls := "java/lang/IndexOutOfBoundsException") (text := "no such option") (names := ["java/lang/RuntimeException", "java/lang/Exception"]) (ik := 96) (is := 98) (ic := 100) (sa := sa) (A := va_A [(b0, .inr (9, [.ref b1, .int 0, .ref b2, .ref b3, .ref b4, .ref b5, .ref b6, .ref b7])), (b2, .inr (8, [.ref b8, .int 0, .ref b9, .int 0, .int 14, .int 0, .int 0, .int 0, .int 0, .ref b10, .ref b11, .int 0, .ref b12, .ref b13, .ref b14, .int 0]))] s.heap.size) hx hb hst hown (by decide +kernel) (by decide +kernel) (hts (.classLink RX9 96 "java/lang/IndexOutOfBoundsException") (List.mem_of_getElem? (i := 1) rfl)) (hts (.initialized "java/lang/IndexOutOfBoundsException") (List.mem_of_getElem? (i := 2) rfl)) h5 hat (by decide +kernel) h7 h8 va_S.rf (by rw [hml]; exact hl.1) dX9_option_15 dX9_option_18 dX9_option_19 dX9_option_21 dX9_option_24 (fun x h9 => (htab x h9).elim) (by decide) (by decide) (by decide) (by decide) hlocks (fun t ha h1 h2 => ⟨(), trivial, rfl, h1, fun q h3 h4 => h2 q h3⟩) (fun z hz => nomatch hz) (by decide) (by decide)
  refine lv_iload_n hx hb dX9_option_0 rfl (lv_at hl 1 rfl) ?_
  refine lv_if_lt (tgt := 15) hx hb dX9_option_1 (by decide) (fun _ => T) (fun hn => ?_)
  refine lv_iload_n hx hb dX9_option_4 rfl (lv_at hl 1 rfl) ?_
  refine lv_aload_n hx hb dX9_option_5 rfl (lv_at hl 0 rfl) ?_
  refine va_get (D := D) (ci := 9) (v := .ref b2) (C := RX9) (T := TX9) (N := 8) hx hb hts i9 hown hK hP 0 rfl rfl 2 (by decide) (hts (.fieldLink RX9 20 "ShortTeller" "story" "LShortTeller$Story;") (List.mem_of_getElem? (i := 3) rfl)) (fun _ h9 => h9) rfl dX9_option_6 ?_
  refine va_get (D := D) (ci := 8) (v := .int 0) (C := RX8) (T := TX8) (N := 16) hx hb hts i8 hown hK hP 1 rfl rfl 3 (by decide) (hts (.fieldLink RX9 90 "ShortTeller$Story" "options" "I") (List.mem_of_getElem? (i := 4) rfl)) (fun _ h9 => h9) rfl dX9_option_9 ?_
  exact lv_icmp_lt (tgt := 25) hx hb dX9_option_12 (by decide) (fun h9 => absurd h9 hn) (fun _ => T)
set_option maxHeartbeats 4000000 in
set_option maxRecDepth 100000 in
theorem k_lopt (l : Launch) (hst : l.stackTraces = false) (D : va_G) (c : Nat → ClassId) (sz sa : Nat) (b0 b1 b2 b3 b4 b5 b6 b7 b8 b9 b10 b11 b12 b13 b14 : Nat) (x0 x1 : Int32) (o : Nat) : vx_Met l yL_option w_lopt ({ frames := 7, cells := 1, slots := 6, locals := 130 }) (o1_P D c [(b0, .inr (9, [.ref b1, .int 0, .ref b2, .ref b3, .ref b4, .ref b5, .ref b6, .ref b7])), (b2, .inr (8, [.ref b8, .int 0, .ref b9, .int 0, .int 14, .int 0, .int 0, .int 0, .int 0, .ref b10, .ref b11, .int 0, .ref b12, .ref b13, .ref b14, .int 0]))] sz [.ref b0, .int x0, .int x1, .ref o] sa) (va_Qi (fun r (_ : Unit) => r = 1) (fun _ _ => True) (va_A [(b0, .inr (9, [.ref b1, .int 0, .ref b2, .ref b3, .ref b4, .ref b5, .ref b6, .ref b7])), (b2, .inr (8, [.ref b8, .int 0, .ref b9, .int 0, .int 14, .int 0, .int 0, .int 0, .int 0, .ref b10, .ref b11, .int 0, .ref b12, .ref b13, .ref b14, .int 0]))] sz)) (vx_X (fun _ : Unit => False) (fun _ _ _ => True) (va_A [(b0, .inr (9, [.ref b1, .int 0, .ref b2, .ref b3, .ref b4, .ref b5, .ref b6, .ref b7])), (b2, .inr (8, [.ref b8, .int 0, .ref b9, .int 0, .int 14, .int 0, .int 0, .int 0, .int 0, .ref b10, .ref b11, .int 0, .ref b12, .ref b13, .ref b14, .int 0]))] sz)) 1 6 (va_A [(b0, .inr (9, [.ref b1, .int 0, .ref b2, .ref b3, .ref b4, .ref b5, .ref b6, .ref b7])), (b2, .inr (8, [.ref b8, .int 0, .ref b9, .int 0, .int 14, .int 0, .int 0, .int 0, .int 0, .ref b10, .ref b11, .int 0, .ref b12, .ref b13, .ref b14, .int 0]))] sz) := by
  refine vx_ofWH (cc := cL_option) (maxL := 5) (ret := some .int) (hh := [(0, 10, 13, 13), (0, 10, 17, 15)]) (by decide) rfl ?_
  intro p e s m args below meth cd s₁ B hml hv
  obtain ⟨rfl, hsz, hP, hK, hD0, hE⟩ := hv
  subst hsz
  have hx := B.exec
  have hb := B.bytes
  have hr := B.returns
  have hts := atoms_spec (ws := w_lopt) B.pre
  have hown : s.vm.findClass RL = some m.cls := findClass_of_methodNamed B.named
  have hlocks := B.notSynchronized
  have htab : cd.exceptionTable.toList = tableOf [(0, 10, 13, 13), (0, 10, 17, 15)] := vx_table (x := yL_option) B (hts _ List.mem_cons_self)
  have hl := lv_entry ([.ref b0, .int x0, .int x1, .ref o]) (n := 5) (Nat.le_of_ble_eq_true rfl)
  rw [lg_entry_eq]
  generalize (lg_sl ([.ref b0, .int x0, .int x1, .ref o]) ++ List.replicate (5 - (lg_sl ([.ref b0, .int x0, .int x1, .ref o])).length) Slot.unset).toArray = ls at hl ⊢
  have hl : lv_has ls 5 [(0, .ref b0), (1, .int x0), (2, .int x1), (3, .ref o)] := hl
  refine lv_aload_n hx hb dL_option_0 rfl (lv_at hl 3 rfl) ?_
  refine lv_iconst (v := 0) hx hb dL_option_1 (by decide) ?_
  refine lv_aload_n hx hb dL_option_2 rfl (lv_at hl 0 rfl) ?_
  refine lv_iload_n hx hb dL_option_3 rfl (lv_at hl 1 rfl) ?_
  refine lv_iload_n hx hb dL_option_4 rfl (lv_at hl 2 rfl) ?_
  refine vx_calli (A0 := va_A [(b0, .inr (9, [.ref b1, .int 0, .ref b2, .ref b3, .ref b4, .ref b5, .ref b6, .ref b7])), (b2, .inr (8, [.ref b8, .int 0, .ref b9, .int 0, .int 14, .int 0, .int 0, .int 0, .int 0, .ref b10, .ref b11, .int 0, .ref b12, .ref b13, .ref b14, .int 0]))] s.heap.size) (H0 := s.heap) (vx_runV (As := [.int x0, .int x1]) (rest := [.int 0, .ref o]) ⟨hx, hb, hml, hown, hts⟩ (k_opt l hst D c s.heap.size sa b0 b1 b2 b3 b4 b5 b6 b7 b8 b9 b10 b11 b12 b13 b14 x0 x1) (cwV 2 hts g_lopt rfl rfl rfl (by decide +kernel) ⟨Nat.le_of_ble_eq_true rfl, Nat.le_of_ble_eq_true rfl⟩) ⟨o1_blind, va_recv hK hP (ci := 9) (q0 := 0) rfl rfl, o1_pre hP hK hD0 hE⟩ rfl rfl hl.1 rfl (lv_room (Nat.le_of_ble_eq_true rfl)) dL_option_5 ⟨Nat.le_of_ble_eq_true rfl, Nat.le_of_ble_eq_true rfl⟩) va_S.rf (fun q _ h => h) (fun q h => h) (fun q _ h => h) (fun E ce q9 u t H1 locs1 ht hvm hp hB hz hk hS1 hc hv9 hcl => ?_) (fun r u t H1 locs1 ht hvm hw _ _ _ _ => hw.elim)
  have hB : E = "java/lang/IndexOutOfBoundsException" := hB
  subst hB
  refine y1_catch (own := RL) (name := "java/lang/IndexOutOfBoundsException") hown ⟨0, 10, 13, 13⟩ [⟨0, 10, 17, 15⟩] (by rw [htab]; rfl) (by decide) (by decide) (hts (.classLink RL 13 "java/lang/IndexOutOfBoundsException") (List.mem_of_getElem? (i := 1) rfl)) (va_Nw.use rfl hE.2.1.1) hc hv9 hcl ?_
  refine lv_astore (lv' := [(4, .ref q9), (0, .ref b0), (1, .int x0), (2, .int x1), (3, .ref o)]) hx hb dL_option_13 hl (by decide) rfl (fun ls hl => ?_)
  refine lv_iconst (v := 1) hx hb dL_option_15 (by decide) ?_
  refine W.widen (k := 1) (n := 6) (Nat.le_of_ble_eq_true rfl) (Nat.le_of_ble_eq_true rfl) (vx_ret ?_)
  exact W.iret hx hb hr (fun t ht hW => ⟨⟨1, (), rfl, rfl, trivial⟩, hS1.F ht⟩) hS1.2.2 dL_option_16
