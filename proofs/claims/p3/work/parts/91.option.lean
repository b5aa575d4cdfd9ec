/-! a throw that is caught by the first row of the method's own table -/
section Y1
theorem y1_find {e : Env} {s : State} {f : JFrame} {a : Addr} {meth : Method} {code : Code} (hm : s.vm.method? f.method = some meth) (hc : meth.code = some code)
    {x : ExceptionTableEntry} {rest : List ExceptionTableEntry} (hsplit : code.exceptionTable.toList = x :: rest) (hx : covers x f.pc = true) (h0 : x.catchType ≠ 0) {c : ClassId} {cell : Cell}
    (hl : s.vm.ClassLinks e.platform f.method.cls x.catchType c) (hcell : s.heap[a]? = some cell) (hobj : ∀ k, cell.vm ≠ .statics k)
    (hk : ∃ k, s.vm.classes[cell.cls]? = some k) (hcl : ∃ k, s.vm.classes[c]? = some k) (hfit : s.vm.assignable cell.cls c = true) (Q : Handler → Pre) (E : CtlPost) (d : Bool) (acts : List Action) :
    wp (findHandler f a) Q E e d acts s ↔ Q (.found x.handlerPc) d acts (s.setVm (s.vm.noted f.method.cls x.catchType (.cls c))) := by
  rw [_root_.Jvm.W.findHandler_eq hm hc, hsplit]
  simp only [covers] at hx
  obtain ⟨ha, ht⟩ := (resolveClass_links e.toSetting hl).op (op := VmOp.resolveClass f.method.cls x.catchType) rfl
  have hal : s.vm.Alike (s.vm.noted f.method.cls x.catchType (.cls c)) := (Vm.Alike.refl s.vm).noted _ _ _
  obtain ⟨k1, hk1⟩ := hk
  obtain ⟨k2, hk2⟩ := hcl
  obtain ⟨k1', hk1', -⟩ := hal.2.2 _ _ hk1
  obtain ⟨k2', hk2', -⟩ := hal.2.2 _ _ hk2
  have hfit' : (s.vm.noted f.method.cls x.catchType (.cls c)).assignable cell.cls c = true := by rw [hal.assignable]; exact hfit
  simp [findHandler.go, hx, h0, ha, ht, hcell, hobj, hk1', hk2', hfit', VmOp.dirties, VmOp.acts]
theorem y1_step {e : Env} {s : State} {a : Addr} {f : JFrame} {r : List Frame} {pc : Nat} {vm' : Vm} (hfind : ∀ (Q : Handler → Pre) (E : CtlPost) (d : Bool) (acts : List Action), wp (findHandler f a) Q E e d acts s ↔ Q (.found pc) d acts (s.setVm vm')) :
    (stepThrowing e s a (.java f :: r)).1 = (s.setVm vm').setFrames (.java { f with pc := pc, stack := [.ref a] } :: r) := by
  simp only [stepThrowing, searchFrame, vmDo]
  generalize hr : Sem.go _ e false [] s = res
  obtain ⟨as, rfl, ha⟩ := Sem.eq_ok_of hr (a := Handler.found pc) (s' := s.setVm vm') (acts' := []) (by simp [hfind _ _ _ _])
  rfl
theorem y1_sets (u : State) (vm' : Vm) (F G : List Frame) : ((u.setFrames F).setVm vm').setFrames G = (u.setVm vm').setFrames G := by
  have h1 : (u.setFrames F).setVm vm' = (u.setVm vm').setFrames F := rfl
  rw [h1, State.setFrames_setFrames]
theorem y1_to {tb : Tables} {e : Env} {s target : State} {g : JFrame} {c : Code} {below : List Frame} {a : Addr} (h : At s g.method c below) {pc : Nat} {vm' : Vm}
    (hfind : ∀ (Q : Handler → Pre) (E : CtlPost) (d : Bool) (acts : List Action), wp (findHandler g a) Q E e d acts ((s.setTop g).pushFrame (.throwing a)) ↔ Q (.found pc) d acts (((s.setTop g).pushFrame (.throwing a)).setVm vm')) (hrest : Steps tb e below ((s.setVm vm').setTop { g with pc := pc, stack := [.ref a] }) target) :
    Steps tb e below ((s.setTop g).pushFrame (.throwing a)) target := by
  obtain ⟨hgo, hw⟩ := h.throwing a
  refine Steps.head hgo hw ?_
  rw [stepThread_throwing (frames_entered h.top _), y1_step (s := (s.setTop g).pushFrame (.throwing a)) hfind]
  obtain ⟨g₀, hg⟩ := Option.isSome_iff_exists.mp h.top
  obtain ⟨r, hr⟩ := State.topJava?_eq_some.mp hg
  have hr' : (s.setVm vm').frames = .java g₀ :: r := hr
  rw [State.setTop_of_frames _ hr'] at hrest
  rw [hr, List.tail_cons, State.pushFrame, y1_sets, State.setTop_of_frames _ hr, y1_sets]
  exact hrest
variable {p : Program} {l : Launch} {e : Env} {R : Room} {s : State} {m : MethodId} {args : Array Value} {below : List Frame} {meth : Method} {c : Code} {H : Heap} {locs : List Loc} {cells slots : Nat} {Q : State → Prop} {pc : Nat} {ls : Array Slot} {rest : List Value}
theorem y1_catch {own name : String} {E : String} {ce : Cell} {q : Addr} (hown : s.vm.findClass own = some m.cls) (x : ExceptionTableEntry) (suf : List ExceptionTableEntry) (hsplit : c.exceptionTable.toList = x :: suf)
    (hx : covers x pc = true) (h0 : x.catchType ≠ 0) (hlink : (Cond.classLink own x.catchType name).before args s = true) (hcast : (Cond.castable E name).before args s = true) (hcell : H[q]? = some ce) (hv : ce.vm = .none) (hcl : s.vm.findClass E = some ce.cls)
    (kk : W p l e R s m args below meth c H locs cells slots Q (F0 m x.handlerPc ls [.ref q])) : vx_W p l e R s m args below meth c H locs cells slots Q (F0 m pc ls rest) q := by
  intro T hT X
  have hpl : e.platform.magicAccessors = ({} : Platform).magicAccessors := by rw [X.admits.platform]
  obtain ⟨c3, c4, hc3, hc4, hasg⟩ := Cond.castable_spec hcast
  cases Option.some.inj (hc3.symm.trans hcl)
  obtain ⟨c5, hc5, hcl5⟩ := Cond.classLink_spec hown hlink e.platform hpl
  cases Option.some.inj (hc4.symm.trans hc5)
  obtain ⟨dk, _, _, kt, hd, _, _, _, _, hkt, _, hopen⟩ := hcl5.here
  have hal := X.warmed.alike
  have hW' : s.WarmedH (T.vm.noted m.cls x.catchType (.cls c4)) := X.warmed.noted hd hopen (State.rightAt_cls hcl5)
  obtain ⟨kt', hkt', -⟩ := hal.2.2 _ _ hkt
  have hfit' : T.vm.assignable ce.cls c4 = true := by rw [hal.assignable]; exact hasg
  have hce : T.heap[q]? = some ce := by rw [hT]; exact hcell
  obtain ⟨t, a1, b1⟩ := kk (T.setVm (T.vm.noted m.cls x.catchType (.cls c4))) hT (X.noted hW')
  refine ⟨t, ?_, b1⟩
  refine y1_to (g := F0 m pc ls rest) (pc := x.handlerPc) (vm' := T.vm.noted m.cls x.catchType (.cls c4)) X.here (fun Q E d acts => ?_) a1
  exact y1_find (s := (T.setTop (F0 m pc ls rest)).pushFrame (.throwing q)) (f := F0 m pc ls rest) (meth := meth) (code := c) X.method' X.code hsplit hx h0 (c := c4) (cell := ce) (X.warmed.classLinks hcl5) hce (fun k h => by rw [hv] at h; cases h) (Vm.classAt_of_assignable hfit' ⟨kt', hkt'⟩) ⟨kt', hkt'⟩ hfit' Q E d acts
end Y1
section Y2
theorem y2_pass {Q : Handler → Pre} {E : CtlPost} {e : Env} {d : Bool} {acts : List Action} {s : State} {f : JFrame} {a : Addr} {x : ExceptionTableEntry} {t : List ExceptionTableEntry} {c : ClassId} {cell : Cell} (hx : covers x f.pc = true) (h0 : x.catchType ≠ 0)
    (hl : s.vm.ClassLinks e.platform f.method.cls x.catchType c) (hcell : s.heap[a]? = some cell) (hobj : ∀ k, cell.vm ≠ .statics k) (hk : ∃ k, s.vm.classes[cell.cls]? = some k) (hc : ∃ k, s.vm.classes[c]? = some k) (hno : s.vm.assignable cell.cls c = false) :
    wp (findHandler.go f a (x :: t)) Q E e d acts s ↔ wp (findHandler.go f a t) Q E e d acts (s.setVm (s.vm.noted f.method.cls x.catchType (.cls c))) := by
  simp only [covers] at hx
  obtain ⟨ha, ht⟩ := (resolveClass_links e.toSetting hl).op (op := VmOp.resolveClass f.method.cls x.catchType) rfl
  have hal : s.vm.Alike (s.vm.noted f.method.cls x.catchType (.cls c)) := (Vm.Alike.refl s.vm).noted _ _ _
  obtain ⟨k1, hk1⟩ := hk
  obtain ⟨k2, hk2⟩ := hc
  obtain ⟨k1', hk1', -⟩ := hal.2.2 _ _ hk1
  obtain ⟨k2', hk2', -⟩ := hal.2.2 _ _ hk2
  have hno' : (s.vm.noted f.method.cls x.catchType (.cls c)).assignable cell.cls c = false := by rw [hal.assignable]; exact hno
  simp [findHandler.go, hx, h0, ha, ht, hcell, hobj, hk1', hk2', hno', VmOp.dirties, VmOp.acts]
theorem y2_hit {Q : Handler → Pre} {E : CtlPost} {e : Env} {d : Bool} {acts : List Action} {s : State} {f : JFrame} {a : Addr} {x : ExceptionTableEntry} {t : List ExceptionTableEntry} {c : ClassId} {cell : Cell} (hx : covers x f.pc = true) (h0 : x.catchType ≠ 0)
    (hl : s.vm.ClassLinks e.platform f.method.cls x.catchType c) (hcell : s.heap[a]? = some cell) (hobj : ∀ k, cell.vm ≠ .statics k) (hk : ∃ k, s.vm.classes[cell.cls]? = some k) (hc : ∃ k, s.vm.classes[c]? = some k) (hfit : s.vm.assignable cell.cls c = true) :
    wp (findHandler.go f a (x :: t)) Q E e d acts s ↔ Q (.found x.handlerPc) d acts (s.setVm (s.vm.noted f.method.cls x.catchType (.cls c))) := by
  simp only [covers] at hx
  obtain ⟨ha, ht⟩ := (resolveClass_links e.toSetting hl).op (op := VmOp.resolveClass f.method.cls x.catchType) rfl
  have hal : s.vm.Alike (s.vm.noted f.method.cls x.catchType (.cls c)) := (Vm.Alike.refl s.vm).noted _ _ _
  obtain ⟨k1, hk1⟩ := hk
  obtain ⟨k2, hk2⟩ := hc
  obtain ⟨k1', hk1', -⟩ := hal.2.2 _ _ hk1
  obtain ⟨k2', hk2', -⟩ := hal.2.2 _ _ hk2
  have hfit' : (s.vm.noted f.method.cls x.catchType (.cls c)).assignable cell.cls c = true := by rw [hal.assignable]; exact hfit
  simp [findHandler.go, hx, h0, ha, ht, hcell, hobj, hk1', hk2', hfit', VmOp.dirties, VmOp.acts]
variable {p : Program} {l : Launch} {e : Env} {R : Room} {s : State} {m : MethodId} {args : Array Value} {below : List Frame} {meth : Method} {c : Code} {H : Heap} {locs : List Loc} {cells slots : Nat} {Q : State → Prop} {pc : Nat} {ls : Array Slot} {rest : List Value}
theorem y2_catch {own n0 name : String} {E : String} {ce : Cell} {q : Addr} (hown : s.vm.findClass own = some m.cls) (x0 x : ExceptionTableEntry) (suf : List ExceptionTableEntry) (hsplit : c.exceptionTable.toList = x0 :: x :: suf)
    (hx0 : covers x0 pc = true) (h00 : x0.catchType ≠ 0) (hlink0 : (Cond.classLink own x0.catchType n0).before args s = true) (hno : (Cond.not (.castable E n0)).before args s = true)
    (hx : covers x pc = true) (h0 : x.catchType ≠ 0) (hlink : (Cond.classLink own x.catchType name).before args s = true) (hcast : (Cond.castable E name).before args s = true) (hcell : H[q]? = some ce) (hv : ce.vm = .none) (hcl : s.vm.findClass E = some ce.cls)
    (kk : W p l e R s m args below meth c H locs cells slots Q (F0 m x.handlerPc ls [.ref q])) : vx_W p l e R s m args below meth c H locs cells slots Q (F0 m pc ls rest) q := by
  intro T hT X
  have hpl : e.platform.magicAccessors = ({} : Platform).magicAccessors := by rw [X.admits.platform]
  obtain ⟨c3, c4, hc3, hc4, hasg⟩ := Cond.castable_spec hcast
  cases Option.some.inj (hc3.symm.trans hcl)
  obtain ⟨c5, hc5, hcl5⟩ := Cond.classLink_spec hown hlink e.platform hpl
  cases Option.some.inj (hc4.symm.trans hc5)
  obtain ⟨c0, hc0, hcl0⟩ := Cond.classLink_spec hown hlink0 e.platform hpl
  have hna : s.vm.assignable ce.cls c0 = false := by
    have hv9 := Cond.holds_not_iff.mp hno
    simp only [Cond.value, hcl, hc0] at hv9
    exact Option.some.inj hv9
  obtain ⟨dk0, _, _, kt0, hd0, _, _, _, _, hkt0, _, hopen0⟩ := hcl0.here
  obtain ⟨dk, _, _, kt, hd, _, _, _, _, hkt, _, hopen⟩ := hcl5.here
  have hW1 : s.WarmedH (T.vm.noted m.cls x0.catchType (.cls c0)) := X.warmed.noted hd0 hopen0 (State.rightAt_cls hcl0)
  have hW2 : s.WarmedH ((T.vm.noted m.cls x0.catchType (.cls c0)).noted m.cls x.catchType (.cls c4)) := hW1.noted hd hopen (State.rightAt_cls hcl5)
  obtain ⟨kt0', hkt0', -⟩ := X.warmed.alike.2.2 _ _ hkt0
  obtain ⟨kt', hkt', -⟩ := hW1.alike.2.2 _ _ hkt
  have hfit' : (T.vm.noted m.cls x0.catchType (.cls c0)).assignable ce.cls c4 = true := by rw [hW1.alike.assignable]; exact hasg
  have hna' : T.vm.assignable ce.cls c0 = false := by rw [X.warmed.alike.assignable]; exact hna
  have hke1 := Vm.classAt_of_assignable hfit' ⟨kt', hkt'⟩
  have hke : ∃ k, T.vm.classes[ce.cls]? = some k := by
    have h1 : s.vm.assignable ce.cls c4 = true := hasg
    have h2 : T.vm.assignable ce.cls c4 = true := by rw [X.warmed.alike.assignable]; exact hasg
    obtain ⟨kq, hkq, -⟩ := X.warmed.alike.2.2 _ _ hkt
    exact Vm.classAt_of_assignable h2 ⟨kq, hkq⟩
  have hce : T.heap[q]? = some ce := by rw [hT]; exact hcell
  obtain ⟨t, a1, b1⟩ := kk (T.setVm ((T.vm.noted m.cls x0.catchType (.cls c0)).noted m.cls x.catchType (.cls c4))) hT (X.noted hW2)
  refine ⟨t, ?_, b1⟩
  refine y1_to (g := F0 m pc ls rest) (pc := x.handlerPc) (vm' := (T.vm.noted m.cls x0.catchType (.cls c0)).noted m.cls x.catchType (.cls c4)) X.here (fun Q E d acts => ?_) a1
  rw [_root_.Jvm.W.findHandler_eq (f := F0 m pc ls rest) (s := (T.setTop (F0 m pc ls rest)).pushFrame (.throwing q)) X.method' X.code, hsplit]
  rw [y2_pass (s := (T.setTop (F0 m pc ls rest)).pushFrame (.throwing q)) (f := F0 m pc ls rest) hx0 h00 (X.warmed.classLinks hcl0) hce (fun k h => by rw [hv] at h; cases h) hke ⟨kt0', hkt0'⟩ hna']
  exact y2_hit (s := ((T.setTop (F0 m pc ls rest)).pushFrame (.throwing q)).setVm (T.vm.noted m.cls x0.catchType (.cls c0))) (f := F0 m pc ls rest) hx h0 (hW1.classLinks hcl5) hce (fun k h => by rw [hv] at h; cases h) hke1 ⟨kt', hkt'⟩ hfit'
end Y2
theorem dX9_option_0 : decode cX9_option 0 = .ok (.iload_n 1, 1) := by decide +kernel
theorem dX9_option_1 : decode cX9_option 1 = .ok (.ifCond .lt 14, 3) := by decide +kernel
theorem dX9_option_12 : decode cX9_option 12 = .ok (.if_icmp .lt 13, 3) := by decide +kernel
theorem dX9_option_15 : decode cX9_option 15 = .ok (.new 96, 3) := by decide +kernel
theorem dX9_option_18 : decode cX9_option 18 = .ok (.dup, 1) := by decide +kernel
theorem dX9_option_19 : decode cX9_option 19 = .ok (.ldc 98, 2) := by decide +kernel
theorem dX9_option_21 : decode cX9_option 21 = .ok (.invokespecial 100, 3) := by decide +kernel
theorem dX9_option_24 : decode cX9_option 24 = .ok (.athrow, 1) := by decide +kernel
theorem dX9_option_25 : decode cX9_option 25 = .ok (.aload_n 0, 1) := by decide +kernel
theorem dX9_option_26 : decode cX9_option 26 = .ok (.getfield 20, 3) := by decide +kernel
theorem dX9_option_29 : decode cX9_option 29 = .ok (.getfield 103, 3) := by decide +kernel
theorem dX9_option_32 : decode cX9_option 32 = .ok (.iload_n 1, 1) := by decide +kernel
theorem dX9_option_33 : decode cX9_option 33 = .ok (.aaload, 1) := by decide +kernel
theorem dX9_option_34 : decode cX9_option 34 = .ok (.astore_n 3, 1) := by decide +kernel
theorem dX9_option_35 : decode cX9_option 35 = .ok (.iload_n 2, 1) := by decide +kernel
theorem dX9_option_36 : decode cX9_option 36 = .ok (.tableswitch 52 0 3 #[32, 37, 42, 47], 32) := by decide +kernel
theorem dX9_option_4 : decode cX9_option 4 = .ok (.iload_n 1, 1) := by decide +kernel
theorem dX9_option_5 : decode cX9_option 5 = .ok (.aload_n 0, 1) := by decide +kernel
theorem dX9_option_6 : decode cX9_option 6 = .ok (.getfield 20, 3) := by decide +kernel
theorem dX9_option_68 : decode cX9_option 68 = .ok (.aload_n 3, 1) := by decide +kernel
theorem dX9_option_69 : decode cX9_option 69 = .ok (.getfield 107, 3) := by decide +kernel
theorem dX9_option_72 : decode cX9_option 72 = .ok (.ireturn, 1) := by decide +kernel
theorem dX9_option_73 : decode cX9_option 73 = .ok (.aload_n 3, 1) := by decide +kernel
theorem dX9_option_74 : decode cX9_option 74 = .ok (.getfield 112, 3) := by decide +kernel
theorem dX9_option_77 : decode cX9_option 77 = .ok (.ireturn, 1) := by decide +kernel
theorem dX9_option_78 : decode cX9_option 78 = .ok (.aload_n 3, 1) := by decide +kernel
theorem dX9_option_79 : decode cX9_option 79 = .ok (.getfield 115, 3) := by decide +kernel
theorem dX9_option_82 : decode cX9_option 82 = .ok (.ireturn, 1) := by decide +kernel
theorem dX9_option_83 : decode cX9_option 83 = .ok (.aload_n 3, 1) := by decide +kernel
theorem dX9_option_84 : decode cX9_option 84 = .ok (.getfield 118, 3) := by decide +kernel
theorem dX9_option_87 : decode cX9_option 87 = .ok (.ireturn, 1) := by decide +kernel
theorem dX9_option_88 : decode cX9_option 88 = .ok (.new 120, 3) := by decide +kernel
theorem dX9_option_9 : decode cX9_option 9 = .ok (.getfield 90, 3) := by decide +kernel
theorem dX9_option_91 : decode cX9_option 91 = .ok (.dup, 1) := by decide +kernel
theorem dX9_option_92 : decode cX9_option 92 = .ok (.ldc 122, 2) := by decide +kernel
theorem dX9_option_94 : decode cX9_option 94 = .ok (.invokespecial 124, 3) := by decide +kernel
theorem dX9_option_97 : decode cX9_option 97 = .ok (.athrow, 1) := by decide +kernel
theorem dL_option_0 : decode cL_option 0 = .ok (.aload_n 3, 1) := by decide +kernel
theorem dL_option_1 : decode cL_option 1 = .ok (.iconst 0, 1) := by decide +kernel
theorem dL_option_2 : decode cL_option 2 = .ok (.aload_n 0, 1) := by decide +kernel
theorem dL_option_3 : decode cL_option 3 = .ok (.iload_n 1, 1) := by decide +kernel
theorem dL_option_4 : decode cL_option 4 = .ok (.iload_n 2, 1) := by decide +kernel
theorem dL_option_5 : decode cL_option 5 = .ok (.invokevirtual 7, 3) := by decide +kernel
theorem dL_option_8 : decode cL_option 8 = .ok (.i2l, 1) := by decide +kernel
theorem dL_option_9 : decode cL_option 9 = .ok (.lastore, 1) := by decide +kernel
theorem dL_option_10 : decode cL_option 10 = .ok (.goto 11, 3) := by decide +kernel
theorem dL_option_13 : decode cL_option 13 = .ok (.astore 4, 2) := by decide +kernel
theorem dL_option_15 : decode cL_option 15 = .ok (.iconst 1, 1) := by decide +kernel
theorem dL_option_16 : decode cL_option 16 = .ok (.ireturn, 1) := by decide +kernel
theorem dL_option_17 : decode cL_option 17 = .ok (.astore 4, 2) := by decide +kernel
theorem dL_option_19 : decode cL_option 19 = .ok (.iconst 2, 1) := by decide +kernel
theorem dL_option_20 : decode cL_option 20 = .ok (.ireturn, 1) := by decide +kernel
theorem dL_option_21 : decode cL_option 21 = .ok (.iconst 0, 1) := by decide +kernel
theorem dL_option_22 : decode cL_option 22 = .ok (.ireturn, 1) := by decide +kernel
abbrev oI_at : List Cond := vx_atS RX9 100 "java/lang/IndexOutOfBoundsException" ["java/lang/RuntimeException", "java/lang/Exception"]
def q9_rx : ByteArray := ⟨#[42, 43, 183, 0, 13, 177]⟩
abbrev oN_at : List Cond := q9_atN RX9 124 "java/util/NoSuchElementException" 13 q9_rx "java/lang/RuntimeException" ["java/lang/Exception"]
abbrev o3_L : List Cond := [.classLink RX9 96 "java/lang/IndexOutOfBoundsException", .initialized "java/lang/IndexOutOfBoundsException", .classLink RX9 120 "java/util/NoSuchElementException", .initialized "java/util/NoSuchElementException", .fieldLink RX9 20 "ShortTeller" "story" "LShortTeller$Story;", .fieldLink RX9 90 "ShortTeller$Story" "options" "I", .fieldLink RX9 103 "ShortTeller$Story" "pieces" "[LShortTeller$Piece;", .fieldLink RX9 107 "ShortTeller$Piece" "kind" "I", .fieldLink RX9 112 "ShortTeller$Piece" "within" "I", .fieldLink RX9 115 "ShortTeller$Piece" "words" "I", .fieldLink RX9 118 "ShortTeller$Piece" "facts" "I"]
def w_opt2 : List Cond := .code yX9_option cX9_option 4 (some .int) :: (o3_L ++ wsX90 ++ wsX80 ++ wsX40 ++ oI_at.filter goodWord ++ oN_at.filter goodWord)
abbrev o4_L : List Cond := [.classLink RL 13 "java/lang/IndexOutOfBoundsException", .classLink RL 15 "java/util/NoSuchElementException", .methodLink RL 7 yX9_option, .instanceMethod yX9_option, .selects RX9 yX9_option yX9_option, .initialized RX9, .code yX9_option cX9_option 4 (some .int)]
def w_lopt2 : List Cond := .codeWith yL_option cL_option 5 (some .int) [(0, 10, 13, 13), (0, 10, 17, 15)] :: (o4_L ++ o3_L ++ wsX90 ++ wsX80 ++ wsX40 ++ oI_at.filter goodWord ++ oN_at.filter goodWord)
theorem o3_gF {big L : List Cond} (h : ∀ w ∈ L.filter goodWord, w ∈ big) : GoodIn big (L.filter goodWord) := goodIn_sub h (List.all_eq_true.mpr (fun w hw => (List.mem_filter.mp hw).2))
theorem g_lopt2 : GoodIn w_lopt2 (wsV RL 7 RX9 yX9_option w_opt2) := goodIn_app (goodIn_r _ [3, 4, 5, 6] (by decide +kernel) (by decide +kernel)) (goodIn_ca (goodIn_ca (goodIn_ca (goodIn_ca (goodIn_ca (goodIn_r _ [7, 8, 9, 10, 11, 12, 13, 14, 15, 16, 17, 18] (by decide +kernel) (by decide +kernel)) (goodIn_sub (fun w h => List.mem_cons_of_mem _ (List.mem_append_left _ (List.mem_append_left _ (List.mem_append_left _ (List.mem_append_left _ (List.mem_append_right _ h)))))) (by decide +kernel))) (goodIn_sub (fun w h => List.mem_cons_of_mem _ (List.mem_append_left _ (List.mem_append_left _ (List.mem_append_left _ (List.mem_append_right _ h))))) (by decide +kernel))) (goodIn_sub (fun w h => List.mem_cons_of_mem _ (List.mem_append_left _ (List.mem_append_left _ (List.mem_append_right _ h)))) (by decide +kernel))) (o3_gF (fun w h => List.mem_cons_of_mem _ (List.mem_append_left _ (List.mem_append_right _ h))))) (o3_gF (fun w h => List.mem_cons_of_mem _ (List.mem_append_right _ h))))
def o2_W (U : State) : Prop := va_Nw (.castable "java/lang/IndexOutOfBoundsException" "java/lang/IndexOutOfBoundsException") U ∧ va_Nw (.castable "java/util/NoSuchElementException" "java/util/NoSuchElementException") U ∧ va_Nw (.declares ⟨"java/lang/RuntimeException", "<init>", "(Ljava/lang/String;)V"⟩) U ∧ va_Nw (.declares ⟨"java/lang/Exception", "<init>", "(Ljava/lang/String;)V"⟩) U ∧ va_Nw (.declares ⟨"java/lang/Throwable", "<init>", "(Ljava/lang/String;)V"⟩) U
theorem o2_W.same {u U : State} (h : u.vm = U.vm) (q : o2_W u) : o2_W U := ⟨q.1.same rfl h, q.2.1.same rfl h, q.2.2.1.same rfl h, q.2.2.2.1.same rfl h, q.2.2.2.2.same rfl h⟩
theorem o2_W.warm {s U : State} (hW : s.WarmedH U.vm) (q : o2_W s) : o2_W U := ⟨q.1.warmC hW, q.2.1.warmC hW, q.2.2.1.warmD hW, q.2.2.2.1.warmD hW, q.2.2.2.2.warmD hW⟩
def o2_No (U : State) : Prop := ∃ c1 c2, U.vm.findClass "java/util/NoSuchElementException" = some c1 ∧ U.vm.findClass "java/lang/IndexOutOfBoundsException" = some c2 ∧ U.vm.assignable c1 c2 = false
theorem o2_No.alike {u U : State} (h : u.vm.Alike U.vm) (q : o2_No u) : o2_No U := by
  obtain ⟨c1, c2, h1, h2, h3⟩ := q
  exact ⟨c1, c2, by rw [h.findClass]; exact h1, by rw [h.findClass]; exact h2, by rw [h.assignable]; exact h3⟩
theorem o2_No.use {a : Array Value} {U : State} (q : o2_No U) : (Cond.not (.castable "java/util/NoSuchElementException" "java/lang/IndexOutOfBoundsException")).before a U = true := by
  obtain ⟨c1, c2, h1, h2, h3⟩ := q
  refine Cond.holds_not_iff.mpr ?_
  simp only [Cond.value, h1, h2, h3]
def o2_E (so sn : Nat) (A : Nat → Prop) (U : State) (H : Heap) : Prop := vk_R RX9 98 "no such option" so U ∧ vk_R RX9 122 "no such what" sn U ∧ o2_W U ∧ o2_No U ∧ vx_Zq Bundle.tN "UNASSIGNED_STACK" Bundle.steD A U H ∧ vx_Zq Bundle.tN "SUPPRESSED_SENTINEL" Bundle.listD A U H
def o2_P (D : va_G) (c : Nat → ClassId) (ws : va_W) (sz : Nat) (av : List Value) (so sn : Nat) (B : Nat → Prop) : Array Value → State → Prop := va_Pc av (fun U => U.heap.size = sz ∧ va_P D vwCl ws U.heap ∧ va_K D vwCl (q3_ty c) U ∧ va_D (fun _ => True) ws ∧ o2_E so sn B U U.heap)
theorem o2_blind {D : va_G} {c : Nat → ClassId} {ws : va_W} {sz so sn : Nat} {av : List Value} {B : Nat → Prop} : FrameBlind (o2_P D c ws sz av so sn B) := fun a U g mk q => by
  obtain ⟨h0, h1, h2, h3, h4, h5, h5b, h6, h6b, h7, h8⟩ := q
  exact ⟨h0, h1, h2, va_K.moved (u := U) (U := U.calling g mk a) (Vm.Alike.refl U.vm) h3, h4, vk_R.same (u := U) (U := U.calling g mk a) rfl h5, vk_R.same (u := U) (U := U.calling g mk a) rfl h5b, o2_W.same (u := U) (U := U.calling g mk a) rfl h6, o2_No.alike (u := U) (U := U.calling g mk a) (Vm.Alike.refl U.vm) h6b, vx_Zq.moved (u := U) (U := U.calling g mk a) (Vm.Alike.refl U.vm) h7, vx_Zq.moved (u := U) (U := U.calling g mk a) (Vm.Alike.refl U.vm) h8⟩
theorem o2_pre {D : va_G} {c : Nat → ClassId} {wc : va_W} {so sn : Nat} {av : List Value} {s : State} {H : Heap} {A B : Nat → Prop} (hP : va_P D vwCl wc H) (hK : va_K D vwCl (q3_ty c) s) (hD : va_D A wc) (hE : o2_E so sn B s H) : ∀ U : State, U.heap = H → s.WarmedH U.vm → o2_P D c wc H.size av so sn B av.toArray U :=
  fun U hU hW => ⟨rfl, by rw [hU], by rw [hU]; exact hP, va_K.moved hW.alike hK, hD.weaken (fun _ _ _ _ => trivial), hE.1.warm hW, hE.2.1.warm hW, hE.2.2.1.warm hW, hE.2.2.2.1.alike hW.alike, by rw [hU]; exact vx_Zq.moved hW.alike hE.2.2.2.2.1, by rw [hU]; exact vx_Zq.moved hW.alike hE.2.2.2.2.2⟩
set_option maxHeartbeats 8000000 in
set_option maxRecDepth 100000 in
theorem k_opt2 (l : Launch) (hst : l.stackTraces = false) (D : va_G) (c : Nat → ClassId) (sz so sn : Nat) (b : Nat → Nat) (LP LF : List Nat) (fp ff : Nat → Option Nat) (tp a_row a_choices a_ra_signs a_told a_untold a_byLength a_byRank a_heads l_row l_choices l_ra_signs l_told l_untold l_byLength l_byRank l_heads : Nat) (v_taped v_st_size v_st_options v_st_headingsEnd v_st_headingMarks v_st_sentences v_st_headings v_st_words v_st_lists v_st_names v_mk_used v_fa_inText v_fa_known v_sc_fault v_sc_place v_sc_at v_sc_level v_sc_sentenceWords v_sc_latestName v_me_used v_re_used v_re_written v_re_joint v_re_latestName v_ra_used v_ra_isMade v_ra_isRanked : Int32) (f_tape f_st_signs f_listItems f_listWithin f_mk_kind f_mk_piece f_mk_at f_mk_size f_mk_name f_nameAt f_nameSize f_places f_me_keep f_me_name f_me_gain f_me_leans f_row f_choices f_ra_signs f_told f_untold f_byLength f_byRank f_heads f_p_kind f_p_within f_p_list f_p_words f_p_facts f_p_keep f_p_signs f_fr_kind f_fr_piece f_fr_start f_fr_list f_fr_items f_fr_begun f_fr_worded : Nat → Int32) (hLP : ∀ j : Nat, j < 29 → ∃ w, w ∈ LP ∧ fp j = some w) (hop : v_st_options.toInt ≤ 14) (x_option x_what : Int32) : vx_Met l yX9_option w_opt2 ({ frames := 6, cells := 1, slots := 6, locals := 100 }) (o2_P D c (wX c b LP LF fp ff tp a_row a_choices a_ra_signs a_told a_untold a_byLength a_byRank a_heads l_row l_choices l_ra_signs l_told l_untold l_byLength l_byRank l_heads v_taped v_st_size v_st_options v_st_headingsEnd v_st_headingMarks v_st_sentences v_st_headings v_st_words v_st_lists v_st_names v_mk_used v_fa_inText v_fa_known v_sc_fault v_sc_place v_sc_at v_sc_level v_sc_sentenceWords v_sc_latestName v_me_used v_re_used v_re_written v_re_joint v_re_latestName v_ra_used v_ra_isMade v_ra_isRanked f_tape f_st_signs f_listItems f_listWithin f_mk_kind f_mk_piece f_mk_at f_mk_size f_mk_name f_nameAt f_nameSize f_places f_me_keep f_me_name f_me_gain f_me_leans f_row f_choices f_ra_signs f_told f_untold f_byLength f_byRank f_heads f_p_kind f_p_within f_p_list f_p_words f_p_facts f_p_keep f_p_signs f_fr_kind f_fr_piece f_fr_start f_fr_list f_fr_items f_fr_begun f_fr_worded) sz [.ref (b 0), .int x_option, .int x_what] so sn (va_A [] sz)) (va_Qi (fun _ (_ : Unit) => True) (fun _ _ => True) (va_A [] sz)) (vx_X (fun _ : Unit => True) (fun E _ _ => E = "java/lang/IndexOutOfBoundsException" ∨ E = "java/util/NoSuchElementException") (va_A [] sz)) 1 6 (va_A [] sz) := by
  refine vx_ofW (cc := cX9_option) (maxL := 4) (ret := some .int) (by decide) rfl ?_
  intro p e s m args below meth cd s₁ B hml htab hv
  obtain ⟨rfl, hsz, hP, hK, hD0, h5, h9s, h6, h6b, h7, h8⟩ := hv
  subst hsz
  have hx := B.exec
  have hb := B.bytes
  have hr := B.returns
  have hts := atoms_spec (ws := w_opt2) B.pre
  have hown : s.vm.findClass RX9 = some m.cls := findClass_of_methodNamed B.named
  have hlocks := B.notSynchronized
  have hl := lv_entry ([.ref (b 0), .int x_option, .int x_what]) (n := 4) (Nat.le_of_ble_eq_true rfl)
  rw [lg_entry_eq]
  generalize (lg_sl ([.ref (b 0), .int x_option, .int x_what]) ++ List.replicate (4 - (lg_sl ([.ref (b 0), .int x_option, .int x_what])).length) Slot.unset).toArray = ls at hl ⊢
  have hl : lv_has ls 4 [(0, .ref (b 0)), (1, .int x_option), (2, .int x_what)] := hl
  have iX9 : ∀ w ∈ wsX90, w ∈ w_opt2 := fun w h => List.mem_cons_of_mem _ (List.mem_append_left _ (List.mem_append_left _ (List.mem_append_left _ (List.mem_append_left _ (List.mem_append_right _ h)))))
  have iX8 : ∀ w ∈ wsX80, w ∈ w_opt2 := fun w h => List.mem_cons_of_mem _ (List.mem_append_left _ (List.mem_append_left _ (List.mem_append_left _ (List.mem_append_right _ h))))
  have iX4 : ∀ w ∈ wsX40, w ∈ w_opt2 := fun w h => List.mem_cons_of_mem _ (List.mem_append_left _ (List.mem_append_left _ (List.mem_append_right _ h)))
  have hatI : ∀ w ∈ oI_at, w.before #[Value.ref (b 0), .int x_option, .int x_what] s = true := vx_hat (B := [.castable "java/lang/IndexOutOfBoundsException" "java/lang/IndexOutOfBoundsException", .castable "java/util/NoSuchElementException" "java/util/NoSuchElementException", .declares ⟨"java/lang/RuntimeException", "<init>", "(Ljava/lang/String;)V"⟩, .declares ⟨"java/lang/Exception", "<init>", "(Ljava/lang/String;)V"⟩, .declares ⟨"java/lang/Throwable", "<init>", "(Ljava/lang/String;)V"⟩]) (fun w h => hts w (List.mem_cons_of_mem _ (List.mem_append_left _ (List.mem_append_right _ h)))) (by decide +kernel) (vx_c (va_Nw.use rfl h6.1) (vx_c (va_Nw.use rfl h6.2.1) (vx_c (va_Nw.use rfl h6.2.2.1) (vx_c (va_Nw.use rfl h6.2.2.2.1) (vx_c (va_Nw.use rfl h6.2.2.2.2) vx_n)))))
  have hatN : ∀ w ∈ oN_at, w.before #[Value.ref (b 0), .int x_option, .int x_what] s = true := vx_hat (B := [.castable "java/lang/IndexOutOfBoundsException" "java/lang/IndexOutOfBoundsException", .castable "java/util/NoSuchElementException" "java/util/NoSuchElementException", .declares ⟨"java/lang/RuntimeException", "<init>", "(Ljava/lang/String;)V"⟩, .declares ⟨"java/lang/Exception", "<init>", "(Ljava/lang/String;)V"⟩, .declares ⟨"java/lang/Throwable", "<init>", "(Ljava/lang/String;)V"⟩]) (fun w h => hts w (List.mem_cons_of_mem _ (List.mem_append_right _ h))) (by decide +kernel) (vx_c (va_Nw.use rfl h6.1) (vx_c (va_Nw.use rfl h6.2.1) (vx_c (va_Nw.use rfl h6.2.2.1) (vx_c (va_Nw.use rfl h6.2.2.2.1) (vx_c (va_Nw.use rfl h6.2.2.2.2) vx_n)))))
  have hS : va_S (va_A [] s.heap.size) s.heap s.heap [] := va_S.rf
  have hP : va_P D vwCl (wX c b LP LF fp ff tp a_row a_choices a_ra_signs a_told a_untold a_byLength a_byRank a_heads l_row l_choices l_ra_signs l_told l_untold l_byLength l_byRank l_heads v_taped v_st_size v_st_options v_st_headingsEnd v_st_headingMarks v_st_sentences v_st_headings v_st_words v_st_lists v_st_names v_mk_used v_fa_inText v_fa_known v_sc_fault v_sc_place v_sc_at v_sc_level v_sc_sentenceWords v_sc_latestName v_me_used v_re_used v_re_written v_re_joint v_re_latestName v_ra_used v_ra_isMade v_ra_isRanked f_tape f_st_signs f_listItems f_listWithin f_mk_kind f_mk_piece f_mk_at f_mk_size f_mk_name f_nameAt f_nameSize f_places f_me_keep f_me_name f_me_gain f_me_leans f_row f_choices f_ra_signs f_told f_untold f_byLength f_byRank f_heads f_p_kind f_p_within f_p_list f_p_words f_p_facts f_p_keep f_p_signs f_fr_kind f_fr_piece f_fr_start f_fr_list f_fr_items f_fr_begun f_fr_worded) s.heap := hP
  refine lv_iload_n hx hb dX9_option_0 rfl (lv_at hl 1 rfl) ?_
  refine lv_if_lt (tgt := 15) hx hb dX9_option_1 (by decide) (fun g1 => ?_) (fun g1 => ?_)
  · have g1 : x_option.toInt < (0 : Int) := (q3_lt rfl (by decide)).mp g1
    exact vx_throwS (p := p) (e := e) (R := { frames := 6, cells := 1, slots := 6, locals := 100 }) (below := below) (meth := meth) (H := s.heap) (locs := []) (cells := 0) (slots := 0) (rest := []) (Qc := va_Qi (fun _ (_ : Unit) => True) (fun _ _ => True) (va_A [] s.heap.size)) (XC := vx_X (fun _ : Unit => True) (fun E _ _ => E = "java/lang/IndexOutOfBoundsException" ∨ E = "java/util/NoSuchElementException") (va_A [] s.heap.size)) (free := va_A [] s.heap.size) (pc := 15) (mc := 1) (ms := 6) (ls := ls) (own := RX9) (cls := "java/lang/IndexOutOfBoundsException") (text := "no such option") (names := ["java/lang/RuntimeException", "java/lang/Exception"]) (ik := 96) (is := 98) (ic := 100) (sa := so) (A := va_A [] s.heap.size) hx hb hst hown (by decide +kernel) (by decide +kernel) (hts (.classLink RX9 96 "java/lang/IndexOutOfBoundsException") (List.mem_of_getElem? (i := 1) rfl)) (hts (.initialized "java/lang/IndexOutOfBoundsException") (List.mem_of_getElem? (i := 2) rfl)) h5 hatI (by decide +kernel) h7 h8 hS (by rw [hml]; exact hl.1) dX9_option_15 dX9_option_18 dX9_option_19 dX9_option_21 dX9_option_24 (fun x h9 => (htab x h9).elim) (by decide) (by decide) (by decide) (by decide) hlocks (fun t ha h1 h2 => ⟨(), trivial, Or.inl rfl, h1, fun q h3 h4 => h2 q h3⟩) (fun z hz => hS.2.2 z hz) (by decide) (by decide)
  · have g1 : ¬ x_option.toInt < (0 : Int) := (not_congr (q3_lt rfl (by decide))).mp g1
    refine lv_iload_n hx hb dX9_option_4 rfl (lv_at hl 1 rfl) ?_
    refine lv_aload_n hx hb dX9_option_5 rfl (lv_at hl 0 rfl) ?_
    refine va_get (D := D) (ci := 9) (v := .ref (b 2)) (C := RX9) (T := TX9) (N := 8) hx hb hts iX9 hown hK hP 0 rfl rfl 2 (by decide) (hts (.fieldLink RX9 20 "ShortTeller" "story" "LShortTeller$Story;") (List.mem_of_getElem? (i := 5) rfl)) (fun _ h9 => h9) rfl dX9_option_6 ?_
    refine va_get (D := D) (ci := 8) (v := .int v_st_options) (C := RX8) (T := TX8) (N := 16) hx hb hts iX8 hown hK hP 2 rfl rfl 3 (by decide) (hts (.fieldLink RX9 90 "ShortTeller$Story" "options" "I") (List.mem_of_getElem? (i := 6) rfl)) (fun _ h9 => h9) rfl dX9_option_9 ?_
    refine lv_icmp_lt (tgt := 25) hx hb dX9_option_12 (by decide) (fun g2 => ?_) (fun g2 => ?_)
    · have g2 : x_option.toInt < v_st_options.toInt := (q3_lt rfl rfl).mp g2
      refine lv_aload_n hx hb dX9_option_25 rfl (lv_at hl 0 rfl) ?_
      refine va_get (D := D) (ci := 9) (v := .ref (b 2)) (C := RX9) (T := TX9) (N := 8) hx hb hts iX9 hown hK hP 0 rfl rfl 2 (by decide) (hts (.fieldLink RX9 20 "ShortTeller" "story" "LShortTeller$Story;") (List.mem_of_getElem? (i := 5) rfl)) (fun _ h9 => h9) rfl dX9_option_26 ?_
      refine va_get (D := D) (ci := 8) (v := .ref (b 4)) (C := RX8) (T := TX8) (N := 16) hx hb hts iX8 hown hK hP 2 rfl rfl 2 (by decide) (hts (.fieldLink RX9 103 "ShortTeller$Story" "pieces" "[LShortTeller$Piece;") (List.mem_of_getElem? (i := 7) rfl)) (fun _ h9 => h9) rfl dX9_option_29 ?_
      refine lv_iload_n hx hb dX9_option_32 rfl (lv_at hl 1 rfl) ?_
      refine va_aldq hx hb hK hP 4 4 rfl rfl (q2_in (by omega) (by omega)) dX9_option_33 ?_
      obtain ⟨w3, mw3, ew3⟩ := hLP (x_option).toNatClampNeg (by show Int.toNat x_option.toInt < 29; omega)
      rw [ew3]
      refine W.eq (g2 := F0 m 34 ls [.ref w3]) rfl ?_
      refine lv_astore_n (lv' := [(3, .ref w3), (0, .ref (b 0)), (1, .int x_option), (2, .int x_what)]) hx hb dX9_option_34 rfl hl (by decide) rfl (fun ls hl => ?_)
      refine lv_iload_n hx hb dX9_option_35 rfl (lv_at hl 3 rfl) ?_
      rcases (show (x_what.toInt < 0 ∨ 3 < x_what.toInt) ∨ x_what.toInt = 0 ∨ x_what.toInt = 1 ∨ x_what.toInt = 2 ∨ x_what.toInt = 3 by omega) with g4 | g4 | g4 | g4 | g4
      · refine lv_tableOut (tgt := 88) hx hb dX9_option_36 g4 (by decide) ?_
        exact vx_throwSN (p := p) (e := e) (R := { frames := 6, cells := 1, slots := 6, locals := 100 }) (below := below) (meth := meth) (H := s.heap) (locs := []) (cells := 0) (slots := 0) (rest := []) (Qc := va_Qi (fun _ (_ : Unit) => True) (fun _ _ => True) (va_A [] s.heap.size)) (XC := vx_X (fun _ : Unit => True) (fun E _ _ => E = "java/lang/IndexOutOfBoundsException" ∨ E = "java/util/NoSuchElementException") (va_A [] s.heap.size)) (free := va_A [] s.heap.size) (pc := 88) (mc := 1) (ms := 6) (ls := ls) (own := RX9) (cls := "java/util/NoSuchElementException") (text := "no such what") (nY := "java/lang/RuntimeException") (names := ["java/lang/Exception"]) (ix := 13) (rx := q9_rx) (ik := 120) (is := 122) (ic := 124) (sa := sn) (A := va_A [] s.heap.size) hx hb hst rfl rfl rfl rfl hown (by decide +kernel) (by decide +kernel) (by decide +kernel) (hts (.classLink RX9 120 "java/util/NoSuchElementException") (List.mem_of_getElem? (i := 3) rfl)) (hts (.initialized "java/util/NoSuchElementException") (List.mem_of_getElem? (i := 4) rfl)) h9s hatN (by decide +kernel) h7 h8 hS (by rw [hml]; exact hl.1) dX9_option_88 dX9_option_91 dX9_option_92 dX9_option_94 dX9_option_97 (fun x h9 => (htab x h9).elim) (by decide) (by decide) (by decide) (by decide) hlocks (fun t ha h1 h2 => ⟨(), trivial, Or.inr rfl, h1, fun q h3 h4 => h2 q h3⟩) (fun z hz => hS.2.2 z hz) (by decide) (by decide)
      · refine lv_tableIn (tgt := 68) (off := 32) hx hb dX9_option_36 (by omega) (by omega) (by rw [g4]; rfl) (by decide) ?_
        refine lv_aload_n hx hb dX9_option_68 rfl (lv_at hl 0 rfl) ?_
        obtain ⟨q5, lq5, hq5⟩ := wX_getP c b LP LF fp ff tp a_row a_choices a_ra_signs a_told a_untold a_byLength a_byRank a_heads l_row l_choices l_ra_signs l_told l_untold l_byLength l_byRank l_heads v_taped v_st_size v_st_options v_st_headingsEnd v_st_headingMarks v_st_sentences v_st_headings v_st_words v_st_lists v_st_names v_mk_used v_fa_inText v_fa_known v_sc_fault v_sc_place v_sc_at v_sc_level v_sc_sentenceWords v_sc_latestName v_me_used v_re_used v_re_written v_re_joint v_re_latestName v_ra_used v_ra_isMade v_ra_isRanked f_tape f_st_signs f_listItems f_listWithin f_mk_kind f_mk_piece f_mk_at f_mk_size f_mk_name f_nameAt f_nameSize f_places f_me_keep f_me_name f_me_gain f_me_leans f_row f_choices f_ra_signs f_told f_untold f_byLength f_byRank f_heads f_p_kind f_p_within f_p_list f_p_words f_p_facts f_p_keep f_p_signs f_fr_kind f_fr_piece f_fr_start f_fr_list f_fr_items f_fr_begun f_fr_worded mw3
        refine va_get (D := D) (ci := 4) (v := .int (f_p_kind w3)) (C := RX4) (T := TX4) (N := 7) hx hb hts iX4 hown hK hP q5 hq5 rfl 0 (by decide) (hts (.fieldLink RX9 107 "ShortTeller$Piece" "kind" "I") (List.mem_of_getElem? (i := 8) rfl)) (fun _ h9 => h9) rfl dX9_option_69 ?_
        refine lv_topi (fun n6 en6 => ?_)
        have tn6 : n6.toInt = (f_p_kind w3).toInt := by rw [en6]
        refine W.widen (k := 1) (n := 6) (Nat.zero_le _) (Nat.zero_le _) (vx_ret ?_)
        exact W.iret hx hb hr (fun t ht hW => ⟨⟨n6, (), rfl, trivial, trivial⟩, hS.F ht⟩) hS.2.2 dX9_option_72
      · refine lv_tableIn (tgt := 73) (off := 37) hx hb dX9_option_36 (by omega) (by omega) (by rw [g4]; rfl) (by decide) ?_
        refine lv_aload_n hx hb dX9_option_73 rfl (lv_at hl 0 rfl) ?_
        obtain ⟨q7, lq7, hq7⟩ := wX_getP c b LP LF fp ff tp a_row a_choices a_ra_signs a_told a_untold a_byLength a_byRank a_heads l_row l_choices l_ra_signs l_told l_untold l_byLength l_byRank l_heads v_taped v_st_size v_st_options v_st_headingsEnd v_st_headingMarks v_st_sentences v_st_headings v_st_words v_st_lists v_st_names v_mk_used v_fa_inText v_fa_known v_sc_fault v_sc_place v_sc_at v_sc_level v_sc_sentenceWords v_sc_latestName v_me_used v_re_used v_re_written v_re_joint v_re_latestName v_ra_used v_ra_isMade v_ra_isRanked f_tape f_st_signs f_listItems f_listWithin f_mk_kind f_mk_piece f_mk_at f_mk_size f_mk_name f_nameAt f_nameSize f_places f_me_keep f_me_name f_me_gain f_me_leans f_row f_choices f_ra_signs f_told f_untold f_byLength f_byRank f_heads f_p_kind f_p_within f_p_list f_p_words f_p_facts f_p_keep f_p_signs f_fr_kind f_fr_piece f_fr_start f_fr_list f_fr_items f_fr_begun f_fr_worded mw3
        refine va_get (D := D) (ci := 4) (v := .int (f_p_within w3)) (C := RX4) (T := TX4) (N := 7) hx hb hts iX4 hown hK hP q7 hq7 rfl 1 (by decide) (hts (.fieldLink RX9 112 "ShortTeller$Piece" "within" "I") (List.mem_of_getElem? (i := 9) rfl)) (fun _ h9 => h9) rfl dX9_option_74 ?_
        refine lv_topi (fun n8 en8 => ?_)
        have tn8 : n8.toInt = (f_p_within w3).toInt := by rw [en8]
        refine W.widen (k := 1) (n := 6) (Nat.zero_le _) (Nat.zero_le _) (vx_ret ?_)
        exact W.iret hx hb hr (fun t ht hW => ⟨⟨n8, (), rfl, trivial, trivial⟩, hS.F ht⟩) hS.2.2 dX9_option_77
      · refine lv_tableIn (tgt := 78) (off := 42) hx hb dX9_option_36 (by omega) (by omega) (by rw [g4]; rfl) (by decide) ?_
        refine lv_aload_n hx hb dX9_option_78 rfl (lv_at hl 0 rfl) ?_
        obtain ⟨q9, lq9, hq9⟩ := wX_getP c b LP LF fp ff tp a_row a_choices a_ra_signs a_told a_untold a_byLength a_byRank a_heads l_row l_choices l_ra_signs l_told l_untold l_byLength l_byRank l_heads v_taped v_st_size v_st_options v_st_headingsEnd v_st_headingMarks v_st_sentences v_st_headings v_st_words v_st_lists v_st_names v_mk_used v_fa_inText v_fa_known v_sc_fault v_sc_place v_sc_at v_sc_level v_sc_sentenceWords v_sc_latestName v_me_used v_re_used v_re_written v_re_joint v_re_latestName v_ra_used v_ra_isMade v_ra_isRanked f_tape f_st_signs f_listItems f_listWithin f_mk_kind f_mk_piece f_mk_at f_mk_size f_mk_name f_nameAt f_nameSize f_places f_me_keep f_me_name f_me_gain f_me_leans f_row f_choices f_ra_signs f_told f_untold f_byLength f_byRank f_heads f_p_kind f_p_within f_p_list f_p_words f_p_facts f_p_keep f_p_signs f_fr_kind f_fr_piece f_fr_start f_fr_list f_fr_items f_fr_begun f_fr_worded mw3
        refine va_get (D := D) (ci := 4) (v := .int (f_p_words w3)) (C := RX4) (T := TX4) (N := 7) hx hb hts iX4 hown hK hP q9 hq9 rfl 3 (by decide) (hts (.fieldLink RX9 115 "ShortTeller$Piece" "words" "I") (List.mem_of_getElem? (i := 10) rfl)) (fun _ h9 => h9) rfl dX9_option_79 ?_
        refine lv_topi (fun n10 en10 => ?_)
        have tn10 : n10.toInt = (f_p_words w3).toInt := by rw [en10]
        refine W.widen (k := 1) (n := 6) (Nat.zero_le _) (Nat.zero_le _) (vx_ret ?_)
        exact W.iret hx hb hr (fun t ht hW => ⟨⟨n10, (), rfl, trivial, trivial⟩, hS.F ht⟩) hS.2.2 dX9_option_82
      · refine lv_tableIn (tgt := 83) (off := 47) hx hb dX9_option_36 (by omega) (by omega) (by rw [g4]; rfl) (by decide) ?_
        refine lv_aload_n hx hb dX9_option_83 rfl (lv_at hl 0 rfl) ?_
        obtain ⟨q11, lq11, hq11⟩ := wX_getP c b LP LF fp ff tp a_row a_choices a_ra_signs a_told a_untold a_byLength a_byRank a_heads l_row l_choices l_ra_signs l_told l_untold l_byLength l_byRank l_heads v_taped v_st_size v_st_options v_st_headingsEnd v_st_headingMarks v_st_sentences v_st_headings v_st_words v_st_lists v_st_names v_mk_used v_fa_inText v_fa_known v_sc_fault v_sc_place v_sc_at v_sc_level v_sc_sentenceWords v_sc_latestName v_me_used v_re_used v_re_written v_re_joint v_re_latestName v_ra_used v_ra_isMade v_ra_isRanked f_tape f_st_signs f_listItems f_listWithin f_mk_kind f_mk_piece f_mk_at f_mk_size f_mk_name f_nameAt f_nameSize f_places f_me_keep f_me_name f_me_gain f_me_leans f_row f_choices f_ra_signs f_told f_untold f_byLength f_byRank f_heads f_p_kind f_p_within f_p_list f_p_words f_p_facts f_p_keep f_p_signs f_fr_kind f_fr_piece f_fr_start f_fr_list f_fr_items f_fr_begun f_fr_worded mw3
        refine va_get (D := D) (ci := 4) (v := .int (f_p_facts w3)) (C := RX4) (T := TX4) (N := 7) hx hb hts iX4 hown hK hP q11 hq11 rfl 4 (by decide) (hts (.fieldLink RX9 118 "ShortTeller$Piece" "facts" "I") (List.mem_of_getElem? (i := 11) rfl)) (fun _ h9 => h9) rfl dX9_option_84 ?_
        refine lv_topi (fun n12 en12 => ?_)
        have tn12 : n12.toInt = (f_p_facts w3).toInt := by rw [en12]
        refine W.widen (k := 1) (n := 6) (Nat.zero_le _) (Nat.zero_le _) (vx_ret ?_)
        exact W.iret hx hb hr (fun t ht hW => ⟨⟨n12, (), rfl, trivial, trivial⟩, hS.F ht⟩) hS.2.2 dX9_option_87
    · have g2 : ¬ x_option.toInt < v_st_options.toInt := (not_congr (q3_lt rfl rfl)).mp g2
      exact vx_throwS (p := p) (e := e) (R := { frames := 6, cells := 1, slots := 6, locals := 100 }) (below := below) (meth := meth) (H := s.heap) (locs := []) (cells := 0) (slots := 0) (rest := []) (Qc := va_Qi (fun _ (_ : Unit) => True) (fun _ _ => True) (va_A [] s.heap.size)) (XC := vx_X (fun _ : Unit => True) (fun E _ _ => E = "java/lang/IndexOutOfBoundsException" ∨ E = "java/util/NoSuchElementException") (va_A [] s.heap.size)) (free := va_A [] s.heap.size) (pc := 15) (mc := 1) (ms := 6) (ls := ls) (own := RX9) (cls := "java/lang/IndexOutOfBoundsException") (text := "no such option") (names := ["java/lang/RuntimeException", "java/lang/Exception"]) (ik := 96) (is := 98) (ic := 100) (sa := so) (A := va_A [] s.heap.size) hx hb hst hown (by decide +kernel) (by decide +kernel) (hts (.classLink RX9 96 "java/lang/IndexOutOfBoundsException") (List.mem_of_getElem? (i := 1) rfl)) (hts (.initialized "java/lang/IndexOutOfBoundsException") (List.mem_of_getElem? (i := 2) rfl)) h5 hatI (by decide +kernel) h7 h8 hS (by rw [hml]; exact hl.1) dX9_option_15 dX9_option_18 dX9_option_19 dX9_option_21 dX9_option_24 (fun x h9 => (htab x h9).elim) (by decide) (by decide) (by decide) (by decide) hlocks (fun t ha h1 h2 => ⟨(), trivial, Or.inl rfl, h1, fun q h3 h4 => h2 q h3⟩) (fun z hz => hS.2.2 z hz) (by decide) (by decide)
theorem q9_to {D : va_G} {cl} {Ws} {H : Heap} {t : State} (ht : t.heap = H) (h : va_P D cl Ws H) : va_P D cl Ws t.heap := by rw [ht]; exact h
set_option maxHeartbeats 8000000 in
set_option maxRecDepth 100000 in
theorem k_lopt2 (l : Launch) (hst : l.stackTraces = false) (D : va_G) (c : Nat → ClassId) (sz so sn : Nat) (b : Nat → Nat) (LP LF : List Nat) (fp ff : Nat → Option Nat) (tp a_row a_choices a_ra_signs a_told a_untold a_byLength a_byRank a_heads l_row l_choices l_ra_signs l_told l_untold l_byLength l_byRank l_heads : Nat) (v_taped v_st_size v_st_options v_st_headingsEnd v_st_headingMarks v_st_sentences v_st_headings v_st_words v_st_lists v_st_names v_mk_used v_fa_inText v_fa_known v_sc_fault v_sc_place v_sc_at v_sc_level v_sc_sentenceWords v_sc_latestName v_me_used v_re_used v_re_written v_re_joint v_re_latestName v_ra_used v_ra_isMade v_ra_isRanked : Int32) (f_tape f_st_signs f_listItems f_listWithin f_mk_kind f_mk_piece f_mk_at f_mk_size f_mk_name f_nameAt f_nameSize f_places f_me_keep f_me_name f_me_gain f_me_leans f_row f_choices f_ra_signs f_told f_untold f_byLength f_byRank f_heads f_p_kind f_p_within f_p_list f_p_words f_p_facts f_p_keep f_p_signs f_fr_kind f_fr_piece f_fr_start f_fr_list f_fr_items f_fr_begun f_fr_worded : Nat → Int32) (hLP : ∀ j : Nat, j < 29 → ∃ w, w ∈ LP ∧ fp j = some w) (hop : v_st_options.toInt ≤ 14) (x_option x_what : Int32) (o : Nat) (fo : Nat → Int64) : vx_Met l yL_option w_lopt2 ({ frames := 7, cells := 1, slots := 6, locals := 130 }) (o2_P D c ([(o, .inl (c 3, 1, .inr (.inl fo)))] ++ wX c b LP LF fp ff tp a_row a_choices a_ra_signs a_told a_untold a_byLength a_byRank a_heads l_row l_choices l_ra_signs l_told l_untold l_byLength l_byRank l_heads v_taped v_st_size v_st_options v_st_headingsEnd v_st_headingMarks v_st_sentences v_st_headings v_st_words v_st_lists v_st_names v_mk_used v_fa_inText v_fa_known v_sc_fault v_sc_place v_sc_at v_sc_level v_sc_sentenceWords v_sc_latestName v_me_used v_re_used v_re_written v_re_joint v_re_latestName v_ra_used v_ra_isMade v_ra_isRanked f_tape f_st_signs f_listItems f_listWithin f_mk_kind f_mk_piece f_mk_at f_mk_size f_mk_name f_nameAt f_nameSize f_places f_me_keep f_me_name f_me_gain f_me_leans f_row f_choices f_ra_signs f_told f_untold f_byLength f_byRank f_heads f_p_kind f_p_within f_p_list f_p_words f_p_facts f_p_keep f_p_signs f_fr_kind f_fr_piece f_fr_start f_fr_list f_fr_items f_fr_begun f_fr_worded) sz [.ref (b 0), .int x_option, .int x_what, .ref o] so sn (va_A [(o, .inl (c 3, 1, .inr (.inl fo)))] sz)) (va_Qi (fun _ (_ : Nat → Int64) => True) (fun u t => va_P D vwCl [(o, .inl (c 3, 1, .inr (.inl u)))] t.heap) (va_A [(o, .inl (c 3, 1, .inr (.inl fo)))] sz)) (vx_X (fun _ : Unit => False) (fun _ _ _ => True) (va_A [(o, .inl (c 3, 1, .inr (.inl fo)))] sz)) 1 6 (va_A [(o, .inl (c 3, 1, .inr (.inl fo)))] sz) := by
  refine vx_ofWH (cc := cL_option) (maxL := 5) (ret := some .int) (hh := [(0, 10, 13, 13), (0, 10, 17, 15)]) (by decide) rfl ?_
  intro p e s m args below meth cd s₁ B hml hv
  obtain ⟨rfl, hsz, hP, hK, hD0, hE⟩ := hv
  subst hsz
  have hx := B.exec
  have hb := B.bytes
  have hr := B.returns
  have hts := atoms_spec (ws := w_lopt2) B.pre
  have hown : s.vm.findClass RL = some m.cls := findClass_of_methodNamed B.named
  have hlocks := B.notSynchronized
  have htab : cd.exceptionTable.toList = tableOf [(0, 10, 13, 13), (0, 10, 17, 15)] := vx_table (x := yL_option) B (hts _ List.mem_cons_self)
  have hl := lv_entry ([.ref (b 0), .int x_option, .int x_what, .ref o]) (n := 5) (Nat.le_of_ble_eq_true rfl)
  rw [lg_entry_eq]
  generalize (lg_sl ([.ref (b 0), .int x_option, .int x_what, .ref o]) ++ List.replicate (5 - (lg_sl ([.ref (b 0), .int x_option, .int x_what, .ref o])).length) Slot.unset).toArray = ls at hl ⊢
  have hl : lv_has ls 5 [(0, .ref (b 0)), (1, .int x_option), (2, .int x_what), (3, .ref o)] := hl
  have hsub : ∀ q, va_A [] s.heap.size q → (va_A [(o, .inl (c 3, 1, .inr (.inl fo)))] s.heap.size) q := fun q h => by
    rcases h with ⟨k, e, h⟩ | h
    · exact absurd h (by simp)
    · exact Or.inr h
  have hDO : va_D ((va_A [(o, .inl (c 3, 1, .inr (.inl fo)))] s.heap.size)) [(o, .inl (c 3, 1, .inr (.inl fo)))] := ⟨(q5_Dl hD0).1, fun k q hk => va_A.in hk⟩
  refine lv_aload_n hx hb dL_option_0 rfl (lv_at hl 3 rfl) ?_
  refine lv_iconst (v := 0) hx hb dL_option_1 (by decide) ?_
  refine lv_aload_n hx hb dL_option_2 rfl (lv_at hl 0 rfl) ?_
  refine lv_iload_n hx hb dL_option_3 rfl (lv_at hl 1 rfl) ?_
  refine lv_iload_n hx hb dL_option_4 rfl (lv_at hl 2 rfl) ?_
  refine vx_calli (A0 := (va_A [(o, .inl (c 3, 1, .inr (.inl fo)))] s.heap.size)) (H0 := s.heap) (vx_runV (As := [.int x_option, .int x_what]) (rest := [.int 0, .ref o]) ⟨hx, hb, hml, hown, hts⟩ (k_opt2 l hst D c s.heap.size so sn b LP LF fp ff tp a_row a_choices a_ra_signs a_told a_untold a_byLength a_byRank a_heads l_row l_choices l_ra_signs l_told l_untold l_byLength l_byRank l_heads v_taped v_st_size v_st_options v_st_headingsEnd v_st_headingMarks v_st_sentences v_st_headings v_st_words v_st_lists v_st_names v_mk_used v_fa_inText v_fa_known v_sc_fault v_sc_place v_sc_at v_sc_level v_sc_sentenceWords v_sc_latestName v_me_used v_re_used v_re_written v_re_joint v_re_latestName v_ra_used v_ra_isMade v_ra_isRanked f_tape f_st_signs f_listItems f_listWithin f_mk_kind f_mk_piece f_mk_at f_mk_size f_mk_name f_nameAt f_nameSize f_places f_me_keep f_me_name f_me_gain f_me_leans f_row f_choices f_ra_signs f_told f_untold f_byLength f_byRank f_heads f_p_kind f_p_within f_p_list f_p_words f_p_facts f_p_keep f_p_signs f_fr_kind f_fr_piece f_fr_start f_fr_list f_fr_items f_fr_begun f_fr_worded hLP hop x_option x_what) (cwV 2 hts g_lopt2 rfl rfl rfl (by decide +kernel) ⟨Nat.le_of_ble_eq_true rfl, Nat.le_of_ble_eq_true rfl⟩) ⟨o2_blind, va_recv hK (q7_r hP) (ci := 9) (q0 := 0) rfl rfl, o2_pre (q7_r hP) hK (q7_Dr hD0) ⟨hE.1, hE.2.1, hE.2.2.1, hE.2.2.2.1, hE.2.2.2.2.1.narrow hsub, hE.2.2.2.2.2.narrow hsub⟩⟩ rfl rfl hl.1 rfl (lv_room (Nat.le_of_ble_eq_true rfl)) dL_option_5 ⟨Nat.le_of_ble_eq_true rfl, Nat.le_of_ble_eq_true rfl⟩) va_S.rf (fun q _ h => hsub q h) (fun q h => hsub q h) (fun q _ h => hsub q h) (fun E ce q9 u t H1 locs1 ht hvm hp hB hz hk hS1 hc hv9 hcl => ?_) (fun r u t H1 locs1 ht hvm hw _ hz hk hS1 => ?_)
  · have hPO : va_P D vwCl [(o, .inl (c 3, 1, .inr (.inl fo)))] H1 := fun k q hq => (q7_l hP k q hq).kept (hk q.1 ((q7_l hP k q hq).lt) (fun h => by
      rcases h with ⟨k9, e9, h⟩ | h
      · exact absurd h (by simp)
      · exact Nat.not_le.mpr ((q7_l hP k q hq).lt) h))
    have hB : E = "java/lang/IndexOutOfBoundsException" ∨ E = "java/util/NoSuchElementException" := hB
    rcases hB with hB | hB
    · subst hB
      refine y1_catch (own := RL) (name := "java/lang/IndexOutOfBoundsException") hown ⟨0, 10, 13, 13⟩ [⟨0, 10, 17, 15⟩] (by rw [htab]; rfl) (by decide) (by decide) (hts (.classLink RL 13 "java/lang/IndexOutOfBoundsException") (List.mem_of_getElem? (i := 1) rfl)) (va_Nw.use rfl hE.2.2.1.1) hc hv9 hcl ?_
      refine lv_astore (lv' := [(4, .ref q9), (0, .ref (b 0)), (1, .int x_option), (2, .int x_what), (3, .ref o)]) hx hb dL_option_13 hl (by decide) rfl (fun ls hl => ?_)
      refine lv_iconst (v := 1) hx hb dL_option_15 (by decide) ?_
      refine W.widen (k := 1) (n := 6) (Nat.le_of_ble_eq_true rfl) (Nat.le_of_ble_eq_true rfl) (vx_ret ?_)
      exact W.iret hx hb hr (fun t ht hW => ⟨⟨1, fo, rfl, trivial, q9_to ht hPO⟩, hS1.F ht⟩) hS1.2.2 dL_option_16
    · subst hB
      refine y2_catch (own := RL) (n0 := "java/lang/IndexOutOfBoundsException") (name := "java/util/NoSuchElementException") hown ⟨0, 10, 13, 13⟩ ⟨0, 10, 17, 15⟩ [] (by rw [htab]; rfl) (by decide) (by decide) (hts (.classLink RL 13 "java/lang/IndexOutOfBoundsException") (List.mem_of_getElem? (i := 1) rfl)) hE.2.2.2.1.use (by decide) (by decide) (hts (.classLink RL 15 "java/util/NoSuchElementException") (List.mem_of_getElem? (i := 2) rfl)) (va_Nw.use rfl hE.2.2.1.2.1) hc hv9 hcl ?_
      refine lv_astore (lv' := [(4, .ref q9), (0, .ref (b 0)), (1, .int x_option), (2, .int x_what), (3, .ref o)]) hx hb dL_option_17 hl (by decide) rfl (fun ls hl => ?_)
      refine lv_iconst (v := 2) hx hb dL_option_19 (by decide) ?_
      refine W.widen (k := 1) (n := 6) (Nat.le_of_ble_eq_true rfl) (Nat.le_of_ble_eq_true rfl) (vx_ret ?_)
      exact W.iret hx hb hr (fun t ht hW => ⟨⟨2, fo, rfl, trivial, q9_to ht hPO⟩, hS1.F ht⟩) hS1.2.2 dL_option_20
  · have hPO : va_P D vwCl [(o, .inl (c 3, 1, .inr (.inl fo)))] H1 := fun k q hq => (q7_l hP k q hq).kept (hk q.1 ((q7_l hP k q hq).lt) (fun h => by
      rcases h with ⟨k9, e9, h⟩ | h
      · exact absurd h (by simp)
      · exact Nat.not_le.mpr ((q7_l hP k q hq).lt) h))
    refine lv_i2l hx hb dL_option_8 rfl ?_
    refine va_last hx hb hK hPO hDO hS1 0 3 rfl rfl (q2_in (by decide) (by decide)) dL_option_9 (fun H locs hPO hDO hS1 => ?_)
    refine lv_goto (tgt := 21) hx hb dL_option_10 (by decide) ?_
    refine lv_iconst (v := 0) hx hb dL_option_21 (by decide) ?_
    refine W.widen (k := 1) (n := 6) (Nat.le_of_ble_eq_true rfl) (Nat.le_of_ble_eq_true rfl) (vx_ret ?_)
    exact W.iret hx hb hr (fun t ht hW => ⟨⟨0, _, rfl, trivial, q9_to ht hPO⟩, hS1.F ht⟩) hS1.2.2 dL_option_22
