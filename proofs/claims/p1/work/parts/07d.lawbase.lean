def R_law : String := "ShortTellerLaw"
def lw_P (b : Addr) (xs : List Int32) (args : Array Value) (s : State) : Prop := args = #[.ref b] ∧ s.IntsAt b xs ∧ xs.length ≤ 6 ∧ (Jvm.Cond.and given_1 narrow_1).before args s = true
def lw_Q (_ : Array Value) (s : State) (o : Outcome) (t : State) : Prop := o = .returned (some (.int 1)) ∧ Framed s o t [] 600002 7302232
def lw_Z (below : List Frame) (a : Array Value) (s : State) : State → Prop := fun t => ∃ o, t.status = .running ∧ Ended t below o ∧ lw_Q a s o t
/-- the law's own end, with 1 on the stack, nothing written that was there before, its room as the claim has it -/
theorem lw_ret {p : Program} {l : Launch} {e : Env} {s : State} {m : MethodId} {below : List Frame} {meth : Method} {c : Code} {b : Nat} (hx : p.tables.exec = Jvm.exec) (hb : c.code = code) (hr : meth.sig.returnType = ret) (hlocks : meth.locks = false) {pc : Nat} {H : Heap} {ls : Array Slot} (hdg : decode code pc = .ok (.ireturn, 1)) : W p l e room_1 s m #[Value.ref b] below meth c H [] 600002 7302232 (lw_Z below #[Value.ref b] s) (F0 m pc ls [.int 1]) := by
  intro T hT X
  obtain ⟨fs, hret, hrun, hended, hW, hframe⟩ := X.leave (v := some (.int 1)) (hlocks := hlocks) (fun h => by rw [hr] at h; cases h)
  have hmeth' : T.vm.method? m = some meth := X.method'
  refine ⟨T.setFrames fs, ?_, .returned (some (.int 1)), hrun, hended, rfl, ⟨_, rfl⟩, hW, hframe⟩
  jvm_step X.here [X.here.top, hx, hb, hdg, hmeth', hr, ret, narrow_b1]
  (try refine ⟨rfl, ?_⟩); (try refine ⟨rfl, ?_⟩)
  first | (intro acts; rw [hret _ acts rfl rfl rfl]) | rw [hret _ _ rfl rfl rfl]
  exact Steps.refl _
/-- what holds at the law's entry: the machine, the code, the tables' words (any of lw_tbl by 'hts w (by decide +kernel)'), the script of L ints xs at the cell b, what the Statement gives of the start (any of its parts by flat_of_before) -/
def lw_At (p : Program) (s : State) (m : MethodId) (meth : Method) (c : Code) (b L : Nat) (xs : Nat → Int32) : Prop :=
  p.tables.exec = Jvm.exec ∧ c.code = code ∧ meth.sig.returnType = ret ∧ c.maxLocals = 7 ∧ s.vm.findClass R_law = some m.cls ∧ (∀ w ∈ lw_tbl, w.before #[Value.ref b] s = true) ∧ va_X b L xs s s.heap ∧ b < s.heap.size ∧ meth.locks = false ∧ (Jvm.Cond.and given_1 narrow_1).before #[Value.ref b] s = true
theorem z_lt (a b : Int32) : a < b ↔ a.toInt < b.toInt := Int32.lt_iff_toInt_lt
theorem z_le (a b : Int32) : a ≤ b ↔ a.toInt ≤ b.toInt := Int32.le_iff_toInt_le
theorem z_eq (a b : Int32) : a = b ↔ a.toInt = b.toInt := Int32.toInt_inj.symm
theorem z_0 : (0 : Int32).toInt = 0 := by decide
theorem z_1 : (1 : Int32).toInt = 1 := by decide
theorem n_z0 {x : Int32} (h1 : ¬ x < 0) (h2 : x ≤ 0) : x = 0 := by rw [z_lt, z_0] at h1; rw [z_le, z_0] at h2; rw [z_eq, z_0]; omega
theorem n_ge1 {x : Int32} (h1 : ¬ x < 0) (h2 : ¬ x = 0) : (1 : Int32) ≤ x := by rw [z_lt, z_0] at h1; rw [z_eq, z_0] at h2; rw [z_le, z_1]; omega
theorem n_nlt1 {x : Int32} (h1 : (1 : Int32) ≤ x) : ¬ x < 1 := by rw [z_le, z_1] at h1; rw [z_lt, z_1]; omega
theorem n_ge0 {x : Int32} (h1 : ¬ x < 0) : (0 : Int32) ≤ x := by rw [z_lt, z_0] at h1; rw [z_le, z_0]; omega
theorem n_nlt0 {x : Int32} (h1 : (0 : Int32) ≤ x) : ¬ x < 0 := by rw [z_le, z_0] at h1; rw [z_lt, z_0]; omega
theorem n_clamp {x : Int32} (h1 : ¬ x < 0) (h2 : ¬ (31 : Int32) ≤ x) : x.toNatClampNeg < 31 := by
  rw [z_lt, z_0] at h1
  rw [z_le, show (31 : Int32).toInt = 31 by decide] at h2
  show x.toInt.toNat < 31
  omega
theorem n_ush {x : Int32} (h : ¬ x = 0) : ¬ ((x.toUInt32 >>> ((0 : Int32).toUInt32 &&& Int32.toUInt32 31)).toInt32) = (0 : Int32) := fun q => h (by
  have h1 := pk_ushr x 0 0 (by decide)
  rw [q] at h1
  have h2 : x.toBitVec.toNat = 0 := by
    have h3 : (0 : Int32).toBitVec.toNat = 0 := by decide
    rw [h3] at h1
    omega
  exact Int32.toBitVec_inj.mp (BitVec.eq_of_toNat_eq (by rw [h2]; rfl)))
theorem n_sw {x : Int32} (h0 : ¬ x = 0) (h1 : ¬ x = 1) : Op.lookupswitch.offset [(0, 27), (1, 35)] 43 x.toInt = 43 := by rw [lv_osw h0 (by decide), lv_osw h1 (by decide)]; rfl
theorem n_out {x : Int32} (h0 : ¬ x = 0) (h1 : ¬ x = 1) (h2 : ¬ x = 2) (h3 : ¬ x = 3) (h4 : ¬ x = 4) (h5 : ¬ x = 5) (h6 : ¬ x = 6) (h7 : ¬ x = 7) : x.toInt < 0 ∨ 7 < x.toInt := by
  have e0 := lv_neT h0 (a := 0) (by decide)
  have e1 := lv_neT h1 (a := 1) (by decide)
  have e2 := lv_neT h2 (a := 2) (by decide)
  have e3 := lv_neT h3 (a := 3) (by decide)
  have e4 := lv_neT h4 (a := 4) (by decide)
  have e5 := lv_neT h5 (a := 5) (by decide)
  have e6 := lv_neT h6 (a := 6) (by decide)
  have e7 := lv_neT h7 (a := 7) (by decide)
  omega
section LB
variable {p : Program} {e : Env} {s : State} {m : MethodId} {below : List Frame} {meth : Method} {cd : Code} {l : Launch} {b L : Nat} {xs : Nat → Int32} {A : Nat → Prop}
theorem q1_sld {R : Room} {args : Array Value} {H H0 : Heap} {locs : List Loc} {cells slots : Nat} {Q : State → Prop} {pc : Nat} {ls : Array Slot} {rest : List Value} {cc : ByteArray} (hexec : p.tables.exec = Jvm.exec) (hb : cd.code = cc) (hX : va_X b L xs s H0) (hbl : b < H0.size) (hbA : ¬ A b) (hS : va_S A H0 H locs) {i v : Int32} {K : Nat} (hk : i.toNatClampNeg = K) (h0 : ¬ i < 0) (h1 : K < L) (hv : xs K = v) (hdg : decode cc pc = .ok (.iaload, 1))
    (kk : W p l e R s m args below meth cd H locs cells slots Q (F0 m (pc + 1) ls (.int v :: rest))) : W p l e R s m args below meth cd H locs cells slots Q (F0 m pc ls (.int i :: .ref b :: rest)) := by
  refine va_sld hexec hb hX hbl hbA hS (q1_vp hk h0 h1) hdg ?_
  rw [hk, hv]; exact kk
theorem law_fin (C0 : lw_At p s m meth cd b L xs) (hAb : ∀ q, A q → s.heap.size ≤ q) (H : Heap) (locs : List Loc) (hS : va_S A s.heap H locs) (ls : Array Slot) (cells slots : Nat) (h1 : cells ≤ 600002) (h2 : slots ≤ 7302232) : W p l e room_1 s m #[Value.ref b] below meth cd H locs cells slots (lw_Z below #[Value.ref b] s) (F0 m 669 ls []) := by
  obtain ⟨hx, hb, hr, hml, hown, hts, hX, hbl, hlocks, hgv⟩ := id C0
  refine lv_iconst (v := 1) hx hb dL_law_669 (by decide) ?_
  refine va_forget (fun q h => hAb _ (hS.2.2 q h)) ?_
  refine W.widen (k := 600002) (n := 7302232) h1 h2 ?_
  exact lw_ret hx hb hr hlocks dL_law_670
theorem law_tail (C0 : lw_At p s m meth cd b 6 xs) (hA : ∀ q, s.heap.size ≤ q → A q) (hbA : ¬ A b) (hAb : ∀ q, A q → s.heap.size ≤ q) (H : Heap) (locs : List Loc) (hS : va_S A s.heap H locs) (ls : Array Slot) (hl : lv_has ls 7 [(4, .int 0), (0, .ref b)]) (cells slots : Nat) (h1 : cells ≤ 600002) (h2 : slots ≤ 7302232) : W p l e room_1 s m #[Value.ref b] below meth cd H locs cells slots (lw_Z below #[Value.ref b] s) (F0 m 663 ls []) := by
  obtain ⟨hx, hb, hr, hml, hown, hts, hX, hbl, hlocks, hgv⟩ := id C0
  refine lv_iinc (v := 6) (lv' := [(4, .int 6), (0, .ref b)]) hx hb dL_law_663 hl (k := 0) rfl (by decide) (by decide) rfl (fun ls hl => ?_)
  refine lv_goto (tgt := 23) hx hb dL_law_666 (by decide) ?_
  refine lv_iload hx hb dL_law_23 (lv_at hl 0 rfl) ?_
  refine lv_aload_n hx hb dL_law_25 rfl (lv_at hl 1 rfl) ?_
  refine va_slen hx hb hX hbl hbA hS dL_law_26 ?_
  refine lv_bipush (v := 6) hx hb dL_law_27 (by decide) ?_
  refine lv_isub hx hb dL_law_29 ?_
  refine q1_top (v := 0) (by decide) ?_
  refine lv_icmp_gt (tgt := 669) hx hb dL_law_30 (by decide) (fun _ => ?_) (fun h9 => absurd (by decide) h9)
  exact law_fin C0 hAb H locs hS ls cells slots h1 h2
theorem law_short (C0 : lw_At p s m meth cd b L xs) (hL : Int32.ofNat L - 6 < 0) (hbA : ¬ A b) (hAb : ∀ q, A q → s.heap.size ≤ q) (H : Heap) (locs : List Loc) (hS : va_S A s.heap H locs) (ls : Array Slot) (hl : lv_has ls 7 [(4, .int 0), (0, .ref b)]) (cells slots : Nat) (h1 : cells ≤ 600002) (h2 : slots ≤ 7302232) : W p l e room_1 s m #[Value.ref b] below meth cd H locs cells slots (lw_Z below #[Value.ref b] s) (F0 m 23 ls []) := by
  obtain ⟨hx, hb, hr, hml, hown, hts, hX, hbl, hlocks, hgv⟩ := id C0
  refine lv_iload hx hb dL_law_23 (lv_at hl 0 rfl) ?_
  refine lv_aload_n hx hb dL_law_25 rfl (lv_at hl 1 rfl) ?_
  refine va_slen hx hb hX hbl hbA hS dL_law_26 ?_
  refine lv_bipush (v := 6) hx hb dL_law_27 (by decide) ?_
  refine lv_isub hx hb dL_law_29 ?_
  refine lv_icmp_gt (tgt := 669) hx hb dL_law_30 (by decide) (fun _ => ?_) (fun h9 => absurd hL h9)
  exact law_fin C0 hAb H locs hS ls cells slots h1 h2
end LB
theorem hL_io : GoodIn lw_tbl (o1_at.filter goodWord) := goodIn_t _ [(1, 13), (4, 175), (4, 184), (4, 187), (4, 190), (4, 192), (4, 176), (4, 177), (1, 25), (1, 26), (4, 178), (4, 183), (4, 188), (4, 208), (4, 165), (4, 209), (4, 167), (4, 210), (4, 169), (4, 179), (4, 181), (4, 171), (4, 204), (4, 205), (4, 207), (4, 171), (4, 195), (4, 196), (4, 197), (4, 198), (4, 198), (4, 199), (4, 200), (4, 201), (4, 201), (4, 202), (4, 203), (4, 204), (4, 194), (4, 154), (4, 162), (4, 163), (4, 164), (4, 166), (4, 168), (4, 170), (4, 174), (4, 173), (4, 172)] rfl (by decide +kernel)
theorem hL_lopt : GoodIn lw_tbl (va_wsS RL 35 yL_option w_lopt) := goodIn_app (goodIn_t _ [(4, 144), (4, 145), (1, 0)] rfl (by decide +kernel)) (goodIn_ca (goodIn_ca (goodIn_ca (goodIn_t _ [(4, 146), (4, 147), (4, 149), (4, 150), (4, 151), (1, 1), (4, 152), (4, 153), (1, 16), (2, 129), (1, 114)] rfl (by decide +kernel)) hL_c9) hL_c8) hL_io)
