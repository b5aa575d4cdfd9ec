/-! ===== states of the reference's parser ===== -/
theorem q4_wd_e (x : Int32) : q4_wd x = e_wI x.toInt := by
  obtain ⟨z, hz⟩ : ∃ z, z = x.toInt := ⟨_, rfl⟩
  unfold q4_wd q4_ow
  rw [← hz]
  by_cases h : z = 40 ∨ z = 41 ∨ z = 123 ∨ z = 124 ∨ z = 125 ∨ z = 60 ∨ z = 62 ∨ z = 126 ∨ z = 42 ∨ z = 61 ∨ z = 46
  · rw [if_pos h, if_neg (fun h9 => absurd h9.2.2 (by decide))]; exact e_wI_0 (by omega)
  · rw [if_neg h]
    by_cases h2 : 33 ≤ z ∧ z ≤ 126
    · rw [if_pos ⟨h2.1, h2.2, rfl⟩]; exact e_wI_1 (by omega)
    · rw [if_neg (fun h9 => h2 ⟨h9.1, h9.2.1⟩)]; exact e_wI_0 (by omega)
theorem q4_swe {r : Int} {x : Int32} {A B : Prop} (h : (r = 0 ∧ A) ∨ (B ∧ r = q4_wd x)) : (r = 0 ∧ A) ∨ (B ∧ r = e_wI x.toInt) := by rw [q4_wd_e] at h; exact h
theorem e_see {c C : Int} {A B : Prop} (h : (c = -1 ∧ A) ∨ (B ∧ c = C)) : (c = -1 ∧ A) ∨ (B ∧ c = C ∧ e_pI c = e_pI C ∧ e_wI c = e_wI C) := by
  rcases h with h | ⟨h, e⟩
  · exact Or.inl h
  · subst e; exact Or.inr ⟨h, rfl, rfl, rfl⟩
theorem e_pI_d (c : Int) : (e_pI c = 1 ∧ (c = 40 ∨ c = 123 ∨ c = 60 ∨ c = 42 ∨ c = 126 ∨ e_wI c = 1)) ∨ (e_pI c = 0 ∧ c ≠ 40 ∧ c ≠ 123 ∧ c ≠ 60 ∧ c ≠ 42 ∧ c ≠ 126 ∧ e_wI c = 0) := by
  have hw := e_wI_b c
  unfold e_pI
  split
  · rename_i h; left; exact ⟨rfl, by omega⟩
  · rename_i h; rcases hw with hw | hw
    · right; exact ⟨hw, by omega⟩
    · left; exact ⟨hw, by omega⟩
theorem e_wI_ne {c : Int} (h : e_wI c = 1) : 33 ≤ c ∧ c ≤ 126 ∧ c ≠ 40 ∧ c ≠ 123 ∧ c ≠ 60 ∧ c ≠ 42 ∧ c ≠ 126 := by
  unfold e_wI at h; split at h
  · omega
  · exact absurd h (by decide)
theorem e_wI_d (c : Int) : e_wI c = 0 ∨ (e_wI c = 1 ∧ 33 ≤ c ∧ c ≤ 126 ∧ c ≠ 40 ∧ c ≠ 123 ∧ c ≠ 60 ∧ c ≠ 42 ∧ c ≠ 126) := (e_wI_b c).imp id (fun h => ⟨h, e_wI_ne h⟩)
theorem e_ix {f : Nat → Int32} {i : Int32} {v x : Int} (h : x = (f i.toNatClampNeg).toInt) (hi : i.toInt = v) : x = (f (Int.toNat v)).toInt := by subst hi; exact h
def e_km (k ow : Int) : Int := if k = 3 then 2 else if k = 2 then 1 else if ow < 0 then 3 else 0
def e_gm (kd wd st it : Nat → Int32) (ow : Int) (j : Nat) : e_F := (e_km (kd j).toInt ow, 1, (wd j).toInt, (st j).toInt, (it j).toInt)
def e_Y (kd wd st it : Nat → Int32) (ow nx o op ls sw ln : Int) : e_S := (nx, e_fl (e_gm kd wd st it ow) (Int.toNat o) (-1), op, ls, sw, e_nm ln)
theorem e_gm_top {kd wd st it : Nat → Int32} {ow o u : Int} (h : 1 ≤ o) : e_fl (e_gm kd wd st it ow) (Int.toNat o) u = (e_km (kd (Int.toNat (o - 1))).toInt ow, 1, (if u = 2 then 1 else (wd (Int.toNat (o - 1))).toInt), (st (Int.toNat (o - 1))).toInt, (it (Int.toNat (o - 1))).toInt) :: e_fl (e_gm kd wd st it ow) (Int.toNat (o - 1)) (e_km (kd (Int.toNat (o - 1))).toInt ow) := by
  rw [show Int.toNat o = Int.toNat (o - 1) + 1 by omega, e_fl]; rfl
theorem e_y_cons {kd wd st it : Nat → Int32} {ow nx o op ls sw ln : Int} (h : 1 ≤ o) : e_Y kd wd st it ow nx o op ls sw ln = (nx, (e_km (kd (Int.toNat (o - 1))).toInt ow, 1, (wd (Int.toNat (o - 1))).toInt, (st (Int.toNat (o - 1))).toInt, (it (Int.toNat (o - 1))).toInt) :: e_fl (e_gm kd wd st it ow) (Int.toNat (o - 1)) (e_km (kd (Int.toNat (o - 1))).toInt ow), op, ls, sw, e_nm ln) := by
  unfold e_Y; rw [e_gm_top h]; rfl
theorem e_y_nil {kd wd st it : Nat → Int32} {ow nx o op ls sw ln : Int} (h : o ≤ 0) : e_Y kd wd st it ow nx o op ls sw ln = (nx, [], op, ls, sw, e_nm ln) := by
  unfold e_Y; rw [show Int.toNat o = 0 by omega]; rfl
theorem e_gm_wd {kd wd wd' st it : Nat → Int32} {ow : Int} {k : Nat} {u : Int} (h : ∀ j, j < k → wd' j = wd j) : e_fl (e_gm kd wd' st it ow) k u = e_fl (e_gm kd wd st it ow) k u :=
  e_fl_congr k u (fun j hj => by unfold e_gm; rw [h j hj])
theorem e_upd_ix {f : Nat → Int32} {i v : Int32} {x : Int} (hi : i.toInt = x) : upd f i.toNatClampNeg v (Int.toNat x) = v := by subst hi; exact e_upd_eq
theorem e_upd_lo {f : Nat → Int32} {i v : Int32} {x : Int} {j : Nat} (hi : i.toInt = x) (hj : (j : Int) < x) : upd f i.toNatClampNeg v j = f j := by
  apply e_upd_ne; intro h
  have : (j : Int) = (Int.toNat i.toInt : Nat) := by rw [h]; rfl
  omega
/-- one frame more -/
theorem e_gm_push {kd wd st it kd' wd' st' it' : Nat → Int32} {ow ow' o o' : Int} {i K S I : Int32} (h0 : 0 ≤ o) (hi : i.toInt = o) (ho : o' = o + 1) (hw : ow' = ow ∨ o = 0)
    (e1 : kd' = upd kd i.toNatClampNeg K) (e2 : wd' = upd wd i.toNatClampNeg 0) (e3 : st' = upd st i.toNatClampNeg S) (e4 : it' = upd it i.toNatClampNeg I) :
    e_fl (e_gm kd' wd' st' it' ow') (Int.toNat o') (-1) = (e_km K.toInt ow', 1, 0, S.toInt, I.toInt) :: e_fl (e_gm kd wd st it ow) (Int.toNat o) (e_km K.toInt ow') := by
  rw [e_gm_top (by omega), show o' - 1 = o by omega, e1, e2, e3, e4, e_upd_ix hi, e_upd_ix hi, e_upd_ix hi, e_upd_ix hi]
  refine congrArg _ (e_fl_congr _ _ (fun j hj => ?_))
  have hj' : (j : Int) < o := by omega
  unfold e_gm
  rw [e_upd_lo hi hj', e_upd_lo hi hj', e_upd_lo hi hj', e_upd_lo hi hj', hw.resolve_right (by omega)]
theorem e_km3 (ow : Int) : e_km 3 ow = 2 := rfl
theorem e_km2 (ow : Int) : e_km 2 ow = 1 := rfl
theorem e_km1 (ow : Int) : e_km 1 ow = if ow < 0 then 3 else 0 := rfl
theorem e_km_3 {k ow : Int} (h : 0 ≤ ow) : e_km k ow ≠ 3 := by
  unfold e_km
  by_cases h1 : k = 3
  · rw [if_pos h1]; decide
  · rw [if_neg h1]
    by_cases h2 : k = 2
    · rw [if_pos h2]; decide
    · rw [if_neg h2, if_neg (by omega)]; decide
/-! words -/
theorem e_word_at {sg : Nat → Int} {n k fr a b op ls sw nm : Int} {x : e_F} {fs : List e_F} : e_word sg n k fr (a, x :: fs, op, ls, sw, nm) = e_word sg n k fr (b, x :: fs, op, ls, sw, nm) := by
  obtain ⟨p, q, r, s, t⟩ := x; rfl
theorem e_ww_1 {sg : Nat → Int} {kd wd st it : Nat → Int32} {s' : e_S} {ow nx o op ls sw ln n k fr e f' p' : Int} (h0 : 1 ≤ o) (hm : (e_len e_w sg n 801 fr : Int) = e - fr) (he : e = fr) (hf : f' = 1) (hp : p' = fr) :
    e_word sg n k fr (e_Y kd wd st it ow nx o op ls sw ln) = e_out f' p' s' := by
  rw [e_y_cons h0, e_w_1 hm he, e_out_1 hf hp (by decide)]
theorem e_ww_2 {sg : Nat → Int} {kd wd st it : Nat → Int32} {s' : e_S} {ow nx o op ls sw ln n k fr e f' p' : Int} (h0 : 1 ≤ o) (hm : (e_len e_w sg n 801 fr : Int) = e - fr) (he : e ≠ fr) (h : 20 < e - fr ∨ 40 ≤ sw) (hf : f' = 2) (hp : p' = fr) :
    e_word sg n k fr (e_Y kd wd st it ow nx o op ls sw ln) = e_out f' p' s' := by
  rw [e_y_cons h0, e_w_2 hm he h, e_out_1 hf hp (by decide)]
theorem e_ww_3 {sg : Nat → Int} {kd wd wd' st it : Nat → Int32} {ow nx nx' o op ls sw sw' ln ln' n k fr e f' p' : Int} {i : Int32} (h0 : 1 ≤ o) (hm : (e_len e_w sg n 801 fr : Int) = e - fr) (he : e ≠ fr) (h : ¬ (20 < e - fr ∨ 40 ≤ sw)) (hw : wd' = upd wd i.toNatClampNeg 1) (hi : i.toInt = o - 1) (ha : nx' = e) (hs : sw' = sw + 1)
    (hn : (k = 1 ∧ 0 ≤ ln') ∨ (k ≠ 1 ∧ ln' = ln)) (hf : f' = 0) : e_word sg n k fr (e_Y kd wd st it ow nx o op ls sw ln) = e_out f' p' (e_Y kd wd' st it ow nx' o op ls sw' ln') := by
  rw [e_y_cons (nx := nx) h0, e_w_3 hm he h, e_out_0 hf, e_y_cons h0, hw, e_upd_ix hi, ha, hs, e_gm_wd (fun j hj => e_upd_lo hi (by omega))]
  have : (if k = 1 then 1 else e_nm ln) = e_nm ln' := by
    rcases hn with ⟨a, b⟩ | ⟨a, b⟩
    · rw [if_pos a, e_nm1 (by omega)]
    · rw [if_neg a, b]
  rw [this]; rfl
/-! facts: nx stands behind the sign -/
theorem e_ff_1 {sg : Nat → Int} {s' : e_S} {x : e_F} {fs : List e_F} {fr op ls sw nm n e f' p' : Int} (hc : sg (Int.toNat (fr - 1)) = 60) (hm : (e_len e_dg sg n 801 fr : Int) = e - fr) (he : e = fr) (hf : f' = 1) (hp : p' = fr) : e_part sg n (fr - 1, x :: fs, op, ls, sw, nm) = e_out f' p' s' := by
  have h1 : fr - 1 + 1 = fr := by omega
  rw [e_f_1 hc (e := e) (by rw [h1]; exact hm) (by omega), e_out_1 hf hp (by decide), h1]
theorem e_ff_2 {sg : Nat → Int} {s' : e_S} {x : e_F} {fs : List e_F} {fr op ls sw nm n e v f' p' : Int} (hc : sg (Int.toNat (fr - 1)) = 60) (hm : (e_len e_dg sg n 801 fr : Int) = e - fr) (he : e ≠ fr) (hv : v = e_dec sg fr (Int.toNat (e - fr)) ∨ (999 < v ∧ 999 < e_dec sg fr (Int.toNat (e - fr)))) (h : 30 < v) (hf : f' = 2) (hp : p' = fr) : e_part sg n (fr - 1, x :: fs, op, ls, sw, nm) = e_out f' p' s' := by
  have h1 : fr - 1 + 1 = fr := by omega
  rw [e_f_2 hc (e := e) (by rw [h1]; exact hm) (by omega) (by rw [h1]; omega), e_out_1 hf hp (by decide), h1]
theorem e_ff_3 {sg : Nat → Int} {s' : e_S} {x : e_F} {fs : List e_F} {fr op ls sw nm n e v f' p' : Int} (hc : sg (Int.toNat (fr - 1)) = 60) (hm : (e_len e_dg sg n 801 fr : Int) = e - fr) (he : fr < e) (hv : v = e_dec sg fr (Int.toNat (e - fr)) ∨ (999 < v ∧ 999 < e_dec sg fr (Int.toNat (e - fr)))) (h : v ≤ 30) (hx : n ≤ e ∨ sg e.toNat ≠ 62) (hf : f' = 1) (hp : p' = e) : e_part sg n (fr - 1, x :: fs, op, ls, sw, nm) = e_out f' p' s' := by
  have h1 : fr - 1 + 1 = fr := by omega
  rw [e_f_3 hc (e := e) (by rw [h1]; exact hm) (by omega) (by rw [h1]; omega) hx, e_out_1 hf hp (by decide)]
theorem e_ff_4 {sg : Nat → Int} {x : e_F} {fs : List e_F} {s' : e_S} {fr op ls sw nm n e v f' p' : Int} (hc : sg (Int.toNat (fr - 1)) = 60) (hm : (e_len e_dg sg n 801 fr : Int) = e - fr) (he : fr < e) (hv : v = e_dec sg fr (Int.toNat (e - fr)) ∨ (999 < v ∧ 999 < e_dec sg fr (Int.toNat (e - fr)))) (h : v ≤ 30) (hn : e < n) (hx : sg e.toNat = 62) (hf : f' = 0) (hs : s' = (e + 1, x :: fs, op, ls, sw, nm)) : e_part sg n (fr - 1, x :: fs, op, ls, sw, nm) = e_out f' p' s' := by
  have h1 : fr - 1 + 1 = fr := by omega
  rw [e_f_4 hc (e := e) (by rw [h1]; exact hm) (by omega) (by rw [h1]; omega) hn hx, e_out_0 hf, hs]
theorem e_y_fact {sg : Nat → Int} {kd wd st it : Nat → Int32} {ow nx o op ls sw ln n fr : Int} {x : e_S ⊕ e_R} (h0 : 1 ≤ o) (h : ∀ (y : e_F) (fs : List e_F), e_Y kd wd st it ow nx o op ls sw ln = (nx, y :: fs, op, ls, sw, e_nm ln) → e_part sg n (fr - 1, y :: fs, op, ls, sw, e_nm ln) = x) : e_part sg n (e_Y kd wd st it ow (fr - 1) o op ls sw ln) = x := by
  have := h _ _ (e_y_cons h0)
  rw [e_y_cons h0]; exact this
/-! an item, from where its list or the sign ahead of it is through -/
theorem e_it_no {sg : Nat → Int} {n nx st0 it0 op ls sw nm f' p' : Int} {kd : Int} {fs : List e_F} {s' : e_S} (hx : nx ≤ n) (hb : nx = n ∨ (sg nx.toNat ≠ 10 ∧ sg nx.toNat ≠ 32)) (hc : n ≤ nx ∨ ¬ (e_pI (sg nx.toNat) = 1 ∧ (kd ≠ 3 ∨ (sg nx.toNat ≠ 40 ∧ sg nx.toNat ≠ 123 ∧ sg nx.toNat ≠ 126)))) (hf : f' = 1) (hp : p' = nx) :
    ∀ r, e_Es sg n (e_out f' p' s') r → e_Ev sg n (nx, (kd, 0, 0, st0, it0) :: fs, op, ls, sw, nm) r := by
  refine e_via ?_
  rw [e_out_1 hf hp (by decide)]
  by_cases h : nx = n
  · rw [e_s_cut (by omega), h]
  · rw [e_i_no (by omega) (hb.resolve_left h) (hc.resolve_left (by omega)) (by omega)]
theorem e_it_full {sg : Nat → Int} {n nx st0 it0 op ls sw nm f' p' : Int} {fs : List e_F} {s' : e_S} (hx : nx < n) (hc : e_pI (sg nx.toNat) = 1) (ho : 14 ≤ op) (hf : f' = 2) (hp : p' = nx) :
    ∀ r, e_Es sg n (e_out f' p' s') r → e_Ev sg n (nx, (2, 0, 0, st0, it0) :: fs, op, ls, sw, nm) r := by
  refine e_via ?_
  rw [e_out_1 hf hp (by decide), e_i_full hx hc rfl rfl ho]
theorem e_it_ok {sg : Nat → Int} {n st0 it0 op op' ls sw ln f' p' ow ow' o o' : Int} {kd wd st it kd' wd' st' it' : Nat → Int32} {i nx K I : Int32} (hx : nx.toInt < n) (hc : e_pI (sg nx.toInt.toNat) = 1) (ho : op < 14) (hf : f' = 0) (h1 : op' = op + 1) (h0 : 0 ≤ o) (hi : i.toInt = o) (h2 : o' = o + 1) (hw : ow' = ow)
    (hK : K.toInt = 3) (hI : I.toInt = it0 + 1) (e1 : kd' = upd kd i.toNatClampNeg K) (e2 : wd' = upd wd i.toNatClampNeg 0) (e3 : st' = upd st i.toNatClampNeg nx) (e4 : it' = upd it i.toNatClampNeg I) :
    ∀ r, e_Es sg n (e_out f' p' (e_Y kd' wd' st' it' ow' nx.toInt o' op' ls sw ln)) r → e_Ev sg n (nx.toInt, (2, 0, 0, st0, it0) :: e_fl (e_gm kd wd st it ow) (Int.toNat o) 2, op, ls, sw, e_nm ln) r := by
  refine e_via ?_
  rw [e_out_0 hf, e_i_item hx hc rfl rfl ho]
  unfold e_Y
  rw [e_gm_push h0 hi h2 (Or.inl hw) e1 e2 e3 e4, hK, e_km3, hI, h1]
/-! part -/
theorem e_pt_word {sg : Nat → Int} {kd wd st it : Nat → Int32} {ow nx o op ls sw ln n : Int} {x : e_S ⊕ e_R} (h0 : 1 ≤ o) (hc : sg nx.toNat ≠ 40 ∧ sg nx.toNat ≠ 123 ∧ sg nx.toNat ≠ 60 ∧ sg nx.toNat ≠ 42 ∧ sg nx.toNat ≠ 126) (h : e_word sg n 0 nx (e_Y kd wd st it ow nx o op ls sw ln) = x) :
    ∀ r, e_Es sg n x r → e_Es sg n (e_part sg n (e_Y kd wd st it ow nx o op ls sw ln)) r := fun r hr => by
  rw [e_y_cons h0] at h ⊢; rw [e_p_w0 hc, h]; exact hr
theorem e_pt_name {sg : Nat → Int} {kd wd st it : Nat → Int32} {ow nx nx1 o op ls sw ln n : Int} {x : e_S ⊕ e_R} (h0 : 1 ≤ o) (hc : sg nx.toNat = 42) (h1 : nx1 = nx + 1) (h : e_word sg n 1 nx1 (e_Y kd wd st it ow nx1 o op ls sw ln) = x) :
    ∀ r, e_Es sg n x r → e_Es sg n (e_part sg n (e_Y kd wd st it ow nx o op ls sw ln)) r := fun r hr => by
  subst h1; rw [e_y_cons h0, e_word_at (b := nx)] at h; rw [e_y_cons h0, e_p_w1 hc, h]; exact hr
theorem e_pt_lean {sg : Nat → Int} {kd wd st it : Nat → Int32} {ow nx nx1 o op ls sw ln n : Int} {x : e_S ⊕ e_R} (h0 : 1 ≤ o) (hc : sg nx.toNat = 126) (hn : ln ≠ -1) (h1 : nx1 = nx + 1) (h : e_word sg n 2 nx1 (e_Y kd wd st it ow nx1 o op ls sw ln) = x) :
    ∀ r, e_Es sg n x r → e_Es sg n (e_part sg n (e_Y kd wd st it ow nx o op ls sw ln)) r := fun r hr => by
  subst h1; rw [e_y_cons h0, e_word_at (b := nx)] at h; rw [e_y_cons h0, e_p_w2 hc (by rw [e_nm1 hn]; decide), h]; exact hr
theorem e_pt_lean0 {sg : Nat → Int} {kd wd st it : Nat → Int32} {s' : e_S} {ow nx o op ls sw ln n f' p' : Int} (h0 : 1 ≤ o) (hc : sg nx.toNat = 126) (hn : ln = -1) (hf : f' = 3) (hp : p' = nx) :
    ∀ r, e_Es sg n (e_out f' p' s') r → e_Es sg n (e_part sg n (e_Y kd wd st it ow nx o op ls sw ln)) r := fun r hr => by
  rw [e_y_cons h0, e_p_w3 hc (e_nm0 hn)]; rw [e_out_1 hf hp (by decide)] at hr; exact hr
theorem e_pt_fact {sg : Nat → Int} {kd wd st it : Nat → Int32} {ow nx nx1 o op ls sw ln n : Int} {x : e_S ⊕ e_R} (h1 : nx1 = nx + 1) (h : e_part sg n (e_Y kd wd st it ow (nx1 - 1) o op ls sw ln) = x) :
    ∀ r, e_Es sg n x r → e_Es sg n (e_part sg n (e_Y kd wd st it ow nx o op ls sw ln)) r := fun r hr => by
  subst h1; rw [show nx + 1 - 1 = nx by omega] at h; rw [h]; exact hr
theorem e_pt_deep {sg : Nat → Int} {kd wd st it : Nat → Int32} {s' : e_S} {ow nx o op ls sw ln n f' p' : Int} (h0 : 1 ≤ o) (hc : (sg nx.toNat = 40 ∧ (5 ≤ o ∨ 14 ≤ op)) ∨ (sg nx.toNat = 123 ∧ 5 ≤ o)) (hf : f' = 2) (hp : p' = nx) :
    ∀ r, e_Es sg n (e_out f' p' s') r → e_Es sg n (e_part sg n (e_Y kd wd st it ow nx o op ls sw ln)) r := fun r hr => by
  rw [e_out_1 hf hp (by decide)] at hr
  rw [e_y_cons h0]
  rcases hc with ⟨c, h⟩ | ⟨c, h⟩
  · rw [e_a_2 c (by rw [List.length_cons, e_fl_len]; omega)]; exact hr
  · rw [e_b_2 c (by rw [List.length_cons, e_fl_len]; omega)]; exact hr
theorem e_pt_aside {sg : Nat → Int} {n op op' ls sw ln ow o nx nx1 : Int} {kd wd st it : Nat → Int32} {x : e_S ⊕ e_R} (h5 : 1 ≤ o ∧ o < 5) (hc : sg nx.toNat = 40) (ho : op < 14) (h1 : op' = op + 1) (hn : nx1 = nx + 1)
    (h : ∀ r, e_Es sg n x r → e_Ev sg n (nx1, (1, 0, 0, nx, 0) :: e_fl (e_gm kd wd st it ow) (Int.toNat o) (-1), op', ls, sw, e_nm ln) r) :
    ∀ r, e_Es sg n x r → e_Es sg n (e_part sg n (e_Y kd wd st it ow nx o op ls sw ln)) r := fun r hr => by
  have := h r hr
  rw [e_y_cons h5.1, e_a_1 hc (by rw [List.length_cons, e_fl_len]; omega)]
  rw [e_gm_top h5.1, hn, h1] at this
  exact this
theorem e_as_fl {kd wd st it kd' wd' st' it' : Nat → Int32} {ow ow' o o' : Int} {i nx K I : Int32} (h0 : 1 ≤ o) (hi : i.toInt = o) (h2 : o' = o + 1) (hw : ow' = ow) (hK : K.toInt = 2) (hI : I.toInt = 0)
    (e1 : kd' = upd kd i.toNatClampNeg K) (e2 : wd' = upd wd i.toNatClampNeg 0) (e3 : st' = upd st i.toNatClampNeg nx) (e4 : it' = upd it i.toNatClampNeg I) :
    e_fl (e_gm kd' wd' st' it' ow') (Int.toNat o') (-1) = (1, 1, 0, nx.toInt, 0) :: e_fl (e_gm kd wd st it ow) (Int.toNat o) (-1) := by
  rw [e_gm_push (by omega) hi h2 (Or.inl hw) e1 e2 e3 e4, hK, e_km2, hI, e_gm_top (u := 1) h0, e_gm_top (u := -1) h0]; rfl
theorem e_as_ok {sg : Nat → Int} {n nx st0 op ls sw ln f' p' o' ow' : Int} {kd' wd' st' it' : Nat → Int32} {fs : List e_F} (hx : nx < n) (hc : e_pI (sg nx.toNat) = 1) (hf : f' = 0) (hl : e_fl (e_gm kd' wd' st' it' ow') (Int.toNat o') (-1) = (1, 1, 0, st0, 0) :: fs) :
    ∀ r, e_Es sg n (e_out f' p' (e_Y kd' wd' st' it' ow' nx o' op ls sw ln)) r → e_Ev sg n (nx, (1, 0, 0, st0, 0) :: fs, op, ls, sw, e_nm ln) r := by
  refine e_via ?_
  rw [e_out_0 hf, e_i_begin hx hc (Or.inl (by decide)) rfl (by decide)]
  unfold e_Y; rw [hl]
theorem e_pt_list {sg : Nat → Int} {n op ls ls' sw ln ow o nx nx1 : Int} {kd wd st it : Nat → Int32} {x : e_S ⊕ e_R} (h5 : 1 ≤ o ∧ o < 5) (hc : sg nx.toNat = 123) (hl : ls < 15) (h1 : ls' = ls + 1) (hn : nx1 = nx + 1)
    (h : ∀ r, e_Es sg n x r → e_Ev sg n (nx1, (2, 0, 0, nx, 0) :: e_fl (e_gm kd wd st it ow) (Int.toNat o) 2, op, ls', sw, e_nm ln) r) :
    ∀ r, e_Es sg n x r → e_Es sg n (e_part sg n (e_Y kd wd st it ow nx o op ls sw ln)) r := fun r hr => by
  have := h r hr
  rw [e_y_cons h5.1, e_b_1 hc (by rw [List.length_cons, e_fl_len]; omega)]
  rw [e_gm_top h5.1, hn, h1] at this
  exact this
/-! the sentence's loop -/
theorem e_se_part {sg : Nat → Int} {kd wd st it : Nat → Int32} {ow nx o op ls sw ln n : Int} {x : e_S ⊕ e_R} (h0 : 1 ≤ o) (hx : nx < n) (hc : e_pI (sg nx.toNat) = 1) (hk : 0 ≤ ow ∨ (sg nx.toNat ≠ 40 ∧ sg nx.toNat ≠ 123 ∧ sg nx.toNat ≠ 126))
    (h : ∀ r, e_Es sg n x r → e_Es sg n (e_part sg n (e_Y kd wd st it ow nx o op ls sw ln)) r) : ∀ r, e_Es sg n x r → e_Ev sg n (e_Y kd wd st it ow nx o op ls sw ln) r := fun r hr => by
  refine e_Ev.step ?_
  have := h r hr
  rw [e_y_cons h0] at this ⊢
  rw [e_i_part hx hc (hk.imp (fun h => e_km_3 h) id) (by decide)]; exact this
theorem e_km_nI {k it ow c : Int} (hk : 1 ≤ k ∧ k ≤ 3) : e_nI (e_km k ow) it c = 1 ↔ ((k = 1 ∧ c = 46) ∨ (k = 2 ∧ c = 41) ∨ (k = 3 ∧ (c = 124 ∨ (c = 125 ∧ 1 < it)))) := by
  have h : k = 1 ∨ k = 2 ∨ k = 3 := by omega
  rcases h with h | h | h <;> subst h
  · rw [e_km1]; unfold e_nI; split <;> split <;> simp <;> omega
  · rw [e_km2]; unfold e_nI; simp
  · rw [e_km3]; unfold e_nI; simp; omega
theorem e_se_no {sg : Nat → Int} {kd wd st it : Nat → Int32} {s' : e_S} {ow nx o op ls sw ln n f' p' k c : Int} (h0 : 1 ≤ o) (hx : nx ≤ n) (hb : nx = n ∨ (sg nx.toNat ≠ 10 ∧ sg nx.toNat ≠ 32)) (hs : (c = -1 ∧ n ≤ nx) ∨ (nx < n ∧ c = sg nx.toNat)) (hkk : k = (kd (Int.toNat (o - 1))).toInt) (hk : 1 ≤ k ∧ k ≤ 3) (hw : 0 ≤ ow ∨ o ≤ 1)  (hk0 : 1 < o ∨ k = 1)
    (hc : n ≤ nx ∨ ¬ (e_pI (sg nx.toNat) = 1 ∧ (0 ≤ ow ∨ (sg nx.toNat ≠ 40 ∧ sg nx.toNat ≠ 123 ∧ sg nx.toNat ≠ 126)))) (hn : ¬ ((k = 1 ∧ c = 46) ∨ (k = 2 ∧ c = 41) ∨ (k = 3 ∧ (c = 124 ∨ (c = 125 ∧ 1 < (it (Int.toNat (o - 1))).toInt))))) (hf : f' = 1) (hp : p' = nx) :
    ∀ r, e_Es sg n (e_out f' p' s') r → e_Ev sg n (e_Y kd wd st it ow nx o op ls sw ln) r := by
  refine e_via ?_
  rw [e_out_1 hf hp (by decide), e_y_cons h0]
  by_cases h : nx = n
  · rw [e_s_cut (by omega), h]
  · have hs' : c = sg nx.toNat := by omega
    rw [e_i_no (by omega) (hb.resolve_left h) ?_ ?_]
    · intro h9; apply hc.resolve_left (by omega)
      refine ⟨h9.1, ?_⟩
      rcases hw with h7 | h7
      · exact Or.inl h7
      · by_cases h6 : 0 ≤ ow
        · exact Or.inl h6
        · refine Or.inr (h9.2.resolve_left (fun h5 => h5 ?_))
          rw [← hkk, hk0.resolve_left (by omega), e_km1, if_pos (by omega)]
    · rintro ⟨_, _, h9⟩
      rw [← hkk, e_km_nI hk, ← hs'] at h9
      exact hn h9
/-- an end without a word -/
theorem e_se_4 {sg : Nat → Int} {kd wd st it : Nat → Int32} {s' : e_S} {ow nx o op ls sw ln n f' p' k c : Int} (h0 : 1 ≤ o) (hx : nx < n) (hb : sg nx.toNat ≠ 10 ∧ sg nx.toNat ≠ 32) (hs : c = sg nx.toNat) (hkk : k = (kd (Int.toNat (o - 1))).toInt) (hk : 1 ≤ k ∧ k ≤ 3) (hp0 : e_pI (sg nx.toNat) = 0)
    (hn : (k = 1 ∧ c = 46) ∨ (k = 2 ∧ c = 41) ∨ (k = 3 ∧ (c = 124 ∨ (c = 125 ∧ 1 < (it (Int.toNat (o - 1))).toInt)))) (hw : (wd (Int.toNat (o - 1))).toInt = 0) (hf : f' = 4) (hp : p' = (st (Int.toNat (o - 1))).toInt) :
    ∀ r, e_Es sg n (e_out f' p' s') r → e_Ev sg n (e_Y kd wd st it ow nx o op ls sw ln) r := by
  refine e_via ?_
  rw [e_out_1 hf hp (by decide), e_y_cons h0, e_i_close hx hb hp0 (by decide) (by rw [← hkk, e_km_nI hk, ← hs]; exact hn), e_close, if_pos hw]
theorem e_se_dot {sg : Nat → Int} {kd wd wd' st it : Nat → Int32} {ow nx nx' o o' op ls sw ln n k c : Int} (h0 : o = 1) (hx : nx < n) (hb : sg nx.toNat ≠ 10 ∧ sg nx.toNat ≠ 32) (hs : c = sg nx.toNat) (hkk : k = (kd (Int.toNat (o - 1))).toInt) (hk : k = 1) (hp0 : e_pI (sg nx.toNat) = 0)
    (hn : c = 46) (hw : (wd (Int.toNat (o - 1))).toInt ≠ 0) (h1 : o' = o - 1) (h2 : nx' = nx + 1) :
    ∀ r, e_Ev sg n (e_Y kd wd' st it ow nx' o' op ls sw ln) r → e_Ev sg n (e_Y kd wd st it ow nx o op ls sw ln) r := fun r hr => by
  refine e_Ev.go ?_ hr
  rw [e_y_nil (o := o') (by omega), e_y_cons (by omega), e_i_close hx hb hp0 (by decide) (by rw [← hkk, e_km_nI (by omega), ← hs]; omega), e_close, if_neg hw, if_neg (by omega), if_pos (by omega), h2]
theorem e_se_par {sg : Nat → Int} {kd wd wd' st it : Nat → Int32} {ow nx nx' o o' op ls sw ln n k c : Int} (h0 : 1 < o) (hx : nx < n) (hb : sg nx.toNat ≠ 10 ∧ sg nx.toNat ≠ 32) (hs : c = sg nx.toNat) (hkk : k = (kd (Int.toNat (o - 1))).toInt) (hk : k = 2) (hp0 : e_pI (sg nx.toNat) = 0)
    (hn : c = 41) (hw : (wd (Int.toNat (o - 1))).toInt ≠ 0) (h1 : o' = o - 1) (h2 : nx' = nx + 1) (hwd : wd' = wd) :
    ∀ r, e_Ev sg n (e_Y kd wd' st it ow nx' o' op ls sw ln) r → e_Ev sg n (e_Y kd wd st it ow nx o op ls sw ln) r := fun r hr => by
  refine e_Ev.go ?_ hr
  subst hwd
  rw [e_y_cons (o := o) (by omega), e_i_close hx hb hp0 (by decide) (by rw [← hkk, e_km_nI (by omega), ← hs]; omega), e_close, if_neg hw, if_neg (by omega), if_neg (by omega), h2, h1]
  unfold e_Y
  rw [← hkk, hk, e_km2, e_gm_top (u := 1) (by omega), e_gm_top (u := -1) (by omega)]; rfl
/-- the frames below an item, before and behind its end -/
theorem e_below {kd wd wd' st it : Nat → Int32} {ow o : Int} {i : Int32} (h0 : 1 < o) (hi : i.toInt = o - 2) (hw : wd' = upd wd i.toNatClampNeg 1) : e_fl (e_gm kd wd st it ow) (Int.toNat (o - 1)) 2 = e_fl (e_gm kd wd' st it ow) (Int.toNat (o - 1)) 2 := by
  rw [e_gm_top (wd := wd) (by omega), e_gm_top (wd := wd') (by omega), show o - 1 - 1 = o - 2 by omega, e_gm_wd (wd := wd) (wd' := wd') (fun j hj => by rw [hw]; exact e_upd_lo hi (by omega)), if_pos rfl, if_pos rfl]
theorem e_below1 {kd wd wd' st it : Nat → Int32} {ow o : Int} {i : Int32} (h0 : 1 < o) (hi : i.toInt = o - 2) (hw : wd' = upd wd i.toNatClampNeg 1) : e_fl (e_gm kd wd st it ow) (Int.toNat (o - 1)) 2 = e_fl (e_gm kd wd' st it ow) (Int.toNat (o - 1)) (-1) := by
  rw [e_below h0 hi hw, e_gm_top (u := 2) (by omega), e_gm_top (u := -1) (by omega), show o - 1 - 1 = o - 2 by omega, hw, e_upd_ix hi, if_pos rfl, if_neg (by decide)]; rfl
theorem e_se_brace {sg : Nat → Int} {kd wd wd' st it : Nat → Int32} {ow nx nx' o o' op ls sw ln n k c : Int} {i : Int32} (h0 : 1 < o) (hx : nx < n) (hb : sg nx.toNat ≠ 10 ∧ sg nx.toNat ≠ 32) (hs : c = sg nx.toNat) (hkk : k = (kd (Int.toNat (o - 1))).toInt) (hk : k = 3) (hp0 : e_pI (sg nx.toNat) = 0)
    (hn : c = 125 ∧ 1 < (it (Int.toNat (o - 1))).toInt) (hw : (wd (Int.toNat (o - 1))).toInt ≠ 0) (h1 : o' = o - 1) (h2 : nx' = nx + 1) (hi : i.toInt = o - 2) (hwd : wd' = upd wd i.toNatClampNeg 1) :
    ∀ r, e_Ev sg n (e_Y kd wd' st it ow nx' o' op ls sw ln) r → e_Ev sg n (e_Y kd wd st it ow nx o op ls sw ln) r := fun r hr => by
  refine e_Ev.go ?_ hr
  rw [e_y_cons (o := o) (by omega), e_i_close hx hb hp0 (by decide) (by rw [← hkk, e_km_nI (by omega), ← hs]; omega), e_close, if_neg hw, if_neg (by omega), if_neg (by omega), h2, h1]
  unfold e_Y
  rw [← hkk, hk, e_km3, e_below1 h0 hi hwd]
theorem e_se_bar {sg : Nat → Int} {kd wd wd' st it : Nat → Int32} {ow nx nx' o o' op ls sw ln n k c it0 : Int} {i : Int32} {x : e_S ⊕ e_R} (h0 : 1 < o) (hx : nx < n) (hb : sg nx.toNat ≠ 10 ∧ sg nx.toNat ≠ 32) (hs : c = sg nx.toNat) (hkk : k = (kd (Int.toNat (o - 1))).toInt) (hk : k = 3) (hp0 : e_pI (sg nx.toNat) = 0)
    (hn : c = 124) (hw : (wd (Int.toNat (o - 1))).toInt ≠ 0) (h1 : o' = o - 1) (h2 : nx' = nx + 1) (hi : i.toInt = o - 2) (hwd : wd' = upd wd i.toNatClampNeg 1) (hit : it0 = (it (Int.toNat (o - 1))).toInt)
    (h : ∀ (st0 : Int) (r : e_R), e_Es sg n x r → e_Ev sg n (nx', (2, 0, 0, st0, it0) :: e_fl (e_gm kd wd' st it ow) (Int.toNat o') 2, op, ls, sw, e_nm ln) r) :
    ∀ r, e_Es sg n x r → e_Ev sg n (e_Y kd wd st it ow nx o op ls sw ln) r := fun r hr => by
  have h9 := h (st (Int.toNat (o - 1))).toInt r hr
  refine e_Ev.go ?_ h9
  rw [e_y_cons (o := o) (by omega), e_i_close hx hb hp0 (by decide) (by rw [← hkk, e_km_nI (by omega), ← hs]; omega), e_close, if_neg hw, if_pos (by omega), h2, h1, ← hkk, hk, e_km3, e_below h0 hi hwd, hit]
/-! beginnings -/
/-- what stands where a sentence's first part is waited for -/
def e_B (ow nx at0 op ls sw ln : Int) : e_S := if ow < 0 then (nx, [(3, 0, 0, at0, 0)], op, ls, sw, e_nm ln) else (nx, [(0, 1, 0, at0, 0)], op, ls, sw, e_nm ln)
theorem e_b_head {sg : Nat → Int} {n nx nx1 nx2 op ls sw ln ow at0 : Int} (hx : nx < n) (hc : sg nx.toNat = 61) (h1 : nx1 = nx + 1) (hw : ow < 0) (ha : at0 = nx)
    (hb : ∀ (fs : List e_F) (op ls sw nm : Int) (r : e_R), e_Ev sg n (nx2, fs, op, ls, sw, nm) r → e_Ev sg n (nx1, fs, op, ls, sw, nm) r) : ∀ r, e_Ev sg n (e_B ow nx2 at0 op ls 0 ln) r → e_Ev sg n (nx, [], op, ls, sw, e_nm ln) r := fun r hr => by
  subst ha; unfold e_B at hr; rw [if_pos hw] at hr
  refine e_Ev.go (e_s_head hx hc) ?_
  rw [← h1]; exact hb _ _ _ _ _ _ hr
theorem e_b_no {sg : Nat → Int} {n nx op ls sw nm f' p' : Int} {s' : e_S} (hx : nx < n) (hb : sg nx.toNat ≠ 10 ∧ sg nx.toNat ≠ 32 ∧ sg nx.toNat ≠ 61) (hc : e_pI (sg nx.toNat) = 0) (hf : f' = 1) (hp : p' = nx) : ∀ r, e_Es sg n (e_out f' p' s') r → e_Ev sg n (nx, [], op, ls, sw, nm) r :=
  e_via (by rw [e_out_1 hf hp (by decide), e_s_no hx hb hc])
theorem e_b_full {sg : Nat → Int} {n nx op ls sw nm f' p' : Int} {s' : e_S} (hx : nx < n) (hc : e_pI (sg nx.toNat) = 1) (ho : 14 ≤ op) (hf : f' = 2) (hp : p' = nx) : ∀ r, e_Es sg n (e_out f' p' s') r → e_Ev sg n (nx, [], op, ls, sw, nm) r :=
  e_via (by rw [e_out_1 hf hp (by decide), e_s_full hx hc ho])
theorem e_b_sent {sg : Nat → Int} {n nx op op' ls sw ln ow at0 : Int} (hx : nx < n) (hc : e_pI (sg nx.toNat) = 1) (ho : op < 14) (h1 : op' = op + 1) (hw : 0 ≤ ow) (ha : at0 = nx) : ∀ r, e_Ev sg n (e_B ow nx at0 op' ls 0 ln) r → e_Ev sg n (nx, [], op, ls, sw, e_nm ln) r := fun r hr => by
  subst ha; unfold e_B at hr; rw [if_neg (by omega), h1] at hr
  exact e_Ev.go (e_s_sent hx hc ho) hr
theorem e_b_fl {kd wd st it kd' wd' st' it' : Nat → Int32} {ow' o o' : Int} {i nx K I : Int32} (h0 : o = 0) (hi : i.toInt = o) (h2 : o' = o + 1) (hK : K.toInt = 1) (hI : I.toInt = 0)
    (e1 : kd' = upd kd i.toNatClampNeg K) (e2 : wd' = upd wd i.toNatClampNeg 0) (e3 : st' = upd st i.toNatClampNeg nx) (e4 : it' = upd it i.toNatClampNeg I) :
    e_fl (e_gm kd' wd' st' it' ow') (Int.toNat o') (-1) = [(e_km 1 ow', 1, 0, nx.toInt, 0)] := by
  rw [e_gm_push (ow := ow') (by omega) hi h2 (Or.inl rfl) e1 e2 e3 e4, hK, hI, show Int.toNat o = 0 by omega]; rfl
theorem e_b_go {sg : Nat → Int} {kd wd st it : Nat → Int32} {n nx at0 op ls sw ln ow o : Int} (hx : nx < n) (hc : e_pI (sg nx.toNat) = 1) (hk : 0 ≤ ow ∨ (sg nx.toNat ≠ 40 ∧ sg nx.toNat ≠ 123 ∧ sg nx.toNat ≠ 126)) (hl : e_fl (e_gm kd wd st it ow) (Int.toNat o) (-1) = [(e_km 1 ow, 1, 0, at0, 0)]) :
    ∀ r, e_Ev sg n (e_Y kd wd st it ow nx o op ls sw ln) r → e_Ev sg n (e_B ow nx at0 op ls sw ln) r := fun r hr => by
  unfold e_Y at hr; rw [hl, e_km1] at hr
  unfold e_B
  by_cases h : ow < 0
  · rw [if_pos h]; rw [if_pos h] at hr
    exact e_Ev.go (e_i_begin hx hc (Or.inr (hk.resolve_left (by omega))) rfl (by decide)) hr
  · rw [if_neg h]; rw [if_neg h] at hr; exact hr
theorem e_b_hno {sg : Nat → Int} {n nx at0 op ls sw ln ow f' p' : Int} {s' : e_S} (hx : nx ≤ n) (hb : nx = n ∨ (sg nx.toNat ≠ 10 ∧ sg nx.toNat ≠ 32)) (hw : ow < 0) (hc : n ≤ nx ∨ ¬ (e_pI (sg nx.toNat) = 1 ∧ (0 ≤ ow ∨ (sg nx.toNat ≠ 40 ∧ sg nx.toNat ≠ 123 ∧ sg nx.toNat ≠ 126)))) (hf : f' = 1) (hp : p' = nx) :
    ∀ r, e_Es sg n (e_out f' p' s') r → e_Ev sg n (e_B ow nx at0 op ls sw ln) r := fun r hr => by
  unfold e_B; rw [if_pos hw]
  exact e_it_no hx hb (by omega) hf hp r hr
theorem e_run_sw {sg : Nat → Int} {n : Int} : ∀ (k : Nat) (a op ls sw sw' nm : Int), e_run sg n k (a, [], op, ls, sw, nm) = e_run sg n k (a, [], op, ls, sw', nm) := by
  intro k
  induction k with
  | zero => intros; rfl
  | succ k ih =>
    intro a op ls sw sw' nm
    by_cases h : n ≤ a
    · simp only [e_run, e_step, if_pos h]
    · by_cases h1 : sg a.toNat = 10 ∨ sg a.toNat = 32
      · simp only [e_run, e_step, if_neg h, if_pos h1]; exact ih _ _ _ _ _ _
      · by_cases h2 : sg a.toNat = 61
        · simp only [e_run, e_step, if_neg h, if_neg h1, if_pos h2]
        · by_cases h3 : e_p (sg a.toNat) = true
          · simp only [e_run, e_step, if_neg h, if_neg h1, if_neg h2, if_pos h3]
          · simp only [e_run, e_step, if_neg h, if_neg h1, if_neg h2, if_neg h3]
theorem e_Ev.sw {sg : Nat → Int} {n a op ls sw sw' nm : Int} {r : e_R} (h : e_Ev sg n (a, [], op, ls, sw, nm) r) : e_Ev sg n (a, [], op, ls, sw', nm) r := by
  obtain ⟨k, h⟩ := h; exact ⟨k, by rw [← e_run_sw k a op ls sw sw' nm]; exact h⟩
theorem e_thenx {sg : Nat → Int} {n : Int} {s t : e_S} {x : e_S ⊕ e_R} (h : ∀ r, e_Ev sg n t r → e_Ev sg n s r) (h' : ∀ r, e_Es sg n x r → e_Ev sg n t r) : ∀ r, e_Es sg n x r → e_Ev sg n s r := fun r hr => h r (h' r hr)
theorem e_then {sg : Nat → Int} {n : Int} {s t u : e_S} (h : ∀ r, e_Ev sg n t r → e_Ev sg n s r) (h' : ∀ r, e_Ev sg n u r → e_Ev sg n t r) : ∀ r, e_Ev sg n u r → e_Ev sg n s r := fun r hr => h r (h' r hr)
theorem e_in0 {sg : Nat → Int} {n f p : Int} {s t : e_S} (h : ∀ r, e_Es sg n (e_out f p t) r → e_Ev sg n s r) (hf : f = 0) : ∀ r, e_Ev sg n t r → e_Ev sg n s r := fun r hr => h r (by rw [e_out_0 hf]; exact hr)
theorem e_to0 {sg : Nat → Int} {n f p : Int} {s t : e_S} (h : ∀ r, e_Ev sg n t r → e_Ev sg n s r) (hf : f = 0) : ∀ r, e_Es sg n (e_out f p t) r → e_Ev sg n s r := fun r hr => h r (by rw [e_out_0 hf] at hr; exact hr)
theorem e_to1 {sg : Nat → Int} {n f p : Int} {s t t' : e_S} (h : ∀ r, e_Es sg n (e_out f p t) r → e_Ev sg n s r) (hf : f ≠ 0) : ∀ r, e_Es sg n (e_out f p t') r → e_Ev sg n s r := fun r hr => h r (by rw [e_out_1 rfl rfl hf] at hr ⊢; exact hr)
theorem e_rd_1 {sg : Nat → Int} {n f p op : Int} {t s0 : e_S} (h : ∀ r, e_Es sg n (e_out f p t) r → e_Ev sg n s0 r) (hf : f ≠ 0) : e_Ev sg n s0 (e_fin f p op) := by
  refine h _ ?_; rw [e_out_1 rfl rfl hf]; unfold e_fin; rw [if_neg hf]; rfl
theorem e_rd_2 {sg : Nat → Int} {n f p nx op ls sw nm : Int} {s0 : e_S} (h : ∀ r, e_Es sg n (e_out f p (nx, [], op, ls, sw, nm)) r → e_Ev sg n s0 r) (hf : f = 0) (ha : n ≤ nx) : e_Ev sg n s0 (e_fin f p op) := by
  refine h _ ?_; rw [e_out_0 hf]; unfold e_fin; rw [if_pos hf]; exact e_Ev.stop (e_s_end ha)

set_option maxHeartbeats 4000000 in
set_option maxRecDepth 100000 in
theorem g3_wrong (l : Launch) (D : va_G) (c : Nat → ClassId) (sz : Nat) (y : Nat) (a : Nat → Nat) (v_tapeSize v_thrown v_fault v_faultPlace v_things v_options v_lists v_sentences v_headings v_words v_factBits v_known v_soundMany v_wholeLength v_next v_end v_rThings v_rOptions v_rLists v_rSentences v_rHeadings v_lastName v_inSentence v_open v_written v_named v_sorted : Int32) (f_tape f_kind f_owner f_from f_size f_means f_signs f_oKind f_oIn f_oList f_oWords f_oFacts f_listIn f_sOwner f_hFacts f_weights f_lengths f_values f_rKind f_rOwner f_rFrom f_rSize f_rMeans f_rOKind f_rOIn f_rOList f_rOFacts f_rListIn f_rSOwner f_rHFacts f_rWeights f_opKind f_opFrom f_opWord f_opOwner f_opList f_opItems f_out f_ranks : Nat → Int32) (x_what : Int32) (x_at : Int32) : Met l yX10_wrong wsX10_wrong ({ frames := 0, cells := 0, slots := 0, locals := 0 }) (q3_P D c (wM c y a v_tapeSize v_thrown v_fault v_faultPlace v_things v_options v_lists v_sentences v_headings v_words v_factBits v_known v_soundMany v_wholeLength v_next v_end v_rThings v_rOptions v_rLists v_rSentences v_rHeadings v_lastName v_inSentence v_open v_written v_named v_sorted f_tape f_kind f_owner f_from f_size f_means f_signs f_oKind f_oIn f_oList f_oWords f_oFacts f_listIn f_sOwner f_hFacts f_weights f_lengths f_values f_rKind f_rOwner f_rFrom f_rSize f_rMeans f_rOKind f_rOIn f_rOList f_rOFacts f_rListIn f_rSOwner f_rHFacts f_rWeights f_opKind f_opFrom f_opWord f_opOwner f_opList f_opItems f_out f_ranks) sz [.ref y, .int x_what, .int x_at]) (q2_i D (wM c y a v_tapeSize v_thrown v_fault v_faultPlace v_things v_options v_lists v_sentences v_headings v_words v_factBits v_known v_soundMany v_wholeLength v_next v_end v_rThings v_rOptions v_rLists v_rSentences v_rHeadings v_lastName v_inSentence v_open v_written v_named v_sorted f_tape f_kind f_owner f_from f_size f_means f_signs f_oKind f_oIn f_oList f_oWords f_oFacts f_listIn f_sOwner f_hFacts f_weights f_lengths f_values f_rKind f_rOwner f_rFrom f_rSize f_rMeans f_rOKind f_rOIn f_rOList f_rOFacts f_rListIn f_rSOwner f_rHFacts f_rWeights f_opKind f_opFrom f_opWord f_opOwner f_opList f_opItems f_out f_ranks) sz (fun r u => (r.toInt = 0 ∨ r.toInt = 1) ∧ (r.toInt = 0) ∧ ((u.2.1 0).toInt = x_what.toInt) ∧ ((u.2.1 1).toInt = x_at.toInt) ∧ True) (fun u => wM c y a v_tapeSize v_thrown (u.2.1 0) (u.2.1 1) v_things v_options v_lists v_sentences v_headings v_words v_factBits v_known v_soundMany v_wholeLength v_next v_end v_rThings v_rOptions v_rLists v_rSentences v_rHeadings v_lastName v_inSentence v_open v_written v_named v_sorted f_tape f_kind f_owner f_from f_size f_means f_signs f_oKind f_oIn f_oList f_oWords f_oFacts f_listIn f_sOwner f_hFacts f_weights f_lengths f_values f_rKind f_rOwner f_rFrom f_rSize f_rMeans f_rOKind f_rOIn f_rOList f_rOFacts f_rListIn f_rSOwner f_rHFacts f_rWeights f_opKind f_opFrom f_opWord f_opOwner f_opList f_opItems f_out f_ranks)) (0) (0) (va_A (wM c y a v_tapeSize v_thrown v_fault v_faultPlace v_things v_options v_lists v_sentences v_headings v_words v_factBits v_known v_soundMany v_wholeLength v_next v_end v_rThings v_rOptions v_rLists v_rSentences v_rHeadings v_lastName v_inSentence v_open v_written v_named v_sorted f_tape f_kind f_owner f_from f_size f_means f_signs f_oKind f_oIn f_oList f_oWords f_oFacts f_listIn f_sOwner f_hFacts f_weights f_lengths f_values f_rKind f_rOwner f_rFrom f_rSize f_rMeans f_rOKind f_rOIn f_rOList f_rOFacts f_rListIn f_rSOwner f_rHFacts f_rWeights f_opKind f_opFrom f_opWord f_opOwner f_opList f_opItems f_out f_ranks) sz) := by
  refine q3_of_i (ty := .boolean) (fun r u h => q3_nb h.1) (cc := cX10_wrong) (maxL := 3) (by decide) rfl (Nat.le_of_ble_eq_true rfl) (fun p e s m args below meth cd A Q ls hx hb hml hown hts hA hS hP hD hK hl hret => ?_)
  have hown : s.vm.findClass RX10 = some m.cls := hown
  obtain ⟨H, eH⟩ : ∃ z, z = s.heap := ⟨_, rfl⟩
  have hP : va_P D vwCl (wM c y a v_tapeSize v_thrown v_fault v_faultPlace v_things v_options v_lists v_sentences v_headings v_words v_factBits v_known v_soundMany v_wholeLength v_next v_end v_rThings v_rOptions v_rLists v_rSentences v_rHeadings v_lastName v_inSentence v_open v_written v_named v_sorted f_tape f_kind f_owner f_from f_size f_means f_signs f_oKind f_oIn f_oList f_oWords f_oFacts f_listIn f_sOwner f_hFacts f_weights f_lengths f_values f_rKind f_rOwner f_rFrom f_rSize f_rMeans f_rOKind f_rOIn f_rOList f_rOFacts f_rListIn f_rSOwner f_rHFacts f_rWeights f_opKind f_opFrom f_opWord f_opOwner f_opList f_opItems f_out f_ranks) H := by rw [eH]; exact hP
  have hS : va_S A s.heap H [] := by rw [eH]; exact hS
  rw [← eH]
  have iX10 : ∀ w ∈ wsX100, w ∈ wsX10_wrong := fun w h => List.mem_cons_of_mem _ (List.mem_append_right _ h)
  have hl : lv_has ls 3 [(0, .ref y), (1, .int x_what), (2, .int x_at)] := hl
  refine lv_aload_n hx hb dX10_wrong_0 rfl (lv_at hl 0 rfl) ?_
  refine lv_iload_n hx hb dX10_wrong_1 rfl (lv_at hl 1 rfl) ?_
  refine va_put (D := D) (ci := 10) (v := .int x_what) (ty := .int) (C := RX10) (T := TX10) (N := 66) hx hb hts iX10 tyX10 tyX10_ok nmX10 hown hK hP hD hS 0 rfl rfl 3 (by decide) (hts (.fieldLink RX10 141 "ShortTellerModel" "fault" "I") (List.mem_of_getElem? (i := 1) rfl)) (fun _ h9 => h9) rfl (by decide +kernel) rfl rfl (Nat.le_of_ble_eq_true rfl) dX10_wrong_2 (fun H locs hP hD hS => ?_)
  have hP : va_P D vwCl (wM c y a v_tapeSize v_thrown x_what v_faultPlace v_things v_options v_lists v_sentences v_headings v_words v_factBits v_known v_soundMany v_wholeLength v_next v_end v_rThings v_rOptions v_rLists v_rSentences v_rHeadings v_lastName v_inSentence v_open v_written v_named v_sorted f_tape f_kind f_owner f_from f_size f_means f_signs f_oKind f_oIn f_oList f_oWords f_oFacts f_listIn f_sOwner f_hFacts f_weights f_lengths f_values f_rKind f_rOwner f_rFrom f_rSize f_rMeans f_rOKind f_rOIn f_rOList f_rOFacts f_rListIn f_rSOwner f_rHFacts f_rWeights f_opKind f_opFrom f_opWord f_opOwner f_opList f_opItems f_out f_ranks) H := hP
  have hD : va_D A (wM c y a v_tapeSize v_thrown x_what v_faultPlace v_things v_options v_lists v_sentences v_headings v_words v_factBits v_known v_soundMany v_wholeLength v_next v_end v_rThings v_rOptions v_rLists v_rSentences v_rHeadings v_lastName v_inSentence v_open v_written v_named v_sorted f_tape f_kind f_owner f_from f_size f_means f_signs f_oKind f_oIn f_oList f_oWords f_oFacts f_listIn f_sOwner f_hFacts f_weights f_lengths f_values f_rKind f_rOwner f_rFrom f_rSize f_rMeans f_rOKind f_rOIn f_rOList f_rOFacts f_rListIn f_rSOwner f_rHFacts f_rWeights f_opKind f_opFrom f_opWord f_opOwner f_opList f_opItems f_out f_ranks) := hD
  refine lv_aload_n hx hb dX10_wrong_5 rfl (lv_at hl 0 rfl) ?_
  refine lv_iload_n hx hb dX10_wrong_6 rfl (lv_at hl 2 rfl) ?_
  refine va_put (D := D) (ci := 10) (v := .int x_at) (ty := .int) (C := RX10) (T := TX10) (N := 66) hx hb hts iX10 tyX10 tyX10_ok nmX10 hown hK hP hD hS 0 rfl rfl 4 (by decide) (hts (.fieldLink RX10 13 "ShortTellerModel" "faultPlace" "I") (List.mem_of_getElem? (i := 2) rfl)) (fun _ h9 => h9) rfl (by decide +kernel) rfl rfl (Nat.le_of_ble_eq_true rfl) dX10_wrong_7 (fun H locs hP hD hS => ?_)
  have hP : va_P D vwCl (wM c y a v_tapeSize v_thrown x_what x_at v_things v_options v_lists v_sentences v_headings v_words v_factBits v_known v_soundMany v_wholeLength v_next v_end v_rThings v_rOptions v_rLists v_rSentences v_rHeadings v_lastName v_inSentence v_open v_written v_named v_sorted f_tape f_kind f_owner f_from f_size f_means f_signs f_oKind f_oIn f_oList f_oWords f_oFacts f_listIn f_sOwner f_hFacts f_weights f_lengths f_values f_rKind f_rOwner f_rFrom f_rSize f_rMeans f_rOKind f_rOIn f_rOList f_rOFacts f_rListIn f_rSOwner f_rHFacts f_rWeights f_opKind f_opFrom f_opWord f_opOwner f_opList f_opItems f_out f_ranks) H := hP
  have hD : va_D A (wM c y a v_tapeSize v_thrown x_what x_at v_things v_options v_lists v_sentences v_headings v_words v_factBits v_known v_soundMany v_wholeLength v_next v_end v_rThings v_rOptions v_rLists v_rSentences v_rHeadings v_lastName v_inSentence v_open v_written v_named v_sorted f_tape f_kind f_owner f_from f_size f_means f_signs f_oKind f_oIn f_oList f_oWords f_oFacts f_listIn f_sOwner f_hFacts f_weights f_lengths f_values f_rKind f_rOwner f_rFrom f_rSize f_rMeans f_rOKind f_rOIn f_rOList f_rOFacts f_rListIn f_rSOwner f_rHFacts f_rWeights f_opKind f_opFrom f_opWord f_opOwner f_opList f_opItems f_out f_ranks) := hD
  refine lv_iconst (v := 0) hx hb dX10_wrong_10 (by decide) ?_
  exact hret (0) (q2_u [] [x_what, x_at] []) _ _ _ _ ⟨(show (0 : Int) = 0 ∨ (0 : Int) = 1 by omega), (show (0 : Int) = 0 by omega), (show x_what.toInt = x_what.toInt by omega), (show x_at.toInt = x_at.toInt by omega), trivial⟩ dX10_wrong_11 hP hD hS
set_option maxHeartbeats 4000000 in
set_option maxRecDepth 100000 in
theorem g3_blanks (l : Launch) (D : va_G) (c : Nat → ClassId) (sz : Nat) (y : Nat) (a : Nat → Nat) (v_tapeSize v_thrown v_fault v_faultPlace v_things v_options v_lists v_sentences v_headings v_words v_factBits v_known v_soundMany v_wholeLength v_next v_end v_rThings v_rOptions v_rLists v_rSentences v_rHeadings v_lastName v_inSentence v_open v_written v_named v_sorted : Int32) (f_tape f_kind f_owner f_from f_size f_means f_signs f_oKind f_oIn f_oList f_oWords f_oFacts f_listIn f_sOwner f_hFacts f_weights f_lengths f_values f_rKind f_rOwner f_rFrom f_rSize f_rMeans f_rOKind f_rOIn f_rOList f_rOFacts f_rListIn f_rSOwner f_rHFacts f_rWeights f_opKind f_opFrom f_opWord f_opOwner f_opList f_opItems f_out f_ranks : Nat → Int32) (h0 : 0 ≤ v_next.toInt) (h1 : v_end.toInt ≤ 800) (h2 : v_next.toInt ≤ v_end.toInt) (h3 : ∀ j : Nat, 0 ≤ (f_tape j).toInt ∧ (f_tape j).toInt ≤ 255) : Met l yX10_blanks wsX10_blanks ({ frames := 1, cells := 0, slots := 0, locals := 20 }) (q3_P D c (wM c y a v_tapeSize v_thrown v_fault v_faultPlace v_things v_options v_lists v_sentences v_headings v_words v_factBits v_known v_soundMany v_wholeLength v_next v_end v_rThings v_rOptions v_rLists v_rSentences v_rHeadings v_lastName v_inSentence v_open v_written v_named v_sorted f_tape f_kind f_owner f_from f_size f_means f_signs f_oKind f_oIn f_oList f_oWords f_oFacts f_listIn f_sOwner f_hFacts f_weights f_lengths f_values f_rKind f_rOwner f_rFrom f_rSize f_rMeans f_rOKind f_rOIn f_rOList f_rOFacts f_rListIn f_rSOwner f_rHFacts f_rWeights f_opKind f_opFrom f_opWord f_opOwner f_opList f_opItems f_out f_ranks) sz [.ref y]) (q2_v D (wM c y a v_tapeSize v_thrown v_fault v_faultPlace v_things v_options v_lists v_sentences v_headings v_words v_factBits v_known v_soundMany v_wholeLength v_next v_end v_rThings v_rOptions v_rLists v_rSentences v_rHeadings v_lastName v_inSentence v_open v_written v_named v_sorted f_tape f_kind f_owner f_from f_size f_means f_signs f_oKind f_oIn f_oList f_oWords f_oFacts f_listIn f_sOwner f_hFacts f_weights f_lengths f_values f_rKind f_rOwner f_rFrom f_rSize f_rMeans f_rOKind f_rOIn f_rOList f_rOFacts f_rListIn f_rSOwner f_rHFacts f_rWeights f_opKind f_opFrom f_opWord f_opOwner f_opList f_opItems f_out f_ranks) sz (fun u => (v_next.toInt ≤ (u.2.1 0).toInt) ∧ ((u.2.1 0).toInt ≤ v_end.toInt) ∧ ((u.2.1 0).toInt = v_end.toInt ∨ ((f_tape ((u.2.1 0)).toNatClampNeg).toInt ≠ 10 ∧ (f_tape ((u.2.1 0)).toNatClampNeg).toInt ≠ 32)) ∧ (∀ (fs : List e_F) (op ls sw nm : Int) (r : e_R), e_Ev (e_sg f_tape) v_end.toInt ((u.2.1 0).toInt, fs, op, ls, sw, nm) r → e_Ev (e_sg f_tape) v_end.toInt (v_next.toInt, fs, op, ls, sw, nm) r) ∧ True) (fun u => wM c y a v_tapeSize v_thrown v_fault v_faultPlace v_things v_options v_lists v_sentences v_headings v_words v_factBits v_known v_soundMany v_wholeLength (u.2.1 0) v_end v_rThings v_rOptions v_rLists v_rSentences v_rHeadings v_lastName v_inSentence v_open v_written v_named v_sorted f_tape f_kind f_owner f_from f_size f_means f_signs f_oKind f_oIn f_oList f_oWords f_oFacts f_listIn f_sOwner f_hFacts f_weights f_lengths f_values f_rKind f_rOwner f_rFrom f_rSize f_rMeans f_rOKind f_rOIn f_rOList f_rOFacts f_rListIn f_rSOwner f_rHFacts f_rWeights f_opKind f_opFrom f_opWord f_opOwner f_opList f_opItems f_out f_ranks)) (0) (0) (va_A (wM c y a v_tapeSize v_thrown v_fault v_faultPlace v_things v_options v_lists v_sentences v_headings v_words v_factBits v_known v_soundMany v_wholeLength v_next v_end v_rThings v_rOptions v_rLists v_rSentences v_rHeadings v_lastName v_inSentence v_open v_written v_named v_sorted f_tape f_kind f_owner f_from f_size f_means f_signs f_oKind f_oIn f_oList f_oWords f_oFacts f_listIn f_sOwner f_hFacts f_weights f_lengths f_values f_rKind f_rOwner f_rFrom f_rSize f_rMeans f_rOKind f_rOIn f_rOList f_rOFacts f_rListIn f_rSOwner f_rHFacts f_rWeights f_opKind f_opFrom f_opWord f_opOwner f_opList f_opItems f_out f_ranks) sz) := by
  refine q3_of_v (cc := cX10_blanks) (maxL := 1) (by decide) rfl (Nat.le_of_ble_eq_true rfl) (fun p e s m args below meth cd A Q ls hx hb hml hown hts hA hS hP hD hK hl hret => ?_)
  have hown : s.vm.findClass RX10 = some m.cls := hown
  obtain ⟨H, eH⟩ : ∃ z, z = s.heap := ⟨_, rfl⟩
  have hP : va_P D vwCl (wM c y a v_tapeSize v_thrown v_fault v_faultPlace v_things v_options v_lists v_sentences v_headings v_words v_factBits v_known v_soundMany v_wholeLength v_next v_end v_rThings v_rOptions v_rLists v_rSentences v_rHeadings v_lastName v_inSentence v_open v_written v_named v_sorted f_tape f_kind f_owner f_from f_size f_means f_signs f_oKind f_oIn f_oList f_oWords f_oFacts f_listIn f_sOwner f_hFacts f_weights f_lengths f_values f_rKind f_rOwner f_rFrom f_rSize f_rMeans f_rOKind f_rOIn f_rOList f_rOFacts f_rListIn f_rSOwner f_rHFacts f_rWeights f_opKind f_opFrom f_opWord f_opOwner f_opList f_opItems f_out f_ranks) H := by rw [eH]; exact hP
  have hS : va_S A s.heap H [] := by rw [eH]; exact hS
  rw [← eH]
  have iX10 : ∀ w ∈ wsX100, w ∈ wsX10_blanks := fun w h => List.mem_cons_of_mem _ (List.mem_append_right _ h)
  have hl : lv_has ls 1 [(0, .ref y)] := hl
  have c1 : ∀ (fs : List e_F) (op ls sw nm : Int) (r : e_R), e_Ev (e_sg f_tape) v_end.toInt (v_next.toInt, fs, op, ls, sw, nm) r → e_Ev (e_sg f_tape) v_end.toInt (v_next.toInt, fs, op, ls, sw, nm) r := fun _ _ _ _ _ _ h9 => h9
  have lp0 : ∀ (k : Nat) (z_next_0 : Int32), (v_next.toInt ≤ z_next_0.toInt) → (z_next_0.toInt ≤ v_end.toInt) → (∀ (fs : List e_F) (op ls sw nm : Int) (r : e_R), e_Ev (e_sg f_tape) v_end.toInt (z_next_0.toInt, fs, op, ls, sw, nm) r → e_Ev (e_sg f_tape) v_end.toInt (v_next.toInt, fs, op, ls, sw, nm) r) → 801 - z_next_0.toInt < (k : Int) → ∀ (H : Heap) (locs : List Loc) (ls : Array Slot), va_P D vwCl (wM c y a v_tapeSize v_thrown v_fault v_faultPlace v_things v_options v_lists v_sentences v_headings v_words v_factBits v_known v_soundMany v_wholeLength z_next_0 v_end v_rThings v_rOptions v_rLists v_rSentences v_rHeadings v_lastName v_inSentence v_open v_written v_named v_sorted f_tape f_kind f_owner f_from f_size f_means f_signs f_oKind f_oIn f_oList f_oWords f_oFacts f_listIn f_sOwner f_hFacts f_weights f_lengths f_values f_rKind f_rOwner f_rFrom f_rSize f_rMeans f_rOKind f_rOIn f_rOList f_rOFacts f_rListIn f_rSOwner f_rHFacts f_rWeights f_opKind f_opFrom f_opWord f_opOwner f_opList f_opItems f_out f_ranks) H → va_D A (wM c y a v_tapeSize v_thrown v_fault v_faultPlace v_things v_options v_lists v_sentences v_headings v_words v_factBits v_known v_soundMany v_wholeLength z_next_0 v_end v_rThings v_rOptions v_rLists v_rSentences v_rHeadings v_lastName v_inSentence v_open v_written v_named v_sorted f_tape f_kind f_owner f_from f_size f_means f_signs f_oKind f_oIn f_oList f_oWords f_oFacts f_listIn f_sOwner f_hFacts f_weights f_lengths f_values f_rKind f_rOwner f_rFrom f_rSize f_rMeans f_rOKind f_rOIn f_rOList f_rOFacts f_rListIn f_rSOwner f_rHFacts f_rWeights f_opKind f_opFrom f_opWord f_opOwner f_opList f_opItems f_out f_ranks) → va_S A s.heap H locs → lv_has ls 1 [(0, .ref y)] → W p l e ({ frames := 1, cells := 0, slots := 0, locals := 20 }) s m args below meth cd H locs 0 0 Q (F0 m 0 ls []) := by
    intro k
    induction k with
    | zero => intro z_next_0 j0_0 j1_0 j2_0 hm; exfalso; omega
    | succ k ih_0 =>
      intro z_next_0 j0_0 j1_0 j2_0 hm_0 H locs ls hP hD hS hl
      refine lv_aload_n hx hb dX10_blanks_0 rfl (lv_at hl 0 rfl) ?_
      refine q3_ci (va_runV (As := []) (rest := []) ⟨hx, hb, hml, hown, hts⟩ (y3_see l D c H.size y a v_tapeSize v_thrown v_fault v_faultPlace v_things v_options v_lists v_sentences v_headings v_words v_factBits v_known v_soundMany v_wholeLength z_next_0 v_end v_rThings v_rOptions v_rLists v_rSentences v_rHeadings v_lastName v_inSentence v_open v_written v_named v_sorted f_tape f_kind f_owner f_from f_size f_means f_signs f_oKind f_oIn f_oList f_oWords f_oFacts f_listIn f_sOwner f_hFacts f_weights f_lengths f_values f_rKind f_rOwner f_rFrom f_rSize f_rMeans f_rOKind f_rOIn f_rOList f_rOFacts f_rListIn f_rSOwner f_rHFacts f_rWeights f_opKind f_opFrom f_opWord f_opOwner f_opList f_opItems f_out f_ranks (show 0 ≤ z_next_0.toInt by omega) h1 h3) (cwV 0 hts gX10_blanks_X10_see rfl rfl rfl (by decide +kernel) ⟨Nat.le_of_ble_eq_true rfl, Nat.le_of_ble_eq_true rfl⟩) (q3_preV (c := c) (ci := 10) (q0 := 0) hP hK hD rfl rfl) rfl rfl hl.1 rfl (lv_room (Nat.le_of_ble_eq_true rfl)) dX10_blanks_1 ⟨Nat.le_of_ble_eq_true rfl, Nat.le_of_ble_eq_true rfl⟩) hD hS hA (fun n2 un2 H locs pn2 hP hD hS => ?_)
      have pn2 : ((n2.toInt = -1 ∧ v_end.toInt ≤ z_next_0.toInt) ∨ (z_next_0.toInt < v_end.toInt ∧ n2.toInt = (f_tape (z_next_0).toNatClampNeg).toInt)) ∧ (-1 ≤ n2.toInt) ∧ (n2.toInt ≤ 255) ∧ ((n2.toInt = -1 ∧ v_end.toInt ≤ z_next_0.toInt) ∨ (z_next_0.toInt < v_end.toInt ∧ n2 = f_tape (z_next_0).toNatClampNeg)) ∧ True := pn2
      obtain ⟨pn2_0, pn2_1, pn2_2, pn2_3, -⟩ := pn2
      have hP : va_P D vwCl (wM c y a v_tapeSize v_thrown v_fault v_faultPlace v_things v_options v_lists v_sentences v_headings v_words v_factBits v_known v_soundMany v_wholeLength z_next_0 v_end v_rThings v_rOptions v_rLists v_rSentences v_rHeadings v_lastName v_inSentence v_open v_written v_named v_sorted f_tape f_kind f_owner f_from f_size f_means f_signs f_oKind f_oIn f_oList f_oWords f_oFacts f_listIn f_sOwner f_hFacts f_weights f_lengths f_values f_rKind f_rOwner f_rFrom f_rSize f_rMeans f_rOKind f_rOIn f_rOList f_rOFacts f_rListIn f_rSOwner f_rHFacts f_rWeights f_opKind f_opFrom f_opWord f_opOwner f_opList f_opItems f_out f_ranks) H := hP
      have hD : va_D A (wM c y a v_tapeSize v_thrown v_fault v_faultPlace v_things v_options v_lists v_sentences v_headings v_words v_factBits v_known v_soundMany v_wholeLength z_next_0 v_end v_rThings v_rOptions v_rLists v_rSentences v_rHeadings v_lastName v_inSentence v_open v_written v_named v_sorted f_tape f_kind f_owner f_from f_size f_means f_signs f_oKind f_oIn f_oList f_oWords f_oFacts f_listIn f_sOwner f_hFacts f_weights f_lengths f_values f_rKind f_rOwner f_rFrom f_rSize f_rMeans f_rOKind f_rOIn f_rOList f_rOFacts f_rListIn f_rSOwner f_rHFacts f_rWeights f_opKind f_opFrom f_opWord f_opOwner f_opList f_opItems f_out f_ranks) := hD
      refine lv_bipush (v := 10) hx hb dX10_blanks_4 (by decide) ?_
      refine lv_icmp_eq (tgt := 18) hx hb dX10_blanks_6 (by decide) (fun g3 => ?_) (fun g3 => ?_)
      · have g3 : n2.toInt = (10 : Int) := (q3_eq rfl (by decide)).mp g3
        refine lv_aload_n hx hb dX10_blanks_18 rfl (lv_at hl 0 rfl) ?_
        refine lv_dup hx hb dX10_blanks_19 rfl ?_
        refine va_get (D := D) (ci := 10) (v := .int z_next_0) (C := RX10) (T := TX10) (N := 66) hx hb hts iX10 hown hK hP 0 rfl rfl 32 (by decide) (hts (.fieldLink RX10 144 "ShortTellerModel" "next" "I") (List.mem_of_getElem? (i := 1) rfl)) (fun _ h9 => h9) rfl dX10_blanks_20 ?_
        refine lv_iconst (v := 1) hx hb dX10_blanks_23 (by decide) ?_
        refine lv_iadd hx hb dX10_blanks_24 ?_
        refine lv_topi (fun n4 en4 => ?_)
        have tn4 : n4.toInt = z_next_0.toInt + (1 : Int) := q3_add en4 rfl (by decide) (by omega) (by omega)
        refine va_put (D := D) (ci := 10) (v := .int n4) (ty := .int) (C := RX10) (T := TX10) (N := 66) hx hb hts iX10 tyX10 tyX10_ok nmX10 hown hK hP hD hS 0 rfl rfl 32 (by decide) (hts (.fieldLink RX10 144 "ShortTellerModel" "next" "I") (List.mem_of_getElem? (i := 1) rfl)) (fun _ h9 => h9) rfl (by decide +kernel) rfl rfl (Nat.le_of_ble_eq_true rfl) dX10_blanks_25 (fun H locs hP hD hS => ?_)
        have hP : va_P D vwCl (wM c y a v_tapeSize v_thrown v_fault v_faultPlace v_things v_options v_lists v_sentences v_headings v_words v_factBits v_known v_soundMany v_wholeLength n4 v_end v_rThings v_rOptions v_rLists v_rSentences v_rHeadings v_lastName v_inSentence v_open v_written v_named v_sorted f_tape f_kind f_owner f_from f_size f_means f_signs f_oKind f_oIn f_oList f_oWords f_oFacts f_listIn f_sOwner f_hFacts f_weights f_lengths f_values f_rKind f_rOwner f_rFrom f_rSize f_rMeans f_rOKind f_rOIn f_rOList f_rOFacts f_rListIn f_rSOwner f_rHFacts f_rWeights f_opKind f_opFrom f_opWord f_opOwner f_opList f_opItems f_out f_ranks) H := hP
        have hD : va_D A (wM c y a v_tapeSize v_thrown v_fault v_faultPlace v_things v_options v_lists v_sentences v_headings v_words v_factBits v_known v_soundMany v_wholeLength n4 v_end v_rThings v_rOptions v_rLists v_rSentences v_rHeadings v_lastName v_inSentence v_open v_written v_named v_sorted f_tape f_kind f_owner f_from f_size f_means f_signs f_oKind f_oIn f_oList f_oWords f_oFacts f_listIn f_sOwner f_hFacts f_weights f_lengths f_values f_rKind f_rOwner f_rFrom f_rSize f_rMeans f_rOKind f_rOIn f_rOList f_rOFacts f_rListIn f_rSOwner f_rHFacts f_rWeights f_opKind f_opFrom f_opWord f_opOwner f_opList f_opItems f_out f_ranks) := hD
        have c5 : ∀ (fs : List e_F) (op ls sw nm : Int) (r : e_R), e_Ev (e_sg f_tape) v_end.toInt (n4.toInt, fs, op, ls, sw, nm) r → e_Ev (e_sg f_tape) v_end.toInt (v_next.toInt, fs, op, ls, sw, nm) r := fun fs op ls sw nm r h9 => j2_0 fs op ls sw nm r (e_Ev.go (e_s_blank (at_ := z_next_0.toInt) (by omega) (show (f_tape z_next_0.toNatClampNeg).toInt = 10 ∨ (f_tape z_next_0.toNatClampNeg).toInt = 32 by omega)) (by rw [tn4] at h9; exact h9))
        refine lv_goto (tgt := 0) hx hb dX10_blanks_28 (by decide) ?_
        exact ih_0 n4 (show v_next.toInt ≤ n4.toInt by omega) (show n4.toInt ≤ v_end.toInt by omega) c5 (show 801 - n4.toInt < _ by omega) _ _ _ hP hD hS hl
      · have g3 : ¬ n2.toInt = (10 : Int) := (not_congr (q3_eq rfl (by decide))).mp g3
        refine lv_aload_n hx hb dX10_blanks_9 rfl (lv_at hl 0 rfl) ?_
        refine q3_ci (va_runV (As := []) (rest := []) ⟨hx, hb, hml, hown, hts⟩ (y3_see l D c H.size y a v_tapeSize v_thrown v_fault v_faultPlace v_things v_options v_lists v_sentences v_headings v_words v_factBits v_known v_soundMany v_wholeLength z_next_0 v_end v_rThings v_rOptions v_rLists v_rSentences v_rHeadings v_lastName v_inSentence v_open v_written v_named v_sorted f_tape f_kind f_owner f_from f_size f_means f_signs f_oKind f_oIn f_oList f_oWords f_oFacts f_listIn f_sOwner f_hFacts f_weights f_lengths f_values f_rKind f_rOwner f_rFrom f_rSize f_rMeans f_rOKind f_rOIn f_rOList f_rOFacts f_rListIn f_rSOwner f_rHFacts f_rWeights f_opKind f_opFrom f_opWord f_opOwner f_opList f_opItems f_out f_ranks (show 0 ≤ z_next_0.toInt by omega) h1 h3) (cwV 0 hts gX10_blanks_X10_see rfl rfl rfl (by decide +kernel) ⟨Nat.le_of_ble_eq_true rfl, Nat.le_of_ble_eq_true rfl⟩) (q3_preV (c := c) (ci := 10) (q0 := 0) hP hK hD rfl rfl) rfl rfl hl.1 rfl (lv_room (Nat.le_of_ble_eq_true rfl)) dX10_blanks_10 ⟨Nat.le_of_ble_eq_true rfl, Nat.le_of_ble_eq_true rfl⟩) hD hS hA (fun n6 un6 H locs pn6 hP hD hS => ?_)
        have pn6 : ((n6.toInt = -1 ∧ v_end.toInt ≤ z_next_0.toInt) ∨ (z_next_0.toInt < v_end.toInt ∧ n6.toInt = (f_tape (z_next_0).toNatClampNeg).toInt)) ∧ (-1 ≤ n6.toInt) ∧ (n6.toInt ≤ 255) ∧ ((n6.toInt = -1 ∧ v_end.toInt ≤ z_next_0.toInt) ∨ (z_next_0.toInt < v_end.toInt ∧ n6 = f_tape (z_next_0).toNatClampNeg)) ∧ True := pn6
        obtain ⟨pn6_0, pn6_1, pn6_2, pn6_3, -⟩ := pn6
        have hP : va_P D vwCl (wM c y a v_tapeSize v_thrown v_fault v_faultPlace v_things v_options v_lists v_sentences v_headings v_words v_factBits v_known v_soundMany v_wholeLength z_next_0 v_end v_rThings v_rOptions v_rLists v_rSentences v_rHeadings v_lastName v_inSentence v_open v_written v_named v_sorted f_tape f_kind f_owner f_from f_size f_means f_signs f_oKind f_oIn f_oList f_oWords f_oFacts f_listIn f_sOwner f_hFacts f_weights f_lengths f_values f_rKind f_rOwner f_rFrom f_rSize f_rMeans f_rOKind f_rOIn f_rOList f_rOFacts f_rListIn f_rSOwner f_rHFacts f_rWeights f_opKind f_opFrom f_opWord f_opOwner f_opList f_opItems f_out f_ranks) H := hP
        have hD : va_D A (wM c y a v_tapeSize v_thrown v_fault v_faultPlace v_things v_options v_lists v_sentences v_headings v_words v_factBits v_known v_soundMany v_wholeLength z_next_0 v_end v_rThings v_rOptions v_rLists v_rSentences v_rHeadings v_lastName v_inSentence v_open v_written v_named v_sorted f_tape f_kind f_owner f_from f_size f_means f_signs f_oKind f_oIn f_oList f_oWords f_oFacts f_listIn f_sOwner f_hFacts f_weights f_lengths f_values f_rKind f_rOwner f_rFrom f_rSize f_rMeans f_rOKind f_rOIn f_rOList f_rOFacts f_rListIn f_rSOwner f_rHFacts f_rWeights f_opKind f_opFrom f_opWord f_opOwner f_opList f_opItems f_out f_ranks) := hD
        refine lv_bipush (v := 32) hx hb dX10_blanks_13 (by decide) ?_
        refine lv_icmp_ne (tgt := 31) hx hb dX10_blanks_15 (by decide) (fun g7 => ?_) (fun g7 => ?_)
        · have g7 : ¬ n6.toInt = (32 : Int) := (not_congr (q3_eq rfl (by decide))).mp g7
          exact hret (q2_u [] [z_next_0] []) _ _ _ _ ⟨j0_0, j1_0, (show z_next_0.toInt = v_end.toInt ∨ ((f_tape (z_next_0).toNatClampNeg).toInt ≠ 10 ∧ (f_tape (z_next_0).toNatClampNeg).toInt ≠ 32) by omega), (show ∀ (fs : List e_F) (op ls sw nm : Int) (r : e_R), e_Ev (e_sg f_tape) v_end.toInt (z_next_0.toInt, fs, op, ls, sw, nm) r → e_Ev (e_sg f_tape) v_end.toInt (v_next.toInt, fs, op, ls, sw, nm) r from j2_0), trivial⟩ dX10_blanks_31 hP hD hS
        · have g7 : n6.toInt = (32 : Int) := (q3_eq rfl (by decide)).mp g7
          refine lv_aload_n hx hb dX10_blanks_18 rfl (lv_at hl 0 rfl) ?_
          refine lv_dup hx hb dX10_blanks_19 rfl ?_
          refine va_get (D := D) (ci := 10) (v := .int z_next_0) (C := RX10) (T := TX10) (N := 66) hx hb hts iX10 hown hK hP 0 rfl rfl 32 (by decide) (hts (.fieldLink RX10 144 "ShortTellerModel" "next" "I") (List.mem_of_getElem? (i := 1) rfl)) (fun _ h9 => h9) rfl dX10_blanks_20 ?_
          refine lv_iconst (v := 1) hx hb dX10_blanks_23 (by decide) ?_
          refine lv_iadd hx hb dX10_blanks_24 ?_
          refine lv_topi (fun n8 en8 => ?_)
          have tn8 : n8.toInt = z_next_0.toInt + (1 : Int) := q3_add en8 rfl (by decide) (by omega) (by omega)
          refine va_put (D := D) (ci := 10) (v := .int n8) (ty := .int) (C := RX10) (T := TX10) (N := 66) hx hb hts iX10 tyX10 tyX10_ok nmX10 hown hK hP hD hS 0 rfl rfl 32 (by decide) (hts (.fieldLink RX10 144 "ShortTellerModel" "next" "I") (List.mem_of_getElem? (i := 1) rfl)) (fun _ h9 => h9) rfl (by decide +kernel) rfl rfl (Nat.le_of_ble_eq_true rfl) dX10_blanks_25 (fun H locs hP hD hS => ?_)
          have hP : va_P D vwCl (wM c y a v_tapeSize v_thrown v_fault v_faultPlace v_things v_options v_lists v_sentences v_headings v_words v_factBits v_known v_soundMany v_wholeLength n8 v_end v_rThings v_rOptions v_rLists v_rSentences v_rHeadings v_lastName v_inSentence v_open v_written v_named v_sorted f_tape f_kind f_owner f_from f_size f_means f_signs f_oKind f_oIn f_oList f_oWords f_oFacts f_listIn f_sOwner f_hFacts f_weights f_lengths f_values f_rKind f_rOwner f_rFrom f_rSize f_rMeans f_rOKind f_rOIn f_rOList f_rOFacts f_rListIn f_rSOwner f_rHFacts f_rWeights f_opKind f_opFrom f_opWord f_opOwner f_opList f_opItems f_out f_ranks) H := hP
          have hD : va_D A (wM c y a v_tapeSize v_thrown v_fault v_faultPlace v_things v_options v_lists v_sentences v_headings v_words v_factBits v_known v_soundMany v_wholeLength n8 v_end v_rThings v_rOptions v_rLists v_rSentences v_rHeadings v_lastName v_inSentence v_open v_written v_named v_sorted f_tape f_kind f_owner f_from f_size f_means f_signs f_oKind f_oIn f_oList f_oWords f_oFacts f_listIn f_sOwner f_hFacts f_weights f_lengths f_values f_rKind f_rOwner f_rFrom f_rSize f_rMeans f_rOKind f_rOIn f_rOList f_rOFacts f_rListIn f_rSOwner f_rHFacts f_rWeights f_opKind f_opFrom f_opWord f_opOwner f_opList f_opItems f_out f_ranks) := hD
          have c9 : ∀ (fs : List e_F) (op ls sw nm : Int) (r : e_R), e_Ev (e_sg f_tape) v_end.toInt (n8.toInt, fs, op, ls, sw, nm) r → e_Ev (e_sg f_tape) v_end.toInt (v_next.toInt, fs, op, ls, sw, nm) r := fun fs op ls sw nm r h9 => j2_0 fs op ls sw nm r (e_Ev.go (e_s_blank (at_ := z_next_0.toInt) (by omega) (show (f_tape z_next_0.toNatClampNeg).toInt = 10 ∨ (f_tape z_next_0.toNatClampNeg).toInt = 32 by omega)) (by rw [tn8] at h9; exact h9))
          refine lv_goto (tgt := 0) hx hb dX10_blanks_28 (by decide) ?_
          exact ih_0 n8 (show v_next.toInt ≤ n8.toInt by omega) (show n8.toInt ≤ v_end.toInt by omega) c9 (show 801 - n8.toInt < _ by omega) _ _ _ hP hD hS hl
  exact lp0 (Int.toNat (801 - v_next.toInt) + 1) v_next (show v_next.toInt ≤ v_next.toInt by omega) h2 c1 (show 801 - v_next.toInt < ((Int.toNat (801 - v_next.toInt) + 1 : Nat) : Int) by omega) _ _ _ hP hD hS hl
set_option maxHeartbeats 4000000 in
set_option maxRecDepth 100000 in
theorem g3_canPart (l : Launch) (D : va_G) (c : Nat → ClassId) (sz : Nat) (y : Nat) (a : Nat → Nat) (v_tapeSize v_thrown v_fault v_faultPlace v_things v_options v_lists v_sentences v_headings v_words v_factBits v_known v_soundMany v_wholeLength v_next v_end v_rThings v_rOptions v_rLists v_rSentences v_rHeadings v_lastName v_inSentence v_open v_written v_named v_sorted : Int32) (f_tape f_kind f_owner f_from f_size f_means f_signs f_oKind f_oIn f_oList f_oWords f_oFacts f_listIn f_sOwner f_hFacts f_weights f_lengths f_values f_rKind f_rOwner f_rFrom f_rSize f_rMeans f_rOKind f_rOIn f_rOList f_rOFacts f_rListIn f_rSOwner f_rHFacts f_rWeights f_opKind f_opFrom f_opWord f_opOwner f_opList f_opItems f_out f_ranks : Nat → Int32) (h0 : 0 ≤ v_next.toInt) (h1 : v_end.toInt ≤ 800) (h2 : ∀ j : Nat, -422 < (f_opOwner j).toInt ∧ (f_opOwner j).toInt < 14 ∧ (f_opOwner j).toInt ≠ -1) (h3 : ∀ j : Nat, 0 ≤ (f_tape j).toInt ∧ (f_tape j).toInt ≤ 255) : Met l yX10_canPart wsX10_canPart ({ frames := 2, cells := 0, slots := 0, locals := 40 }) (q3_P D c (wM c y a v_tapeSize v_thrown v_fault v_faultPlace v_things v_options v_lists v_sentences v_headings v_words v_factBits v_known v_soundMany v_wholeLength v_next v_end v_rThings v_rOptions v_rLists v_rSentences v_rHeadings v_lastName v_inSentence v_open v_written v_named v_sorted f_tape f_kind f_owner f_from f_size f_means f_signs f_oKind f_oIn f_oList f_oWords f_oFacts f_listIn f_sOwner f_hFacts f_weights f_lengths f_values f_rKind f_rOwner f_rFrom f_rSize f_rMeans f_rOKind f_rOIn f_rOList f_rOFacts f_rListIn f_rSOwner f_rHFacts f_rWeights f_opKind f_opFrom f_opWord f_opOwner f_opList f_opItems f_out f_ranks) sz [.ref y]) (q2_i D (wM c y a v_tapeSize v_thrown v_fault v_faultPlace v_things v_options v_lists v_sentences v_headings v_words v_factBits v_known v_soundMany v_wholeLength v_next v_end v_rThings v_rOptions v_rLists v_rSentences v_rHeadings v_lastName v_inSentence v_open v_written v_named v_sorted f_tape f_kind f_owner f_from f_size f_means f_signs f_oKind f_oIn f_oList f_oWords f_oFacts f_listIn f_sOwner f_hFacts f_weights f_lengths f_values f_rKind f_rOwner f_rFrom f_rSize f_rMeans f_rOKind f_rOIn f_rOList f_rOFacts f_rListIn f_rSOwner f_rHFacts f_rWeights f_opKind f_opFrom f_opWord f_opOwner f_opList f_opItems f_out f_ranks) sz (fun r u => (r.toInt = 0 ∨ r.toInt = 1) ∧ ((r.toInt = 1 ∧ v_next.toInt < v_end.toInt ∧ e_pI (f_tape (v_next).toNatClampNeg).toInt = 1 ∧ (0 ≤ (f_opOwner 0).toInt ∨ ((f_tape (v_next).toNatClampNeg).toInt ≠ 40 ∧ (f_tape (v_next).toNatClampNeg).toInt ≠ 123 ∧ (f_tape (v_next).toNatClampNeg).toInt ≠ 126))) ∨ (r.toInt = 0 ∧ (v_end.toInt ≤ v_next.toInt ∨ ¬ (e_pI (f_tape (v_next).toNatClampNeg).toInt = 1 ∧ (0 ≤ (f_opOwner 0).toInt ∨ ((f_tape (v_next).toNatClampNeg).toInt ≠ 40 ∧ (f_tape (v_next).toNatClampNeg).toInt ≠ 123 ∧ (f_tape (v_next).toNatClampNeg).toInt ≠ 126)))))) ∧ True) (fun u => wM c y a v_tapeSize v_thrown v_fault v_faultPlace v_things v_options v_lists v_sentences v_headings v_words v_factBits v_known v_soundMany v_wholeLength v_next v_end v_rThings v_rOptions v_rLists v_rSentences v_rHeadings v_lastName v_inSentence v_open v_written v_named v_sorted f_tape f_kind f_owner f_from f_size f_means f_signs f_oKind f_oIn f_oList f_oWords f_oFacts f_listIn f_sOwner f_hFacts f_weights f_lengths f_values f_rKind f_rOwner f_rFrom f_rSize f_rMeans f_rOKind f_rOIn f_rOList f_rOFacts f_rListIn f_rSOwner f_rHFacts f_rWeights f_opKind f_opFrom f_opWord f_opOwner f_opList f_opItems f_out f_ranks)) (0) (0) (va_A (wM c y a v_tapeSize v_thrown v_fault v_faultPlace v_things v_options v_lists v_sentences v_headings v_words v_factBits v_known v_soundMany v_wholeLength v_next v_end v_rThings v_rOptions v_rLists v_rSentences v_rHeadings v_lastName v_inSentence v_open v_written v_named v_sorted f_tape f_kind f_owner f_from f_size f_means f_signs f_oKind f_oIn f_oList f_oWords f_oFacts f_listIn f_sOwner f_hFacts f_weights f_lengths f_values f_rKind f_rOwner f_rFrom f_rSize f_rMeans f_rOKind f_rOIn f_rOList f_rOFacts f_rListIn f_rSOwner f_rHFacts f_rWeights f_opKind f_opFrom f_opWord f_opOwner f_opList f_opItems f_out f_ranks) sz) := by
  refine q3_of_i (ty := .boolean) (fun r u h => q3_nb h.1) (cc := cX10_canPart) (maxL := 3) (by decide) rfl (Nat.le_of_ble_eq_true rfl) (fun p e s m args below meth cd A Q ls hx hb hml hown hts hA hS hP hD hK hl hret => ?_)
  have hown : s.vm.findClass RX10 = some m.cls := hown
  obtain ⟨H, eH⟩ : ∃ z, z = s.heap := ⟨_, rfl⟩
  have hP : va_P D vwCl (wM c y a v_tapeSize v_thrown v_fault v_faultPlace v_things v_options v_lists v_sentences v_headings v_words v_factBits v_known v_soundMany v_wholeLength v_next v_end v_rThings v_rOptions v_rLists v_rSentences v_rHeadings v_lastName v_inSentence v_open v_written v_named v_sorted f_tape f_kind f_owner f_from f_size f_means f_signs f_oKind f_oIn f_oList f_oWords f_oFacts f_listIn f_sOwner f_hFacts f_weights f_lengths f_values f_rKind f_rOwner f_rFrom f_rSize f_rMeans f_rOKind f_rOIn f_rOList f_rOFacts f_rListIn f_rSOwner f_rHFacts f_rWeights f_opKind f_opFrom f_opWord f_opOwner f_opList f_opItems f_out f_ranks) H := by rw [eH]; exact hP
  have hS : va_S A s.heap H [] := by rw [eH]; exact hS
  rw [← eH]
  have iX10 : ∀ w ∈ wsX100, w ∈ wsX10_canPart := fun w h => List.mem_cons_of_mem _ (List.mem_append_right _ h)
  have hl : lv_has ls 3 [(0, .ref y)] := hl
  refine lv_aload_n hx hb dX10_canPart_0 rfl (lv_at hl 0 rfl) ?_
  refine q3_ci (va_runV (As := []) (rest := []) ⟨hx, hb, hml, hown, hts⟩ (y3_see l D c H.size y a v_tapeSize v_thrown v_fault v_faultPlace v_things v_options v_lists v_sentences v_headings v_words v_factBits v_known v_soundMany v_wholeLength v_next v_end v_rThings v_rOptions v_rLists v_rSentences v_rHeadings v_lastName v_inSentence v_open v_written v_named v_sorted f_tape f_kind f_owner f_from f_size f_means f_signs f_oKind f_oIn f_oList f_oWords f_oFacts f_listIn f_sOwner f_hFacts f_weights f_lengths f_values f_rKind f_rOwner f_rFrom f_rSize f_rMeans f_rOKind f_rOIn f_rOList f_rOFacts f_rListIn f_rSOwner f_rHFacts f_rWeights f_opKind f_opFrom f_opWord f_opOwner f_opList f_opItems f_out f_ranks h0 h1 h3) (cwV 0 hts gX10_canPart_X10_see rfl rfl rfl (by decide +kernel) ⟨Nat.le_of_ble_eq_true rfl, Nat.le_of_ble_eq_true rfl⟩) (q3_preV (c := c) (ci := 10) (q0 := 0) hP hK hD rfl rfl) rfl rfl hl.1 rfl (lv_room (Nat.le_of_ble_eq_true rfl)) dX10_canPart_1 ⟨Nat.le_of_ble_eq_true rfl, Nat.le_of_ble_eq_true rfl⟩) hD hS hA (fun n1 un1 H locs pn1 hP hD hS => ?_)
  have pn1 : ((n1.toInt = -1 ∧ v_end.toInt ≤ v_next.toInt) ∨ (v_next.toInt < v_end.toInt ∧ n1.toInt = (f_tape (v_next).toNatClampNeg).toInt)) ∧ (-1 ≤ n1.toInt) ∧ (n1.toInt ≤ 255) ∧ ((n1.toInt = -1 ∧ v_end.toInt ≤ v_next.toInt) ∨ (v_next.toInt < v_end.toInt ∧ n1 = f_tape (v_next).toNatClampNeg)) ∧ True := pn1
  obtain ⟨pn1_0, pn1_1, pn1_2, pn1_3, -⟩ := pn1
  have hP : va_P D vwCl (wM c y a v_tapeSize v_thrown v_fault v_faultPlace v_things v_options v_lists v_sentences v_headings v_words v_factBits v_known v_soundMany v_wholeLength v_next v_end v_rThings v_rOptions v_rLists v_rSentences v_rHeadings v_lastName v_inSentence v_open v_written v_named v_sorted f_tape f_kind f_owner f_from f_size f_means f_signs f_oKind f_oIn f_oList f_oWords f_oFacts f_listIn f_sOwner f_hFacts f_weights f_lengths f_values f_rKind f_rOwner f_rFrom f_rSize f_rMeans f_rOKind f_rOIn f_rOList f_rOFacts f_rListIn f_rSOwner f_rHFacts f_rWeights f_opKind f_opFrom f_opWord f_opOwner f_opList f_opItems f_out f_ranks) H := hP
  have hD : va_D A (wM c y a v_tapeSize v_thrown v_fault v_faultPlace v_things v_options v_lists v_sentences v_headings v_words v_factBits v_known v_soundMany v_wholeLength v_next v_end v_rThings v_rOptions v_rLists v_rSentences v_rHeadings v_lastName v_inSentence v_open v_written v_named v_sorted f_tape f_kind f_owner f_from f_size f_means f_signs f_oKind f_oIn f_oList f_oWords f_oFacts f_listIn f_sOwner f_hFacts f_weights f_lengths f_values f_rKind f_rOwner f_rFrom f_rSize f_rMeans f_rOKind f_rOIn f_rOList f_rOFacts f_rListIn f_rSOwner f_rHFacts f_rWeights f_opKind f_opFrom f_opWord f_opOwner f_opList f_opItems f_out f_ranks) := hD
  have sc := e_see pn1_0
  refine lv_istore_n (lv' := [(1, .int n1), (0, .ref y)]) hx hb dX10_canPart_4 rfl hl (by decide) rfl (fun ls hl => ?_)
  refine lv_aload_n hx hb dX10_canPart_5 rfl (lv_at hl 1 rfl) ?_
  refine va_get (D := D) (ci := 10) (v := .ref (a 34)) (C := RX10) (T := TX10) (N := 66) hx hb hts iX10 hown hK hP 0 rfl rfl 58 (by decide) (hts (.fieldLink RX10 117 "ShortTellerModel" "opOwner" "[I") (List.mem_of_getElem? (i := 1) rfl)) (fun _ h9 => h9) rfl dX10_canPart_6 ?_
  refine lv_iconst (v := 0) hx hb dX10_canPart_9 (by decide) ?_
  refine q3_iald (c := c) hx hb hK hP 35 rfl (q2_in (by decide) (by decide)) dX10_canPart_10 (fun n2 en2 => ?_)
  have tn2 : n2.toInt = (f_opOwner 0).toInt := by rw [en2]; rfl
  have rn2 : -422 < n2.toInt ∧ n2.toInt < 14 ∧ n2.toInt ≠ -1 := by rw [en2]; exact h2 _
  refine lv_if_ge (tgt := 18) hx hb dX10_canPart_11 (by decide) (fun g3 => ?_) (fun g3 => ?_)
  · have g3 : (0 : Int) ≤ n2.toInt := (q3_le (by decide) rfl).mp g3
    refine lv_iconst (v := 0) hx hb dX10_canPart_18 (by decide) ?_
    refine lv_istore_n (lv' := [(2, .int 0), (1, .int n1), (0, .ref y)]) hx hb dX10_canPart_19 rfl hl (by decide) rfl (fun ls hl => ?_)
    refine lv_iload_n hx hb dX10_canPart_20 rfl (lv_at hl 1 rfl) ?_
    refine q3_ci (va_runS (As := [.int n1]) (rest := []) ⟨hx, hb, hml, hown, hts⟩ (y3_isWord l D c H.size y a v_tapeSize v_thrown v_fault v_faultPlace v_things v_options v_lists v_sentences v_headings v_words v_factBits v_known v_soundMany v_wholeLength v_next v_end v_rThings v_rOptions v_rLists v_rSentences v_rHeadings v_lastName v_inSentence v_open v_written v_named v_sorted f_tape f_kind f_owner f_from f_size f_means f_signs f_oKind f_oIn f_oList f_oWords f_oFacts f_listIn f_sOwner f_hFacts f_weights f_lengths f_values f_rKind f_rOwner f_rFrom f_rSize f_rMeans f_rOKind f_rOIn f_rOList f_rOFacts f_rListIn f_rSOwner f_rHFacts f_rWeights f_opKind f_opFrom f_opWord f_opOwner f_opList f_opItems f_out f_ranks n1) (va_cwS 1 hts gX10_canPart_X10_isWord rfl rfl rfl (by decide +kernel) ⟨Nat.le_of_ble_eq_true rfl, Nat.le_of_ble_eq_true rfl⟩) (q3_preS (c := c) hP hK hD) rfl rfl hl.1 rfl (lv_room (Nat.le_of_ble_eq_true rfl)) dX10_canPart_21 ⟨Nat.le_of_ble_eq_true rfl, Nat.le_of_ble_eq_true rfl⟩) hD hS hA (fun n4 un4 H locs pn4 hP hD hS => ?_)
    have pn4 : (n4.toInt = 0 ∨ n4.toInt = 1) ∧ (n4.toInt = 0 ∨ (33 ≤ n1.toInt ∧ n1.toInt ≤ 126 ∧ n1.toInt ≠ 40 ∧ n1.toInt ≠ 123)) ∧ (n4.toInt = q4_wd n1) ∧ True := pn4
    obtain ⟨pn4_0, pn4_1, pn4_2, -⟩ := pn4
    have hP : va_P D vwCl (wM c y a v_tapeSize v_thrown v_fault v_faultPlace v_things v_options v_lists v_sentences v_headings v_words v_factBits v_known v_soundMany v_wholeLength v_next v_end v_rThings v_rOptions v_rLists v_rSentences v_rHeadings v_lastName v_inSentence v_open v_written v_named v_sorted f_tape f_kind f_owner f_from f_size f_means f_signs f_oKind f_oIn f_oList f_oWords f_oFacts f_listIn f_sOwner f_hFacts f_weights f_lengths f_values f_rKind f_rOwner f_rFrom f_rSize f_rMeans f_rOKind f_rOIn f_rOList f_rOFacts f_rListIn f_rSOwner f_rHFacts f_rWeights f_opKind f_opFrom f_opWord f_opOwner f_opList f_opItems f_out f_ranks) H := hP
    have hD : va_D A (wM c y a v_tapeSize v_thrown v_fault v_faultPlace v_things v_options v_lists v_sentences v_headings v_words v_factBits v_known v_soundMany v_wholeLength v_next v_end v_rThings v_rOptions v_rLists v_rSentences v_rHeadings v_lastName v_inSentence v_open v_written v_named v_sorted f_tape f_kind f_owner f_from f_size f_means f_signs f_oKind f_oIn f_oList f_oWords f_oFacts f_listIn f_sOwner f_hFacts f_weights f_lengths f_values f_rKind f_rOwner f_rFrom f_rSize f_rMeans f_rOKind f_rOIn f_rOList f_rOFacts f_rListIn f_rSOwner f_rHFacts f_rWeights f_opKind f_opFrom f_opWord f_opOwner f_opList f_opItems f_out f_ranks) := hD
    have ew : n4.toInt = e_wI n1.toInt := by rw [← q4_wd_e]; exact pn4_2
    have ep := e_pI_d n1.toInt
    have ewd := e_wI_d n1.toInt
    refine lv_if_ne (tgt := 61) hx hb dX10_canPart_24 (by decide) (fun g5 => ?_) (fun g5 => ?_)
    · have g5 : ¬ n4.toInt = (0 : Int) := (not_congr (q3_eq rfl (by decide))).mp g5
      replace pn4_1 := pn4_1.resolve_left g5
      refine lv_iconst (v := 1) hx hb dX10_canPart_61 (by decide) ?_
      refine lv_goto (tgt := 66) hx hb dX10_canPart_62 (by decide) ?_
      exact hret (1) (q2_u [] [] []) _ _ _ _ ⟨(show (1 : Int) = 0 ∨ (1 : Int) = 1 by omega), (show ((1 : Int) = 1 ∧ v_next.toInt < v_end.toInt ∧ e_pI (f_tape (v_next).toNatClampNeg).toInt = 1 ∧ (0 ≤ (f_opOwner 0).toInt ∨ ((f_tape (v_next).toNatClampNeg).toInt ≠ 40 ∧ (f_tape (v_next).toNatClampNeg).toInt ≠ 123 ∧ (f_tape (v_next).toNatClampNeg).toInt ≠ 126))) ∨ ((1 : Int) = 0 ∧ (v_end.toInt ≤ v_next.toInt ∨ ¬ (e_pI (f_tape (v_next).toNatClampNeg).toInt = 1 ∧ (0 ≤ (f_opOwner 0).toInt ∨ ((f_tape (v_next).toNatClampNeg).toInt ≠ 40 ∧ (f_tape (v_next).toNatClampNeg).toInt ≠ 123 ∧ (f_tape (v_next).toNatClampNeg).toInt ≠ 126))))) by omega), trivial⟩ dX10_canPart_66 hP hD hS
    · have g5 : n4.toInt = (0 : Int) := (q3_eq rfl (by decide)).mp g5
      clear pn4_1
      refine lv_iload_n hx hb dX10_canPart_27 rfl (lv_at hl 1 rfl) ?_
      refine lv_bipush (v := 42) hx hb dX10_canPart_28 (by decide) ?_
      refine lv_icmp_eq (tgt := 61) hx hb dX10_canPart_30 (by decide) (fun g6 => ?_) (fun g6 => ?_)
      · have g6 : n1.toInt = (42 : Int) := (q3_eq rfl (by decide)).mp g6
        refine lv_iconst (v := 1) hx hb dX10_canPart_61 (by decide) ?_
        refine lv_goto (tgt := 66) hx hb dX10_canPart_62 (by decide) ?_
        exact hret (1) (q2_u [] [] []) _ _ _ _ ⟨(show (1 : Int) = 0 ∨ (1 : Int) = 1 by omega), (show ((1 : Int) = 1 ∧ v_next.toInt < v_end.toInt ∧ e_pI (f_tape (v_next).toNatClampNeg).toInt = 1 ∧ (0 ≤ (f_opOwner 0).toInt ∨ ((f_tape (v_next).toNatClampNeg).toInt ≠ 40 ∧ (f_tape (v_next).toNatClampNeg).toInt ≠ 123 ∧ (f_tape (v_next).toNatClampNeg).toInt ≠ 126))) ∨ ((1 : Int) = 0 ∧ (v_end.toInt ≤ v_next.toInt ∨ ¬ (e_pI (f_tape (v_next).toNatClampNeg).toInt = 1 ∧ (0 ≤ (f_opOwner 0).toInt ∨ ((f_tape (v_next).toNatClampNeg).toInt ≠ 40 ∧ (f_tape (v_next).toNatClampNeg).toInt ≠ 123 ∧ (f_tape (v_next).toNatClampNeg).toInt ≠ 126))))) by omega), trivial⟩ dX10_canPart_66 hP hD hS
      · have g6 : ¬ n1.toInt = (42 : Int) := (not_congr (q3_eq rfl (by decide))).mp g6
        refine lv_iload_n hx hb dX10_canPart_33 rfl (lv_at hl 1 rfl) ?_
        refine lv_bipush (v := 60) hx hb dX10_canPart_34 (by decide) ?_
        refine lv_icmp_eq (tgt := 61) hx hb dX10_canPart_36 (by decide) (fun g7 => ?_) (fun g7 => ?_)
        · have g7 : n1.toInt = (60 : Int) := (q3_eq rfl (by decide)).mp g7
          refine lv_iconst (v := 1) hx hb dX10_canPart_61 (by decide) ?_
          refine lv_goto (tgt := 66) hx hb dX10_canPart_62 (by decide) ?_
          exact hret (1) (q2_u [] [] []) _ _ _ _ ⟨(show (1 : Int) = 0 ∨ (1 : Int) = 1 by omega), (show ((1 : Int) = 1 ∧ v_next.toInt < v_end.toInt ∧ e_pI (f_tape (v_next).toNatClampNeg).toInt = 1 ∧ (0 ≤ (f_opOwner 0).toInt ∨ ((f_tape (v_next).toNatClampNeg).toInt ≠ 40 ∧ (f_tape (v_next).toNatClampNeg).toInt ≠ 123 ∧ (f_tape (v_next).toNatClampNeg).toInt ≠ 126))) ∨ ((1 : Int) = 0 ∧ (v_end.toInt ≤ v_next.toInt ∨ ¬ (e_pI (f_tape (v_next).toNatClampNeg).toInt = 1 ∧ (0 ≤ (f_opOwner 0).toInt ∨ ((f_tape (v_next).toNatClampNeg).toInt ≠ 40 ∧ (f_tape (v_next).toNatClampNeg).toInt ≠ 123 ∧ (f_tape (v_next).toNatClampNeg).toInt ≠ 126))))) by omega), trivial⟩ dX10_canPart_66 hP hD hS
        · have g7 : ¬ n1.toInt = (60 : Int) := (not_congr (q3_eq rfl (by decide))).mp g7
          refine lv_iload_n hx hb dX10_canPart_39 rfl (lv_at hl 0 rfl) ?_
          refine lv_if_ne (tgt := 65) hx hb dX10_canPart_40 (by decide) (fun h9 => absurd (by decide) h9) (fun _ => ?_)
          refine lv_iload_n hx hb dX10_canPart_43 rfl (lv_at hl 1 rfl) ?_
          refine lv_bipush (v := 126) hx hb dX10_canPart_44 (by decide) ?_
          refine lv_icmp_eq (tgt := 61) hx hb dX10_canPart_46 (by decide) (fun g8 => ?_) (fun g8 => ?_)
          · have g8 : n1.toInt = (126 : Int) := (q3_eq rfl (by decide)).mp g8
            refine lv_iconst (v := 1) hx hb dX10_canPart_61 (by decide) ?_
            refine lv_goto (tgt := 66) hx hb dX10_canPart_62 (by decide) ?_
            exact hret (1) (q2_u [] [] []) _ _ _ _ ⟨(show (1 : Int) = 0 ∨ (1 : Int) = 1 by omega), (show ((1 : Int) = 1 ∧ v_next.toInt < v_end.toInt ∧ e_pI (f_tape (v_next).toNatClampNeg).toInt = 1 ∧ (0 ≤ (f_opOwner 0).toInt ∨ ((f_tape (v_next).toNatClampNeg).toInt ≠ 40 ∧ (f_tape (v_next).toNatClampNeg).toInt ≠ 123 ∧ (f_tape (v_next).toNatClampNeg).toInt ≠ 126))) ∨ ((1 : Int) = 0 ∧ (v_end.toInt ≤ v_next.toInt ∨ ¬ (e_pI (f_tape (v_next).toNatClampNeg).toInt = 1 ∧ (0 ≤ (f_opOwner 0).toInt ∨ ((f_tape (v_next).toNatClampNeg).toInt ≠ 40 ∧ (f_tape (v_next).toNatClampNeg).toInt ≠ 123 ∧ (f_tape (v_next).toNatClampNeg).toInt ≠ 126))))) by omega), trivial⟩ dX10_canPart_66 hP hD hS
          · have g8 : ¬ n1.toInt = (126 : Int) := (not_congr (q3_eq rfl (by decide))).mp g8
            refine lv_iload_n hx hb dX10_canPart_49 rfl (lv_at hl 1 rfl) ?_
            refine lv_bipush (v := 40) hx hb dX10_canPart_50 (by decide) ?_
            refine lv_icmp_eq (tgt := 61) hx hb dX10_canPart_52 (by decide) (fun g9 => ?_) (fun g9 => ?_)
            · have g9 : n1.toInt = (40 : Int) := (q3_eq rfl (by decide)).mp g9
              refine lv_iconst (v := 1) hx hb dX10_canPart_61 (by decide) ?_
              refine lv_goto (tgt := 66) hx hb dX10_canPart_62 (by decide) ?_
              exact hret (1) (q2_u [] [] []) _ _ _ _ ⟨(show (1 : Int) = 0 ∨ (1 : Int) = 1 by omega), (show ((1 : Int) = 1 ∧ v_next.toInt < v_end.toInt ∧ e_pI (f_tape (v_next).toNatClampNeg).toInt = 1 ∧ (0 ≤ (f_opOwner 0).toInt ∨ ((f_tape (v_next).toNatClampNeg).toInt ≠ 40 ∧ (f_tape (v_next).toNatClampNeg).toInt ≠ 123 ∧ (f_tape (v_next).toNatClampNeg).toInt ≠ 126))) ∨ ((1 : Int) = 0 ∧ (v_end.toInt ≤ v_next.toInt ∨ ¬ (e_pI (f_tape (v_next).toNatClampNeg).toInt = 1 ∧ (0 ≤ (f_opOwner 0).toInt ∨ ((f_tape (v_next).toNatClampNeg).toInt ≠ 40 ∧ (f_tape (v_next).toNatClampNeg).toInt ≠ 123 ∧ (f_tape (v_next).toNatClampNeg).toInt ≠ 126))))) by omega), trivial⟩ dX10_canPart_66 hP hD hS
            · have g9 : ¬ n1.toInt = (40 : Int) := (not_congr (q3_eq rfl (by decide))).mp g9
              refine lv_iload_n hx hb dX10_canPart_55 rfl (lv_at hl 1 rfl) ?_
              refine lv_bipush (v := 123) hx hb dX10_canPart_56 (by decide) ?_
              refine lv_icmp_ne (tgt := 65) hx hb dX10_canPart_58 (by decide) (fun g10 => ?_) (fun g10 => ?_)
              · have g10 : ¬ n1.toInt = (123 : Int) := (not_congr (q3_eq rfl (by decide))).mp g10
                refine lv_iconst (v := 0) hx hb dX10_canPart_65 (by decide) ?_
                exact hret (0) (q2_u [] [] []) _ _ _ _ ⟨(show (0 : Int) = 0 ∨ (0 : Int) = 1 by omega), (show ((0 : Int) = 1 ∧ v_next.toInt < v_end.toInt ∧ e_pI (f_tape (v_next).toNatClampNeg).toInt = 1 ∧ (0 ≤ (f_opOwner 0).toInt ∨ ((f_tape (v_next).toNatClampNeg).toInt ≠ 40 ∧ (f_tape (v_next).toNatClampNeg).toInt ≠ 123 ∧ (f_tape (v_next).toNatClampNeg).toInt ≠ 126))) ∨ ((0 : Int) = 0 ∧ (v_end.toInt ≤ v_next.toInt ∨ ¬ (e_pI (f_tape (v_next).toNatClampNeg).toInt = 1 ∧ (0 ≤ (f_opOwner 0).toInt ∨ ((f_tape (v_next).toNatClampNeg).toInt ≠ 40 ∧ (f_tape (v_next).toNatClampNeg).toInt ≠ 123 ∧ (f_tape (v_next).toNatClampNeg).toInt ≠ 126))))) by omega), trivial⟩ dX10_canPart_66 hP hD hS
              · have g10 : n1.toInt = (123 : Int) := (q3_eq rfl (by decide)).mp g10
                refine lv_iconst (v := 1) hx hb dX10_canPart_61 (by decide) ?_
                refine lv_goto (tgt := 66) hx hb dX10_canPart_62 (by decide) ?_
                exact hret (1) (q2_u [] [] []) _ _ _ _ ⟨(show (1 : Int) = 0 ∨ (1 : Int) = 1 by omega), (show ((1 : Int) = 1 ∧ v_next.toInt < v_end.toInt ∧ e_pI (f_tape (v_next).toNatClampNeg).toInt = 1 ∧ (0 ≤ (f_opOwner 0).toInt ∨ ((f_tape (v_next).toNatClampNeg).toInt ≠ 40 ∧ (f_tape (v_next).toNatClampNeg).toInt ≠ 123 ∧ (f_tape (v_next).toNatClampNeg).toInt ≠ 126))) ∨ ((1 : Int) = 0 ∧ (v_end.toInt ≤ v_next.toInt ∨ ¬ (e_pI (f_tape (v_next).toNatClampNeg).toInt = 1 ∧ (0 ≤ (f_opOwner 0).toInt ∨ ((f_tape (v_next).toNatClampNeg).toInt ≠ 40 ∧ (f_tape (v_next).toNatClampNeg).toInt ≠ 123 ∧ (f_tape (v_next).toNatClampNeg).toInt ≠ 126))))) by omega), trivial⟩ dX10_canPart_66 hP hD hS
  · have g3 : ¬ (0 : Int) ≤ n2.toInt := (not_congr (q3_le (by decide) rfl)).mp g3
    refine lv_iconst (v := 1) hx hb dX10_canPart_14 (by decide) ?_
    refine lv_goto (tgt := 19) hx hb dX10_canPart_15 (by decide) ?_
    refine lv_istore_n (lv' := [(2, .int 1), (1, .int n1), (0, .ref y)]) hx hb dX10_canPart_19 rfl hl (by decide) rfl (fun ls hl => ?_)
    refine lv_iload_n hx hb dX10_canPart_20 rfl (lv_at hl 1 rfl) ?_
    refine q3_ci (va_runS (As := [.int n1]) (rest := []) ⟨hx, hb, hml, hown, hts⟩ (y3_isWord l D c H.size y a v_tapeSize v_thrown v_fault v_faultPlace v_things v_options v_lists v_sentences v_headings v_words v_factBits v_known v_soundMany v_wholeLength v_next v_end v_rThings v_rOptions v_rLists v_rSentences v_rHeadings v_lastName v_inSentence v_open v_written v_named v_sorted f_tape f_kind f_owner f_from f_size f_means f_signs f_oKind f_oIn f_oList f_oWords f_oFacts f_listIn f_sOwner f_hFacts f_weights f_lengths f_values f_rKind f_rOwner f_rFrom f_rSize f_rMeans f_rOKind f_rOIn f_rOList f_rOFacts f_rListIn f_rSOwner f_rHFacts f_rWeights f_opKind f_opFrom f_opWord f_opOwner f_opList f_opItems f_out f_ranks n1) (va_cwS 1 hts gX10_canPart_X10_isWord rfl rfl rfl (by decide +kernel) ⟨Nat.le_of_ble_eq_true rfl, Nat.le_of_ble_eq_true rfl⟩) (q3_preS (c := c) hP hK hD) rfl rfl hl.1 rfl (lv_room (Nat.le_of_ble_eq_true rfl)) dX10_canPart_21 ⟨Nat.le_of_ble_eq_true rfl, Nat.le_of_ble_eq_true rfl⟩) hD hS hA (fun n11 un11 H locs pn11 hP hD hS => ?_)
    have pn11 : (n11.toInt = 0 ∨ n11.toInt = 1) ∧ (n11.toInt = 0 ∨ (33 ≤ n1.toInt ∧ n1.toInt ≤ 126 ∧ n1.toInt ≠ 40 ∧ n1.toInt ≠ 123)) ∧ (n11.toInt = q4_wd n1) ∧ True := pn11
    obtain ⟨pn11_0, pn11_1, pn11_2, -⟩ := pn11
    have hP : va_P D vwCl (wM c y a v_tapeSize v_thrown v_fault v_faultPlace v_things v_options v_lists v_sentences v_headings v_words v_factBits v_known v_soundMany v_wholeLength v_next v_end v_rThings v_rOptions v_rLists v_rSentences v_rHeadings v_lastName v_inSentence v_open v_written v_named v_sorted f_tape f_kind f_owner f_from f_size f_means f_signs f_oKind f_oIn f_oList f_oWords f_oFacts f_listIn f_sOwner f_hFacts f_weights f_lengths f_values f_rKind f_rOwner f_rFrom f_rSize f_rMeans f_rOKind f_rOIn f_rOList f_rOFacts f_rListIn f_rSOwner f_rHFacts f_rWeights f_opKind f_opFrom f_opWord f_opOwner f_opList f_opItems f_out f_ranks) H := hP
    have hD : va_D A (wM c y a v_tapeSize v_thrown v_fault v_faultPlace v_things v_options v_lists v_sentences v_headings v_words v_factBits v_known v_soundMany v_wholeLength v_next v_end v_rThings v_rOptions v_rLists v_rSentences v_rHeadings v_lastName v_inSentence v_open v_written v_named v_sorted f_tape f_kind f_owner f_from f_size f_means f_signs f_oKind f_oIn f_oList f_oWords f_oFacts f_listIn f_sOwner f_hFacts f_weights f_lengths f_values f_rKind f_rOwner f_rFrom f_rSize f_rMeans f_rOKind f_rOIn f_rOList f_rOFacts f_rListIn f_rSOwner f_rHFacts f_rWeights f_opKind f_opFrom f_opWord f_opOwner f_opList f_opItems f_out f_ranks) := hD
    have ew : n11.toInt = e_wI n1.toInt := by rw [← q4_wd_e]; exact pn11_2
    have ep := e_pI_d n1.toInt
    have ewd := e_wI_d n1.toInt
    refine lv_if_ne (tgt := 61) hx hb dX10_canPart_24 (by decide) (fun g12 => ?_) (fun g12 => ?_)
    · have g12 : ¬ n11.toInt = (0 : Int) := (not_congr (q3_eq rfl (by decide))).mp g12
      replace pn11_1 := pn11_1.resolve_left g12
      refine lv_iconst (v := 1) hx hb dX10_canPart_61 (by decide) ?_
      refine lv_goto (tgt := 66) hx hb dX10_canPart_62 (by decide) ?_
      exact hret (1) (q2_u [] [] []) _ _ _ _ ⟨(show (1 : Int) = 0 ∨ (1 : Int) = 1 by omega), (show ((1 : Int) = 1 ∧ v_next.toInt < v_end.toInt ∧ e_pI (f_tape (v_next).toNatClampNeg).toInt = 1 ∧ (0 ≤ (f_opOwner 0).toInt ∨ ((f_tape (v_next).toNatClampNeg).toInt ≠ 40 ∧ (f_tape (v_next).toNatClampNeg).toInt ≠ 123 ∧ (f_tape (v_next).toNatClampNeg).toInt ≠ 126))) ∨ ((1 : Int) = 0 ∧ (v_end.toInt ≤ v_next.toInt ∨ ¬ (e_pI (f_tape (v_next).toNatClampNeg).toInt = 1 ∧ (0 ≤ (f_opOwner 0).toInt ∨ ((f_tape (v_next).toNatClampNeg).toInt ≠ 40 ∧ (f_tape (v_next).toNatClampNeg).toInt ≠ 123 ∧ (f_tape (v_next).toNatClampNeg).toInt ≠ 126))))) by omega), trivial⟩ dX10_canPart_66 hP hD hS
    · have g12 : n11.toInt = (0 : Int) := (q3_eq rfl (by decide)).mp g12
      clear pn11_1
      refine lv_iload_n hx hb dX10_canPart_27 rfl (lv_at hl 1 rfl) ?_
      refine lv_bipush (v := 42) hx hb dX10_canPart_28 (by decide) ?_
      refine lv_icmp_eq (tgt := 61) hx hb dX10_canPart_30 (by decide) (fun g13 => ?_) (fun g13 => ?_)
      · have g13 : n1.toInt = (42 : Int) := (q3_eq rfl (by decide)).mp g13
        refine lv_iconst (v := 1) hx hb dX10_canPart_61 (by decide) ?_
        refine lv_goto (tgt := 66) hx hb dX10_canPart_62 (by decide) ?_
        exact hret (1) (q2_u [] [] []) _ _ _ _ ⟨(show (1 : Int) = 0 ∨ (1 : Int) = 1 by omega), (show ((1 : Int) = 1 ∧ v_next.toInt < v_end.toInt ∧ e_pI (f_tape (v_next).toNatClampNeg).toInt = 1 ∧ (0 ≤ (f_opOwner 0).toInt ∨ ((f_tape (v_next).toNatClampNeg).toInt ≠ 40 ∧ (f_tape (v_next).toNatClampNeg).toInt ≠ 123 ∧ (f_tape (v_next).toNatClampNeg).toInt ≠ 126))) ∨ ((1 : Int) = 0 ∧ (v_end.toInt ≤ v_next.toInt ∨ ¬ (e_pI (f_tape (v_next).toNatClampNeg).toInt = 1 ∧ (0 ≤ (f_opOwner 0).toInt ∨ ((f_tape (v_next).toNatClampNeg).toInt ≠ 40 ∧ (f_tape (v_next).toNatClampNeg).toInt ≠ 123 ∧ (f_tape (v_next).toNatClampNeg).toInt ≠ 126))))) by omega), trivial⟩ dX10_canPart_66 hP hD hS
      · have g13 : ¬ n1.toInt = (42 : Int) := (not_congr (q3_eq rfl (by decide))).mp g13
        refine lv_iload_n hx hb dX10_canPart_33 rfl (lv_at hl 1 rfl) ?_
        refine lv_bipush (v := 60) hx hb dX10_canPart_34 (by decide) ?_
        refine lv_icmp_eq (tgt := 61) hx hb dX10_canPart_36 (by decide) (fun g14 => ?_) (fun g14 => ?_)
        · have g14 : n1.toInt = (60 : Int) := (q3_eq rfl (by decide)).mp g14
          refine lv_iconst (v := 1) hx hb dX10_canPart_61 (by decide) ?_
          refine lv_goto (tgt := 66) hx hb dX10_canPart_62 (by decide) ?_
          exact hret (1) (q2_u [] [] []) _ _ _ _ ⟨(show (1 : Int) = 0 ∨ (1 : Int) = 1 by omega), (show ((1 : Int) = 1 ∧ v_next.toInt < v_end.toInt ∧ e_pI (f_tape (v_next).toNatClampNeg).toInt = 1 ∧ (0 ≤ (f_opOwner 0).toInt ∨ ((f_tape (v_next).toNatClampNeg).toInt ≠ 40 ∧ (f_tape (v_next).toNatClampNeg).toInt ≠ 123 ∧ (f_tape (v_next).toNatClampNeg).toInt ≠ 126))) ∨ ((1 : Int) = 0 ∧ (v_end.toInt ≤ v_next.toInt ∨ ¬ (e_pI (f_tape (v_next).toNatClampNeg).toInt = 1 ∧ (0 ≤ (f_opOwner 0).toInt ∨ ((f_tape (v_next).toNatClampNeg).toInt ≠ 40 ∧ (f_tape (v_next).toNatClampNeg).toInt ≠ 123 ∧ (f_tape (v_next).toNatClampNeg).toInt ≠ 126))))) by omega), trivial⟩ dX10_canPart_66 hP hD hS
        · have g14 : ¬ n1.toInt = (60 : Int) := (not_congr (q3_eq rfl (by decide))).mp g14
          refine lv_iload_n hx hb dX10_canPart_39 rfl (lv_at hl 0 rfl) ?_
          refine lv_if_ne (tgt := 65) hx hb dX10_canPart_40 (by decide) (fun _ => ?_) (fun h9 => absurd h9 (by decide))
          refine lv_iconst (v := 0) hx hb dX10_canPart_65 (by decide) ?_
          exact hret (0) (q2_u [] [] []) _ _ _ _ ⟨(show (0 : Int) = 0 ∨ (0 : Int) = 1 by omega), (show ((0 : Int) = 1 ∧ v_next.toInt < v_end.toInt ∧ e_pI (f_tape (v_next).toNatClampNeg).toInt = 1 ∧ (0 ≤ (f_opOwner 0).toInt ∨ ((f_tape (v_next).toNatClampNeg).toInt ≠ 40 ∧ (f_tape (v_next).toNatClampNeg).toInt ≠ 123 ∧ (f_tape (v_next).toNatClampNeg).toInt ≠ 126))) ∨ ((0 : Int) = 0 ∧ (v_end.toInt ≤ v_next.toInt ∨ ¬ (e_pI (f_tape (v_next).toNatClampNeg).toInt = 1 ∧ (0 ≤ (f_opOwner 0).toInt ∨ ((f_tape (v_next).toNatClampNeg).toInt ≠ 40 ∧ (f_tape (v_next).toNatClampNeg).toInt ≠ 123 ∧ (f_tape (v_next).toNatClampNeg).toInt ≠ 126))))) by omega), trivial⟩ dX10_canPart_66 hP hD hS
