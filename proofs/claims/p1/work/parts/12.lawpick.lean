set_option maxHeartbeats 4000000 in
set_option maxRecDepth 100000 in
theorem law_pick {p : Program} {e : Env} {s : State} {m : MethodId} {below : List Frame} {meth : Method} {cd : Code} {l : Launch} {b : Nat} {xs : Nat → Int32} {D : va_G} {c : Nat → ClassId} {A : Nat → Prop} {o : Nat} {b0 b1 b2 b3 b4 b5 b6 b7 b8 b9 b10 b11 b12 b13 b14 b15 b16 b17 b18 b19 b20 b21 b22 b23 b24 b25 b26 b27 b28 b29 b30 b31 b32 b33 b34 e0 e1 e2 e3 e4 e5 e6 e7 e8 e9 e10 e11 e12 e13 e14 e15 e16 e17 e18 e19 e20 e21 e22 e23 e24 e25 e26 e27 e28 e29 e30 e31 e32 e33 e34 e35 e36 e37 e38 e39 sa : Nat} (hst : l.stackTraces = false) (hE : o1_E sa A s s.heap) (C0 : lw_At p s m meth cd b 6 xs) (hA : ∀ q, s.heap.size ≤ q → A q) (hbA : ¬ A b) (hAb : ∀ q, A q → s.heap.size ≤ q) (hK : va_K D vwCl (q1_ty c) s) (hN : q1_N s) (H : Heap) (locs : List Loc) (hP : va_P D vwCl [(b0, .inr (9, [.ref b1, .int 0, .ref b2, .ref b3, .ref b4, .ref b5, .ref b6, .ref b7])), (b1, .inl (c 0, 800, .inl (fun _ => 0))), (b2, .inr (8, [.ref b8, .int 0, .ref b9, .int 0, .int 14, .int 0, .int 0, .int 0, .int 0, .ref b10, .ref b11, .int 0, .ref b12, .ref b13, .ref b14, .int 0])), (b12, .inr (2, [.ref b15, .ref b16, .ref b17, .ref b18, .ref b19, .int 0])), (b3, .inr (0, [.ref b20, .int 0, .int 0])), (b20, .inl (c 0, 31, .inl (fun _ => 0))), (b4, .inr (7, [.ref b2, .ref b3, .ref b21, .int 0, .int (-1), .int 0, .int (-1), .ref b22, .int 0, .int (-1)])), (b5, .inr (3, [.ref b2, .ref b23, .ref b24, .ref b25, .ref b26, .int 0])), (b6, .inr (6, [.ref b2, .ref b27, .int 0, .int (-1), .int 0, .int (-1)])), (b27, .inl (c 1, 0, .inl (fun _ => 0))), (b7, .inr (5, [.ref b2, .ref b5, .ref b3, .ref b28, .ref b29, .ref b30, .ref b31, .ref b32, .ref b33, .ref b34, .int 0, .int 0, .int 0])), (b28, .inl (c 0, 0, .inl (fun _ => 0))), (b34, .inl (c 0, 0, .inl (fun _ => 0))), (e0, .inl (c 0, 800, .inl (fun _ => 0))), (e1, .inl (c 0, 14, .inl (fun _ => 0))), (e2, .inl (c 0, 31, .inl (fun _ => 0))), (e3, .inl (c 0, 31, .inl (fun _ => 0))), (e4, .inl (c 0, 16384, .inl (fun _ => 0))), (e5, .inl (c 0, 16384, .inl (fun _ => 0))), (e6, .inl (c 0, 16384, .inl (fun _ => 0))), (e7, .inr (10, [.ref e0, .int 0, .int 0, .int 0, .int (-1), .int 0, .ref e8, .ref e9, .ref e10, .ref e11, .ref e12, .ref e13, .int 0, .ref e14, .ref e15, .ref e16, .ref e1, .ref e17, .int 0, .ref e18, .int 0, .ref e19, .int 0, .ref e20, .int 0, .ref e2, .int 0, .int 0, .ref e5, .ref e6, .int 1, .int 0, .int 0, .int 0, .int 0, .ref e21, .ref e22, .ref e23, .ref e24, .ref e25, .int 0, .ref e26, .ref e27, .ref e28, .ref e29, .int 0, .ref e30, .int 0, .ref e31, .int 0, .ref e32, .ref e3, .int 0, .int 0, .int 0, .ref e33, .ref e34, .ref e35, .ref e36, .ref e37, .ref e38, .ref e39, .int 0, .int 0, .int 0, .ref e4]))] H) (hD : va_D A [(b0, .inr (9, [.ref b1, .int 0, .ref b2, .ref b3, .ref b4, .ref b5, .ref b6, .ref b7])), (b1, .inl (c 0, 800, .inl (fun _ => 0))), (b2, .inr (8, [.ref b8, .int 0, .ref b9, .int 0, .int 14, .int 0, .int 0, .int 0, .int 0, .ref b10, .ref b11, .int 0, .ref b12, .ref b13, .ref b14, .int 0])), (b12, .inr (2, [.ref b15, .ref b16, .ref b17, .ref b18, .ref b19, .int 0])), (b3, .inr (0, [.ref b20, .int 0, .int 0])), (b20, .inl (c 0, 31, .inl (fun _ => 0))), (b4, .inr (7, [.ref b2, .ref b3, .ref b21, .int 0, .int (-1), .int 0, .int (-1), .ref b22, .int 0, .int (-1)])), (b5, .inr (3, [.ref b2, .ref b23, .ref b24, .ref b25, .ref b26, .int 0])), (b6, .inr (6, [.ref b2, .ref b27, .int 0, .int (-1), .int 0, .int (-1)])), (b27, .inl (c 1, 0, .inl (fun _ => 0))), (b7, .inr (5, [.ref b2, .ref b5, .ref b3, .ref b28, .ref b29, .ref b30, .ref b31, .ref b32, .ref b33, .ref b34, .int 0, .int 0, .int 0])), (b28, .inl (c 0, 0, .inl (fun _ => 0))), (b34, .inl (c 0, 0, .inl (fun _ => 0))), (e0, .inl (c 0, 800, .inl (fun _ => 0))), (e1, .inl (c 0, 14, .inl (fun _ => 0))), (e2, .inl (c 0, 31, .inl (fun _ => 0))), (e3, .inl (c 0, 31, .inl (fun _ => 0))), (e4, .inl (c 0, 16384, .inl (fun _ => 0))), (e5, .inl (c 0, 16384, .inl (fun _ => 0))), (e6, .inl (c 0, 16384, .inl (fun _ => 0))), (e7, .inr (10, [.ref e0, .int 0, .int 0, .int 0, .int (-1), .int 0, .ref e8, .ref e9, .ref e10, .ref e11, .ref e12, .ref e13, .int 0, .ref e14, .ref e15, .ref e16, .ref e1, .ref e17, .int 0, .ref e18, .int 0, .ref e19, .int 0, .ref e20, .int 0, .ref e2, .int 0, .int 0, .ref e5, .ref e6, .int 1, .int 0, .int 0, .int 0, .int 0, .ref e21, .ref e22, .ref e23, .ref e24, .ref e25, .int 0, .ref e26, .ref e27, .ref e28, .ref e29, .int 0, .ref e30, .int 0, .ref e31, .int 0, .ref e32, .ref e3, .int 0, .int 0, .int 0, .ref e33, .ref e34, .ref e35, .ref e36, .ref e37, .ref e38, .ref e39, .int 0, .int 0, .int 0, .ref e4]))]) (hS : va_S A s.heap H locs) (ls : Array Slot) (hl : lv_has ls 7 [(4, .int 0), (3, .ref o), (2, .ref e7), (1, .ref b0), (0, .ref b)]) : W p l e room_1 s m #[Value.ref b] below meth cd H locs 109 78668 (lw_Z below #[Value.ref b] s) (F0 m 23 ls []) := by
  obtain ⟨hx, hb, hr, hml, hown, hts, hX, hbl, hlocks, hgv⟩ := id C0
  refine lv_iload hx hb dL_law_23 (lv_at hl 0 rfl) ?_
  refine lv_aload_n hx hb dL_law_25 rfl (lv_at hl 4 rfl) ?_
  refine va_slen hx hb hX hbl hbA hS dL_law_26 ?_
  refine lv_bipush (v := 6) hx hb dL_law_27 (by decide) ?_
  refine lv_isub hx hb dL_law_29 ?_
  refine q1_top (v := 0) (by decide) ?_
  refine lv_icmp_gt (tgt := 669) hx hb dL_law_30 (by decide) (fun h9 => absurd h9 (by decide)) (fun _ => ?_)
  refine lv_aload_n hx hb dL_law_33 rfl (lv_at hl 4 rfl) ?_
  refine lv_iload hx hb dL_law_34 (lv_at hl 0 rfl) ?_
  refine q1_sld (K := 0) (v := xs 0) hx hb hX hbl hbA hS (by decide) (by decide) (by decide) rfl dL_law_36 ?_
  refine lv_bipush (v := 15) hx hb dL_law_37 (by decide) ?_
  refine lv_iand hx hb dL_law_39 ?_
  obtain ⟨k, hk, ek⟩ := pk_andE (xs 0) (m := 15) 4 (by decide)
  have hk : k < 16 := hk
  rcases (show k = 0 ∨ k = 1 ∨ k = 2 ∨ k = 3 ∨ k = 4 ∨ k = 5 ∨ k = 6 ∨ k = 7 ∨ k = 8 ∨ k = 9 ∨ k = 10 ∨ k = 11 ∨ k = 12 ∨ k = 13 ∨ k = 14 ∨ k = 15 by omega) with rfl | rfl | rfl | rfl | rfl | rfl | rfl | rfl | rfl | rfl | rfl | rfl | rfl | rfl | rfl | rfl
  · refine q1_top (v := 0) (ek.trans (by decide)) ?_
    refine lv_tableIn (tgt := 120) hx hb dL_law_40 (by decide) (by decide) rfl (by decide) ?_
    exact law_0_0 C0 hA hbA hAb hK hN H locs hP hD hS ls hl (xs 1) (xs 2) (xs 3) (xs 4) (xs 5) rfl rfl rfl rfl rfl 
  · refine q1_top (v := 1) (ek.trans (by decide)) ?_
    refine lv_tableIn (tgt := 193) hx hb dL_law_40 (by decide) (by decide) rfl (by decide) ?_
    by_cases g0 : xs 1 < 0
    · exact law_1_0 C0 hA hbA hAb hK hN H locs hP hD hS ls hl (xs 1) (xs 2) (xs 3) (xs 4) (xs 5) rfl rfl rfl rfl rfl g0
    · by_cases g1 : xs 1 ≤ 0
      · exact law_1_1 C0 hA hbA hAb hK hN H locs hP hD hS ls hl (xs 2) (xs 3) (xs 4) (xs 5) (n_z0 g0 g1) rfl rfl rfl rfl 
      · exact law_1_2 C0 hA hbA hAb hK hN H locs hP hD hS ls hl (xs 1) (xs 2) (xs 3) (xs 4) (xs 5) rfl rfl rfl rfl rfl g0 g1
  · refine q1_top (v := 2) (ek.trans (by decide)) ?_
    refine lv_tableIn (tgt := 218) hx hb dL_law_40 (by decide) (by decide) rfl (by decide) ?_
    by_cases g0 : xs 1 = 0
    · exact law_2_0 C0 hA hbA hAb hK hN H locs hP hD hS ls hl (xs 2) (xs 3) (xs 4) (xs 5) g0 rfl rfl rfl rfl 
    · by_cases g1 : xs 1 = 1
      · exact law_2_1 C0 hA hbA hAb hK hN H locs hP hD hS ls hl (xs 2) (xs 3) (xs 4) (xs 5) g1 rfl rfl rfl rfl 
      · exact law_2_2 C0 hA hbA hAb hK hN H locs hP hD hS ls hl (xs 1) (xs 2) (xs 3) (xs 4) (xs 5) rfl rfl rfl rfl rfl (n_sw g0 g1) g0 g1
  · refine q1_top (v := 3) (ek.trans (by decide)) ?_
    refine lv_tableIn (tgt := 243) hx hb dL_law_40 (by decide) (by decide) rfl (by decide) ?_
    by_cases g0 : xs 1 < 0
    · exact law_3_0 hst hE C0 hA hbA hAb hK hN H locs hP hD hS ls hl (xs 1) (xs 2) (xs 3) (xs 4) (xs 5) rfl rfl rfl rfl rfl g0
    · exact law_3_1 hst hE C0 hA hbA hAb hK hN H locs hP hD hS ls hl (xs 1) (xs 2) (xs 3) (xs 4) (xs 5) rfl rfl rfl rfl rfl g0
  · refine q1_top (v := 4) (ek.trans (by decide)) ?_
    refine lv_tableIn (tgt := 311) hx hb dL_law_40 (by decide) (by decide) rfl (by decide) ?_
    by_cases e2 : xs 2 = 0
    · by_cases g0 : xs 1 < 0
      · exact law_4_0 C0 hA hbA hAb hK hN H locs hP hD hS ls hl (xs 1) (xs 3) (xs 4) (xs 5) rfl e2 rfl rfl rfl g0
      · by_cases g1 : (31 : Int32) ≤ xs 1
        · exact law_4_4 C0 hA hbA hAb hK hN H locs hP hD hS ls hl (xs 1) (xs 3) (xs 4) (xs 5) rfl e2 rfl rfl rfl g0 g1
        · exact law_4_2 C0 hA hbA hAb hK hN H locs hP hD hS ls hl (xs 1) (xs 3) (xs 4) (xs 5) rfl e2 rfl rfl rfl g0 g1 g0 (n_clamp g0 g1)
    · by_cases g0 : xs 1 < 0
      · exact law_4_1 C0 hA hbA hAb hK hN H locs hP hD hS ls hl (xs 1) (xs 2) (xs 3) (xs 4) (xs 5) rfl rfl rfl rfl rfl e2 g0
      · by_cases g1 : (31 : Int32) ≤ xs 1
        · exact law_4_5 C0 hA hbA hAb hK hN H locs hP hD hS ls hl (xs 1) (xs 2) (xs 3) (xs 4) (xs 5) rfl rfl rfl rfl rfl e2 g0 g1
        · exact law_4_3 C0 hA hbA hAb hK hN H locs hP hD hS ls hl (xs 1) (xs 2) (xs 3) (xs 4) (xs 5) rfl rfl rfl rfl rfl e2 g0 g1 g0 (n_clamp g0 g1)
  · refine q1_top (v := 5) (ek.trans (by decide)) ?_
    refine lv_tableIn (tgt := 364) hx hb dL_law_40 (by decide) (by decide) rfl (by decide) ?_
    by_cases g0 : xs 1 < 0
    · exact law_5_0 C0 hA hbA hAb hK hN H locs hP hD hS ls hl (xs 1) (xs 2) (xs 3) (xs 4) (xs 5) rfl rfl rfl rfl rfl g0
    · by_cases g1 : (31 : Int32) ≤ xs 1
      · exact law_5_2 C0 hA hbA hAb hK hN H locs hP hD hS ls hl (xs 1) (xs 2) (xs 3) (xs 4) (xs 5) rfl rfl rfl rfl rfl g0 g1
      · exact law_5_1 C0 hA hbA hAb hK hN H locs hP hD hS ls hl (xs 1) (xs 2) (xs 3) (xs 4) (xs 5) rfl rfl rfl rfl rfl g0 g1 g0 (n_clamp g0 g1)
  · refine q1_top (v := 6) (ek.trans (by decide)) ?_
    refine lv_tableIn (tgt := 389) hx hb dL_law_40 (by decide) (by decide) rfl (by decide) ?_
    by_cases g0 : xs 1 = 0
    · exact law_6_1 C0 hA hbA hAb hK hN H locs hP hD hS ls hl (xs 2) (xs 3) (xs 4) (xs 5) g0 rfl rfl rfl rfl 
    · by_cases g1 : xs 1 < 0
      · exact law_6_0 C0 hA hbA hAb hK hN H locs hP hD hS ls hl (xs 1) (xs 2) (xs 3) (xs 4) (xs 5) rfl rfl rfl rfl rfl (n_ush g0) g1
      · exact law_6_2 C0 hA hbA hAb hK hN H locs hP hD hS ls hl (xs 1) (xs 2) (xs 3) (xs 4) (xs 5) rfl rfl rfl rfl rfl (n_ush g0) g1 (n_ge1 g1 g0)
  · refine q1_top (v := 7) (ek.trans (by decide)) ?_
    refine lv_tableIn (tgt := 414) hx hb dL_law_40 (by decide) (by decide) rfl (by decide) ?_
    by_cases g0 : xs 1 = 0
    · exact law_7_1 C0 hA hbA hAb hK hN H locs hP hD hS ls hl (xs 2) (xs 3) (xs 4) (xs 5) g0 rfl rfl rfl rfl 
    · by_cases g1 : xs 1 < 0
      · exact law_7_0 C0 hA hbA hAb hK hN H locs hP hD hS ls hl (xs 1) (xs 2) (xs 3) (xs 4) (xs 5) rfl rfl rfl rfl rfl (n_ush g0) g1
      · exact law_7_2 C0 hA hbA hAb hK hN H locs hP hD hS ls hl (xs 1) (xs 2) (xs 3) (xs 4) (xs 5) rfl rfl rfl rfl rfl (n_ush g0) g1 (n_ge1 g1 g0)
  · refine q1_top (v := 8) (ek.trans (by decide)) ?_
    refine lv_tableIn (tgt := 439) hx hb dL_law_40 (by decide) (by decide) rfl (by decide) ?_
    by_cases g0 : xs 1 = 0
    · exact law_8_1 C0 hA hbA hAb hK hN H locs hP hD hS ls hl (xs 2) (xs 3) (xs 4) (xs 5) g0 rfl rfl rfl rfl 
    · by_cases g1 : xs 1 < 0
      · exact law_8_0 C0 hA hbA hAb hK hN H locs hP hD hS ls hl (xs 1) (xs 2) (xs 3) (xs 4) (xs 5) rfl rfl rfl rfl rfl (n_ush g0) g1
      · exact law_8_2 C0 hA hbA hAb hK hN H locs hP hD hS ls hl (xs 1) (xs 2) (xs 3) (xs 4) (xs 5) rfl rfl rfl rfl rfl (n_ush g0) g1 (n_ge1 g1 g0)
  · refine q1_top (v := 9) (ek.trans (by decide)) ?_
    refine lv_tableIn (tgt := 464) hx hb dL_law_40 (by decide) (by decide) rfl (by decide) ?_
    by_cases g0 : xs 1 = 0
    · by_cases g1 : xs 2 < 0
      · exact law_9_2 C0 hA hbA hAb hK hN H locs hP hD hS ls hl (xs 2) (xs 3) (xs 4) (xs 5) g0 rfl rfl rfl rfl g1
      · exact law_9_3 C0 hA hbA hAb hK hN H locs hP hD hS ls hl (xs 2) (xs 3) (xs 4) (xs 5) g0 rfl rfl rfl rfl g1 (n_ge0 g1)
    · by_cases g1 : xs 1 < 0
      · exact law_9_0 C0 hA hbA hAb hK hN H locs hP hD hS ls hl (xs 1) (xs 2) (xs 3) (xs 4) (xs 5) rfl rfl rfl rfl rfl (n_ush g0) g1
      · exact law_9_1 C0 hA hbA hAb hK hN H locs hP hD hS ls hl (xs 1) (xs 2) (xs 3) (xs 4) (xs 5) rfl rfl rfl rfl rfl (n_ush g0) g1 (n_ge1 g1 g0)
  · refine q1_top (v := 10) (ek.trans (by decide)) ?_
    refine lv_tableIn (tgt := 501) hx hb dL_law_40 (by decide) (by decide) rfl (by decide) ?_
    by_cases g0 : (0 : Int32) ≤ xs 1
    · exact law_10_1 C0 hA hbA hAb hK hN H locs hP hD hS ls hl (xs 1) (xs 2) (xs 3) (xs 4) (xs 5) rfl rfl rfl rfl rfl g0 (n_nlt0 g0)
    · exact law_10_0 C0 hA hbA hAb hK hN H locs hP hD hS ls hl (xs 1) (xs 2) (xs 3) (xs 4) (xs 5) rfl rfl rfl rfl rfl g0
  · refine q1_top (v := 11) (ek.trans (by decide)) ?_
    refine lv_tableIn (tgt := 526) hx hb dL_law_40 (by decide) (by decide) rfl (by decide) ?_
    by_cases g0 : xs 1 = 0
    · exact law_11_1 C0 hA hbA hAb hK hN H locs hP hD hS ls hl (xs 2) (xs 3) (xs 4) (xs 5) g0 rfl rfl rfl rfl 
    · by_cases g1 : xs 1 < 0
      · exact law_11_0 C0 hA hbA hAb hK hN H locs hP hD hS ls hl (xs 1) (xs 2) (xs 3) (xs 4) (xs 5) rfl rfl rfl rfl rfl g1
      · exact law_11_2 C0 hA hbA hAb hK hN H locs hP hD hS ls hl (xs 1) (xs 2) (xs 3) (xs 4) (xs 5) rfl rfl rfl rfl rfl g1 (n_ge1 g1 g0) (n_nlt1 (n_ge1 g1 g0))
  · refine q1_top (v := 12) (ek.trans (by decide)) ?_
    refine lv_tableIn (tgt := 551) hx hb dL_law_40 (by decide) (by decide) rfl (by decide) ?_
    by_cases g0 : xs 1 = 0
    · exact law_12_0 C0 hA hbA hAb hK hN H locs hP hD hS ls hl (xs 2) (xs 3) (xs 4) (xs 5) g0 rfl rfl rfl rfl 
    · exact law_12_1 C0 hA hbA hAb hK hN H locs hP hD hS ls hl (xs 1) (xs 2) (xs 3) (xs 4) (xs 5) rfl rfl rfl rfl rfl (fun h => g0 h.symm) g0
  · refine q1_top (v := 13) (ek.trans (by decide)) ?_
    refine lv_tableIn (tgt := 576) hx hb dL_law_40 (by decide) (by decide) rfl (by decide) ?_
    by_cases g0 : xs 1 = 0
    · by_cases g1 : xs 2 < 0
      · exact law_13_2 C0 hA hbA hAb hK hN H locs hP hD hS ls hl (xs 2) (xs 3) (xs 4) (xs 5) g0 rfl rfl rfl rfl g1
      · exact law_13_3 C0 hA hbA hAb hK hN H locs hP hD hS ls hl (xs 2) (xs 3) (xs 4) (xs 5) g0 rfl rfl rfl rfl g1
    · by_cases g1 : xs 1 < 0
      · exact law_13_0 C0 hA hbA hAb hK hN H locs hP hD hS ls hl (xs 1) (xs 2) (xs 3) (xs 4) (xs 5) rfl rfl rfl rfl rfl (n_ush g0) g1
      · exact law_13_1 C0 hA hbA hAb hK hN H locs hP hD hS ls hl (xs 1) (xs 2) (xs 3) (xs 4) (xs 5) rfl rfl rfl rfl rfl (n_ush g0) g1 (n_ge1 g1 g0)
  · refine q1_top (v := 14) (ek.trans (by decide)) ?_
    refine lv_tableIn (tgt := 613) hx hb dL_law_40 (by decide) (by decide) rfl (by decide) ?_
    by_cases g0 : xs 1 = 0
    · exact law_14_1 C0 hA hbA hAb hK hN H locs hP hD hS ls hl (xs 2) (xs 3) (xs 4) (xs 5) g0 rfl rfl rfl rfl 
    · by_cases g1 : xs 1 < 0
      · exact law_14_0 C0 hA hbA hAb hK hN H locs hP hD hS ls hl (xs 1) (xs 2) (xs 3) (xs 4) (xs 5) rfl rfl rfl rfl rfl (n_ush g0) g1
      · exact law_14_2 C0 hA hbA hAb hK hN H locs hP hD hS ls hl (xs 1) (xs 2) (xs 3) (xs 4) (xs 5) rfl rfl rfl rfl rfl (n_ush g0) g1 (n_ge1 g1 g0)
  · refine q1_top (v := 15) (ek.trans (by decide)) ?_
    refine lv_tableIn (tgt := 638) hx hb dL_law_40 (by decide) (by decide) rfl (by decide) ?_
    by_cases e0 : xs 1 = 0
    · exact law_15_0 C0 hA hbA hAb hK hN H locs hP hD hS ls hl (xs 2) (xs 3) (xs 4) (xs 5) e0 rfl rfl rfl rfl 
    · skip
      by_cases e1 : xs 1 = 1
      · exact law_15_1 C0 hA hbA hAb hK hN H locs hP hD hS ls hl (xs 2) (xs 3) (xs 4) (xs 5) e1 rfl rfl rfl rfl 
      · skip
        by_cases e2 : xs 1 = 2
        · exact law_15_2 C0 hA hbA hAb hK hN H locs hP hD hS ls hl (xs 2) (xs 3) (xs 4) (xs 5) e2 rfl rfl rfl rfl 
        · skip
          by_cases e3 : xs 1 = 3
          · exact law_15_3 C0 hA hbA hAb hK hN H locs hP hD hS ls hl (xs 2) (xs 3) (xs 4) (xs 5) e3 rfl rfl rfl rfl 
          · skip
            by_cases e4 : xs 1 = 4
            · exact law_15_4 C0 hA hbA hAb hK hN H locs hP hD hS ls hl (xs 2) (xs 3) (xs 4) (xs 5) e4 rfl rfl rfl rfl 
            · skip
              by_cases e5 : xs 1 = 5
              · exact law_15_5 C0 hA hbA hAb hK hN H locs hP hD hS ls hl (xs 2) (xs 3) (xs 4) (xs 5) e5 rfl rfl rfl rfl 
              · skip
                by_cases e6 : xs 1 = 6
                · exact law_15_6 C0 hA hbA hAb hK hN H locs hP hD hS ls hl (xs 2) (xs 3) (xs 4) (xs 5) e6 rfl rfl rfl rfl 
                · skip
                  by_cases e7 : xs 1 = 7
                  · exact law_15_7 C0 hA hbA hAb hK hN H locs hP hD hS ls hl (xs 2) (xs 3) (xs 4) (xs 5) e7 rfl rfl rfl rfl 
                  · skip
                    exact law_15_8 C0 hA hbA hAb hK hN H locs hP hD hS ls hl (xs 1) (xs 2) (xs 3) (xs 4) (xs 5) rfl rfl rfl rfl rfl (n_out e0 e1 e2 e3 e4 e5 e6 e7)
