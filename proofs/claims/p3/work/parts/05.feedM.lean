theorem dX10_feed_0 : decode cX10_feed 0 = .ok (.aload_n 0, 1) := by decide +kernel
theorem dX10_feed_1 : decode cX10_feed 1 = .ok (.iconst 0, 1) := by decide +kernel
theorem dX10_feed_100 : decode cX10_feed 100 = .ok (.isub, 1) := by decide +kernel
theorem dX10_feed_101 : decode cX10_feed 101 = .ok (.ishr, 1) := by decide +kernel
theorem dX10_feed_102 : decode cX10_feed 102 = .ok (.sipush 255, 3) := by decide +kernel
theorem dX10_feed_105 : decode cX10_feed 105 = .ok (.iand, 1) := by decide +kernel
theorem dX10_feed_106 : decode cX10_feed 106 = .ok (.iastore, 1) := by decide +kernel
theorem dX10_feed_107 : decode cX10_feed 107 = .ok (.iinc 6 1, 3) := by decide +kernel
theorem dX10_feed_11 : decode cX10_feed 11 = .ok (.iadd, 1) := by decide +kernel
theorem dX10_feed_110 : decode cX10_feed 110 = .ok (.goto (-87), 3) := by decide +kernel
theorem dX10_feed_113 : decode cX10_feed 113 = .ok (.aload_n 0, 1) := by decide +kernel
theorem dX10_feed_114 : decode cX10_feed 114 = .ok (.dup, 1) := by decide +kernel
theorem dX10_feed_115 : decode cX10_feed 115 = .ok (.getfield 138, 3) := by decide +kernel
theorem dX10_feed_118 : decode cX10_feed 118 = .ok (.bipush 20, 2) := by decide +kernel
theorem dX10_feed_12 : decode cX10_feed 12 = .ok (.sipush 800, 3) := by decide +kernel
theorem dX10_feed_120 : decode cX10_feed 120 = .ok (.iadd, 1) := by decide +kernel
theorem dX10_feed_121 : decode cX10_feed 121 = .ok (.putfield 138, 3) := by decide +kernel
theorem dX10_feed_124 : decode cX10_feed 124 = .ok (.aload_n 0, 1) := by decide +kernel
theorem dX10_feed_125 : decode cX10_feed 125 = .ok (.getfield 138, 3) := by decide +kernel
theorem dX10_feed_128 : decode cX10_feed 128 = .ok (.ireturn, 1) := by decide +kernel
theorem dX10_feed_15 : decode cX10_feed 15 = .ok (.if_icmp .le 5, 3) := by decide +kernel
theorem dX10_feed_18 : decode cX10_feed 18 = .ok (.iconst (-1), 1) := by decide +kernel
theorem dX10_feed_19 : decode cX10_feed 19 = .ok (.ireturn, 1) := by decide +kernel
theorem dX10_feed_2 : decode cX10_feed 2 = .ok (.putfield 135, 3) := by decide +kernel
theorem dX10_feed_20 : decode cX10_feed 20 = .ok (.iconst 0, 1) := by decide +kernel
theorem dX10_feed_21 : decode cX10_feed 21 = .ok (.istore 6, 2) := by decide +kernel
theorem dX10_feed_23 : decode cX10_feed 23 = .ok (.iload 6, 2) := by decide +kernel
theorem dX10_feed_25 : decode cX10_feed 25 = .ok (.bipush 20, 2) := by decide +kernel
theorem dX10_feed_27 : decode cX10_feed 27 = .ok (.if_icmp .ge 86, 3) := by decide +kernel
theorem dX10_feed_30 : decode cX10_feed 30 = .ok (.iload 6, 2) := by decide +kernel
theorem dX10_feed_32 : decode cX10_feed 32 = .ok (.iconst 4, 1) := by decide +kernel
theorem dX10_feed_33 : decode cX10_feed 33 = .ok (.if_icmp .ge 7, 3) := by decide +kernel
theorem dX10_feed_36 : decode cX10_feed 36 = .ok (.iload_n 1, 1) := by decide +kernel
theorem dX10_feed_37 : decode cX10_feed 37 = .ok (.goto 39, 3) := by decide +kernel
theorem dX10_feed_40 : decode cX10_feed 40 = .ok (.iload 6, 2) := by decide +kernel
theorem dX10_feed_42 : decode cX10_feed 42 = .ok (.bipush 8, 2) := by decide +kernel
theorem dX10_feed_44 : decode cX10_feed 44 = .ok (.if_icmp .ge 7, 3) := by decide +kernel
theorem dX10_feed_47 : decode cX10_feed 47 = .ok (.iload_n 2, 1) := by decide +kernel
theorem dX10_feed_48 : decode cX10_feed 48 = .ok (.goto 28, 3) := by decide +kernel
theorem dX10_feed_5 : decode cX10_feed 5 = .ok (.aload_n 0, 1) := by decide +kernel
theorem dX10_feed_51 : decode cX10_feed 51 = .ok (.iload 6, 2) := by decide +kernel
theorem dX10_feed_53 : decode cX10_feed 53 = .ok (.bipush 12, 2) := by decide +kernel
theorem dX10_feed_55 : decode cX10_feed 55 = .ok (.if_icmp .ge 7, 3) := by decide +kernel
theorem dX10_feed_58 : decode cX10_feed 58 = .ok (.iload_n 3, 1) := by decide +kernel
theorem dX10_feed_59 : decode cX10_feed 59 = .ok (.goto 17, 3) := by decide +kernel
theorem dX10_feed_6 : decode cX10_feed 6 = .ok (.getfield 138, 3) := by decide +kernel
theorem dX10_feed_62 : decode cX10_feed 62 = .ok (.iload 6, 2) := by decide +kernel
theorem dX10_feed_64 : decode cX10_feed 64 = .ok (.bipush 16, 2) := by decide +kernel
theorem dX10_feed_66 : decode cX10_feed 66 = .ok (.if_icmp .ge 8, 3) := by decide +kernel
theorem dX10_feed_69 : decode cX10_feed 69 = .ok (.iload 4, 2) := by decide +kernel
theorem dX10_feed_71 : decode cX10_feed 71 = .ok (.goto 5, 3) := by decide +kernel
theorem dX10_feed_74 : decode cX10_feed 74 = .ok (.iload 5, 2) := by decide +kernel
theorem dX10_feed_76 : decode cX10_feed 76 = .ok (.istore 7, 2) := by decide +kernel
theorem dX10_feed_78 : decode cX10_feed 78 = .ok (.aload_n 0, 1) := by decide +kernel
theorem dX10_feed_79 : decode cX10_feed 79 = .ok (.getfield 7, 3) := by decide +kernel
theorem dX10_feed_82 : decode cX10_feed 82 = .ok (.aload_n 0, 1) := by decide +kernel
theorem dX10_feed_83 : decode cX10_feed 83 = .ok (.getfield 138, 3) := by decide +kernel
theorem dX10_feed_86 : decode cX10_feed 86 = .ok (.iload 6, 2) := by decide +kernel
theorem dX10_feed_88 : decode cX10_feed 88 = .ok (.iadd, 1) := by decide +kernel
theorem dX10_feed_89 : decode cX10_feed 89 = .ok (.iload 7, 2) := by decide +kernel
theorem dX10_feed_9 : decode cX10_feed 9 = .ok (.bipush 20, 2) := by decide +kernel
theorem dX10_feed_91 : decode cX10_feed 91 = .ok (.bipush 24, 2) := by decide +kernel
theorem dX10_feed_93 : decode cX10_feed 93 = .ok (.bipush 8, 2) := by decide +kernel
theorem dX10_feed_95 : decode cX10_feed 95 = .ok (.iload 6, 2) := by decide +kernel
theorem dX10_feed_97 : decode cX10_feed 97 = .ok (.iconst 4, 1) := by decide +kernel
theorem dX10_feed_98 : decode cX10_feed 98 = .ok (.irem, 1) := by decide +kernel
theorem dX10_feed_99 : decode cX10_feed 99 = .ok (.imul, 1) := by decide +kernel
set_option maxHeartbeats 4000000 in
set_option maxRecDepth 100000 in
theorem k4_X10_feed (l : Launch) (D : va_G) (c : Nat → ClassId) (sz : Nat) (a0 : Nat) (x0 : Int32) (x1 : Int32) (x2 : Int32) (x3 : Int32) (x4 : Int32) (a1 : Nat) (x5 : Int32) (x6 : Int32) (x7 : Int32) (x8 : Int32) (x9 : Int32) (a2 : Nat) (a3 : Nat) (a4 : Nat) (a5 : Nat) (a6 : Nat) (a7 : Nat) (x10 : Int32) (a8 : Nat) (a9 : Nat) (a10 : Nat) (a11 : Nat) (a12 : Nat) (x11 : Int32) (a13 : Nat) (x12 : Int32) (a14 : Nat) (x13 : Int32) (a15 : Nat) (x14 : Int32) (a16 : Nat) (x15 : Int32) (x16 : Int32) (a17 : Nat) (a18 : Nat) (x17 : Int32) (x18 : Int32) (x19 : Int32) (x20 : Int32) (x21 : Int32) (a19 : Nat) (a20 : Nat) (a21 : Nat) (a22 : Nat) (a23 : Nat) (x22 : Int32) (a24 : Nat) (a25 : Nat) (a26 : Nat) (a27 : Nat) (x23 : Int32) (a28 : Nat) (x24 : Int32) (a29 : Nat) (x25 : Int32) (a30 : Nat) (a31 : Nat) (x26 : Int32) (x27 : Int32) (x28 : Int32) (a32 : Nat) (a33 : Nat) (a34 : Nat) (a35 : Nat) (a36 : Nat) (a37 : Nat) (a38 : Nat) (x29 : Int32) (x30 : Int32) (x31 : Int32) (a39 : Nat) (f0 : Nat → Int32) (g0 : (x5 + (20 : Int32)) ≤ (800 : Int32)) (g1 : ¬ (x5 + (0 : Int32)) < 0) (g2 : (x5 + (0 : Int32)).toNatClampNeg < 800) (g3 : ¬ (x5 + (1 : Int32)) < 0) (g4 : (x5 + (1 : Int32)).toNatClampNeg < 800) (g5 : ¬ (x5 + (2 : Int32)) < 0) (g6 : (x5 + (2 : Int32)).toNatClampNeg < 800) (g7 : ¬ (x5 + (3 : Int32)) < 0) (g8 : (x5 + (3 : Int32)).toNatClampNeg < 800) (g9 : ¬ (x5 + (4 : Int32)) < 0) (g10 : (x5 + (4 : Int32)).toNatClampNeg < 800) (g11 : ¬ (x5 + (5 : Int32)) < 0) (g12 : (x5 + (5 : Int32)).toNatClampNeg < 800) (g13 : ¬ (x5 + (6 : Int32)) < 0) (g14 : (x5 + (6 : Int32)).toNatClampNeg < 800) (g15 : ¬ (x5 + (7 : Int32)) < 0) (g16 : (x5 + (7 : Int32)).toNatClampNeg < 800) (g17 : ¬ (x5 + (8 : Int32)) < 0) (g18 : (x5 + (8 : Int32)).toNatClampNeg < 800) (g19 : ¬ (x5 + (9 : Int32)) < 0) (g20 : (x5 + (9 : Int32)).toNatClampNeg < 800) (g21 : ¬ (x5 + (10 : Int32)) < 0) (g22 : (x5 + (10 : Int32)).toNatClampNeg < 800) (g23 : ¬ (x5 + (11 : Int32)) < 0) (g24 : (x5 + (11 : Int32)).toNatClampNeg < 800) (g25 : ¬ (x5 + (12 : Int32)) < 0) (g26 : (x5 + (12 : Int32)).toNatClampNeg < 800) (g27 : ¬ (x5 + (13 : Int32)) < 0) (g28 : (x5 + (13 : Int32)).toNatClampNeg < 800) (g29 : ¬ (x5 + (14 : Int32)) < 0) (g30 : (x5 + (14 : Int32)).toNatClampNeg < 800) (g31 : ¬ (x5 + (15 : Int32)) < 0) (g32 : (x5 + (15 : Int32)).toNatClampNeg < 800) (g33 : ¬ (x5 + (16 : Int32)) < 0) (g34 : (x5 + (16 : Int32)).toNatClampNeg < 800) (g35 : ¬ (x5 + (17 : Int32)) < 0) (g36 : (x5 + (17 : Int32)).toNatClampNeg < 800) (g37 : ¬ (x5 + (18 : Int32)) < 0) (g38 : (x5 + (18 : Int32)).toNatClampNeg < 800) (g39 : ¬ (x5 + (19 : Int32)) < 0) (g40 : (x5 + (19 : Int32)).toNatClampNeg < 800) : Met l yX10_feed wsX10_feed ({ frames := 0, cells := 0, slots := 0, locals := 0 }) (q1_P D c [(a0, .inr (10, [.ref a1, .int x5, .int x6, .int x7, .int x8, .int x9, .ref a2, .ref a3, .ref a4, .ref a5, .ref a6, .ref a7, .int x10, .ref a8, .ref a9, .ref a10, .ref a11, .ref a12, .int x11, .ref a13, .int x12, .ref a14, .int x13, .ref a15, .int x14, .ref a16, .int x15, .int x16, .ref a17, .ref a18, .int x17, .int x18, .int x19, .int x20, .int x21, .ref a19, .ref a20, .ref a21, .ref a22, .ref a23, .int x22, .ref a24, .ref a25, .ref a26, .ref a27, .int x23, .ref a28, .int x24, .ref a29, .int x25, .ref a30, .ref a31, .int x26, .int x27, .int x28, .ref a32, .ref a33, .ref a34, .ref a35, .ref a36, .ref a37, .ref a38, .int x29, .int x30, .int x31, .ref a39])), (a1, .inl (c 0, 800, .inl (f0)))] sz [.ref a0, .int x0, .int x1, .int x2, .int x3, .int x4]) (q1_i D [(a0, .inr (10, [.ref a1, .int x5, .int x6, .int x7, .int x8, .int x9, .ref a2, .ref a3, .ref a4, .ref a5, .ref a6, .ref a7, .int x10, .ref a8, .ref a9, .ref a10, .ref a11, .ref a12, .int x11, .ref a13, .int x12, .ref a14, .int x13, .ref a15, .int x14, .ref a16, .int x15, .int x16, .ref a17, .ref a18, .int x17, .int x18, .int x19, .int x20, .int x21, .ref a19, .ref a20, .ref a21, .ref a22, .ref a23, .int x22, .ref a24, .ref a25, .ref a26, .ref a27, .int x23, .ref a28, .int x24, .ref a29, .int x25, .ref a30, .ref a31, .int x26, .int x27, .int x28, .ref a32, .ref a33, .ref a34, .ref a35, .ref a36, .ref a37, .ref a38, .int x29, .int x30, .int x31, .ref a39])), (a1, .inl (c 0, 800, .inl (f0)))] sz (x5 + (20 : Int32)) (fun u => [(a0, .inr (10, [.ref a1, .int (x5 + (20 : Int32)), .int 0, .int x7, .int x8, .int x9, .ref a2, .ref a3, .ref a4, .ref a5, .ref a6, .ref a7, .int x10, .ref a8, .ref a9, .ref a10, .ref a11, .ref a12, .int x11, .ref a13, .int x12, .ref a14, .int x13, .ref a15, .int x14, .ref a16, .int x15, .int x16, .ref a17, .ref a18, .int x17, .int x18, .int x19, .int x20, .int x21, .ref a19, .ref a20, .ref a21, .ref a22, .ref a23, .int x22, .ref a24, .ref a25, .ref a26, .ref a27, .int x23, .ref a28, .int x24, .ref a29, .int x25, .ref a30, .ref a31, .int x26, .int x27, .int x28, .ref a32, .ref a33, .ref a34, .ref a35, .ref a36, .ref a37, .ref a38, .int x29, .int x30, .int x31, .ref a39])), (a1, .inl (c 0, 800, .inl (upd (upd (upd (upd (upd (upd (upd (upd (upd (upd (upd (upd (upd (upd (upd (upd (upd (upd (upd (upd (f0) ((x5 + (0 : Int32)).toNatClampNeg) ((x0 >>> ((24 : Int32) &&& 31)) &&& (255 : Int32))) ((x5 + (1 : Int32)).toNatClampNeg) ((x0 >>> ((16 : Int32) &&& 31)) &&& (255 : Int32))) ((x5 + (2 : Int32)).toNatClampNeg) ((x0 >>> ((8 : Int32) &&& 31)) &&& (255 : Int32))) ((x5 + (3 : Int32)).toNatClampNeg) ((x0 >>> ((0 : Int32) &&& 31)) &&& (255 : Int32))) ((x5 + (4 : Int32)).toNatClampNeg) ((x1 >>> ((24 : Int32) &&& 31)) &&& (255 : Int32))) ((x5 + (5 : Int32)).toNatClampNeg) ((x1 >>> ((16 : Int32) &&& 31)) &&& (255 : Int32))) ((x5 + (6 : Int32)).toNatClampNeg) ((x1 >>> ((8 : Int32) &&& 31)) &&& (255 : Int32))) ((x5 + (7 : Int32)).toNatClampNeg) ((x1 >>> ((0 : Int32) &&& 31)) &&& (255 : Int32))) ((x5 + (8 : Int32)).toNatClampNeg) ((x2 >>> ((24 : Int32) &&& 31)) &&& (255 : Int32))) ((x5 + (9 : Int32)).toNatClampNeg) ((x2 >>> ((16 : Int32) &&& 31)) &&& (255 : Int32))) ((x5 + (10 : Int32)).toNatClampNeg) ((x2 >>> ((8 : Int32) &&& 31)) &&& (255 : Int32))) ((x5 + (11 : Int32)).toNatClampNeg) ((x2 >>> ((0 : Int32) &&& 31)) &&& (255 : Int32))) ((x5 + (12 : Int32)).toNatClampNeg) ((x3 >>> ((24 : Int32) &&& 31)) &&& (255 : Int32))) ((x5 + (13 : Int32)).toNatClampNeg) ((x3 >>> ((16 : Int32) &&& 31)) &&& (255 : Int32))) ((x5 + (14 : Int32)).toNatClampNeg) ((x3 >>> ((8 : Int32) &&& 31)) &&& (255 : Int32))) ((x5 + (15 : Int32)).toNatClampNeg) ((x3 >>> ((0 : Int32) &&& 31)) &&& (255 : Int32))) ((x5 + (16 : Int32)).toNatClampNeg) ((x4 >>> ((24 : Int32) &&& 31)) &&& (255 : Int32))) ((x5 + (17 : Int32)).toNatClampNeg) ((x4 >>> ((16 : Int32) &&& 31)) &&& (255 : Int32))) ((x5 + (18 : Int32)).toNatClampNeg) ((x4 >>> ((8 : Int32) &&& 31)) &&& (255 : Int32))) ((x5 + (19 : Int32)).toNatClampNeg) ((x4 >>> ((0 : Int32) &&& 31)) &&& (255 : Int32)))))])) 0 0 (va_A [(a0, .inr (10, [.ref a1, .int x5, .int x6, .int x7, .int x8, .int x9, .ref a2, .ref a3, .ref a4, .ref a5, .ref a6, .ref a7, .int x10, .ref a8, .ref a9, .ref a10, .ref a11, .ref a12, .int x11, .ref a13, .int x12, .ref a14, .int x13, .ref a15, .int x14, .ref a16, .int x15, .int x16, .ref a17, .ref a18, .int x17, .int x18, .int x19, .int x20, .int x21, .ref a19, .ref a20, .ref a21, .ref a22, .ref a23, .int x22, .ref a24, .ref a25, .ref a26, .ref a27, .int x23, .ref a28, .int x24, .ref a29, .int x25, .ref a30, .ref a31, .int x26, .int x27, .int x28, .ref a32, .ref a33, .ref a34, .ref a35, .ref a36, .ref a37, .ref a38, .int x29, .int x30, .int x31, .ref a39])), (a1, .inl (c 0, 800, .inl (f0)))] sz) := by
  refine q1_of_i (ty := .int) rfl (cc := cX10_feed) (maxL := 8) (by decide) rfl (Nat.le_of_ble_eq_true rfl) (fun p e s m args below meth cd A Q ls hx hb hml hown hts hin hA hS hP hD hK hN hl hret => ?_)
  have hown : s.vm.findClass RX10 = some m.cls := hown
  obtain ⟨H, eH⟩ : ∃ z, z = s.heap := ⟨_, rfl⟩
  have hP : va_P D vwCl [(a0, .inr (10, [.ref a1, .int x5, .int x6, .int x7, .int x8, .int x9, .ref a2, .ref a3, .ref a4, .ref a5, .ref a6, .ref a7, .int x10, .ref a8, .ref a9, .ref a10, .ref a11, .ref a12, .int x11, .ref a13, .int x12, .ref a14, .int x13, .ref a15, .int x14, .ref a16, .int x15, .int x16, .ref a17, .ref a18, .int x17, .int x18, .int x19, .int x20, .int x21, .ref a19, .ref a20, .ref a21, .ref a22, .ref a23, .int x22, .ref a24, .ref a25, .ref a26, .ref a27, .int x23, .ref a28, .int x24, .ref a29, .int x25, .ref a30, .ref a31, .int x26, .int x27, .int x28, .ref a32, .ref a33, .ref a34, .ref a35, .ref a36, .ref a37, .ref a38, .int x29, .int x30, .int x31, .ref a39])), (a1, .inl (c 0, 800, .inl (f0)))] H := by rw [eH]; exact hP
  have hS : va_S A s.heap H [] := by rw [eH]; exact hS
  rw [← eH]
  have iX10 : ∀ w ∈ wsX100, w ∈ wsX10_feed := fun w h => List.mem_cons_of_mem _ (List.mem_append_right _ h)
  have hl : lv_has ls 8 [(0, .ref a0), (1, .int x0), (2, .int x1), (3, .int x2), (4, .int x3), (5, .int x4)] := hl
  refine lv_aload_n hx hb dX10_feed_0 rfl (lv_at hl 0 rfl) ?_
  refine lv_iconst (v := 0) hx hb dX10_feed_1 (by decide) ?_
  refine va_put (D := D) (ci := 10) (v := .int 0) (ty := .int) (C := RX10) (T := TX10) (N := 66) hx hb hts iX10 tyX10 tyX10_ok nmX10 hown hK hP hD hS 0 rfl rfl 2 (by decide) (hts (.fieldLink RX10 135 "ShortTellerModel" "thrown" "I") (List.mem_of_getElem? (i := 1) rfl)) (fun _ h9 => h9) rfl (by decide +kernel) rfl rfl (Nat.le_of_ble_eq_true rfl) dX10_feed_2 (fun H locs hP hD hS => ?_)
  have hP : va_P D vwCl [(a0, .inr (10, [.ref a1, .int x5, .int 0, .int x7, .int x8, .int x9, .ref a2, .ref a3, .ref a4, .ref a5, .ref a6, .ref a7, .int x10, .ref a8, .ref a9, .ref a10, .ref a11, .ref a12, .int x11, .ref a13, .int x12, .ref a14, .int x13, .ref a15, .int x14, .ref a16, .int x15, .int x16, .ref a17, .ref a18, .int x17, .int x18, .int x19, .int x20, .int x21, .ref a19, .ref a20, .ref a21, .ref a22, .ref a23, .int x22, .ref a24, .ref a25, .ref a26, .ref a27, .int x23, .ref a28, .int x24, .ref a29, .int x25, .ref a30, .ref a31, .int x26, .int x27, .int x28, .ref a32, .ref a33, .ref a34, .ref a35, .ref a36, .ref a37, .ref a38, .int x29, .int x30, .int x31, .ref a39])), (a1, .inl (c 0, 800, .inl (f0)))] H := hP
  have hD : va_D A [(a0, .inr (10, [.ref a1, .int x5, .int 0, .int x7, .int x8, .int x9, .ref a2, .ref a3, .ref a4, .ref a5, .ref a6, .ref a7, .int x10, .ref a8, .ref a9, .ref a10, .ref a11, .ref a12, .int x11, .ref a13, .int x12, .ref a14, .int x13, .ref a15, .int x14, .ref a16, .int x15, .int x16, .ref a17, .ref a18, .int x17, .int x18, .int x19, .int x20, .int x21, .ref a19, .ref a20, .ref a21, .ref a22, .ref a23, .int x22, .ref a24, .ref a25, .ref a26, .ref a27, .int x23, .ref a28, .int x24, .ref a29, .int x25, .ref a30, .ref a31, .int x26, .int x27, .int x28, .ref a32, .ref a33, .ref a34, .ref a35, .ref a36, .ref a37, .ref a38, .int x29, .int x30, .int x31, .ref a39])), (a1, .inl (c 0, 800, .inl (f0)))] := hD
  refine lv_aload_n hx hb dX10_feed_5 rfl (lv_at hl 0 rfl) ?_
  refine va_get (D := D) (ci := 10) (v := .int x5) (C := RX10) (T := TX10) (N := 66) hx hb hts iX10 hown hK hP 0 rfl rfl 1 (by decide) (hts (.fieldLink RX10 138 "ShortTellerModel" "tapeSize" "I") (List.mem_of_getElem? (i := 2) rfl)) (fun _ h9 => h9) rfl dX10_feed_6 ?_
  refine lv_bipush (v := 20) hx hb dX10_feed_9 (by decide) ?_
  refine lv_iadd hx hb dX10_feed_11 ?_
  refine lv_sipush (v := 800) hx hb dX10_feed_12 (by decide) ?_
  refine lv_icmp_le (tgt := 20) hx hb dX10_feed_15 (by decide) (fun _ => ?_) (fun h9 => absurd g0 h9)
  refine lv_iconst (v := 0) hx hb dX10_feed_20 (by decide) ?_
  refine lv_istore (lv' := [(6, .int 0), (0, .ref a0), (1, .int x0), (2, .int x1), (3, .int x2), (4, .int x3), (5, .int x4)]) hx hb dX10_feed_21 hl (by decide) rfl (fun ls hl => ?_)
  refine lv_iload hx hb dX10_feed_23 (lv_at hl 0 rfl) ?_
  refine lv_bipush (v := 20) hx hb dX10_feed_25 (by decide) ?_
  refine lv_icmp_ge (tgt := 113) hx hb dX10_feed_27 (by decide) (fun h9 => absurd h9 (by decide)) (fun _ => ?_)
  refine lv_iload hx hb dX10_feed_30 (lv_at hl 0 rfl) ?_
  refine lv_iconst (v := 4) hx hb dX10_feed_32 (by decide) ?_
  refine lv_icmp_ge (tgt := 40) hx hb dX10_feed_33 (by decide) (fun h9 => absurd h9 (by decide)) (fun _ => ?_)
  refine lv_iload_n hx hb dX10_feed_36 rfl (lv_at hl 2 rfl) ?_
  refine lv_goto (tgt := 76) hx hb dX10_feed_37 (by decide) ?_
  refine lv_istore (lv' := [(7, .int x0), (6, .int 0), (0, .ref a0), (1, .int x0), (2, .int x1), (3, .int x2), (4, .int x3), (5, .int x4)]) hx hb dX10_feed_76 hl (by decide) rfl (fun ls hl => ?_)
  refine lv_aload_n hx hb dX10_feed_78 rfl (lv_at hl 2 rfl) ?_
  refine va_get (D := D) (ci := 10) (v := .ref a1) (C := RX10) (T := TX10) (N := 66) hx hb hts iX10 hown hK hP 0 rfl rfl 0 (by decide) (hts (.fieldLink RX10 7 "ShortTellerModel" "tape" "[I") (List.mem_of_getElem? (i := 3) rfl)) (fun _ h9 => h9) rfl dX10_feed_79 ?_
  refine lv_aload_n hx hb dX10_feed_82 rfl (lv_at hl 2 rfl) ?_
  refine va_get (D := D) (ci := 10) (v := .int x5) (C := RX10) (T := TX10) (N := 66) hx hb hts iX10 hown hK hP 0 rfl rfl 1 (by decide) (hts (.fieldLink RX10 138 "ShortTellerModel" "tapeSize" "I") (List.mem_of_getElem? (i := 2) rfl)) (fun _ h9 => h9) rfl dX10_feed_83 ?_
  refine lv_iload hx hb dX10_feed_86 (lv_at hl 1 rfl) ?_
  refine lv_iadd hx hb dX10_feed_88 ?_
  refine lv_iload hx hb dX10_feed_89 (lv_at hl 0 rfl) ?_
  refine lv_bipush (v := 24) hx hb dX10_feed_91 (by decide) ?_
  refine lv_bipush (v := 8) hx hb dX10_feed_93 (by decide) ?_
  refine lv_iload hx hb dX10_feed_95 (lv_at hl 1 rfl) ?_
  refine lv_iconst (v := 4) hx hb dX10_feed_97 (by decide) ?_
  refine lv_irem hx hb dX10_feed_98 (by decide) ?_
  refine q1_top (v := 0) (by decide) ?_
  refine lv_imul hx hb dX10_feed_99 ?_
  refine q1_top (v := 0) (by decide) ?_
  refine lv_isub hx hb dX10_feed_100 ?_
  refine q1_top (v := 24) (by decide) ?_
  refine lv_ishr hx hb dX10_feed_101 ?_
  refine lv_sipush (v := 255) hx hb dX10_feed_102 (by decide) ?_
  refine lv_iand hx hb dX10_feed_105 ?_
  refine q1_iast (c := c) (K := (x5 + (0 : Int32)).toNatClampNeg) (F := upd (f0) ((x5 + (0 : Int32)).toNatClampNeg) ((x0 >>> ((24 : Int32) &&& 31)) &&& (255 : Int32))) hx hb hK hP hD hS 1 rfl rfl g1 g2 rfl dX10_feed_106 (fun H locs hP hD hS => ?_)
  have hP : va_P D vwCl [(a0, .inr (10, [.ref a1, .int x5, .int 0, .int x7, .int x8, .int x9, .ref a2, .ref a3, .ref a4, .ref a5, .ref a6, .ref a7, .int x10, .ref a8, .ref a9, .ref a10, .ref a11, .ref a12, .int x11, .ref a13, .int x12, .ref a14, .int x13, .ref a15, .int x14, .ref a16, .int x15, .int x16, .ref a17, .ref a18, .int x17, .int x18, .int x19, .int x20, .int x21, .ref a19, .ref a20, .ref a21, .ref a22, .ref a23, .int x22, .ref a24, .ref a25, .ref a26, .ref a27, .int x23, .ref a28, .int x24, .ref a29, .int x25, .ref a30, .ref a31, .int x26, .int x27, .int x28, .ref a32, .ref a33, .ref a34, .ref a35, .ref a36, .ref a37, .ref a38, .int x29, .int x30, .int x31, .ref a39])), (a1, .inl (c 0, 800, .inl (upd (f0) ((x5 + (0 : Int32)).toNatClampNeg) ((x0 >>> ((24 : Int32) &&& 31)) &&& (255 : Int32)))))] H := hP
  have hD : va_D A [(a0, .inr (10, [.ref a1, .int x5, .int 0, .int x7, .int x8, .int x9, .ref a2, .ref a3, .ref a4, .ref a5, .ref a6, .ref a7, .int x10, .ref a8, .ref a9, .ref a10, .ref a11, .ref a12, .int x11, .ref a13, .int x12, .ref a14, .int x13, .ref a15, .int x14, .ref a16, .int x15, .int x16, .ref a17, .ref a18, .int x17, .int x18, .int x19, .int x20, .int x21, .ref a19, .ref a20, .ref a21, .ref a22, .ref a23, .int x22, .ref a24, .ref a25, .ref a26, .ref a27, .int x23, .ref a28, .int x24, .ref a29, .int x25, .ref a30, .ref a31, .int x26, .int x27, .int x28, .ref a32, .ref a33, .ref a34, .ref a35, .ref a36, .ref a37, .ref a38, .int x29, .int x30, .int x31, .ref a39])), (a1, .inl (c 0, 800, .inl (upd (f0) ((x5 + (0 : Int32)).toNatClampNeg) ((x0 >>> ((24 : Int32) &&& 31)) &&& (255 : Int32)))))] := hD
  refine lv_iinc (v := 1) (lv' := [(6, .int 1), (7, .int x0), (0, .ref a0), (1, .int x0), (2, .int x1), (3, .int x2), (4, .int x3), (5, .int x4)]) hx hb dX10_feed_107 hl (k := 1) rfl (by decide) (by decide) rfl (fun ls hl => ?_)
  refine lv_goto (tgt := 23) hx hb dX10_feed_110 (by decide) ?_
  refine lv_iload hx hb dX10_feed_23 (lv_at hl 0 rfl) ?_
  refine lv_bipush (v := 20) hx hb dX10_feed_25 (by decide) ?_
  refine lv_icmp_ge (tgt := 113) hx hb dX10_feed_27 (by decide) (fun h9 => absurd h9 (by decide)) (fun _ => ?_)
  refine lv_iload hx hb dX10_feed_30 (lv_at hl 0 rfl) ?_
  refine lv_iconst (v := 4) hx hb dX10_feed_32 (by decide) ?_
  refine lv_icmp_ge (tgt := 40) hx hb dX10_feed_33 (by decide) (fun h9 => absurd h9 (by decide)) (fun _ => ?_)
  refine lv_iload_n hx hb dX10_feed_36 rfl (lv_at hl 3 rfl) ?_
  refine lv_goto (tgt := 76) hx hb dX10_feed_37 (by decide) ?_
  refine lv_istore (lv' := [(7, .int x0), (6, .int 1), (0, .ref a0), (1, .int x0), (2, .int x1), (3, .int x2), (4, .int x3), (5, .int x4)]) hx hb dX10_feed_76 hl (by decide) rfl (fun ls hl => ?_)
  refine lv_aload_n hx hb dX10_feed_78 rfl (lv_at hl 2 rfl) ?_
  refine va_get (D := D) (ci := 10) (v := .ref a1) (C := RX10) (T := TX10) (N := 66) hx hb hts iX10 hown hK hP 0 rfl rfl 0 (by decide) (hts (.fieldLink RX10 7 "ShortTellerModel" "tape" "[I") (List.mem_of_getElem? (i := 3) rfl)) (fun _ h9 => h9) rfl dX10_feed_79 ?_
  refine lv_aload_n hx hb dX10_feed_82 rfl (lv_at hl 2 rfl) ?_
  refine va_get (D := D) (ci := 10) (v := .int x5) (C := RX10) (T := TX10) (N := 66) hx hb hts iX10 hown hK hP 0 rfl rfl 1 (by decide) (hts (.fieldLink RX10 138 "ShortTellerModel" "tapeSize" "I") (List.mem_of_getElem? (i := 2) rfl)) (fun _ h9 => h9) rfl dX10_feed_83 ?_
  refine lv_iload hx hb dX10_feed_86 (lv_at hl 1 rfl) ?_
  refine lv_iadd hx hb dX10_feed_88 ?_
  refine lv_iload hx hb dX10_feed_89 (lv_at hl 0 rfl) ?_
  refine lv_bipush (v := 24) hx hb dX10_feed_91 (by decide) ?_
  refine lv_bipush (v := 8) hx hb dX10_feed_93 (by decide) ?_
  refine lv_iload hx hb dX10_feed_95 (lv_at hl 1 rfl) ?_
  refine lv_iconst (v := 4) hx hb dX10_feed_97 (by decide) ?_
  refine lv_irem hx hb dX10_feed_98 (by decide) ?_
  refine q1_top (v := 1) (by decide) ?_
  refine lv_imul hx hb dX10_feed_99 ?_
  refine q1_top (v := 8) (by decide) ?_
  refine lv_isub hx hb dX10_feed_100 ?_
  refine q1_top (v := 16) (by decide) ?_
  refine lv_ishr hx hb dX10_feed_101 ?_
  refine lv_sipush (v := 255) hx hb dX10_feed_102 (by decide) ?_
  refine lv_iand hx hb dX10_feed_105 ?_
  refine q1_iast (c := c) (K := (x5 + (1 : Int32)).toNatClampNeg) (F := upd (upd (f0) ((x5 + (0 : Int32)).toNatClampNeg) ((x0 >>> ((24 : Int32) &&& 31)) &&& (255 : Int32))) ((x5 + (1 : Int32)).toNatClampNeg) ((x0 >>> ((16 : Int32) &&& 31)) &&& (255 : Int32))) hx hb hK hP hD hS 1 rfl rfl g3 g4 rfl dX10_feed_106 (fun H locs hP hD hS => ?_)
  have hP : va_P D vwCl [(a0, .inr (10, [.ref a1, .int x5, .int 0, .int x7, .int x8, .int x9, .ref a2, .ref a3, .ref a4, .ref a5, .ref a6, .ref a7, .int x10, .ref a8, .ref a9, .ref a10, .ref a11, .ref a12, .int x11, .ref a13, .int x12, .ref a14, .int x13, .ref a15, .int x14, .ref a16, .int x15, .int x16, .ref a17, .ref a18, .int x17, .int x18, .int x19, .int x20, .int x21, .ref a19, .ref a20, .ref a21, .ref a22, .ref a23, .int x22, .ref a24, .ref a25, .ref a26, .ref a27, .int x23, .ref a28, .int x24, .ref a29, .int x25, .ref a30, .ref a31, .int x26, .int x27, .int x28, .ref a32, .ref a33, .ref a34, .ref a35, .ref a36, .ref a37, .ref a38, .int x29, .int x30, .int x31, .ref a39])), (a1, .inl (c 0, 800, .inl (upd (upd (f0) ((x5 + (0 : Int32)).toNatClampNeg) ((x0 >>> ((24 : Int32) &&& 31)) &&& (255 : Int32))) ((x5 + (1 : Int32)).toNatClampNeg) ((x0 >>> ((16 : Int32) &&& 31)) &&& (255 : Int32)))))] H := hP
  have hD : va_D A [(a0, .inr (10, [.ref a1, .int x5, .int 0, .int x7, .int x8, .int x9, .ref a2, .ref a3, .ref a4, .ref a5, .ref a6, .ref a7, .int x10, .ref a8, .ref a9, .ref a10, .ref a11, .ref a12, .int x11, .ref a13, .int x12, .ref a14, .int x13, .ref a15, .int x14, .ref a16, .int x15, .int x16, .ref a17, .ref a18, .int x17, .int x18, .int x19, .int x20, .int x21, .ref a19, .ref a20, .ref a21, .ref a22, .ref a23, .int x22, .ref a24, .ref a25, .ref a26, .ref a27, .int x23, .ref a28, .int x24, .ref a29, .int x25, .ref a30, .ref a31, .int x26, .int x27, .int x28, .ref a32, .ref a33, .ref a34, .ref a35, .ref a36, .ref a37, .ref a38, .int x29, .int x30, .int x31, .ref a39])), (a1, .inl (c 0, 800, .inl (upd (upd (f0) ((x5 + (0 : Int32)).toNatClampNeg) ((x0 >>> ((24 : Int32) &&& 31)) &&& (255 : Int32))) ((x5 + (1 : Int32)).toNatClampNeg) ((x0 >>> ((16 : Int32) &&& 31)) &&& (255 : Int32)))))] := hD
  refine lv_iinc (v := 2) (lv' := [(6, .int 2), (7, .int x0), (0, .ref a0), (1, .int x0), (2, .int x1), (3, .int x2), (4, .int x3), (5, .int x4)]) hx hb dX10_feed_107 hl (k := 1) rfl (by decide) (by decide) rfl (fun ls hl => ?_)
  refine lv_goto (tgt := 23) hx hb dX10_feed_110 (by decide) ?_
  refine lv_iload hx hb dX10_feed_23 (lv_at hl 0 rfl) ?_
  refine lv_bipush (v := 20) hx hb dX10_feed_25 (by decide) ?_
  refine lv_icmp_ge (tgt := 113) hx hb dX10_feed_27 (by decide) (fun h9 => absurd h9 (by decide)) (fun _ => ?_)
  refine lv_iload hx hb dX10_feed_30 (lv_at hl 0 rfl) ?_
  refine lv_iconst (v := 4) hx hb dX10_feed_32 (by decide) ?_
  refine lv_icmp_ge (tgt := 40) hx hb dX10_feed_33 (by decide) (fun h9 => absurd h9 (by decide)) (fun _ => ?_)
  refine lv_iload_n hx hb dX10_feed_36 rfl (lv_at hl 3 rfl) ?_
  refine lv_goto (tgt := 76) hx hb dX10_feed_37 (by decide) ?_
  refine lv_istore (lv' := [(7, .int x0), (6, .int 2), (0, .ref a0), (1, .int x0), (2, .int x1), (3, .int x2), (4, .int x3), (5, .int x4)]) hx hb dX10_feed_76 hl (by decide) rfl (fun ls hl => ?_)
  refine lv_aload_n hx hb dX10_feed_78 rfl (lv_at hl 2 rfl) ?_
  refine va_get (D := D) (ci := 10) (v := .ref a1) (C := RX10) (T := TX10) (N := 66) hx hb hts iX10 hown hK hP 0 rfl rfl 0 (by decide) (hts (.fieldLink RX10 7 "ShortTellerModel" "tape" "[I") (List.mem_of_getElem? (i := 3) rfl)) (fun _ h9 => h9) rfl dX10_feed_79 ?_
  refine lv_aload_n hx hb dX10_feed_82 rfl (lv_at hl 2 rfl) ?_
  refine va_get (D := D) (ci := 10) (v := .int x5) (C := RX10) (T := TX10) (N := 66) hx hb hts iX10 hown hK hP 0 rfl rfl 1 (by decide) (hts (.fieldLink RX10 138 "ShortTellerModel" "tapeSize" "I") (List.mem_of_getElem? (i := 2) rfl)) (fun _ h9 => h9) rfl dX10_feed_83 ?_
  refine lv_iload hx hb dX10_feed_86 (lv_at hl 1 rfl) ?_
  refine lv_iadd hx hb dX10_feed_88 ?_
  refine lv_iload hx hb dX10_feed_89 (lv_at hl 0 rfl) ?_
  refine lv_bipush (v := 24) hx hb dX10_feed_91 (by decide) ?_
  refine lv_bipush (v := 8) hx hb dX10_feed_93 (by decide) ?_
  refine lv_iload hx hb dX10_feed_95 (lv_at hl 1 rfl) ?_
  refine lv_iconst (v := 4) hx hb dX10_feed_97 (by decide) ?_
  refine lv_irem hx hb dX10_feed_98 (by decide) ?_
  refine q1_top (v := 2) (by decide) ?_
  refine lv_imul hx hb dX10_feed_99 ?_
  refine q1_top (v := 16) (by decide) ?_
  refine lv_isub hx hb dX10_feed_100 ?_
  refine q1_top (v := 8) (by decide) ?_
  refine lv_ishr hx hb dX10_feed_101 ?_
  refine lv_sipush (v := 255) hx hb dX10_feed_102 (by decide) ?_
  refine lv_iand hx hb dX10_feed_105 ?_
  refine q1_iast (c := c) (K := (x5 + (2 : Int32)).toNatClampNeg) (F := upd (upd (upd (f0) ((x5 + (0 : Int32)).toNatClampNeg) ((x0 >>> ((24 : Int32) &&& 31)) &&& (255 : Int32))) ((x5 + (1 : Int32)).toNatClampNeg) ((x0 >>> ((16 : Int32) &&& 31)) &&& (255 : Int32))) ((x5 + (2 : Int32)).toNatClampNeg) ((x0 >>> ((8 : Int32) &&& 31)) &&& (255 : Int32))) hx hb hK hP hD hS 1 rfl rfl g5 g6 rfl dX10_feed_106 (fun H locs hP hD hS => ?_)
  have hP : va_P D vwCl [(a0, .inr (10, [.ref a1, .int x5, .int 0, .int x7, .int x8, .int x9, .ref a2, .ref a3, .ref a4, .ref a5, .ref a6, .ref a7, .int x10, .ref a8, .ref a9, .ref a10, .ref a11, .ref a12, .int x11, .ref a13, .int x12, .ref a14, .int x13, .ref a15, .int x14, .ref a16, .int x15, .int x16, .ref a17, .ref a18, .int x17, .int x18, .int x19, .int x20, .int x21, .ref a19, .ref a20, .ref a21, .ref a22, .ref a23, .int x22, .ref a24, .ref a25, .ref a26, .ref a27, .int x23, .ref a28, .int x24, .ref a29, .int x25, .ref a30, .ref a31, .int x26, .int x27, .int x28, .ref a32, .ref a33, .ref a34, .ref a35, .ref a36, .ref a37, .ref a38, .int x29, .int x30, .int x31, .ref a39])), (a1, .inl (c 0, 800, .inl (upd (upd (upd (f0) ((x5 + (0 : Int32)).toNatClampNeg) ((x0 >>> ((24 : Int32) &&& 31)) &&& (255 : Int32))) ((x5 + (1 : Int32)).toNatClampNeg) ((x0 >>> ((16 : Int32) &&& 31)) &&& (255 : Int32))) ((x5 + (2 : Int32)).toNatClampNeg) ((x0 >>> ((8 : Int32) &&& 31)) &&& (255 : Int32)))))] H := hP
  have hD : va_D A [(a0, .inr (10, [.ref a1, .int x5, .int 0, .int x7, .int x8, .int x9, .ref a2, .ref a3, .ref a4, .ref a5, .ref a6, .ref a7, .int x10, .ref a8, .ref a9, .ref a10, .ref a11, .ref a12, .int x11, .ref a13, .int x12, .ref a14, .int x13, .ref a15, .int x14, .ref a16, .int x15, .int x16, .ref a17, .ref a18, .int x17, .int x18, .int x19, .int x20, .int x21, .ref a19, .ref a20, .ref a21, .ref a22, .ref a23, .int x22, .ref a24, .ref a25, .ref a26, .ref a27, .int x23, .ref a28, .int x24, .ref a29, .int x25, .ref a30, .ref a31, .int x26, .int x27, .int x28, .ref a32, .ref a33, .ref a34, .ref a35, .ref a36, .ref a37, .ref a38, .int x29, .int x30, .int x31, .ref a39])), (a1, .inl (c 0, 800, .inl (upd (upd (upd (f0) ((x5 + (0 : Int32)).toNatClampNeg) ((x0 >>> ((24 : Int32) &&& 31)) &&& (255 : Int32))) ((x5 + (1 : Int32)).toNatClampNeg) ((x0 >>> ((16 : Int32) &&& 31)) &&& (255 : Int32))) ((x5 + (2 : Int32)).toNatClampNeg) ((x0 >>> ((8 : Int32) &&& 31)) &&& (255 : Int32)))))] := hD
  refine lv_iinc (v := 3) (lv' := [(6, .int 3), (7, .int x0), (0, .ref a0), (1, .int x0), (2, .int x1), (3, .int x2), (4, .int x3), (5, .int x4)]) hx hb dX10_feed_107 hl (k := 1) rfl (by decide) (by decide) rfl (fun ls hl => ?_)
  refine lv_goto (tgt := 23) hx hb dX10_feed_110 (by decide) ?_
  refine lv_iload hx hb dX10_feed_23 (lv_at hl 0 rfl) ?_
  refine lv_bipush (v := 20) hx hb dX10_feed_25 (by decide) ?_
  refine lv_icmp_ge (tgt := 113) hx hb dX10_feed_27 (by decide) (fun h9 => absurd h9 (by decide)) (fun _ => ?_)
  refine lv_iload hx hb dX10_feed_30 (lv_at hl 0 rfl) ?_
  refine lv_iconst (v := 4) hx hb dX10_feed_32 (by decide) ?_
  refine lv_icmp_ge (tgt := 40) hx hb dX10_feed_33 (by decide) (fun h9 => absurd h9 (by decide)) (fun _ => ?_)
  refine lv_iload_n hx hb dX10_feed_36 rfl (lv_at hl 3 rfl) ?_
  refine lv_goto (tgt := 76) hx hb dX10_feed_37 (by decide) ?_
  refine lv_istore (lv' := [(7, .int x0), (6, .int 3), (0, .ref a0), (1, .int x0), (2, .int x1), (3, .int x2), (4, .int x3), (5, .int x4)]) hx hb dX10_feed_76 hl (by decide) rfl (fun ls hl => ?_)
  refine lv_aload_n hx hb dX10_feed_78 rfl (lv_at hl 2 rfl) ?_
  refine va_get (D := D) (ci := 10) (v := .ref a1) (C := RX10) (T := TX10) (N := 66) hx hb hts iX10 hown hK hP 0 rfl rfl 0 (by decide) (hts (.fieldLink RX10 7 "ShortTellerModel" "tape" "[I") (List.mem_of_getElem? (i := 3) rfl)) (fun _ h9 => h9) rfl dX10_feed_79 ?_
  refine lv_aload_n hx hb dX10_feed_82 rfl (lv_at hl 2 rfl) ?_
  refine va_get (D := D) (ci := 10) (v := .int x5) (C := RX10) (T := TX10) (N := 66) hx hb hts iX10 hown hK hP 0 rfl rfl 1 (by decide) (hts (.fieldLink RX10 138 "ShortTellerModel" "tapeSize" "I") (List.mem_of_getElem? (i := 2) rfl)) (fun _ h9 => h9) rfl dX10_feed_83 ?_
  refine lv_iload hx hb dX10_feed_86 (lv_at hl 1 rfl) ?_
  refine lv_iadd hx hb dX10_feed_88 ?_
  refine lv_iload hx hb dX10_feed_89 (lv_at hl 0 rfl) ?_
  refine lv_bipush (v := 24) hx hb dX10_feed_91 (by decide) ?_
  refine lv_bipush (v := 8) hx hb dX10_feed_93 (by decide) ?_
  refine lv_iload hx hb dX10_feed_95 (lv_at hl 1 rfl) ?_
  refine lv_iconst (v := 4) hx hb dX10_feed_97 (by decide) ?_
  refine lv_irem hx hb dX10_feed_98 (by decide) ?_
  refine q1_top (v := 3) (by decide) ?_
  refine lv_imul hx hb dX10_feed_99 ?_
  refine q1_top (v := 24) (by decide) ?_
  refine lv_isub hx hb dX10_feed_100 ?_
  refine q1_top (v := 0) (by decide) ?_
  refine lv_ishr hx hb dX10_feed_101 ?_
  refine lv_sipush (v := 255) hx hb dX10_feed_102 (by decide) ?_
  refine lv_iand hx hb dX10_feed_105 ?_
  refine q1_iast (c := c) (K := (x5 + (3 : Int32)).toNatClampNeg) (F := upd (upd (upd (upd (f0) ((x5 + (0 : Int32)).toNatClampNeg) ((x0 >>> ((24 : Int32) &&& 31)) &&& (255 : Int32))) ((x5 + (1 : Int32)).toNatClampNeg) ((x0 >>> ((16 : Int32) &&& 31)) &&& (255 : Int32))) ((x5 + (2 : Int32)).toNatClampNeg) ((x0 >>> ((8 : Int32) &&& 31)) &&& (255 : Int32))) ((x5 + (3 : Int32)).toNatClampNeg) ((x0 >>> ((0 : Int32) &&& 31)) &&& (255 : Int32))) hx hb hK hP hD hS 1 rfl rfl g7 g8 rfl dX10_feed_106 (fun H locs hP hD hS => ?_)
  have hP : va_P D vwCl [(a0, .inr (10, [.ref a1, .int x5, .int 0, .int x7, .int x8, .int x9, .ref a2, .ref a3, .ref a4, .ref a5, .ref a6, .ref a7, .int x10, .ref a8, .ref a9, .ref a10, .ref a11, .ref a12, .int x11, .ref a13, .int x12, .ref a14, .int x13, .ref a15, .int x14, .ref a16, .int x15, .int x16, .ref a17, .ref a18, .int x17, .int x18, .int x19, .int x20, .int x21, .ref a19, .ref a20, .ref a21, .ref a22, .ref a23, .int x22, .ref a24, .ref a25, .ref a26, .ref a27, .int x23, .ref a28, .int x24, .ref a29, .int x25, .ref a30, .ref a31, .int x26, .int x27, .int x28, .ref a32, .ref a33, .ref a34, .ref a35, .ref a36, .ref a37, .ref a38, .int x29, .int x30, .int x31, .ref a39])), (a1, .inl (c 0, 800, .inl (upd (upd (upd (upd (f0) ((x5 + (0 : Int32)).toNatClampNeg) ((x0 >>> ((24 : Int32) &&& 31)) &&& (255 : Int32))) ((x5 + (1 : Int32)).toNatClampNeg) ((x0 >>> ((16 : Int32) &&& 31)) &&& (255 : Int32))) ((x5 + (2 : Int32)).toNatClampNeg) ((x0 >>> ((8 : Int32) &&& 31)) &&& (255 : Int32))) ((x5 + (3 : Int32)).toNatClampNeg) ((x0 >>> ((0 : Int32) &&& 31)) &&& (255 : Int32)))))] H := hP
  have hD : va_D A [(a0, .inr (10, [.ref a1, .int x5, .int 0, .int x7, .int x8, .int x9, .ref a2, .ref a3, .ref a4, .ref a5, .ref a6, .ref a7, .int x10, .ref a8, .ref a9, .ref a10, .ref a11, .ref a12, .int x11, .ref a13, .int x12, .ref a14, .int x13, .ref a15, .int x14, .ref a16, .int x15, .int x16, .ref a17, .ref a18, .int x17, .int x18, .int x19, .int x20, .int x21, .ref a19, .ref a20, .ref a21, .ref a22, .ref a23, .int x22, .ref a24, .ref a25, .ref a26, .ref a27, .int x23, .ref a28, .int x24, .ref a29, .int x25, .ref a30, .ref a31, .int x26, .int x27, .int x28, .ref a32, .ref a33, .ref a34, .ref a35, .ref a36, .ref a37, .ref a38, .int x29, .int x30, .int x31, .ref a39])), (a1, .inl (c 0, 800, .inl (upd (upd (upd (upd (f0) ((x5 + (0 : Int32)).toNatClampNeg) ((x0 >>> ((24 : Int32) &&& 31)) &&& (255 : Int32))) ((x5 + (1 : Int32)).toNatClampNeg) ((x0 >>> ((16 : Int32) &&& 31)) &&& (255 : Int32))) ((x5 + (2 : Int32)).toNatClampNeg) ((x0 >>> ((8 : Int32) &&& 31)) &&& (255 : Int32))) ((x5 + (3 : Int32)).toNatClampNeg) ((x0 >>> ((0 : Int32) &&& 31)) &&& (255 : Int32)))))] := hD
  refine lv_iinc (v := 4) (lv' := [(6, .int 4), (7, .int x0), (0, .ref a0), (1, .int x0), (2, .int x1), (3, .int x2), (4, .int x3), (5, .int x4)]) hx hb dX10_feed_107 hl (k := 1) rfl (by decide) (by decide) rfl (fun ls hl => ?_)
  refine lv_goto (tgt := 23) hx hb dX10_feed_110 (by decide) ?_
  refine lv_iload hx hb dX10_feed_23 (lv_at hl 0 rfl) ?_
  refine lv_bipush (v := 20) hx hb dX10_feed_25 (by decide) ?_
  refine lv_icmp_ge (tgt := 113) hx hb dX10_feed_27 (by decide) (fun h9 => absurd h9 (by decide)) (fun _ => ?_)
  refine lv_iload hx hb dX10_feed_30 (lv_at hl 0 rfl) ?_
  refine lv_iconst (v := 4) hx hb dX10_feed_32 (by decide) ?_
  refine lv_icmp_ge (tgt := 40) hx hb dX10_feed_33 (by decide) (fun _ => ?_) (fun h9 => absurd (by decide) h9)
  refine lv_iload hx hb dX10_feed_40 (lv_at hl 0 rfl) ?_
  refine lv_bipush (v := 8) hx hb dX10_feed_42 (by decide) ?_
  refine lv_icmp_ge (tgt := 51) hx hb dX10_feed_44 (by decide) (fun h9 => absurd h9 (by decide)) (fun _ => ?_)
  refine lv_iload_n hx hb dX10_feed_47 rfl (lv_at hl 4 rfl) ?_
  refine lv_goto (tgt := 76) hx hb dX10_feed_48 (by decide) ?_
  refine lv_istore (lv' := [(7, .int x1), (6, .int 4), (0, .ref a0), (1, .int x0), (2, .int x1), (3, .int x2), (4, .int x3), (5, .int x4)]) hx hb dX10_feed_76 hl (by decide) rfl (fun ls hl => ?_)
  refine lv_aload_n hx hb dX10_feed_78 rfl (lv_at hl 2 rfl) ?_
  refine va_get (D := D) (ci := 10) (v := .ref a1) (C := RX10) (T := TX10) (N := 66) hx hb hts iX10 hown hK hP 0 rfl rfl 0 (by decide) (hts (.fieldLink RX10 7 "ShortTellerModel" "tape" "[I") (List.mem_of_getElem? (i := 3) rfl)) (fun _ h9 => h9) rfl dX10_feed_79 ?_
  refine lv_aload_n hx hb dX10_feed_82 rfl (lv_at hl 2 rfl) ?_
  refine va_get (D := D) (ci := 10) (v := .int x5) (C := RX10) (T := TX10) (N := 66) hx hb hts iX10 hown hK hP 0 rfl rfl 1 (by decide) (hts (.fieldLink RX10 138 "ShortTellerModel" "tapeSize" "I") (List.mem_of_getElem? (i := 2) rfl)) (fun _ h9 => h9) rfl dX10_feed_83 ?_
  refine lv_iload hx hb dX10_feed_86 (lv_at hl 1 rfl) ?_
  refine lv_iadd hx hb dX10_feed_88 ?_
  refine lv_iload hx hb dX10_feed_89 (lv_at hl 0 rfl) ?_
  refine lv_bipush (v := 24) hx hb dX10_feed_91 (by decide) ?_
  refine lv_bipush (v := 8) hx hb dX10_feed_93 (by decide) ?_
  refine lv_iload hx hb dX10_feed_95 (lv_at hl 1 rfl) ?_
  refine lv_iconst (v := 4) hx hb dX10_feed_97 (by decide) ?_
  refine lv_irem hx hb dX10_feed_98 (by decide) ?_
  refine q1_top (v := 0) (by decide) ?_
  refine lv_imul hx hb dX10_feed_99 ?_
  refine q1_top (v := 0) (by decide) ?_
  refine lv_isub hx hb dX10_feed_100 ?_
  refine q1_top (v := 24) (by decide) ?_
  refine lv_ishr hx hb dX10_feed_101 ?_
  refine lv_sipush (v := 255) hx hb dX10_feed_102 (by decide) ?_
  refine lv_iand hx hb dX10_feed_105 ?_
  refine q1_iast (c := c) (K := (x5 + (4 : Int32)).toNatClampNeg) (F := upd (upd (upd (upd (upd (f0) ((x5 + (0 : Int32)).toNatClampNeg) ((x0 >>> ((24 : Int32) &&& 31)) &&& (255 : Int32))) ((x5 + (1 : Int32)).toNatClampNeg) ((x0 >>> ((16 : Int32) &&& 31)) &&& (255 : Int32))) ((x5 + (2 : Int32)).toNatClampNeg) ((x0 >>> ((8 : Int32) &&& 31)) &&& (255 : Int32))) ((x5 + (3 : Int32)).toNatClampNeg) ((x0 >>> ((0 : Int32) &&& 31)) &&& (255 : Int32))) ((x5 + (4 : Int32)).toNatClampNeg) ((x1 >>> ((24 : Int32) &&& 31)) &&& (255 : Int32))) hx hb hK hP hD hS 1 rfl rfl g9 g10 rfl dX10_feed_106 (fun H locs hP hD hS => ?_)
  have hP : va_P D vwCl [(a0, .inr (10, [.ref a1, .int x5, .int 0, .int x7, .int x8, .int x9, .ref a2, .ref a3, .ref a4, .ref a5, .ref a6, .ref a7, .int x10, .ref a8, .ref a9, .ref a10, .ref a11, .ref a12, .int x11, .ref a13, .int x12, .ref a14, .int x13, .ref a15, .int x14, .ref a16, .int x15, .int x16, .ref a17, .ref a18, .int x17, .int x18, .int x19, .int x20, .int x21, .ref a19, .ref a20, .ref a21, .ref a22, .ref a23, .int x22, .ref a24, .ref a25, .ref a26, .ref a27, .int x23, .ref a28, .int x24, .ref a29, .int x25, .ref a30, .ref a31, .int x26, .int x27, .int x28, .ref a32, .ref a33, .ref a34, .ref a35, .ref a36, .ref a37, .ref a38, .int x29, .int x30, .int x31, .ref a39])), (a1, .inl (c 0, 800, .inl (upd (upd (upd (upd (upd (f0) ((x5 + (0 : Int32)).toNatClampNeg) ((x0 >>> ((24 : Int32) &&& 31)) &&& (255 : Int32))) ((x5 + (1 : Int32)).toNatClampNeg) ((x0 >>> ((16 : Int32) &&& 31)) &&& (255 : Int32))) ((x5 + (2 : Int32)).toNatClampNeg) ((x0 >>> ((8 : Int32) &&& 31)) &&& (255 : Int32))) ((x5 + (3 : Int32)).toNatClampNeg) ((x0 >>> ((0 : Int32) &&& 31)) &&& (255 : Int32))) ((x5 + (4 : Int32)).toNatClampNeg) ((x1 >>> ((24 : Int32) &&& 31)) &&& (255 : Int32)))))] H := hP
  have hD : va_D A [(a0, .inr (10, [.ref a1, .int x5, .int 0, .int x7, .int x8, .int x9, .ref a2, .ref a3, .ref a4, .ref a5, .ref a6, .ref a7, .int x10, .ref a8, .ref a9, .ref a10, .ref a11, .ref a12, .int x11, .ref a13, .int x12, .ref a14, .int x13, .ref a15, .int x14, .ref a16, .int x15, .int x16, .ref a17, .ref a18, .int x17, .int x18, .int x19, .int x20, .int x21, .ref a19, .ref a20, .ref a21, .ref a22, .ref a23, .int x22, .ref a24, .ref a25, .ref a26, .ref a27, .int x23, .ref a28, .int x24, .ref a29, .int x25, .ref a30, .ref a31, .int x26, .int x27, .int x28, .ref a32, .ref a33, .ref a34, .ref a35, .ref a36, .ref a37, .ref a38, .int x29, .int x30, .int x31, .ref a39])), (a1, .inl (c 0, 800, .inl (upd (upd (upd (upd (upd (f0) ((x5 + (0 : Int32)).toNatClampNeg) ((x0 >>> ((24 : Int32) &&& 31)) &&& (255 : Int32))) ((x5 + (1 : Int32)).toNatClampNeg) ((x0 >>> ((16 : Int32) &&& 31)) &&& (255 : Int32))) ((x5 + (2 : Int32)).toNatClampNeg) ((x0 >>> ((8 : Int32) &&& 31)) &&& (255 : Int32))) ((x5 + (3 : Int32)).toNatClampNeg) ((x0 >>> ((0 : Int32) &&& 31)) &&& (255 : Int32))) ((x5 + (4 : Int32)).toNatClampNeg) ((x1 >>> ((24 : Int32) &&& 31)) &&& (255 : Int32)))))] := hD
  refine lv_iinc (v := 5) (lv' := [(6, .int 5), (7, .int x1), (0, .ref a0), (1, .int x0), (2, .int x1), (3, .int x2), (4, .int x3), (5, .int x4)]) hx hb dX10_feed_107 hl (k := 1) rfl (by decide) (by decide) rfl (fun ls hl => ?_)
  refine lv_goto (tgt := 23) hx hb dX10_feed_110 (by decide) ?_
  refine lv_iload hx hb dX10_feed_23 (lv_at hl 0 rfl) ?_
  refine lv_bipush (v := 20) hx hb dX10_feed_25 (by decide) ?_
  refine lv_icmp_ge (tgt := 113) hx hb dX10_feed_27 (by decide) (fun h9 => absurd h9 (by decide)) (fun _ => ?_)
  refine lv_iload hx hb dX10_feed_30 (lv_at hl 0 rfl) ?_
  refine lv_iconst (v := 4) hx hb dX10_feed_32 (by decide) ?_
  refine lv_icmp_ge (tgt := 40) hx hb dX10_feed_33 (by decide) (fun _ => ?_) (fun h9 => absurd (by decide) h9)
  refine lv_iload hx hb dX10_feed_40 (lv_at hl 0 rfl) ?_
  refine lv_bipush (v := 8) hx hb dX10_feed_42 (by decide) ?_
  refine lv_icmp_ge (tgt := 51) hx hb dX10_feed_44 (by decide) (fun h9 => absurd h9 (by decide)) (fun _ => ?_)
  refine lv_iload_n hx hb dX10_feed_47 rfl (lv_at hl 4 rfl) ?_
  refine lv_goto (tgt := 76) hx hb dX10_feed_48 (by decide) ?_
  refine lv_istore (lv' := [(7, .int x1), (6, .int 5), (0, .ref a0), (1, .int x0), (2, .int x1), (3, .int x2), (4, .int x3), (5, .int x4)]) hx hb dX10_feed_76 hl (by decide) rfl (fun ls hl => ?_)
  refine lv_aload_n hx hb dX10_feed_78 rfl (lv_at hl 2 rfl) ?_
  refine va_get (D := D) (ci := 10) (v := .ref a1) (C := RX10) (T := TX10) (N := 66) hx hb hts iX10 hown hK hP 0 rfl rfl 0 (by decide) (hts (.fieldLink RX10 7 "ShortTellerModel" "tape" "[I") (List.mem_of_getElem? (i := 3) rfl)) (fun _ h9 => h9) rfl dX10_feed_79 ?_
  refine lv_aload_n hx hb dX10_feed_82 rfl (lv_at hl 2 rfl) ?_
  refine va_get (D := D) (ci := 10) (v := .int x5) (C := RX10) (T := TX10) (N := 66) hx hb hts iX10 hown hK hP 0 rfl rfl 1 (by decide) (hts (.fieldLink RX10 138 "ShortTellerModel" "tapeSize" "I") (List.mem_of_getElem? (i := 2) rfl)) (fun _ h9 => h9) rfl dX10_feed_83 ?_
  refine lv_iload hx hb dX10_feed_86 (lv_at hl 1 rfl) ?_
  refine lv_iadd hx hb dX10_feed_88 ?_
  refine lv_iload hx hb dX10_feed_89 (lv_at hl 0 rfl) ?_
  refine lv_bipush (v := 24) hx hb dX10_feed_91 (by decide) ?_
  refine lv_bipush (v := 8) hx hb dX10_feed_93 (by decide) ?_
  refine lv_iload hx hb dX10_feed_95 (lv_at hl 1 rfl) ?_
  refine lv_iconst (v := 4) hx hb dX10_feed_97 (by decide) ?_
  refine lv_irem hx hb dX10_feed_98 (by decide) ?_
  refine q1_top (v := 1) (by decide) ?_
  refine lv_imul hx hb dX10_feed_99 ?_
  refine q1_top (v := 8) (by decide) ?_
  refine lv_isub hx hb dX10_feed_100 ?_
  refine q1_top (v := 16) (by decide) ?_
  refine lv_ishr hx hb dX10_feed_101 ?_
  refine lv_sipush (v := 255) hx hb dX10_feed_102 (by decide) ?_
  refine lv_iand hx hb dX10_feed_105 ?_
  refine q1_iast (c := c) (K := (x5 + (5 : Int32)).toNatClampNeg) (F := upd (upd (upd (upd (upd (upd (f0) ((x5 + (0 : Int32)).toNatClampNeg) ((x0 >>> ((24 : Int32) &&& 31)) &&& (255 : Int32))) ((x5 + (1 : Int32)).toNatClampNeg) ((x0 >>> ((16 : Int32) &&& 31)) &&& (255 : Int32))) ((x5 + (2 : Int32)).toNatClampNeg) ((x0 >>> ((8 : Int32) &&& 31)) &&& (255 : Int32))) ((x5 + (3 : Int32)).toNatClampNeg) ((x0 >>> ((0 : Int32) &&& 31)) &&& (255 : Int32))) ((x5 + (4 : Int32)).toNatClampNeg) ((x1 >>> ((24 : Int32) &&& 31)) &&& (255 : Int32))) ((x5 + (5 : Int32)).toNatClampNeg) ((x1 >>> ((16 : Int32) &&& 31)) &&& (255 : Int32))) hx hb hK hP hD hS 1 rfl rfl g11 g12 rfl dX10_feed_106 (fun H locs hP hD hS => ?_)
  have hP : va_P D vwCl [(a0, .inr (10, [.ref a1, .int x5, .int 0, .int x7, .int x8, .int x9, .ref a2, .ref a3, .ref a4, .ref a5, .ref a6, .ref a7, .int x10, .ref a8, .ref a9, .ref a10, .ref a11, .ref a12, .int x11, .ref a13, .int x12, .ref a14, .int x13, .ref a15, .int x14, .ref a16, .int x15, .int x16, .ref a17, .ref a18, .int x17, .int x18, .int x19, .int x20, .int x21, .ref a19, .ref a20, .ref a21, .ref a22, .ref a23, .int x22, .ref a24, .ref a25, .ref a26, .ref a27, .int x23, .ref a28, .int x24, .ref a29, .int x25, .ref a30, .ref a31, .int x26, .int x27, .int x28, .ref a32, .ref a33, .ref a34, .ref a35, .ref a36, .ref a37, .ref a38, .int x29, .int x30, .int x31, .ref a39])), (a1, .inl (c 0, 800, .inl (upd (upd (upd (upd (upd (upd (f0) ((x5 + (0 : Int32)).toNatClampNeg) ((x0 >>> ((24 : Int32) &&& 31)) &&& (255 : Int32))) ((x5 + (1 : Int32)).toNatClampNeg) ((x0 >>> ((16 : Int32) &&& 31)) &&& (255 : Int32))) ((x5 + (2 : Int32)).toNatClampNeg) ((x0 >>> ((8 : Int32) &&& 31)) &&& (255 : Int32))) ((x5 + (3 : Int32)).toNatClampNeg) ((x0 >>> ((0 : Int32) &&& 31)) &&& (255 : Int32))) ((x5 + (4 : Int32)).toNatClampNeg) ((x1 >>> ((24 : Int32) &&& 31)) &&& (255 : Int32))) ((x5 + (5 : Int32)).toNatClampNeg) ((x1 >>> ((16 : Int32) &&& 31)) &&& (255 : Int32)))))] H := hP
  have hD : va_D A [(a0, .inr (10, [.ref a1, .int x5, .int 0, .int x7, .int x8, .int x9, .ref a2, .ref a3, .ref a4, .ref a5, .ref a6, .ref a7, .int x10, .ref a8, .ref a9, .ref a10, .ref a11, .ref a12, .int x11, .ref a13, .int x12, .ref a14, .int x13, .ref a15, .int x14, .ref a16, .int x15, .int x16, .ref a17, .ref a18, .int x17, .int x18, .int x19, .int x20, .int x21, .ref a19, .ref a20, .ref a21, .ref a22, .ref a23, .int x22, .ref a24, .ref a25, .ref a26, .ref a27, .int x23, .ref a28, .int x24, .ref a29, .int x25, .ref a30, .ref a31, .int x26, .int x27, .int x28, .ref a32, .ref a33, .ref a34, .ref a35, .ref a36, .ref a37, .ref a38, .int x29, .int x30, .int x31, .ref a39])), (a1, .inl (c 0, 800, .inl (upd (upd (upd (upd (upd (upd (f0) ((x5 + (0 : Int32)).toNatClampNeg) ((x0 >>> ((24 : Int32) &&& 31)) &&& (255 : Int32))) ((x5 + (1 : Int32)).toNatClampNeg) ((x0 >>> ((16 : Int32) &&& 31)) &&& (255 : Int32))) ((x5 + (2 : Int32)).toNatClampNeg) ((x0 >>> ((8 : Int32) &&& 31)) &&& (255 : Int32))) ((x5 + (3 : Int32)).toNatClampNeg) ((x0 >>> ((0 : Int32) &&& 31)) &&& (255 : Int32))) ((x5 + (4 : Int32)).toNatClampNeg) ((x1 >>> ((24 : Int32) &&& 31)) &&& (255 : Int32))) ((x5 + (5 : Int32)).toNatClampNeg) ((x1 >>> ((16 : Int32) &&& 31)) &&& (255 : Int32)))))] := hD
  refine lv_iinc (v := 6) (lv' := [(6, .int 6), (7, .int x1), (0, .ref a0), (1, .int x0), (2, .int x1), (3, .int x2), (4, .int x3), (5, .int x4)]) hx hb dX10_feed_107 hl (k := 1) rfl (by decide) (by decide) rfl (fun ls hl => ?_)
  refine lv_goto (tgt := 23) hx hb dX10_feed_110 (by decide) ?_
  refine lv_iload hx hb dX10_feed_23 (lv_at hl 0 rfl) ?_
  refine lv_bipush (v := 20) hx hb dX10_feed_25 (by decide) ?_
  refine lv_icmp_ge (tgt := 113) hx hb dX10_feed_27 (by decide) (fun h9 => absurd h9 (by decide)) (fun _ => ?_)
  refine lv_iload hx hb dX10_feed_30 (lv_at hl 0 rfl) ?_
  refine lv_iconst (v := 4) hx hb dX10_feed_32 (by decide) ?_
  refine lv_icmp_ge (tgt := 40) hx hb dX10_feed_33 (by decide) (fun _ => ?_) (fun h9 => absurd (by decide) h9)
  refine lv_iload hx hb dX10_feed_40 (lv_at hl 0 rfl) ?_
  refine lv_bipush (v := 8) hx hb dX10_feed_42 (by decide) ?_
  refine lv_icmp_ge (tgt := 51) hx hb dX10_feed_44 (by decide) (fun h9 => absurd h9 (by decide)) (fun _ => ?_)
  refine lv_iload_n hx hb dX10_feed_47 rfl (lv_at hl 4 rfl) ?_
  refine lv_goto (tgt := 76) hx hb dX10_feed_48 (by decide) ?_
  refine lv_istore (lv' := [(7, .int x1), (6, .int 6), (0, .ref a0), (1, .int x0), (2, .int x1), (3, .int x2), (4, .int x3), (5, .int x4)]) hx hb dX10_feed_76 hl (by decide) rfl (fun ls hl => ?_)
  refine lv_aload_n hx hb dX10_feed_78 rfl (lv_at hl 2 rfl) ?_
  refine va_get (D := D) (ci := 10) (v := .ref a1) (C := RX10) (T := TX10) (N := 66) hx hb hts iX10 hown hK hP 0 rfl rfl 0 (by decide) (hts (.fieldLink RX10 7 "ShortTellerModel" "tape" "[I") (List.mem_of_getElem? (i := 3) rfl)) (fun _ h9 => h9) rfl dX10_feed_79 ?_
  refine lv_aload_n hx hb dX10_feed_82 rfl (lv_at hl 2 rfl) ?_
  refine va_get (D := D) (ci := 10) (v := .int x5) (C := RX10) (T := TX10) (N := 66) hx hb hts iX10 hown hK hP 0 rfl rfl 1 (by decide) (hts (.fieldLink RX10 138 "ShortTellerModel" "tapeSize" "I") (List.mem_of_getElem? (i := 2) rfl)) (fun _ h9 => h9) rfl dX10_feed_83 ?_
  refine lv_iload hx hb dX10_feed_86 (lv_at hl 1 rfl) ?_
  refine lv_iadd hx hb dX10_feed_88 ?_
  refine lv_iload hx hb dX10_feed_89 (lv_at hl 0 rfl) ?_
  refine lv_bipush (v := 24) hx hb dX10_feed_91 (by decide) ?_
  refine lv_bipush (v := 8) hx hb dX10_feed_93 (by decide) ?_
  refine lv_iload hx hb dX10_feed_95 (lv_at hl 1 rfl) ?_
  refine lv_iconst (v := 4) hx hb dX10_feed_97 (by decide) ?_
  refine lv_irem hx hb dX10_feed_98 (by decide) ?_
  refine q1_top (v := 2) (by decide) ?_
  refine lv_imul hx hb dX10_feed_99 ?_
  refine q1_top (v := 16) (by decide) ?_
  refine lv_isub hx hb dX10_feed_100 ?_
  refine q1_top (v := 8) (by decide) ?_
  refine lv_ishr hx hb dX10_feed_101 ?_
  refine lv_sipush (v := 255) hx hb dX10_feed_102 (by decide) ?_
  refine lv_iand hx hb dX10_feed_105 ?_
  refine q1_iast (c := c) (K := (x5 + (6 : Int32)).toNatClampNeg) (F := upd (upd (upd (upd (upd (upd (upd (f0) ((x5 + (0 : Int32)).toNatClampNeg) ((x0 >>> ((24 : Int32) &&& 31)) &&& (255 : Int32))) ((x5 + (1 : Int32)).toNatClampNeg) ((x0 >>> ((16 : Int32) &&& 31)) &&& (255 : Int32))) ((x5 + (2 : Int32)).toNatClampNeg) ((x0 >>> ((8 : Int32) &&& 31)) &&& (255 : Int32))) ((x5 + (3 : Int32)).toNatClampNeg) ((x0 >>> ((0 : Int32) &&& 31)) &&& (255 : Int32))) ((x5 + (4 : Int32)).toNatClampNeg) ((x1 >>> ((24 : Int32) &&& 31)) &&& (255 : Int32))) ((x5 + (5 : Int32)).toNatClampNeg) ((x1 >>> ((16 : Int32) &&& 31)) &&& (255 : Int32))) ((x5 + (6 : Int32)).toNatClampNeg) ((x1 >>> ((8 : Int32) &&& 31)) &&& (255 : Int32))) hx hb hK hP hD hS 1 rfl rfl g13 g14 rfl dX10_feed_106 (fun H locs hP hD hS => ?_)
  have hP : va_P D vwCl [(a0, .inr (10, [.ref a1, .int x5, .int 0, .int x7, .int x8, .int x9, .ref a2, .ref a3, .ref a4, .ref a5, .ref a6, .ref a7, .int x10, .ref a8, .ref a9, .ref a10, .ref a11, .ref a12, .int x11, .ref a13, .int x12, .ref a14, .int x13, .ref a15, .int x14, .ref a16, .int x15, .int x16, .ref a17, .ref a18, .int x17, .int x18, .int x19, .int x20, .int x21, .ref a19, .ref a20, .ref a21, .ref a22, .ref a23, .int x22, .ref a24, .ref a25, .ref a26, .ref a27, .int x23, .ref a28, .int x24, .ref a29, .int x25, .ref a30, .ref a31, .int x26, .int x27, .int x28, .ref a32, .ref a33, .ref a34, .ref a35, .ref a36, .ref a37, .ref a38, .int x29, .int x30, .int x31, .ref a39])), (a1, .inl (c 0, 800, .inl (upd (upd (upd (upd (upd (upd (upd (f0) ((x5 + (0 : Int32)).toNatClampNeg) ((x0 >>> ((24 : Int32) &&& 31)) &&& (255 : Int32))) ((x5 + (1 : Int32)).toNatClampNeg) ((x0 >>> ((16 : Int32) &&& 31)) &&& (255 : Int32))) ((x5 + (2 : Int32)).toNatClampNeg) ((x0 >>> ((8 : Int32) &&& 31)) &&& (255 : Int32))) ((x5 + (3 : Int32)).toNatClampNeg) ((x0 >>> ((0 : Int32) &&& 31)) &&& (255 : Int32))) ((x5 + (4 : Int32)).toNatClampNeg) ((x1 >>> ((24 : Int32) &&& 31)) &&& (255 : Int32))) ((x5 + (5 : Int32)).toNatClampNeg) ((x1 >>> ((16 : Int32) &&& 31)) &&& (255 : Int32))) ((x5 + (6 : Int32)).toNatClampNeg) ((x1 >>> ((8 : Int32) &&& 31)) &&& (255 : Int32)))))] H := hP
  have hD : va_D A [(a0, .inr (10, [.ref a1, .int x5, .int 0, .int x7, .int x8, .int x9, .ref a2, .ref a3, .ref a4, .ref a5, .ref a6, .ref a7, .int x10, .ref a8, .ref a9, .ref a10, .ref a11, .ref a12, .int x11, .ref a13, .int x12, .ref a14, .int x13, .ref a15, .int x14, .ref a16, .int x15, .int x16, .ref a17, .ref a18, .int x17, .int x18, .int x19, .int x20, .int x21, .ref a19, .ref a20, .ref a21, .ref a22, .ref a23, .int x22, .ref a24, .ref a25, .ref a26, .ref a27, .int x23, .ref a28, .int x24, .ref a29, .int x25, .ref a30, .ref a31, .int x26, .int x27, .int x28, .ref a32, .ref a33, .ref a34, .ref a35, .ref a36, .ref a37, .ref a38, .int x29, .int x30, .int x31, .ref a39])), (a1, .inl (c 0, 800, .inl (upd (upd (upd (upd (upd (upd (upd (f0) ((x5 + (0 : Int32)).toNatClampNeg) ((x0 >>> ((24 : Int32) &&& 31)) &&& (255 : Int32))) ((x5 + (1 : Int32)).toNatClampNeg) ((x0 >>> ((16 : Int32) &&& 31)) &&& (255 : Int32))) ((x5 + (2 : Int32)).toNatClampNeg) ((x0 >>> ((8 : Int32) &&& 31)) &&& (255 : Int32))) ((x5 + (3 : Int32)).toNatClampNeg) ((x0 >>> ((0 : Int32) &&& 31)) &&& (255 : Int32))) ((x5 + (4 : Int32)).toNatClampNeg) ((x1 >>> ((24 : Int32) &&& 31)) &&& (255 : Int32))) ((x5 + (5 : Int32)).toNatClampNeg) ((x1 >>> ((16 : Int32) &&& 31)) &&& (255 : Int32))) ((x5 + (6 : Int32)).toNatClampNeg) ((x1 >>> ((8 : Int32) &&& 31)) &&& (255 : Int32)))))] := hD
  refine lv_iinc (v := 7) (lv' := [(6, .int 7), (7, .int x1), (0, .ref a0), (1, .int x0), (2, .int x1), (3, .int x2), (4, .int x3), (5, .int x4)]) hx hb dX10_feed_107 hl (k := 1) rfl (by decide) (by decide) rfl (fun ls hl => ?_)
  refine lv_goto (tgt := 23) hx hb dX10_feed_110 (by decide) ?_
  refine lv_iload hx hb dX10_feed_23 (lv_at hl 0 rfl) ?_
  refine lv_bipush (v := 20) hx hb dX10_feed_25 (by decide) ?_
  refine lv_icmp_ge (tgt := 113) hx hb dX10_feed_27 (by decide) (fun h9 => absurd h9 (by decide)) (fun _ => ?_)
  refine lv_iload hx hb dX10_feed_30 (lv_at hl 0 rfl) ?_
  refine lv_iconst (v := 4) hx hb dX10_feed_32 (by decide) ?_
  refine lv_icmp_ge (tgt := 40) hx hb dX10_feed_33 (by decide) (fun _ => ?_) (fun h9 => absurd (by decide) h9)
  refine lv_iload hx hb dX10_feed_40 (lv_at hl 0 rfl) ?_
  refine lv_bipush (v := 8) hx hb dX10_feed_42 (by decide) ?_
  refine lv_icmp_ge (tgt := 51) hx hb dX10_feed_44 (by decide) (fun h9 => absurd h9 (by decide)) (fun _ => ?_)
  refine lv_iload_n hx hb dX10_feed_47 rfl (lv_at hl 4 rfl) ?_
  refine lv_goto (tgt := 76) hx hb dX10_feed_48 (by decide) ?_
  refine lv_istore (lv' := [(7, .int x1), (6, .int 7), (0, .ref a0), (1, .int x0), (2, .int x1), (3, .int x2), (4, .int x3), (5, .int x4)]) hx hb dX10_feed_76 hl (by decide) rfl (fun ls hl => ?_)
  refine lv_aload_n hx hb dX10_feed_78 rfl (lv_at hl 2 rfl) ?_
  refine va_get (D := D) (ci := 10) (v := .ref a1) (C := RX10) (T := TX10) (N := 66) hx hb hts iX10 hown hK hP 0 rfl rfl 0 (by decide) (hts (.fieldLink RX10 7 "ShortTellerModel" "tape" "[I") (List.mem_of_getElem? (i := 3) rfl)) (fun _ h9 => h9) rfl dX10_feed_79 ?_
  refine lv_aload_n hx hb dX10_feed_82 rfl (lv_at hl 2 rfl) ?_
  refine va_get (D := D) (ci := 10) (v := .int x5) (C := RX10) (T := TX10) (N := 66) hx hb hts iX10 hown hK hP 0 rfl rfl 1 (by decide) (hts (.fieldLink RX10 138 "ShortTellerModel" "tapeSize" "I") (List.mem_of_getElem? (i := 2) rfl)) (fun _ h9 => h9) rfl dX10_feed_83 ?_
  refine lv_iload hx hb dX10_feed_86 (lv_at hl 1 rfl) ?_
  refine lv_iadd hx hb dX10_feed_88 ?_
  refine lv_iload hx hb dX10_feed_89 (lv_at hl 0 rfl) ?_
  refine lv_bipush (v := 24) hx hb dX10_feed_91 (by decide) ?_
  refine lv_bipush (v := 8) hx hb dX10_feed_93 (by decide) ?_
  refine lv_iload hx hb dX10_feed_95 (lv_at hl 1 rfl) ?_
  refine lv_iconst (v := 4) hx hb dX10_feed_97 (by decide) ?_
  refine lv_irem hx hb dX10_feed_98 (by decide) ?_
  refine q1_top (v := 3) (by decide) ?_
  refine lv_imul hx hb dX10_feed_99 ?_
  refine q1_top (v := 24) (by decide) ?_
  refine lv_isub hx hb dX10_feed_100 ?_
  refine q1_top (v := 0) (by decide) ?_
  refine lv_ishr hx hb dX10_feed_101 ?_
  refine lv_sipush (v := 255) hx hb dX10_feed_102 (by decide) ?_
  refine lv_iand hx hb dX10_feed_105 ?_
  refine q1_iast (c := c) (K := (x5 + (7 : Int32)).toNatClampNeg) (F := upd (upd (upd (upd (upd (upd (upd (upd (f0) ((x5 + (0 : Int32)).toNatClampNeg) ((x0 >>> ((24 : Int32) &&& 31)) &&& (255 : Int32))) ((x5 + (1 : Int32)).toNatClampNeg) ((x0 >>> ((16 : Int32) &&& 31)) &&& (255 : Int32))) ((x5 + (2 : Int32)).toNatClampNeg) ((x0 >>> ((8 : Int32) &&& 31)) &&& (255 : Int32))) ((x5 + (3 : Int32)).toNatClampNeg) ((x0 >>> ((0 : Int32) &&& 31)) &&& (255 : Int32))) ((x5 + (4 : Int32)).toNatClampNeg) ((x1 >>> ((24 : Int32) &&& 31)) &&& (255 : Int32))) ((x5 + (5 : Int32)).toNatClampNeg) ((x1 >>> ((16 : Int32) &&& 31)) &&& (255 : Int32))) ((x5 + (6 : Int32)).toNatClampNeg) ((x1 >>> ((8 : Int32) &&& 31)) &&& (255 : Int32))) ((x5 + (7 : Int32)).toNatClampNeg) ((x1 >>> ((0 : Int32) &&& 31)) &&& (255 : Int32))) hx hb hK hP hD hS 1 rfl rfl g15 g16 rfl dX10_feed_106 (fun H locs hP hD hS => ?_)
  have hP : va_P D vwCl [(a0, .inr (10, [.ref a1, .int x5, .int 0, .int x7, .int x8, .int x9, .ref a2, .ref a3, .ref a4, .ref a5, .ref a6, .ref a7, .int x10, .ref a8, .ref a9, .ref a10, .ref a11, .ref a12, .int x11, .ref a13, .int x12, .ref a14, .int x13, .ref a15, .int x14, .ref a16, .int x15, .int x16, .ref a17, .ref a18, .int x17, .int x18, .int x19, .int x20, .int x21, .ref a19, .ref a20, .ref a21, .ref a22, .ref a23, .int x22, .ref a24, .ref a25, .ref a26, .ref a27, .int x23, .ref a28, .int x24, .ref a29, .int x25, .ref a30, .ref a31, .int x26, .int x27, .int x28, .ref a32, .ref a33, .ref a34, .ref a35, .ref a36, .ref a37, .ref a38, .int x29, .int x30, .int x31, .ref a39])), (a1, .inl (c 0, 800, .inl (upd (upd (upd (upd (upd (upd (upd (upd (f0) ((x5 + (0 : Int32)).toNatClampNeg) ((x0 >>> ((24 : Int32) &&& 31)) &&& (255 : Int32))) ((x5 + (1 : Int32)).toNatClampNeg) ((x0 >>> ((16 : Int32) &&& 31)) &&& (255 : Int32))) ((x5 + (2 : Int32)).toNatClampNeg) ((x0 >>> ((8 : Int32) &&& 31)) &&& (255 : Int32))) ((x5 + (3 : Int32)).toNatClampNeg) ((x0 >>> ((0 : Int32) &&& 31)) &&& (255 : Int32))) ((x5 + (4 : Int32)).toNatClampNeg) ((x1 >>> ((24 : Int32) &&& 31)) &&& (255 : Int32))) ((x5 + (5 : Int32)).toNatClampNeg) ((x1 >>> ((16 : Int32) &&& 31)) &&& (255 : Int32))) ((x5 + (6 : Int32)).toNatClampNeg) ((x1 >>> ((8 : Int32) &&& 31)) &&& (255 : Int32))) ((x5 + (7 : Int32)).toNatClampNeg) ((x1 >>> ((0 : Int32) &&& 31)) &&& (255 : Int32)))))] H := hP
  have hD : va_D A [(a0, .inr (10, [.ref a1, .int x5, .int 0, .int x7, .int x8, .int x9, .ref a2, .ref a3, .ref a4, .ref a5, .ref a6, .ref a7, .int x10, .ref a8, .ref a9, .ref a10, .ref a11, .ref a12, .int x11, .ref a13, .int x12, .ref a14, .int x13, .ref a15, .int x14, .ref a16, .int x15, .int x16, .ref a17, .ref a18, .int x17, .int x18, .int x19, .int x20, .int x21, .ref a19, .ref a20, .ref a21, .ref a22, .ref a23, .int x22, .ref a24, .ref a25, .ref a26, .ref a27, .int x23, .ref a28, .int x24, .ref a29, .int x25, .ref a30, .ref a31, .int x26, .int x27, .int x28, .ref a32, .ref a33, .ref a34, .ref a35, .ref a36, .ref a37, .ref a38, .int x29, .int x30, .int x31, .ref a39])), (a1, .inl (c 0, 800, .inl (upd (upd (upd (upd (upd (upd (upd (upd (f0) ((x5 + (0 : Int32)).toNatClampNeg) ((x0 >>> ((24 : Int32) &&& 31)) &&& (255 : Int32))) ((x5 + (1 : Int32)).toNatClampNeg) ((x0 >>> ((16 : Int32) &&& 31)) &&& (255 : Int32))) ((x5 + (2 : Int32)).toNatClampNeg) ((x0 >>> ((8 : Int32) &&& 31)) &&& (255 : Int32))) ((x5 + (3 : Int32)).toNatClampNeg) ((x0 >>> ((0 : Int32) &&& 31)) &&& (255 : Int32))) ((x5 + (4 : Int32)).toNatClampNeg) ((x1 >>> ((24 : Int32) &&& 31)) &&& (255 : Int32))) ((x5 + (5 : Int32)).toNatClampNeg) ((x1 >>> ((16 : Int32) &&& 31)) &&& (255 : Int32))) ((x5 + (6 : Int32)).toNatClampNeg) ((x1 >>> ((8 : Int32) &&& 31)) &&& (255 : Int32))) ((x5 + (7 : Int32)).toNatClampNeg) ((x1 >>> ((0 : Int32) &&& 31)) &&& (255 : Int32)))))] := hD
  refine lv_iinc (v := 8) (lv' := [(6, .int 8), (7, .int x1), (0, .ref a0), (1, .int x0), (2, .int x1), (3, .int x2), (4, .int x3), (5, .int x4)]) hx hb dX10_feed_107 hl (k := 1) rfl (by decide) (by decide) rfl (fun ls hl => ?_)
  refine lv_goto (tgt := 23) hx hb dX10_feed_110 (by decide) ?_
  refine lv_iload hx hb dX10_feed_23 (lv_at hl 0 rfl) ?_
  refine lv_bipush (v := 20) hx hb dX10_feed_25 (by decide) ?_
  refine lv_icmp_ge (tgt := 113) hx hb dX10_feed_27 (by decide) (fun h9 => absurd h9 (by decide)) (fun _ => ?_)
  refine lv_iload hx hb dX10_feed_30 (lv_at hl 0 rfl) ?_
  refine lv_iconst (v := 4) hx hb dX10_feed_32 (by decide) ?_
  refine lv_icmp_ge (tgt := 40) hx hb dX10_feed_33 (by decide) (fun _ => ?_) (fun h9 => absurd (by decide) h9)
  refine lv_iload hx hb dX10_feed_40 (lv_at hl 0 rfl) ?_
  refine lv_bipush (v := 8) hx hb dX10_feed_42 (by decide) ?_
  refine lv_icmp_ge (tgt := 51) hx hb dX10_feed_44 (by decide) (fun _ => ?_) (fun h9 => absurd (by decide) h9)
  refine lv_iload hx hb dX10_feed_51 (lv_at hl 0 rfl) ?_
  refine lv_bipush (v := 12) hx hb dX10_feed_53 (by decide) ?_
  refine lv_icmp_ge (tgt := 62) hx hb dX10_feed_55 (by decide) (fun h9 => absurd h9 (by decide)) (fun _ => ?_)
  refine lv_iload_n hx hb dX10_feed_58 rfl (lv_at hl 5 rfl) ?_
  refine lv_goto (tgt := 76) hx hb dX10_feed_59 (by decide) ?_
  refine lv_istore (lv' := [(7, .int x2), (6, .int 8), (0, .ref a0), (1, .int x0), (2, .int x1), (3, .int x2), (4, .int x3), (5, .int x4)]) hx hb dX10_feed_76 hl (by decide) rfl (fun ls hl => ?_)
  refine lv_aload_n hx hb dX10_feed_78 rfl (lv_at hl 2 rfl) ?_
  refine va_get (D := D) (ci := 10) (v := .ref a1) (C := RX10) (T := TX10) (N := 66) hx hb hts iX10 hown hK hP 0 rfl rfl 0 (by decide) (hts (.fieldLink RX10 7 "ShortTellerModel" "tape" "[I") (List.mem_of_getElem? (i := 3) rfl)) (fun _ h9 => h9) rfl dX10_feed_79 ?_
  refine lv_aload_n hx hb dX10_feed_82 rfl (lv_at hl 2 rfl) ?_
  refine va_get (D := D) (ci := 10) (v := .int x5) (C := RX10) (T := TX10) (N := 66) hx hb hts iX10 hown hK hP 0 rfl rfl 1 (by decide) (hts (.fieldLink RX10 138 "ShortTellerModel" "tapeSize" "I") (List.mem_of_getElem? (i := 2) rfl)) (fun _ h9 => h9) rfl dX10_feed_83 ?_
  refine lv_iload hx hb dX10_feed_86 (lv_at hl 1 rfl) ?_
  refine lv_iadd hx hb dX10_feed_88 ?_
  refine lv_iload hx hb dX10_feed_89 (lv_at hl 0 rfl) ?_
  refine lv_bipush (v := 24) hx hb dX10_feed_91 (by decide) ?_
  refine lv_bipush (v := 8) hx hb dX10_feed_93 (by decide) ?_
  refine lv_iload hx hb dX10_feed_95 (lv_at hl 1 rfl) ?_
  refine lv_iconst (v := 4) hx hb dX10_feed_97 (by decide) ?_
  refine lv_irem hx hb dX10_feed_98 (by decide) ?_
  refine q1_top (v := 0) (by decide) ?_
  refine lv_imul hx hb dX10_feed_99 ?_
  refine q1_top (v := 0) (by decide) ?_
  refine lv_isub hx hb dX10_feed_100 ?_
  refine q1_top (v := 24) (by decide) ?_
  refine lv_ishr hx hb dX10_feed_101 ?_
  refine lv_sipush (v := 255) hx hb dX10_feed_102 (by decide) ?_
  refine lv_iand hx hb dX10_feed_105 ?_
  refine q1_iast (c := c) (K := (x5 + (8 : Int32)).toNatClampNeg) (F := upd (upd (upd (upd (upd (upd (upd (upd (upd (f0) ((x5 + (0 : Int32)).toNatClampNeg) ((x0 >>> ((24 : Int32) &&& 31)) &&& (255 : Int32))) ((x5 + (1 : Int32)).toNatClampNeg) ((x0 >>> ((16 : Int32) &&& 31)) &&& (255 : Int32))) ((x5 + (2 : Int32)).toNatClampNeg) ((x0 >>> ((8 : Int32) &&& 31)) &&& (255 : Int32))) ((x5 + (3 : Int32)).toNatClampNeg) ((x0 >>> ((0 : Int32) &&& 31)) &&& (255 : Int32))) ((x5 + (4 : Int32)).toNatClampNeg) ((x1 >>> ((24 : Int32) &&& 31)) &&& (255 : Int32))) ((x5 + (5 : Int32)).toNatClampNeg) ((x1 >>> ((16 : Int32) &&& 31)) &&& (255 : Int32))) ((x5 + (6 : Int32)).toNatClampNeg) ((x1 >>> ((8 : Int32) &&& 31)) &&& (255 : Int32))) ((x5 + (7 : Int32)).toNatClampNeg) ((x1 >>> ((0 : Int32) &&& 31)) &&& (255 : Int32))) ((x5 + (8 : Int32)).toNatClampNeg) ((x2 >>> ((24 : Int32) &&& 31)) &&& (255 : Int32))) hx hb hK hP hD hS 1 rfl rfl g17 g18 rfl dX10_feed_106 (fun H locs hP hD hS => ?_)
  have hP : va_P D vwCl [(a0, .inr (10, [.ref a1, .int x5, .int 0, .int x7, .int x8, .int x9, .ref a2, .ref a3, .ref a4, .ref a5, .ref a6, .ref a7, .int x10, .ref a8, .ref a9, .ref a10, .ref a11, .ref a12, .int x11, .ref a13, .int x12, .ref a14, .int x13, .ref a15, .int x14, .ref a16, .int x15, .int x16, .ref a17, .ref a18, .int x17, .int x18, .int x19, .int x20, .int x21, .ref a19, .ref a20, .ref a21, .ref a22, .ref a23, .int x22, .ref a24, .ref a25, .ref a26, .ref a27, .int x23, .ref a28, .int x24, .ref a29, .int x25, .ref a30, .ref a31, .int x26, .int x27, .int x28, .ref a32, .ref a33, .ref a34, .ref a35, .ref a36, .ref a37, .ref a38, .int x29, .int x30, .int x31, .ref a39])), (a1, .inl (c 0, 800, .inl (upd (upd (upd (upd (upd (upd (upd (upd (upd (f0) ((x5 + (0 : Int32)).toNatClampNeg) ((x0 >>> ((24 : Int32) &&& 31)) &&& (255 : Int32))) ((x5 + (1 : Int32)).toNatClampNeg) ((x0 >>> ((16 : Int32) &&& 31)) &&& (255 : Int32))) ((x5 + (2 : Int32)).toNatClampNeg) ((x0 >>> ((8 : Int32) &&& 31)) &&& (255 : Int32))) ((x5 + (3 : Int32)).toNatClampNeg) ((x0 >>> ((0 : Int32) &&& 31)) &&& (255 : Int32))) ((x5 + (4 : Int32)).toNatClampNeg) ((x1 >>> ((24 : Int32) &&& 31)) &&& (255 : Int32))) ((x5 + (5 : Int32)).toNatClampNeg) ((x1 >>> ((16 : Int32) &&& 31)) &&& (255 : Int32))) ((x5 + (6 : Int32)).toNatClampNeg) ((x1 >>> ((8 : Int32) &&& 31)) &&& (255 : Int32))) ((x5 + (7 : Int32)).toNatClampNeg) ((x1 >>> ((0 : Int32) &&& 31)) &&& (255 : Int32))) ((x5 + (8 : Int32)).toNatClampNeg) ((x2 >>> ((24 : Int32) &&& 31)) &&& (255 : Int32)))))] H := hP
  have hD : va_D A [(a0, .inr (10, [.ref a1, .int x5, .int 0, .int x7, .int x8, .int x9, .ref a2, .ref a3, .ref a4, .ref a5, .ref a6, .ref a7, .int x10, .ref a8, .ref a9, .ref a10, .ref a11, .ref a12, .int x11, .ref a13, .int x12, .ref a14, .int x13, .ref a15, .int x14, .ref a16, .int x15, .int x16, .ref a17, .ref a18, .int x17, .int x18, .int x19, .int x20, .int x21, .ref a19, .ref a20, .ref a21, .ref a22, .ref a23, .int x22, .ref a24, .ref a25, .ref a26, .ref a27, .int x23, .ref a28, .int x24, .ref a29, .int x25, .ref a30, .ref a31, .int x26, .int x27, .int x28, .ref a32, .ref a33, .ref a34, .ref a35, .ref a36, .ref a37, .ref a38, .int x29, .int x30, .int x31, .ref a39])), (a1, .inl (c 0, 800, .inl (upd (upd (upd (upd (upd (upd (upd (upd (upd (f0) ((x5 + (0 : Int32)).toNatClampNeg) ((x0 >>> ((24 : Int32) &&& 31)) &&& (255 : Int32))) ((x5 + (1 : Int32)).toNatClampNeg) ((x0 >>> ((16 : Int32) &&& 31)) &&& (255 : Int32))) ((x5 + (2 : Int32)).toNatClampNeg) ((x0 >>> ((8 : Int32) &&& 31)) &&& (255 : Int32))) ((x5 + (3 : Int32)).toNatClampNeg) ((x0 >>> ((0 : Int32) &&& 31)) &&& (255 : Int32))) ((x5 + (4 : Int32)).toNatClampNeg) ((x1 >>> ((24 : Int32) &&& 31)) &&& (255 : Int32))) ((x5 + (5 : Int32)).toNatClampNeg) ((x1 >>> ((16 : Int32) &&& 31)) &&& (255 : Int32))) ((x5 + (6 : Int32)).toNatClampNeg) ((x1 >>> ((8 : Int32) &&& 31)) &&& (255 : Int32))) ((x5 + (7 : Int32)).toNatClampNeg) ((x1 >>> ((0 : Int32) &&& 31)) &&& (255 : Int32))) ((x5 + (8 : Int32)).toNatClampNeg) ((x2 >>> ((24 : Int32) &&& 31)) &&& (255 : Int32)))))] := hD
  refine lv_iinc (v := 9) (lv' := [(6, .int 9), (7, .int x2), (0, .ref a0), (1, .int x0), (2, .int x1), (3, .int x2), (4, .int x3), (5, .int x4)]) hx hb dX10_feed_107 hl (k := 1) rfl (by decide) (by decide) rfl (fun ls hl => ?_)
  refine lv_goto (tgt := 23) hx hb dX10_feed_110 (by decide) ?_
  refine lv_iload hx hb dX10_feed_23 (lv_at hl 0 rfl) ?_
  refine lv_bipush (v := 20) hx hb dX10_feed_25 (by decide) ?_
  refine lv_icmp_ge (tgt := 113) hx hb dX10_feed_27 (by decide) (fun h9 => absurd h9 (by decide)) (fun _ => ?_)
  refine lv_iload hx hb dX10_feed_30 (lv_at hl 0 rfl) ?_
  refine lv_iconst (v := 4) hx hb dX10_feed_32 (by decide) ?_
  refine lv_icmp_ge (tgt := 40) hx hb dX10_feed_33 (by decide) (fun _ => ?_) (fun h9 => absurd (by decide) h9)
  refine lv_iload hx hb dX10_feed_40 (lv_at hl 0 rfl) ?_
  refine lv_bipush (v := 8) hx hb dX10_feed_42 (by decide) ?_
  refine lv_icmp_ge (tgt := 51) hx hb dX10_feed_44 (by decide) (fun _ => ?_) (fun h9 => absurd (by decide) h9)
  refine lv_iload hx hb dX10_feed_51 (lv_at hl 0 rfl) ?_
  refine lv_bipush (v := 12) hx hb dX10_feed_53 (by decide) ?_
  refine lv_icmp_ge (tgt := 62) hx hb dX10_feed_55 (by decide) (fun h9 => absurd h9 (by decide)) (fun _ => ?_)
  refine lv_iload_n hx hb dX10_feed_58 rfl (lv_at hl 5 rfl) ?_
  refine lv_goto (tgt := 76) hx hb dX10_feed_59 (by decide) ?_
  refine lv_istore (lv' := [(7, .int x2), (6, .int 9), (0, .ref a0), (1, .int x0), (2, .int x1), (3, .int x2), (4, .int x3), (5, .int x4)]) hx hb dX10_feed_76 hl (by decide) rfl (fun ls hl => ?_)
  refine lv_aload_n hx hb dX10_feed_78 rfl (lv_at hl 2 rfl) ?_
  refine va_get (D := D) (ci := 10) (v := .ref a1) (C := RX10) (T := TX10) (N := 66) hx hb hts iX10 hown hK hP 0 rfl rfl 0 (by decide) (hts (.fieldLink RX10 7 "ShortTellerModel" "tape" "[I") (List.mem_of_getElem? (i := 3) rfl)) (fun _ h9 => h9) rfl dX10_feed_79 ?_
  refine lv_aload_n hx hb dX10_feed_82 rfl (lv_at hl 2 rfl) ?_
  refine va_get (D := D) (ci := 10) (v := .int x5) (C := RX10) (T := TX10) (N := 66) hx hb hts iX10 hown hK hP 0 rfl rfl 1 (by decide) (hts (.fieldLink RX10 138 "ShortTellerModel" "tapeSize" "I") (List.mem_of_getElem? (i := 2) rfl)) (fun _ h9 => h9) rfl dX10_feed_83 ?_
  refine lv_iload hx hb dX10_feed_86 (lv_at hl 1 rfl) ?_
  refine lv_iadd hx hb dX10_feed_88 ?_
  refine lv_iload hx hb dX10_feed_89 (lv_at hl 0 rfl) ?_
  refine lv_bipush (v := 24) hx hb dX10_feed_91 (by decide) ?_
  refine lv_bipush (v := 8) hx hb dX10_feed_93 (by decide) ?_
  refine lv_iload hx hb dX10_feed_95 (lv_at hl 1 rfl) ?_
  refine lv_iconst (v := 4) hx hb dX10_feed_97 (by decide) ?_
  refine lv_irem hx hb dX10_feed_98 (by decide) ?_
  refine q1_top (v := 1) (by decide) ?_
  refine lv_imul hx hb dX10_feed_99 ?_
  refine q1_top (v := 8) (by decide) ?_
  refine lv_isub hx hb dX10_feed_100 ?_
  refine q1_top (v := 16) (by decide) ?_
  refine lv_ishr hx hb dX10_feed_101 ?_
  refine lv_sipush (v := 255) hx hb dX10_feed_102 (by decide) ?_
  refine lv_iand hx hb dX10_feed_105 ?_
  refine q1_iast (c := c) (K := (x5 + (9 : Int32)).toNatClampNeg) (F := upd (upd (upd (upd (upd (upd (upd (upd (upd (upd (f0) ((x5 + (0 : Int32)).toNatClampNeg) ((x0 >>> ((24 : Int32) &&& 31)) &&& (255 : Int32))) ((x5 + (1 : Int32)).toNatClampNeg) ((x0 >>> ((16 : Int32) &&& 31)) &&& (255 : Int32))) ((x5 + (2 : Int32)).toNatClampNeg) ((x0 >>> ((8 : Int32) &&& 31)) &&& (255 : Int32))) ((x5 + (3 : Int32)).toNatClampNeg) ((x0 >>> ((0 : Int32) &&& 31)) &&& (255 : Int32))) ((x5 + (4 : Int32)).toNatClampNeg) ((x1 >>> ((24 : Int32) &&& 31)) &&& (255 : Int32))) ((x5 + (5 : Int32)).toNatClampNeg) ((x1 >>> ((16 : Int32) &&& 31)) &&& (255 : Int32))) ((x5 + (6 : Int32)).toNatClampNeg) ((x1 >>> ((8 : Int32) &&& 31)) &&& (255 : Int32))) ((x5 + (7 : Int32)).toNatClampNeg) ((x1 >>> ((0 : Int32) &&& 31)) &&& (255 : Int32))) ((x5 + (8 : Int32)).toNatClampNeg) ((x2 >>> ((24 : Int32) &&& 31)) &&& (255 : Int32))) ((x5 + (9 : Int32)).toNatClampNeg) ((x2 >>> ((16 : Int32) &&& 31)) &&& (255 : Int32))) hx hb hK hP hD hS 1 rfl rfl g19 g20 rfl dX10_feed_106 (fun H locs hP hD hS => ?_)
  have hP : va_P D vwCl [(a0, .inr (10, [.ref a1, .int x5, .int 0, .int x7, .int x8, .int x9, .ref a2, .ref a3, .ref a4, .ref a5, .ref a6, .ref a7, .int x10, .ref a8, .ref a9, .ref a10, .ref a11, .ref a12, .int x11, .ref a13, .int x12, .ref a14, .int x13, .ref a15, .int x14, .ref a16, .int x15, .int x16, .ref a17, .ref a18, .int x17, .int x18, .int x19, .int x20, .int x21, .ref a19, .ref a20, .ref a21, .ref a22, .ref a23, .int x22, .ref a24, .ref a25, .ref a26, .ref a27, .int x23, .ref a28, .int x24, .ref a29, .int x25, .ref a30, .ref a31, .int x26, .int x27, .int x28, .ref a32, .ref a33, .ref a34, .ref a35, .ref a36, .ref a37, .ref a38, .int x29, .int x30, .int x31, .ref a39])), (a1, .inl (c 0, 800, .inl (upd (upd (upd (upd (upd (upd (upd (upd (upd (upd (f0) ((x5 + (0 : Int32)).toNatClampNeg) ((x0 >>> ((24 : Int32) &&& 31)) &&& (255 : Int32))) ((x5 + (1 : Int32)).toNatClampNeg) ((x0 >>> ((16 : Int32) &&& 31)) &&& (255 : Int32))) ((x5 + (2 : Int32)).toNatClampNeg) ((x0 >>> ((8 : Int32) &&& 31)) &&& (255 : Int32))) ((x5 + (3 : Int32)).toNatClampNeg) ((x0 >>> ((0 : Int32) &&& 31)) &&& (255 : Int32))) ((x5 + (4 : Int32)).toNatClampNeg) ((x1 >>> ((24 : Int32) &&& 31)) &&& (255 : Int32))) ((x5 + (5 : Int32)).toNatClampNeg) ((x1 >>> ((16 : Int32) &&& 31)) &&& (255 : Int32))) ((x5 + (6 : Int32)).toNatClampNeg) ((x1 >>> ((8 : Int32) &&& 31)) &&& (255 : Int32))) ((x5 + (7 : Int32)).toNatClampNeg) ((x1 >>> ((0 : Int32) &&& 31)) &&& (255 : Int32))) ((x5 + (8 : Int32)).toNatClampNeg) ((x2 >>> ((24 : Int32) &&& 31)) &&& (255 : Int32))) ((x5 + (9 : Int32)).toNatClampNeg) ((x2 >>> ((16 : Int32) &&& 31)) &&& (255 : Int32)))))] H := hP
  have hD : va_D A [(a0, .inr (10, [.ref a1, .int x5, .int 0, .int x7, .int x8, .int x9, .ref a2, .ref a3, .ref a4, .ref a5, .ref a6, .ref a7, .int x10, .ref a8, .ref a9, .ref a10, .ref a11, .ref a12, .int x11, .ref a13, .int x12, .ref a14, .int x13, .ref a15, .int x14, .ref a16, .int x15, .int x16, .ref a17, .ref a18, .int x17, .int x18, .int x19, .int x20, .int x21, .ref a19, .ref a20, .ref a21, .ref a22, .ref a23, .int x22, .ref a24, .ref a25, .ref a26, .ref a27, .int x23, .ref a28, .int x24, .ref a29, .int x25, .ref a30, .ref a31, .int x26, .int x27, .int x28, .ref a32, .ref a33, .ref a34, .ref a35, .ref a36, .ref a37, .ref a38, .int x29, .int x30, .int x31, .ref a39])), (a1, .inl (c 0, 800, .inl (upd (upd (upd (upd (upd (upd (upd (upd (upd (upd (f0) ((x5 + (0 : Int32)).toNatClampNeg) ((x0 >>> ((24 : Int32) &&& 31)) &&& (255 : Int32))) ((x5 + (1 : Int32)).toNatClampNeg) ((x0 >>> ((16 : Int32) &&& 31)) &&& (255 : Int32))) ((x5 + (2 : Int32)).toNatClampNeg) ((x0 >>> ((8 : Int32) &&& 31)) &&& (255 : Int32))) ((x5 + (3 : Int32)).toNatClampNeg) ((x0 >>> ((0 : Int32) &&& 31)) &&& (255 : Int32))) ((x5 + (4 : Int32)).toNatClampNeg) ((x1 >>> ((24 : Int32) &&& 31)) &&& (255 : Int32))) ((x5 + (5 : Int32)).toNatClampNeg) ((x1 >>> ((16 : Int32) &&& 31)) &&& (255 : Int32))) ((x5 + (6 : Int32)).toNatClampNeg) ((x1 >>> ((8 : Int32) &&& 31)) &&& (255 : Int32))) ((x5 + (7 : Int32)).toNatClampNeg) ((x1 >>> ((0 : Int32) &&& 31)) &&& (255 : Int32))) ((x5 + (8 : Int32)).toNatClampNeg) ((x2 >>> ((24 : Int32) &&& 31)) &&& (255 : Int32))) ((x5 + (9 : Int32)).toNatClampNeg) ((x2 >>> ((16 : Int32) &&& 31)) &&& (255 : Int32)))))] := hD
  refine lv_iinc (v := 10) (lv' := [(6, .int 10), (7, .int x2), (0, .ref a0), (1, .int x0), (2, .int x1), (3, .int x2), (4, .int x3), (5, .int x4)]) hx hb dX10_feed_107 hl (k := 1) rfl (by decide) (by decide) rfl (fun ls hl => ?_)
  refine lv_goto (tgt := 23) hx hb dX10_feed_110 (by decide) ?_
  refine lv_iload hx hb dX10_feed_23 (lv_at hl 0 rfl) ?_
  refine lv_bipush (v := 20) hx hb dX10_feed_25 (by decide) ?_
  refine lv_icmp_ge (tgt := 113) hx hb dX10_feed_27 (by decide) (fun h9 => absurd h9 (by decide)) (fun _ => ?_)
  refine lv_iload hx hb dX10_feed_30 (lv_at hl 0 rfl) ?_
  refine lv_iconst (v := 4) hx hb dX10_feed_32 (by decide) ?_
  refine lv_icmp_ge (tgt := 40) hx hb dX10_feed_33 (by decide) (fun _ => ?_) (fun h9 => absurd (by decide) h9)
  refine lv_iload hx hb dX10_feed_40 (lv_at hl 0 rfl) ?_
  refine lv_bipush (v := 8) hx hb dX10_feed_42 (by decide) ?_
  refine lv_icmp_ge (tgt := 51) hx hb dX10_feed_44 (by decide) (fun _ => ?_) (fun h9 => absurd (by decide) h9)
  refine lv_iload hx hb dX10_feed_51 (lv_at hl 0 rfl) ?_
  refine lv_bipush (v := 12) hx hb dX10_feed_53 (by decide) ?_
  refine lv_icmp_ge (tgt := 62) hx hb dX10_feed_55 (by decide) (fun h9 => absurd h9 (by decide)) (fun _ => ?_)
  refine lv_iload_n hx hb dX10_feed_58 rfl (lv_at hl 5 rfl) ?_
  refine lv_goto (tgt := 76) hx hb dX10_feed_59 (by decide) ?_
  refine lv_istore (lv' := [(7, .int x2), (6, .int 10), (0, .ref a0), (1, .int x0), (2, .int x1), (3, .int x2), (4, .int x3), (5, .int x4)]) hx hb dX10_feed_76 hl (by decide) rfl (fun ls hl => ?_)
  refine lv_aload_n hx hb dX10_feed_78 rfl (lv_at hl 2 rfl) ?_
  refine va_get (D := D) (ci := 10) (v := .ref a1) (C := RX10) (T := TX10) (N := 66) hx hb hts iX10 hown hK hP 0 rfl rfl 0 (by decide) (hts (.fieldLink RX10 7 "ShortTellerModel" "tape" "[I") (List.mem_of_getElem? (i := 3) rfl)) (fun _ h9 => h9) rfl dX10_feed_79 ?_
  refine lv_aload_n hx hb dX10_feed_82 rfl (lv_at hl 2 rfl) ?_
  refine va_get (D := D) (ci := 10) (v := .int x5) (C := RX10) (T := TX10) (N := 66) hx hb hts iX10 hown hK hP 0 rfl rfl 1 (by decide) (hts (.fieldLink RX10 138 "ShortTellerModel" "tapeSize" "I") (List.mem_of_getElem? (i := 2) rfl)) (fun _ h9 => h9) rfl dX10_feed_83 ?_
  refine lv_iload hx hb dX10_feed_86 (lv_at hl 1 rfl) ?_
  refine lv_iadd hx hb dX10_feed_88 ?_
  refine lv_iload hx hb dX10_feed_89 (lv_at hl 0 rfl) ?_
  refine lv_bipush (v := 24) hx hb dX10_feed_91 (by decide) ?_
  refine lv_bipush (v := 8) hx hb dX10_feed_93 (by decide) ?_
  refine lv_iload hx hb dX10_feed_95 (lv_at hl 1 rfl) ?_
  refine lv_iconst (v := 4) hx hb dX10_feed_97 (by decide) ?_
  refine lv_irem hx hb dX10_feed_98 (by decide) ?_
  refine q1_top (v := 2) (by decide) ?_
  refine lv_imul hx hb dX10_feed_99 ?_
  refine q1_top (v := 16) (by decide) ?_
  refine lv_isub hx hb dX10_feed_100 ?_
  refine q1_top (v := 8) (by decide) ?_
  refine lv_ishr hx hb dX10_feed_101 ?_
  refine lv_sipush (v := 255) hx hb dX10_feed_102 (by decide) ?_
  refine lv_iand hx hb dX10_feed_105 ?_
  refine q1_iast (c := c) (K := (x5 + (10 : Int32)).toNatClampNeg) (F := upd (upd (upd (upd (upd (upd (upd (upd (upd (upd (upd (f0) ((x5 + (0 : Int32)).toNatClampNeg) ((x0 >>> ((24 : Int32) &&& 31)) &&& (255 : Int32))) ((x5 + (1 : Int32)).toNatClampNeg) ((x0 >>> ((16 : Int32) &&& 31)) &&& (255 : Int32))) ((x5 + (2 : Int32)).toNatClampNeg) ((x0 >>> ((8 : Int32) &&& 31)) &&& (255 : Int32))) ((x5 + (3 : Int32)).toNatClampNeg) ((x0 >>> ((0 : Int32) &&& 31)) &&& (255 : Int32))) ((x5 + (4 : Int32)).toNatClampNeg) ((x1 >>> ((24 : Int32) &&& 31)) &&& (255 : Int32))) ((x5 + (5 : Int32)).toNatClampNeg) ((x1 >>> ((16 : Int32) &&& 31)) &&& (255 : Int32))) ((x5 + (6 : Int32)).toNatClampNeg) ((x1 >>> ((8 : Int32) &&& 31)) &&& (255 : Int32))) ((x5 + (7 : Int32)).toNatClampNeg) ((x1 >>> ((0 : Int32) &&& 31)) &&& (255 : Int32))) ((x5 + (8 : Int32)).toNatClampNeg) ((x2 >>> ((24 : Int32) &&& 31)) &&& (255 : Int32))) ((x5 + (9 : Int32)).toNatClampNeg) ((x2 >>> ((16 : Int32) &&& 31)) &&& (255 : Int32))) ((x5 + (10 : Int32)).toNatClampNeg) ((x2 >>> ((8 : Int32) &&& 31)) &&& (255 : Int32))) hx hb hK hP hD hS 1 rfl rfl g21 g22 rfl dX10_feed_106 (fun H locs hP hD hS => ?_)
  have hP : va_P D vwCl [(a0, .inr (10, [.ref a1, .int x5, .int 0, .int x7, .int x8, .int x9, .ref a2, .ref a3, .ref a4, .ref a5, .ref a6, .ref a7, .int x10, .ref a8, .ref a9, .ref a10, .ref a11, .ref a12, .int x11, .ref a13, .int x12, .ref a14, .int x13, .ref a15, .int x14, .ref a16, .int x15, .int x16, .ref a17, .ref a18, .int x17, .int x18, .int x19, .int x20, .int x21, .ref a19, .ref a20, .ref a21, .ref a22, .ref a23, .int x22, .ref a24, .ref a25, .ref a26, .ref a27, .int x23, .ref a28, .int x24, .ref a29, .int x25, .ref a30, .ref a31, .int x26, .int x27, .int x28, .ref a32, .ref a33, .ref a34, .ref a35, .ref a36, .ref a37, .ref a38, .int x29, .int x30, .int x31, .ref a39])), (a1, .inl (c 0, 800, .inl (upd (upd (upd (upd (upd (upd (upd (upd (upd (upd (upd (f0) ((x5 + (0 : Int32)).toNatClampNeg) ((x0 >>> ((24 : Int32) &&& 31)) &&& (255 : Int32))) ((x5 + (1 : Int32)).toNatClampNeg) ((x0 >>> ((16 : Int32) &&& 31)) &&& (255 : Int32))) ((x5 + (2 : Int32)).toNatClampNeg) ((x0 >>> ((8 : Int32) &&& 31)) &&& (255 : Int32))) ((x5 + (3 : Int32)).toNatClampNeg) ((x0 >>> ((0 : Int32) &&& 31)) &&& (255 : Int32))) ((x5 + (4 : Int32)).toNatClampNeg) ((x1 >>> ((24 : Int32) &&& 31)) &&& (255 : Int32))) ((x5 + (5 : Int32)).toNatClampNeg) ((x1 >>> ((16 : Int32) &&& 31)) &&& (255 : Int32))) ((x5 + (6 : Int32)).toNatClampNeg) ((x1 >>> ((8 : Int32) &&& 31)) &&& (255 : Int32))) ((x5 + (7 : Int32)).toNatClampNeg) ((x1 >>> ((0 : Int32) &&& 31)) &&& (255 : Int32))) ((x5 + (8 : Int32)).toNatClampNeg) ((x2 >>> ((24 : Int32) &&& 31)) &&& (255 : Int32))) ((x5 + (9 : Int32)).toNatClampNeg) ((x2 >>> ((16 : Int32) &&& 31)) &&& (255 : Int32))) ((x5 + (10 : Int32)).toNatClampNeg) ((x2 >>> ((8 : Int32) &&& 31)) &&& (255 : Int32)))))] H := hP
  have hD : va_D A [(a0, .inr (10, [.ref a1, .int x5, .int 0, .int x7, .int x8, .int x9, .ref a2, .ref a3, .ref a4, .ref a5, .ref a6, .ref a7, .int x10, .ref a8, .ref a9, .ref a10, .ref a11, .ref a12, .int x11, .ref a13, .int x12, .ref a14, .int x13, .ref a15, .int x14, .ref a16, .int x15, .int x16, .ref a17, .ref a18, .int x17, .int x18, .int x19, .int x20, .int x21, .ref a19, .ref a20, .ref a21, .ref a22, .ref a23, .int x22, .ref a24, .ref a25, .ref a26, .ref a27, .int x23, .ref a28, .int x24, .ref a29, .int x25, .ref a30, .ref a31, .int x26, .int x27, .int x28, .ref a32, .ref a33, .ref a34, .ref a35, .ref a36, .ref a37, .ref a38, .int x29, .int x30, .int x31, .ref a39])), (a1, .inl (c 0, 800, .inl (upd (upd (upd (upd (upd (upd (upd (upd (upd (upd (upd (f0) ((x5 + (0 : Int32)).toNatClampNeg) ((x0 >>> ((24 : Int32) &&& 31)) &&& (255 : Int32))) ((x5 + (1 : Int32)).toNatClampNeg) ((x0 >>> ((16 : Int32) &&& 31)) &&& (255 : Int32))) ((x5 + (2 : Int32)).toNatClampNeg) ((x0 >>> ((8 : Int32) &&& 31)) &&& (255 : Int32))) ((x5 + (3 : Int32)).toNatClampNeg) ((x0 >>> ((0 : Int32) &&& 31)) &&& (255 : Int32))) ((x5 + (4 : Int32)).toNatClampNeg) ((x1 >>> ((24 : Int32) &&& 31)) &&& (255 : Int32))) ((x5 + (5 : Int32)).toNatClampNeg) ((x1 >>> ((16 : Int32) &&& 31)) &&& (255 : Int32))) ((x5 + (6 : Int32)).toNatClampNeg) ((x1 >>> ((8 : Int32) &&& 31)) &&& (255 : Int32))) ((x5 + (7 : Int32)).toNatClampNeg) ((x1 >>> ((0 : Int32) &&& 31)) &&& (255 : Int32))) ((x5 + (8 : Int32)).toNatClampNeg) ((x2 >>> ((24 : Int32) &&& 31)) &&& (255 : Int32))) ((x5 + (9 : Int32)).toNatClampNeg) ((x2 >>> ((16 : Int32) &&& 31)) &&& (255 : Int32))) ((x5 + (10 : Int32)).toNatClampNeg) ((x2 >>> ((8 : Int32) &&& 31)) &&& (255 : Int32)))))] := hD
  refine lv_iinc (v := 11) (lv' := [(6, .int 11), (7, .int x2), (0, .ref a0), (1, .int x0), (2, .int x1), (3, .int x2), (4, .int x3), (5, .int x4)]) hx hb dX10_feed_107 hl (k := 1) rfl (by decide) (by decide) rfl (fun ls hl => ?_)
  refine lv_goto (tgt := 23) hx hb dX10_feed_110 (by decide) ?_
  refine lv_iload hx hb dX10_feed_23 (lv_at hl 0 rfl) ?_
  refine lv_bipush (v := 20) hx hb dX10_feed_25 (by decide) ?_
  refine lv_icmp_ge (tgt := 113) hx hb dX10_feed_27 (by decide) (fun h9 => absurd h9 (by decide)) (fun _ => ?_)
  refine lv_iload hx hb dX10_feed_30 (lv_at hl 0 rfl) ?_
  refine lv_iconst (v := 4) hx hb dX10_feed_32 (by decide) ?_
  refine lv_icmp_ge (tgt := 40) hx hb dX10_feed_33 (by decide) (fun _ => ?_) (fun h9 => absurd (by decide) h9)
  refine lv_iload hx hb dX10_feed_40 (lv_at hl 0 rfl) ?_
  refine lv_bipush (v := 8) hx hb dX10_feed_42 (by decide) ?_
  refine lv_icmp_ge (tgt := 51) hx hb dX10_feed_44 (by decide) (fun _ => ?_) (fun h9 => absurd (by decide) h9)
  refine lv_iload hx hb dX10_feed_51 (lv_at hl 0 rfl) ?_
  refine lv_bipush (v := 12) hx hb dX10_feed_53 (by decide) ?_
  refine lv_icmp_ge (tgt := 62) hx hb dX10_feed_55 (by decide) (fun h9 => absurd h9 (by decide)) (fun _ => ?_)
  refine lv_iload_n hx hb dX10_feed_58 rfl (lv_at hl 5 rfl) ?_
  refine lv_goto (tgt := 76) hx hb dX10_feed_59 (by decide) ?_
  refine lv_istore (lv' := [(7, .int x2), (6, .int 11), (0, .ref a0), (1, .int x0), (2, .int x1), (3, .int x2), (4, .int x3), (5, .int x4)]) hx hb dX10_feed_76 hl (by decide) rfl (fun ls hl => ?_)
  refine lv_aload_n hx hb dX10_feed_78 rfl (lv_at hl 2 rfl) ?_
  refine va_get (D := D) (ci := 10) (v := .ref a1) (C := RX10) (T := TX10) (N := 66) hx hb hts iX10 hown hK hP 0 rfl rfl 0 (by decide) (hts (.fieldLink RX10 7 "ShortTellerModel" "tape" "[I") (List.mem_of_getElem? (i := 3) rfl)) (fun _ h9 => h9) rfl dX10_feed_79 ?_
  refine lv_aload_n hx hb dX10_feed_82 rfl (lv_at hl 2 rfl) ?_
  refine va_get (D := D) (ci := 10) (v := .int x5) (C := RX10) (T := TX10) (N := 66) hx hb hts iX10 hown hK hP 0 rfl rfl 1 (by decide) (hts (.fieldLink RX10 138 "ShortTellerModel" "tapeSize" "I") (List.mem_of_getElem? (i := 2) rfl)) (fun _ h9 => h9) rfl dX10_feed_83 ?_
  refine lv_iload hx hb dX10_feed_86 (lv_at hl 1 rfl) ?_
  refine lv_iadd hx hb dX10_feed_88 ?_
  refine lv_iload hx hb dX10_feed_89 (lv_at hl 0 rfl) ?_
  refine lv_bipush (v := 24) hx hb dX10_feed_91 (by decide) ?_
  refine lv_bipush (v := 8) hx hb dX10_feed_93 (by decide) ?_
  refine lv_iload hx hb dX10_feed_95 (lv_at hl 1 rfl) ?_
  refine lv_iconst (v := 4) hx hb dX10_feed_97 (by decide) ?_
  refine lv_irem hx hb dX10_feed_98 (by decide) ?_
  refine q1_top (v := 3) (by decide) ?_
  refine lv_imul hx hb dX10_feed_99 ?_
  refine q1_top (v := 24) (by decide) ?_
  refine lv_isub hx hb dX10_feed_100 ?_
  refine q1_top (v := 0) (by decide) ?_
  refine lv_ishr hx hb dX10_feed_101 ?_
  refine lv_sipush (v := 255) hx hb dX10_feed_102 (by decide) ?_
  refine lv_iand hx hb dX10_feed_105 ?_
  refine q1_iast (c := c) (K := (x5 + (11 : Int32)).toNatClampNeg) (F := upd (upd (upd (upd (upd (upd (upd (upd (upd (upd (upd (upd (f0) ((x5 + (0 : Int32)).toNatClampNeg) ((x0 >>> ((24 : Int32) &&& 31)) &&& (255 : Int32))) ((x5 + (1 : Int32)).toNatClampNeg) ((x0 >>> ((16 : Int32) &&& 31)) &&& (255 : Int32))) ((x5 + (2 : Int32)).toNatClampNeg) ((x0 >>> ((8 : Int32) &&& 31)) &&& (255 : Int32))) ((x5 + (3 : Int32)).toNatClampNeg) ((x0 >>> ((0 : Int32) &&& 31)) &&& (255 : Int32))) ((x5 + (4 : Int32)).toNatClampNeg) ((x1 >>> ((24 : Int32) &&& 31)) &&& (255 : Int32))) ((x5 + (5 : Int32)).toNatClampNeg) ((x1 >>> ((16 : Int32) &&& 31)) &&& (255 : Int32))) ((x5 + (6 : Int32)).toNatClampNeg) ((x1 >>> ((8 : Int32) &&& 31)) &&& (255 : Int32))) ((x5 + (7 : Int32)).toNatClampNeg) ((x1 >>> ((0 : Int32) &&& 31)) &&& (255 : Int32))) ((x5 + (8 : Int32)).toNatClampNeg) ((x2 >>> ((24 : Int32) &&& 31)) &&& (255 : Int32))) ((x5 + (9 : Int32)).toNatClampNeg) ((x2 >>> ((16 : Int32) &&& 31)) &&& (255 : Int32))) ((x5 + (10 : Int32)).toNatClampNeg) ((x2 >>> ((8 : Int32) &&& 31)) &&& (255 : Int32))) ((x5 + (11 : Int32)).toNatClampNeg) ((x2 >>> ((0 : Int32) &&& 31)) &&& (255 : Int32))) hx hb hK hP hD hS 1 rfl rfl g23 g24 rfl dX10_feed_106 (fun H locs hP hD hS => ?_)
  have hP : va_P D vwCl [(a0, .inr (10, [.ref a1, .int x5, .int 0, .int x7, .int x8, .int x9, .ref a2, .ref a3, .ref a4, .ref a5, .ref a6, .ref a7, .int x10, .ref a8, .ref a9, .ref a10, .ref a11, .ref a12, .int x11, .ref a13, .int x12, .ref a14, .int x13, .ref a15, .int x14, .ref a16, .int x15, .int x16, .ref a17, .ref a18, .int x17, .int x18, .int x19, .int x20, .int x21, .ref a19, .ref a20, .ref a21, .ref a22, .ref a23, .int x22, .ref a24, .ref a25, .ref a26, .ref a27, .int x23, .ref a28, .int x24, .ref a29, .int x25, .ref a30, .ref a31, .int x26, .int x27, .int x28, .ref a32, .ref a33, .ref a34, .ref a35, .ref a36, .ref a37, .ref a38, .int x29, .int x30, .int x31, .ref a39])), (a1, .inl (c 0, 800, .inl (upd (upd (upd (upd (upd (upd (upd (upd (upd (upd (upd (upd (f0) ((x5 + (0 : Int32)).toNatClampNeg) ((x0 >>> ((24 : Int32) &&& 31)) &&& (255 : Int32))) ((x5 + (1 : Int32)).toNatClampNeg) ((x0 >>> ((16 : Int32) &&& 31)) &&& (255 : Int32))) ((x5 + (2 : Int32)).toNatClampNeg) ((x0 >>> ((8 : Int32) &&& 31)) &&& (255 : Int32))) ((x5 + (3 : Int32)).toNatClampNeg) ((x0 >>> ((0 : Int32) &&& 31)) &&& (255 : Int32))) ((x5 + (4 : Int32)).toNatClampNeg) ((x1 >>> ((24 : Int32) &&& 31)) &&& (255 : Int32))) ((x5 + (5 : Int32)).toNatClampNeg) ((x1 >>> ((16 : Int32) &&& 31)) &&& (255 : Int32))) ((x5 + (6 : Int32)).toNatClampNeg) ((x1 >>> ((8 : Int32) &&& 31)) &&& (255 : Int32))) ((x5 + (7 : Int32)).toNatClampNeg) ((x1 >>> ((0 : Int32) &&& 31)) &&& (255 : Int32))) ((x5 + (8 : Int32)).toNatClampNeg) ((x2 >>> ((24 : Int32) &&& 31)) &&& (255 : Int32))) ((x5 + (9 : Int32)).toNatClampNeg) ((x2 >>> ((16 : Int32) &&& 31)) &&& (255 : Int32))) ((x5 + (10 : Int32)).toNatClampNeg) ((x2 >>> ((8 : Int32) &&& 31)) &&& (255 : Int32))) ((x5 + (11 : Int32)).toNatClampNeg) ((x2 >>> ((0 : Int32) &&& 31)) &&& (255 : Int32)))))] H := hP
  have hD : va_D A [(a0, .inr (10, [.ref a1, .int x5, .int 0, .int x7, .int x8, .int x9, .ref a2, .ref a3, .ref a4, .ref a5, .ref a6, .ref a7, .int x10, .ref a8, .ref a9, .ref a10, .ref a11, .ref a12, .int x11, .ref a13, .int x12, .ref a14, .int x13, .ref a15, .int x14, .ref a16, .int x15, .int x16, .ref a17, .ref a18, .int x17, .int x18, .int x19, .int x20, .int x21, .ref a19, .ref a20, .ref a21, .ref a22, .ref a23, .int x22, .ref a24, .ref a25, .ref a26, .ref a27, .int x23, .ref a28, .int x24, .ref a29, .int x25, .ref a30, .ref a31, .int x26, .int x27, .int x28, .ref a32, .ref a33, .ref a34, .ref a35, .ref a36, .ref a37, .ref a38, .int x29, .int x30, .int x31, .ref a39])), (a1, .inl (c 0, 800, .inl (upd (upd (upd (upd (upd (upd (upd (upd (upd (upd (upd (upd (f0) ((x5 + (0 : Int32)).toNatClampNeg) ((x0 >>> ((24 : Int32) &&& 31)) &&& (255 : Int32))) ((x5 + (1 : Int32)).toNatClampNeg) ((x0 >>> ((16 : Int32) &&& 31)) &&& (255 : Int32))) ((x5 + (2 : Int32)).toNatClampNeg) ((x0 >>> ((8 : Int32) &&& 31)) &&& (255 : Int32))) ((x5 + (3 : Int32)).toNatClampNeg) ((x0 >>> ((0 : Int32) &&& 31)) &&& (255 : Int32))) ((x5 + (4 : Int32)).toNatClampNeg) ((x1 >>> ((24 : Int32) &&& 31)) &&& (255 : Int32))) ((x5 + (5 : Int32)).toNatClampNeg) ((x1 >>> ((16 : Int32) &&& 31)) &&& (255 : Int32))) ((x5 + (6 : Int32)).toNatClampNeg) ((x1 >>> ((8 : Int32) &&& 31)) &&& (255 : Int32))) ((x5 + (7 : Int32)).toNatClampNeg) ((x1 >>> ((0 : Int32) &&& 31)) &&& (255 : Int32))) ((x5 + (8 : Int32)).toNatClampNeg) ((x2 >>> ((24 : Int32) &&& 31)) &&& (255 : Int32))) ((x5 + (9 : Int32)).toNatClampNeg) ((x2 >>> ((16 : Int32) &&& 31)) &&& (255 : Int32))) ((x5 + (10 : Int32)).toNatClampNeg) ((x2 >>> ((8 : Int32) &&& 31)) &&& (255 : Int32))) ((x5 + (11 : Int32)).toNatClampNeg) ((x2 >>> ((0 : Int32) &&& 31)) &&& (255 : Int32)))))] := hD
  refine lv_iinc (v := 12) (lv' := [(6, .int 12), (7, .int x2), (0, .ref a0), (1, .int x0), (2, .int x1), (3, .int x2), (4, .int x3), (5, .int x4)]) hx hb dX10_feed_107 hl (k := 1) rfl (by decide) (by decide) rfl (fun ls hl => ?_)
  refine lv_goto (tgt := 23) hx hb dX10_feed_110 (by decide) ?_
  refine lv_iload hx hb dX10_feed_23 (lv_at hl 0 rfl) ?_
  refine lv_bipush (v := 20) hx hb dX10_feed_25 (by decide) ?_
  refine lv_icmp_ge (tgt := 113) hx hb dX10_feed_27 (by decide) (fun h9 => absurd h9 (by decide)) (fun _ => ?_)
  refine lv_iload hx hb dX10_feed_30 (lv_at hl 0 rfl) ?_
  refine lv_iconst (v := 4) hx hb dX10_feed_32 (by decide) ?_
  refine lv_icmp_ge (tgt := 40) hx hb dX10_feed_33 (by decide) (fun _ => ?_) (fun h9 => absurd (by decide) h9)
  refine lv_iload hx hb dX10_feed_40 (lv_at hl 0 rfl) ?_
  refine lv_bipush (v := 8) hx hb dX10_feed_42 (by decide) ?_
  refine lv_icmp_ge (tgt := 51) hx hb dX10_feed_44 (by decide) (fun _ => ?_) (fun h9 => absurd (by decide) h9)
  refine lv_iload hx hb dX10_feed_51 (lv_at hl 0 rfl) ?_
  refine lv_bipush (v := 12) hx hb dX10_feed_53 (by decide) ?_
  refine lv_icmp_ge (tgt := 62) hx hb dX10_feed_55 (by decide) (fun _ => ?_) (fun h9 => absurd (by decide) h9)
  refine lv_iload hx hb dX10_feed_62 (lv_at hl 0 rfl) ?_
  refine lv_bipush (v := 16) hx hb dX10_feed_64 (by decide) ?_
  refine lv_icmp_ge (tgt := 74) hx hb dX10_feed_66 (by decide) (fun h9 => absurd h9 (by decide)) (fun _ => ?_)
  refine lv_iload hx hb dX10_feed_69 (lv_at hl 6 rfl) ?_
  refine lv_goto (tgt := 76) hx hb dX10_feed_71 (by decide) ?_
  refine lv_istore (lv' := [(7, .int x3), (6, .int 12), (0, .ref a0), (1, .int x0), (2, .int x1), (3, .int x2), (4, .int x3), (5, .int x4)]) hx hb dX10_feed_76 hl (by decide) rfl (fun ls hl => ?_)
  refine lv_aload_n hx hb dX10_feed_78 rfl (lv_at hl 2 rfl) ?_
  refine va_get (D := D) (ci := 10) (v := .ref a1) (C := RX10) (T := TX10) (N := 66) hx hb hts iX10 hown hK hP 0 rfl rfl 0 (by decide) (hts (.fieldLink RX10 7 "ShortTellerModel" "tape" "[I") (List.mem_of_getElem? (i := 3) rfl)) (fun _ h9 => h9) rfl dX10_feed_79 ?_
  refine lv_aload_n hx hb dX10_feed_82 rfl (lv_at hl 2 rfl) ?_
  refine va_get (D := D) (ci := 10) (v := .int x5) (C := RX10) (T := TX10) (N := 66) hx hb hts iX10 hown hK hP 0 rfl rfl 1 (by decide) (hts (.fieldLink RX10 138 "ShortTellerModel" "tapeSize" "I") (List.mem_of_getElem? (i := 2) rfl)) (fun _ h9 => h9) rfl dX10_feed_83 ?_
  refine lv_iload hx hb dX10_feed_86 (lv_at hl 1 rfl) ?_
  refine lv_iadd hx hb dX10_feed_88 ?_
  refine lv_iload hx hb dX10_feed_89 (lv_at hl 0 rfl) ?_
  refine lv_bipush (v := 24) hx hb dX10_feed_91 (by decide) ?_
  refine lv_bipush (v := 8) hx hb dX10_feed_93 (by decide) ?_
  refine lv_iload hx hb dX10_feed_95 (lv_at hl 1 rfl) ?_
  refine lv_iconst (v := 4) hx hb dX10_feed_97 (by decide) ?_
  refine lv_irem hx hb dX10_feed_98 (by decide) ?_
  refine q1_top (v := 0) (by decide) ?_
  refine lv_imul hx hb dX10_feed_99 ?_
  refine q1_top (v := 0) (by decide) ?_
  refine lv_isub hx hb dX10_feed_100 ?_
  refine q1_top (v := 24) (by decide) ?_
  refine lv_ishr hx hb dX10_feed_101 ?_
  refine lv_sipush (v := 255) hx hb dX10_feed_102 (by decide) ?_
  refine lv_iand hx hb dX10_feed_105 ?_
  refine q1_iast (c := c) (K := (x5 + (12 : Int32)).toNatClampNeg) (F := upd (upd (upd (upd (upd (upd (upd (upd (upd (upd (upd (upd (upd (f0) ((x5 + (0 : Int32)).toNatClampNeg) ((x0 >>> ((24 : Int32) &&& 31)) &&& (255 : Int32))) ((x5 + (1 : Int32)).toNatClampNeg) ((x0 >>> ((16 : Int32) &&& 31)) &&& (255 : Int32))) ((x5 + (2 : Int32)).toNatClampNeg) ((x0 >>> ((8 : Int32) &&& 31)) &&& (255 : Int32))) ((x5 + (3 : Int32)).toNatClampNeg) ((x0 >>> ((0 : Int32) &&& 31)) &&& (255 : Int32))) ((x5 + (4 : Int32)).toNatClampNeg) ((x1 >>> ((24 : Int32) &&& 31)) &&& (255 : Int32))) ((x5 + (5 : Int32)).toNatClampNeg) ((x1 >>> ((16 : Int32) &&& 31)) &&& (255 : Int32))) ((x5 + (6 : Int32)).toNatClampNeg) ((x1 >>> ((8 : Int32) &&& 31)) &&& (255 : Int32))) ((x5 + (7 : Int32)).toNatClampNeg) ((x1 >>> ((0 : Int32) &&& 31)) &&& (255 : Int32))) ((x5 + (8 : Int32)).toNatClampNeg) ((x2 >>> ((24 : Int32) &&& 31)) &&& (255 : Int32))) ((x5 + (9 : Int32)).toNatClampNeg) ((x2 >>> ((16 : Int32) &&& 31)) &&& (255 : Int32))) ((x5 + (10 : Int32)).toNatClampNeg) ((x2 >>> ((8 : Int32) &&& 31)) &&& (255 : Int32))) ((x5 + (11 : Int32)).toNatClampNeg) ((x2 >>> ((0 : Int32) &&& 31)) &&& (255 : Int32))) ((x5 + (12 : Int32)).toNatClampNeg) ((x3 >>> ((24 : Int32) &&& 31)) &&& (255 : Int32))) hx hb hK hP hD hS 1 rfl rfl g25 g26 rfl dX10_feed_106 (fun H locs hP hD hS => ?_)
  have hP : va_P D vwCl [(a0, .inr (10, [.ref a1, .int x5, .int 0, .int x7, .int x8, .int x9, .ref a2, .ref a3, .ref a4, .ref a5, .ref a6, .ref a7, .int x10, .ref a8, .ref a9, .ref a10, .ref a11, .ref a12, .int x11, .ref a13, .int x12, .ref a14, .int x13, .ref a15, .int x14, .ref a16, .int x15, .int x16, .ref a17, .ref a18, .int x17, .int x18, .int x19, .int x20, .int x21, .ref a19, .ref a20, .ref a21, .ref a22, .ref a23, .int x22, .ref a24, .ref a25, .ref a26, .ref a27, .int x23, .ref a28, .int x24, .ref a29, .int x25, .ref a30, .ref a31, .int x26, .int x27, .int x28, .ref a32, .ref a33, .ref a34, .ref a35, .ref a36, .ref a37, .ref a38, .int x29, .int x30, .int x31, .ref a39])), (a1, .inl (c 0, 800, .inl (upd (upd (upd (upd (upd (upd (upd (upd (upd (upd (upd (upd (upd (f0) ((x5 + (0 : Int32)).toNatClampNeg) ((x0 >>> ((24 : Int32) &&& 31)) &&& (255 : Int32))) ((x5 + (1 : Int32)).toNatClampNeg) ((x0 >>> ((16 : Int32) &&& 31)) &&& (255 : Int32))) ((x5 + (2 : Int32)).toNatClampNeg) ((x0 >>> ((8 : Int32) &&& 31)) &&& (255 : Int32))) ((x5 + (3 : Int32)).toNatClampNeg) ((x0 >>> ((0 : Int32) &&& 31)) &&& (255 : Int32))) ((x5 + (4 : Int32)).toNatClampNeg) ((x1 >>> ((24 : Int32) &&& 31)) &&& (255 : Int32))) ((x5 + (5 : Int32)).toNatClampNeg) ((x1 >>> ((16 : Int32) &&& 31)) &&& (255 : Int32))) ((x5 + (6 : Int32)).toNatClampNeg) ((x1 >>> ((8 : Int32) &&& 31)) &&& (255 : Int32))) ((x5 + (7 : Int32)).toNatClampNeg) ((x1 >>> ((0 : Int32) &&& 31)) &&& (255 : Int32))) ((x5 + (8 : Int32)).toNatClampNeg) ((x2 >>> ((24 : Int32) &&& 31)) &&& (255 : Int32))) ((x5 + (9 : Int32)).toNatClampNeg) ((x2 >>> ((16 : Int32) &&& 31)) &&& (255 : Int32))) ((x5 + (10 : Int32)).toNatClampNeg) ((x2 >>> ((8 : Int32) &&& 31)) &&& (255 : Int32))) ((x5 + (11 : Int32)).toNatClampNeg) ((x2 >>> ((0 : Int32) &&& 31)) &&& (255 : Int32))) ((x5 + (12 : Int32)).toNatClampNeg) ((x3 >>> ((24 : Int32) &&& 31)) &&& (255 : Int32)))))] H := hP
  have hD : va_D A [(a0, .inr (10, [.ref a1, .int x5, .int 0, .int x7, .int x8, .int x9, .ref a2, .ref a3, .ref a4, .ref a5, .ref a6, .ref a7, .int x10, .ref a8, .ref a9, .ref a10, .ref a11, .ref a12, .int x11, .ref a13, .int x12, .ref a14, .int x13, .ref a15, .int x14, .ref a16, .int x15, .int x16, .ref a17, .ref a18, .int x17, .int x18, .int x19, .int x20, .int x21, .ref a19, .ref a20, .ref a21, .ref a22, .ref a23, .int x22, .ref a24, .ref a25, .ref a26, .ref a27, .int x23, .ref a28, .int x24, .ref a29, .int x25, .ref a30, .ref a31, .int x26, .int x27, .int x28, .ref a32, .ref a33, .ref a34, .ref a35, .ref a36, .ref a37, .ref a38, .int x29, .int x30, .int x31, .ref a39])), (a1, .inl (c 0, 800, .inl (upd (upd (upd (upd (upd (upd (upd (upd (upd (upd (upd (upd (upd (f0) ((x5 + (0 : Int32)).toNatClampNeg) ((x0 >>> ((24 : Int32) &&& 31)) &&& (255 : Int32))) ((x5 + (1 : Int32)).toNatClampNeg) ((x0 >>> ((16 : Int32) &&& 31)) &&& (255 : Int32))) ((x5 + (2 : Int32)).toNatClampNeg) ((x0 >>> ((8 : Int32) &&& 31)) &&& (255 : Int32))) ((x5 + (3 : Int32)).toNatClampNeg) ((x0 >>> ((0 : Int32) &&& 31)) &&& (255 : Int32))) ((x5 + (4 : Int32)).toNatClampNeg) ((x1 >>> ((24 : Int32) &&& 31)) &&& (255 : Int32))) ((x5 + (5 : Int32)).toNatClampNeg) ((x1 >>> ((16 : Int32) &&& 31)) &&& (255 : Int32))) ((x5 + (6 : Int32)).toNatClampNeg) ((x1 >>> ((8 : Int32) &&& 31)) &&& (255 : Int32))) ((x5 + (7 : Int32)).toNatClampNeg) ((x1 >>> ((0 : Int32) &&& 31)) &&& (255 : Int32))) ((x5 + (8 : Int32)).toNatClampNeg) ((x2 >>> ((24 : Int32) &&& 31)) &&& (255 : Int32))) ((x5 + (9 : Int32)).toNatClampNeg) ((x2 >>> ((16 : Int32) &&& 31)) &&& (255 : Int32))) ((x5 + (10 : Int32)).toNatClampNeg) ((x2 >>> ((8 : Int32) &&& 31)) &&& (255 : Int32))) ((x5 + (11 : Int32)).toNatClampNeg) ((x2 >>> ((0 : Int32) &&& 31)) &&& (255 : Int32))) ((x5 + (12 : Int32)).toNatClampNeg) ((x3 >>> ((24 : Int32) &&& 31)) &&& (255 : Int32)))))] := hD
  refine lv_iinc (v := 13) (lv' := [(6, .int 13), (7, .int x3), (0, .ref a0), (1, .int x0), (2, .int x1), (3, .int x2), (4, .int x3), (5, .int x4)]) hx hb dX10_feed_107 hl (k := 1) rfl (by decide) (by decide) rfl (fun ls hl => ?_)
  refine lv_goto (tgt := 23) hx hb dX10_feed_110 (by decide) ?_
  refine lv_iload hx hb dX10_feed_23 (lv_at hl 0 rfl) ?_
  refine lv_bipush (v := 20) hx hb dX10_feed_25 (by decide) ?_
  refine lv_icmp_ge (tgt := 113) hx hb dX10_feed_27 (by decide) (fun h9 => absurd h9 (by decide)) (fun _ => ?_)
  refine lv_iload hx hb dX10_feed_30 (lv_at hl 0 rfl) ?_
  refine lv_iconst (v := 4) hx hb dX10_feed_32 (by decide) ?_
  refine lv_icmp_ge (tgt := 40) hx hb dX10_feed_33 (by decide) (fun _ => ?_) (fun h9 => absurd (by decide) h9)
  refine lv_iload hx hb dX10_feed_40 (lv_at hl 0 rfl) ?_
  refine lv_bipush (v := 8) hx hb dX10_feed_42 (by decide) ?_
  refine lv_icmp_ge (tgt := 51) hx hb dX10_feed_44 (by decide) (fun _ => ?_) (fun h9 => absurd (by decide) h9)
  refine lv_iload hx hb dX10_feed_51 (lv_at hl 0 rfl) ?_
  refine lv_bipush (v := 12) hx hb dX10_feed_53 (by decide) ?_
  refine lv_icmp_ge (tgt := 62) hx hb dX10_feed_55 (by decide) (fun _ => ?_) (fun h9 => absurd (by decide) h9)
  refine lv_iload hx hb dX10_feed_62 (lv_at hl 0 rfl) ?_
  refine lv_bipush (v := 16) hx hb dX10_feed_64 (by decide) ?_
  refine lv_icmp_ge (tgt := 74) hx hb dX10_feed_66 (by decide) (fun h9 => absurd h9 (by decide)) (fun _ => ?_)
  refine lv_iload hx hb dX10_feed_69 (lv_at hl 6 rfl) ?_
  refine lv_goto (tgt := 76) hx hb dX10_feed_71 (by decide) ?_
  refine lv_istore (lv' := [(7, .int x3), (6, .int 13), (0, .ref a0), (1, .int x0), (2, .int x1), (3, .int x2), (4, .int x3), (5, .int x4)]) hx hb dX10_feed_76 hl (by decide) rfl (fun ls hl => ?_)
  refine lv_aload_n hx hb dX10_feed_78 rfl (lv_at hl 2 rfl) ?_
  refine va_get (D := D) (ci := 10) (v := .ref a1) (C := RX10) (T := TX10) (N := 66) hx hb hts iX10 hown hK hP 0 rfl rfl 0 (by decide) (hts (.fieldLink RX10 7 "ShortTellerModel" "tape" "[I") (List.mem_of_getElem? (i := 3) rfl)) (fun _ h9 => h9) rfl dX10_feed_79 ?_
  refine lv_aload_n hx hb dX10_feed_82 rfl (lv_at hl 2 rfl) ?_
  refine va_get (D := D) (ci := 10) (v := .int x5) (C := RX10) (T := TX10) (N := 66) hx hb hts iX10 hown hK hP 0 rfl rfl 1 (by decide) (hts (.fieldLink RX10 138 "ShortTellerModel" "tapeSize" "I") (List.mem_of_getElem? (i := 2) rfl)) (fun _ h9 => h9) rfl dX10_feed_83 ?_
  refine lv_iload hx hb dX10_feed_86 (lv_at hl 1 rfl) ?_
  refine lv_iadd hx hb dX10_feed_88 ?_
  refine lv_iload hx hb dX10_feed_89 (lv_at hl 0 rfl) ?_
  refine lv_bipush (v := 24) hx hb dX10_feed_91 (by decide) ?_
  refine lv_bipush (v := 8) hx hb dX10_feed_93 (by decide) ?_
  refine lv_iload hx hb dX10_feed_95 (lv_at hl 1 rfl) ?_
  refine lv_iconst (v := 4) hx hb dX10_feed_97 (by decide) ?_
  refine lv_irem hx hb dX10_feed_98 (by decide) ?_
  refine q1_top (v := 1) (by decide) ?_
  refine lv_imul hx hb dX10_feed_99 ?_
  refine q1_top (v := 8) (by decide) ?_
  refine lv_isub hx hb dX10_feed_100 ?_
  refine q1_top (v := 16) (by decide) ?_
  refine lv_ishr hx hb dX10_feed_101 ?_
  refine lv_sipush (v := 255) hx hb dX10_feed_102 (by decide) ?_
  refine lv_iand hx hb dX10_feed_105 ?_
  refine q1_iast (c := c) (K := (x5 + (13 : Int32)).toNatClampNeg) (F := upd (upd (upd (upd (upd (upd (upd (upd (upd (upd (upd (upd (upd (upd (f0) ((x5 + (0 : Int32)).toNatClampNeg) ((x0 >>> ((24 : Int32) &&& 31)) &&& (255 : Int32))) ((x5 + (1 : Int32)).toNatClampNeg) ((x0 >>> ((16 : Int32) &&& 31)) &&& (255 : Int32))) ((x5 + (2 : Int32)).toNatClampNeg) ((x0 >>> ((8 : Int32) &&& 31)) &&& (255 : Int32))) ((x5 + (3 : Int32)).toNatClampNeg) ((x0 >>> ((0 : Int32) &&& 31)) &&& (255 : Int32))) ((x5 + (4 : Int32)).toNatClampNeg) ((x1 >>> ((24 : Int32) &&& 31)) &&& (255 : Int32))) ((x5 + (5 : Int32)).toNatClampNeg) ((x1 >>> ((16 : Int32) &&& 31)) &&& (255 : Int32))) ((x5 + (6 : Int32)).toNatClampNeg) ((x1 >>> ((8 : Int32) &&& 31)) &&& (255 : Int32))) ((x5 + (7 : Int32)).toNatClampNeg) ((x1 >>> ((0 : Int32) &&& 31)) &&& (255 : Int32))) ((x5 + (8 : Int32)).toNatClampNeg) ((x2 >>> ((24 : Int32) &&& 31)) &&& (255 : Int32))) ((x5 + (9 : Int32)).toNatClampNeg) ((x2 >>> ((16 : Int32) &&& 31)) &&& (255 : Int32))) ((x5 + (10 : Int32)).toNatClampNeg) ((x2 >>> ((8 : Int32) &&& 31)) &&& (255 : Int32))) ((x5 + (11 : Int32)).toNatClampNeg) ((x2 >>> ((0 : Int32) &&& 31)) &&& (255 : Int32))) ((x5 + (12 : Int32)).toNatClampNeg) ((x3 >>> ((24 : Int32) &&& 31)) &&& (255 : Int32))) ((x5 + (13 : Int32)).toNatClampNeg) ((x3 >>> ((16 : Int32) &&& 31)) &&& (255 : Int32))) hx hb hK hP hD hS 1 rfl rfl g27 g28 rfl dX10_feed_106 (fun H locs hP hD hS => ?_)
  have hP : va_P D vwCl [(a0, .inr (10, [.ref a1, .int x5, .int 0, .int x7, .int x8, .int x9, .ref a2, .ref a3, .ref a4, .ref a5, .ref a6, .ref a7, .int x10, .ref a8, .ref a9, .ref a10, .ref a11, .ref a12, .int x11, .ref a13, .int x12, .ref a14, .int x13, .ref a15, .int x14, .ref a16, .int x15, .int x16, .ref a17, .ref a18, .int x17, .int x18, .int x19, .int x20, .int x21, .ref a19, .ref a20, .ref a21, .ref a22, .ref a23, .int x22, .ref a24, .ref a25, .ref a26, .ref a27, .int x23, .ref a28, .int x24, .ref a29, .int x25, .ref a30, .ref a31, .int x26, .int x27, .int x28, .ref a32, .ref a33, .ref a34, .ref a35, .ref a36, .ref a37, .ref a38, .int x29, .int x30, .int x31, .ref a39])), (a1, .inl (c 0, 800, .inl (upd (upd (upd (upd (upd (upd (upd (upd (upd (upd (upd (upd (upd (upd (f0) ((x5 + (0 : Int32)).toNatClampNeg) ((x0 >>> ((24 : Int32) &&& 31)) &&& (255 : Int32))) ((x5 + (1 : Int32)).toNatClampNeg) ((x0 >>> ((16 : Int32) &&& 31)) &&& (255 : Int32))) ((x5 + (2 : Int32)).toNatClampNeg) ((x0 >>> ((8 : Int32) &&& 31)) &&& (255 : Int32))) ((x5 + (3 : Int32)).toNatClampNeg) ((x0 >>> ((0 : Int32) &&& 31)) &&& (255 : Int32))) ((x5 + (4 : Int32)).toNatClampNeg) ((x1 >>> ((24 : Int32) &&& 31)) &&& (255 : Int32))) ((x5 + (5 : Int32)).toNatClampNeg) ((x1 >>> ((16 : Int32) &&& 31)) &&& (255 : Int32))) ((x5 + (6 : Int32)).toNatClampNeg) ((x1 >>> ((8 : Int32) &&& 31)) &&& (255 : Int32))) ((x5 + (7 : Int32)).toNatClampNeg) ((x1 >>> ((0 : Int32) &&& 31)) &&& (255 : Int32))) ((x5 + (8 : Int32)).toNatClampNeg) ((x2 >>> ((24 : Int32) &&& 31)) &&& (255 : Int32))) ((x5 + (9 : Int32)).toNatClampNeg) ((x2 >>> ((16 : Int32) &&& 31)) &&& (255 : Int32))) ((x5 + (10 : Int32)).toNatClampNeg) ((x2 >>> ((8 : Int32) &&& 31)) &&& (255 : Int32))) ((x5 + (11 : Int32)).toNatClampNeg) ((x2 >>> ((0 : Int32) &&& 31)) &&& (255 : Int32))) ((x5 + (12 : Int32)).toNatClampNeg) ((x3 >>> ((24 : Int32) &&& 31)) &&& (255 : Int32))) ((x5 + (13 : Int32)).toNatClampNeg) ((x3 >>> ((16 : Int32) &&& 31)) &&& (255 : Int32)))))] H := hP
  have hD : va_D A [(a0, .inr (10, [.ref a1, .int x5, .int 0, .int x7, .int x8, .int x9, .ref a2, .ref a3, .ref a4, .ref a5, .ref a6, .ref a7, .int x10, .ref a8, .ref a9, .ref a10, .ref a11, .ref a12, .int x11, .ref a13, .int x12, .ref a14, .int x13, .ref a15, .int x14, .ref a16, .int x15, .int x16, .ref a17, .ref a18, .int x17, .int x18, .int x19, .int x20, .int x21, .ref a19, .ref a20, .ref a21, .ref a22, .ref a23, .int x22, .ref a24, .ref a25, .ref a26, .ref a27, .int x23, .ref a28, .int x24, .ref a29, .int x25, .ref a30, .ref a31, .int x26, .int x27, .int x28, .ref a32, .ref a33, .ref a34, .ref a35, .ref a36, .ref a37, .ref a38, .int x29, .int x30, .int x31, .ref a39])), (a1, .inl (c 0, 800, .inl (upd (upd (upd (upd (upd (upd (upd (upd (upd (upd (upd (upd (upd (upd (f0) ((x5 + (0 : Int32)).toNatClampNeg) ((x0 >>> ((24 : Int32) &&& 31)) &&& (255 : Int32))) ((x5 + (1 : Int32)).toNatClampNeg) ((x0 >>> ((16 : Int32) &&& 31)) &&& (255 : Int32))) ((x5 + (2 : Int32)).toNatClampNeg) ((x0 >>> ((8 : Int32) &&& 31)) &&& (255 : Int32))) ((x5 + (3 : Int32)).toNatClampNeg) ((x0 >>> ((0 : Int32) &&& 31)) &&& (255 : Int32))) ((x5 + (4 : Int32)).toNatClampNeg) ((x1 >>> ((24 : Int32) &&& 31)) &&& (255 : Int32))) ((x5 + (5 : Int32)).toNatClampNeg) ((x1 >>> ((16 : Int32) &&& 31)) &&& (255 : Int32))) ((x5 + (6 : Int32)).toNatClampNeg) ((x1 >>> ((8 : Int32) &&& 31)) &&& (255 : Int32))) ((x5 + (7 : Int32)).toNatClampNeg) ((x1 >>> ((0 : Int32) &&& 31)) &&& (255 : Int32))) ((x5 + (8 : Int32)).toNatClampNeg) ((x2 >>> ((24 : Int32) &&& 31)) &&& (255 : Int32))) ((x5 + (9 : Int32)).toNatClampNeg) ((x2 >>> ((16 : Int32) &&& 31)) &&& (255 : Int32))) ((x5 + (10 : Int32)).toNatClampNeg) ((x2 >>> ((8 : Int32) &&& 31)) &&& (255 : Int32))) ((x5 + (11 : Int32)).toNatClampNeg) ((x2 >>> ((0 : Int32) &&& 31)) &&& (255 : Int32))) ((x5 + (12 : Int32)).toNatClampNeg) ((x3 >>> ((24 : Int32) &&& 31)) &&& (255 : Int32))) ((x5 + (13 : Int32)).toNatClampNeg) ((x3 >>> ((16 : Int32) &&& 31)) &&& (255 : Int32)))))] := hD
  refine lv_iinc (v := 14) (lv' := [(6, .int 14), (7, .int x3), (0, .ref a0), (1, .int x0), (2, .int x1), (3, .int x2), (4, .int x3), (5, .int x4)]) hx hb dX10_feed_107 hl (k := 1) rfl (by decide) (by decide) rfl (fun ls hl => ?_)
  refine lv_goto (tgt := 23) hx hb dX10_feed_110 (by decide) ?_
  refine lv_iload hx hb dX10_feed_23 (lv_at hl 0 rfl) ?_
  refine lv_bipush (v := 20) hx hb dX10_feed_25 (by decide) ?_
  refine lv_icmp_ge (tgt := 113) hx hb dX10_feed_27 (by decide) (fun h9 => absurd h9 (by decide)) (fun _ => ?_)
  refine lv_iload hx hb dX10_feed_30 (lv_at hl 0 rfl) ?_
  refine lv_iconst (v := 4) hx hb dX10_feed_32 (by decide) ?_
  refine lv_icmp_ge (tgt := 40) hx hb dX10_feed_33 (by decide) (fun _ => ?_) (fun h9 => absurd (by decide) h9)
  refine lv_iload hx hb dX10_feed_40 (lv_at hl 0 rfl) ?_
  refine lv_bipush (v := 8) hx hb dX10_feed_42 (by decide) ?_
  refine lv_icmp_ge (tgt := 51) hx hb dX10_feed_44 (by decide) (fun _ => ?_) (fun h9 => absurd (by decide) h9)
  refine lv_iload hx hb dX10_feed_51 (lv_at hl 0 rfl) ?_
  refine lv_bipush (v := 12) hx hb dX10_feed_53 (by decide) ?_
  refine lv_icmp_ge (tgt := 62) hx hb dX10_feed_55 (by decide) (fun _ => ?_) (fun h9 => absurd (by decide) h9)
  refine lv_iload hx hb dX10_feed_62 (lv_at hl 0 rfl) ?_
  refine lv_bipush (v := 16) hx hb dX10_feed_64 (by decide) ?_
  refine lv_icmp_ge (tgt := 74) hx hb dX10_feed_66 (by decide) (fun h9 => absurd h9 (by decide)) (fun _ => ?_)
  refine lv_iload hx hb dX10_feed_69 (lv_at hl 6 rfl) ?_
  refine lv_goto (tgt := 76) hx hb dX10_feed_71 (by decide) ?_
  refine lv_istore (lv' := [(7, .int x3), (6, .int 14), (0, .ref a0), (1, .int x0), (2, .int x1), (3, .int x2), (4, .int x3), (5, .int x4)]) hx hb dX10_feed_76 hl (by decide) rfl (fun ls hl => ?_)
  refine lv_aload_n hx hb dX10_feed_78 rfl (lv_at hl 2 rfl) ?_
  refine va_get (D := D) (ci := 10) (v := .ref a1) (C := RX10) (T := TX10) (N := 66) hx hb hts iX10 hown hK hP 0 rfl rfl 0 (by decide) (hts (.fieldLink RX10 7 "ShortTellerModel" "tape" "[I") (List.mem_of_getElem? (i := 3) rfl)) (fun _ h9 => h9) rfl dX10_feed_79 ?_
  refine lv_aload_n hx hb dX10_feed_82 rfl (lv_at hl 2 rfl) ?_
  refine va_get (D := D) (ci := 10) (v := .int x5) (C := RX10) (T := TX10) (N := 66) hx hb hts iX10 hown hK hP 0 rfl rfl 1 (by decide) (hts (.fieldLink RX10 138 "ShortTellerModel" "tapeSize" "I") (List.mem_of_getElem? (i := 2) rfl)) (fun _ h9 => h9) rfl dX10_feed_83 ?_
  refine lv_iload hx hb dX10_feed_86 (lv_at hl 1 rfl) ?_
  refine lv_iadd hx hb dX10_feed_88 ?_
  refine lv_iload hx hb dX10_feed_89 (lv_at hl 0 rfl) ?_
  refine lv_bipush (v := 24) hx hb dX10_feed_91 (by decide) ?_
  refine lv_bipush (v := 8) hx hb dX10_feed_93 (by decide) ?_
  refine lv_iload hx hb dX10_feed_95 (lv_at hl 1 rfl) ?_
  refine lv_iconst (v := 4) hx hb dX10_feed_97 (by decide) ?_
  refine lv_irem hx hb dX10_feed_98 (by decide) ?_
  refine q1_top (v := 2) (by decide) ?_
  refine lv_imul hx hb dX10_feed_99 ?_
  refine q1_top (v := 16) (by decide) ?_
  refine lv_isub hx hb dX10_feed_100 ?_
  refine q1_top (v := 8) (by decide) ?_
  refine lv_ishr hx hb dX10_feed_101 ?_
  refine lv_sipush (v := 255) hx hb dX10_feed_102 (by decide) ?_
  refine lv_iand hx hb dX10_feed_105 ?_
  refine q1_iast (c := c) (K := (x5 + (14 : Int32)).toNatClampNeg) (F := upd (upd (upd (upd (upd (upd (upd (upd (upd (upd (upd (upd (upd (upd (upd (f0) ((x5 + (0 : Int32)).toNatClampNeg) ((x0 >>> ((24 : Int32) &&& 31)) &&& (255 : Int32))) ((x5 + (1 : Int32)).toNatClampNeg) ((x0 >>> ((16 : Int32) &&& 31)) &&& (255 : Int32))) ((x5 + (2 : Int32)).toNatClampNeg) ((x0 >>> ((8 : Int32) &&& 31)) &&& (255 : Int32))) ((x5 + (3 : Int32)).toNatClampNeg) ((x0 >>> ((0 : Int32) &&& 31)) &&& (255 : Int32))) ((x5 + (4 : Int32)).toNatClampNeg) ((x1 >>> ((24 : Int32) &&& 31)) &&& (255 : Int32))) ((x5 + (5 : Int32)).toNatClampNeg) ((x1 >>> ((16 : Int32) &&& 31)) &&& (255 : Int32))) ((x5 + (6 : Int32)).toNatClampNeg) ((x1 >>> ((8 : Int32) &&& 31)) &&& (255 : Int32))) ((x5 + (7 : Int32)).toNatClampNeg) ((x1 >>> ((0 : Int32) &&& 31)) &&& (255 : Int32))) ((x5 + (8 : Int32)).toNatClampNeg) ((x2 >>> ((24 : Int32) &&& 31)) &&& (255 : Int32))) ((x5 + (9 : Int32)).toNatClampNeg) ((x2 >>> ((16 : Int32) &&& 31)) &&& (255 : Int32))) ((x5 + (10 : Int32)).toNatClampNeg) ((x2 >>> ((8 : Int32) &&& 31)) &&& (255 : Int32))) ((x5 + (11 : Int32)).toNatClampNeg) ((x2 >>> ((0 : Int32) &&& 31)) &&& (255 : Int32))) ((x5 + (12 : Int32)).toNatClampNeg) ((x3 >>> ((24 : Int32) &&& 31)) &&& (255 : Int32))) ((x5 + (13 : Int32)).toNatClampNeg) ((x3 >>> ((16 : Int32) &&& 31)) &&& (255 : Int32))) ((x5 + (14 : Int32)).toNatClampNeg) ((x3 >>> ((8 : Int32) &&& 31)) &&& (255 : Int32))) hx hb hK hP hD hS 1 rfl rfl g29 g30 rfl dX10_feed_106 (fun H locs hP hD hS => ?_)
  have hP : va_P D vwCl [(a0, .inr (10, [.ref a1, .int x5, .int 0, .int x7, .int x8, .int x9, .ref a2, .ref a3, .ref a4, .ref a5, .ref a6, .ref a7, .int x10, .ref a8, .ref a9, .ref a10, .ref a11, .ref a12, .int x11, .ref a13, .int x12, .ref a14, .int x13, .ref a15, .int x14, .ref a16, .int x15, .int x16, .ref a17, .ref a18, .int x17, .int x18, .int x19, .int x20, .int x21, .ref a19, .ref a20, .ref a21, .ref a22, .ref a23, .int x22, .ref a24, .ref a25, .ref a26, .ref a27, .int x23, .ref a28, .int x24, .ref a29, .int x25, .ref a30, .ref a31, .int x26, .int x27, .int x28, .ref a32, .ref a33, .ref a34, .ref a35, .ref a36, .ref a37, .ref a38, .int x29, .int x30, .int x31, .ref a39])), (a1, .inl (c 0, 800, .inl (upd (upd (upd (upd (upd (upd (upd (upd (upd (upd (upd (upd (upd (upd (upd (f0) ((x5 + (0 : Int32)).toNatClampNeg) ((x0 >>> ((24 : Int32) &&& 31)) &&& (255 : Int32))) ((x5 + (1 : Int32)).toNatClampNeg) ((x0 >>> ((16 : Int32) &&& 31)) &&& (255 : Int32))) ((x5 + (2 : Int32)).toNatClampNeg) ((x0 >>> ((8 : Int32) &&& 31)) &&& (255 : Int32))) ((x5 + (3 : Int32)).toNatClampNeg) ((x0 >>> ((0 : Int32) &&& 31)) &&& (255 : Int32))) ((x5 + (4 : Int32)).toNatClampNeg) ((x1 >>> ((24 : Int32) &&& 31)) &&& (255 : Int32))) ((x5 + (5 : Int32)).toNatClampNeg) ((x1 >>> ((16 : Int32) &&& 31)) &&& (255 : Int32))) ((x5 + (6 : Int32)).toNatClampNeg) ((x1 >>> ((8 : Int32) &&& 31)) &&& (255 : Int32))) ((x5 + (7 : Int32)).toNatClampNeg) ((x1 >>> ((0 : Int32) &&& 31)) &&& (255 : Int32))) ((x5 + (8 : Int32)).toNatClampNeg) ((x2 >>> ((24 : Int32) &&& 31)) &&& (255 : Int32))) ((x5 + (9 : Int32)).toNatClampNeg) ((x2 >>> ((16 : Int32) &&& 31)) &&& (255 : Int32))) ((x5 + (10 : Int32)).toNatClampNeg) ((x2 >>> ((8 : Int32) &&& 31)) &&& (255 : Int32))) ((x5 + (11 : Int32)).toNatClampNeg) ((x2 >>> ((0 : Int32) &&& 31)) &&& (255 : Int32))) ((x5 + (12 : Int32)).toNatClampNeg) ((x3 >>> ((24 : Int32) &&& 31)) &&& (255 : Int32))) ((x5 + (13 : Int32)).toNatClampNeg) ((x3 >>> ((16 : Int32) &&& 31)) &&& (255 : Int32))) ((x5 + (14 : Int32)).toNatClampNeg) ((x3 >>> ((8 : Int32) &&& 31)) &&& (255 : Int32)))))] H := hP
  have hD : va_D A [(a0, .inr (10, [.ref a1, .int x5, .int 0, .int x7, .int x8, .int x9, .ref a2, .ref a3, .ref a4, .ref a5, .ref a6, .ref a7, .int x10, .ref a8, .ref a9, .ref a10, .ref a11, .ref a12, .int x11, .ref a13, .int x12, .ref a14, .int x13, .ref a15, .int x14, .ref a16, .int x15, .int x16, .ref a17, .ref a18, .int x17, .int x18, .int x19, .int x20, .int x21, .ref a19, .ref a20, .ref a21, .ref a22, .ref a23, .int x22, .ref a24, .ref a25, .ref a26, .ref a27, .int x23, .ref a28, .int x24, .ref a29, .int x25, .ref a30, .ref a31, .int x26, .int x27, .int x28, .ref a32, .ref a33, .ref a34, .ref a35, .ref a36, .ref a37, .ref a38, .int x29, .int x30, .int x31, .ref a39])), (a1, .inl (c 0, 800, .inl (upd (upd (upd (upd (upd (upd (upd (upd (upd (upd (upd (upd (upd (upd (upd (f0) ((x5 + (0 : Int32)).toNatClampNeg) ((x0 >>> ((24 : Int32) &&& 31)) &&& (255 : Int32))) ((x5 + (1 : Int32)).toNatClampNeg) ((x0 >>> ((16 : Int32) &&& 31)) &&& (255 : Int32))) ((x5 + (2 : Int32)).toNatClampNeg) ((x0 >>> ((8 : Int32) &&& 31)) &&& (255 : Int32))) ((x5 + (3 : Int32)).toNatClampNeg) ((x0 >>> ((0 : Int32) &&& 31)) &&& (255 : Int32))) ((x5 + (4 : Int32)).toNatClampNeg) ((x1 >>> ((24 : Int32) &&& 31)) &&& (255 : Int32))) ((x5 + (5 : Int32)).toNatClampNeg) ((x1 >>> ((16 : Int32) &&& 31)) &&& (255 : Int32))) ((x5 + (6 : Int32)).toNatClampNeg) ((x1 >>> ((8 : Int32) &&& 31)) &&& (255 : Int32))) ((x5 + (7 : Int32)).toNatClampNeg) ((x1 >>> ((0 : Int32) &&& 31)) &&& (255 : Int32))) ((x5 + (8 : Int32)).toNatClampNeg) ((x2 >>> ((24 : Int32) &&& 31)) &&& (255 : Int32))) ((x5 + (9 : Int32)).toNatClampNeg) ((x2 >>> ((16 : Int32) &&& 31)) &&& (255 : Int32))) ((x5 + (10 : Int32)).toNatClampNeg) ((x2 >>> ((8 : Int32) &&& 31)) &&& (255 : Int32))) ((x5 + (11 : Int32)).toNatClampNeg) ((x2 >>> ((0 : Int32) &&& 31)) &&& (255 : Int32))) ((x5 + (12 : Int32)).toNatClampNeg) ((x3 >>> ((24 : Int32) &&& 31)) &&& (255 : Int32))) ((x5 + (13 : Int32)).toNatClampNeg) ((x3 >>> ((16 : Int32) &&& 31)) &&& (255 : Int32))) ((x5 + (14 : Int32)).toNatClampNeg) ((x3 >>> ((8 : Int32) &&& 31)) &&& (255 : Int32)))))] := hD
  refine lv_iinc (v := 15) (lv' := [(6, .int 15), (7, .int x3), (0, .ref a0), (1, .int x0), (2, .int x1), (3, .int x2), (4, .int x3), (5, .int x4)]) hx hb dX10_feed_107 hl (k := 1) rfl (by decide) (by decide) rfl (fun ls hl => ?_)
  refine lv_goto (tgt := 23) hx hb dX10_feed_110 (by decide) ?_
  refine lv_iload hx hb dX10_feed_23 (lv_at hl 0 rfl) ?_
  refine lv_bipush (v := 20) hx hb dX10_feed_25 (by decide) ?_
  refine lv_icmp_ge (tgt := 113) hx hb dX10_feed_27 (by decide) (fun h9 => absurd h9 (by decide)) (fun _ => ?_)
  refine lv_iload hx hb dX10_feed_30 (lv_at hl 0 rfl) ?_
  refine lv_iconst (v := 4) hx hb dX10_feed_32 (by decide) ?_
  refine lv_icmp_ge (tgt := 40) hx hb dX10_feed_33 (by decide) (fun _ => ?_) (fun h9 => absurd (by decide) h9)
  refine lv_iload hx hb dX10_feed_40 (lv_at hl 0 rfl) ?_
  refine lv_bipush (v := 8) hx hb dX10_feed_42 (by decide) ?_
  refine lv_icmp_ge (tgt := 51) hx hb dX10_feed_44 (by decide) (fun _ => ?_) (fun h9 => absurd (by decide) h9)
  refine lv_iload hx hb dX10_feed_51 (lv_at hl 0 rfl) ?_
  refine lv_bipush (v := 12) hx hb dX10_feed_53 (by decide) ?_
  refine lv_icmp_ge (tgt := 62) hx hb dX10_feed_55 (by decide) (fun _ => ?_) (fun h9 => absurd (by decide) h9)
  refine lv_iload hx hb dX10_feed_62 (lv_at hl 0 rfl) ?_
  refine lv_bipush (v := 16) hx hb dX10_feed_64 (by decide) ?_
  refine lv_icmp_ge (tgt := 74) hx hb dX10_feed_66 (by decide) (fun h9 => absurd h9 (by decide)) (fun _ => ?_)
  refine lv_iload hx hb dX10_feed_69 (lv_at hl 6 rfl) ?_
  refine lv_goto (tgt := 76) hx hb dX10_feed_71 (by decide) ?_
  refine lv_istore (lv' := [(7, .int x3), (6, .int 15), (0, .ref a0), (1, .int x0), (2, .int x1), (3, .int x2), (4, .int x3), (5, .int x4)]) hx hb dX10_feed_76 hl (by decide) rfl (fun ls hl => ?_)
  refine lv_aload_n hx hb dX10_feed_78 rfl (lv_at hl 2 rfl) ?_
  refine va_get (D := D) (ci := 10) (v := .ref a1) (C := RX10) (T := TX10) (N := 66) hx hb hts iX10 hown hK hP 0 rfl rfl 0 (by decide) (hts (.fieldLink RX10 7 "ShortTellerModel" "tape" "[I") (List.mem_of_getElem? (i := 3) rfl)) (fun _ h9 => h9) rfl dX10_feed_79 ?_
  refine lv_aload_n hx hb dX10_feed_82 rfl (lv_at hl 2 rfl) ?_
  refine va_get (D := D) (ci := 10) (v := .int x5) (C := RX10) (T := TX10) (N := 66) hx hb hts iX10 hown hK hP 0 rfl rfl 1 (by decide) (hts (.fieldLink RX10 138 "ShortTellerModel" "tapeSize" "I") (List.mem_of_getElem? (i := 2) rfl)) (fun _ h9 => h9) rfl dX10_feed_83 ?_
  refine lv_iload hx hb dX10_feed_86 (lv_at hl 1 rfl) ?_
  refine lv_iadd hx hb dX10_feed_88 ?_
  refine lv_iload hx hb dX10_feed_89 (lv_at hl 0 rfl) ?_
  refine lv_bipush (v := 24) hx hb dX10_feed_91 (by decide) ?_
  refine lv_bipush (v := 8) hx hb dX10_feed_93 (by decide) ?_
  refine lv_iload hx hb dX10_feed_95 (lv_at hl 1 rfl) ?_
  refine lv_iconst (v := 4) hx hb dX10_feed_97 (by decide) ?_
  refine lv_irem hx hb dX10_feed_98 (by decide) ?_
  refine q1_top (v := 3) (by decide) ?_
  refine lv_imul hx hb dX10_feed_99 ?_
  refine q1_top (v := 24) (by decide) ?_
  refine lv_isub hx hb dX10_feed_100 ?_
  refine q1_top (v := 0) (by decide) ?_
  refine lv_ishr hx hb dX10_feed_101 ?_
  refine lv_sipush (v := 255) hx hb dX10_feed_102 (by decide) ?_
  refine lv_iand hx hb dX10_feed_105 ?_
  refine q1_iast (c := c) (K := (x5 + (15 : Int32)).toNatClampNeg) (F := upd (upd (upd (upd (upd (upd (upd (upd (upd (upd (upd (upd (upd (upd (upd (upd (f0) ((x5 + (0 : Int32)).toNatClampNeg) ((x0 >>> ((24 : Int32) &&& 31)) &&& (255 : Int32))) ((x5 + (1 : Int32)).toNatClampNeg) ((x0 >>> ((16 : Int32) &&& 31)) &&& (255 : Int32))) ((x5 + (2 : Int32)).toNatClampNeg) ((x0 >>> ((8 : Int32) &&& 31)) &&& (255 : Int32))) ((x5 + (3 : Int32)).toNatClampNeg) ((x0 >>> ((0 : Int32) &&& 31)) &&& (255 : Int32))) ((x5 + (4 : Int32)).toNatClampNeg) ((x1 >>> ((24 : Int32) &&& 31)) &&& (255 : Int32))) ((x5 + (5 : Int32)).toNatClampNeg) ((x1 >>> ((16 : Int32) &&& 31)) &&& (255 : Int32))) ((x5 + (6 : Int32)).toNatClampNeg) ((x1 >>> ((8 : Int32) &&& 31)) &&& (255 : Int32))) ((x5 + (7 : Int32)).toNatClampNeg) ((x1 >>> ((0 : Int32) &&& 31)) &&& (255 : Int32))) ((x5 + (8 : Int32)).toNatClampNeg) ((x2 >>> ((24 : Int32) &&& 31)) &&& (255 : Int32))) ((x5 + (9 : Int32)).toNatClampNeg) ((x2 >>> ((16 : Int32) &&& 31)) &&& (255 : Int32))) ((x5 + (10 : Int32)).toNatClampNeg) ((x2 >>> ((8 : Int32) &&& 31)) &&& (255 : Int32))) ((x5 + (11 : Int32)).toNatClampNeg) ((x2 >>> ((0 : Int32) &&& 31)) &&& (255 : Int32))) ((x5 + (12 : Int32)).toNatClampNeg) ((x3 >>> ((24 : Int32) &&& 31)) &&& (255 : Int32))) ((x5 + (13 : Int32)).toNatClampNeg) ((x3 >>> ((16 : Int32) &&& 31)) &&& (255 : Int32))) ((x5 + (14 : Int32)).toNatClampNeg) ((x3 >>> ((8 : Int32) &&& 31)) &&& (255 : Int32))) ((x5 + (15 : Int32)).toNatClampNeg) ((x3 >>> ((0 : Int32) &&& 31)) &&& (255 : Int32))) hx hb hK hP hD hS 1 rfl rfl g31 g32 rfl dX10_feed_106 (fun H locs hP hD hS => ?_)
  have hP : va_P D vwCl [(a0, .inr (10, [.ref a1, .int x5, .int 0, .int x7, .int x8, .int x9, .ref a2, .ref a3, .ref a4, .ref a5, .ref a6, .ref a7, .int x10, .ref a8, .ref a9, .ref a10, .ref a11, .ref a12, .int x11, .ref a13, .int x12, .ref a14, .int x13, .ref a15, .int x14, .ref a16, .int x15, .int x16, .ref a17, .ref a18, .int x17, .int x18, .int x19, .int x20, .int x21, .ref a19, .ref a20, .ref a21, .ref a22, .ref a23, .int x22, .ref a24, .ref a25, .ref a26, .ref a27, .int x23, .ref a28, .int x24, .ref a29, .int x25, .ref a30, .ref a31, .int x26, .int x27, .int x28, .ref a32, .ref a33, .ref a34, .ref a35, .ref a36, .ref a37, .ref a38, .int x29, .int x30, .int x31, .ref a39])), (a1, .inl (c 0, 800, .inl (upd (upd (upd (upd (upd (upd (upd (upd (upd (upd (upd (upd (upd (upd (upd (upd (f0) ((x5 + (0 : Int32)).toNatClampNeg) ((x0 >>> ((24 : Int32) &&& 31)) &&& (255 : Int32))) ((x5 + (1 : Int32)).toNatClampNeg) ((x0 >>> ((16 : Int32) &&& 31)) &&& (255 : Int32))) ((x5 + (2 : Int32)).toNatClampNeg) ((x0 >>> ((8 : Int32) &&& 31)) &&& (255 : Int32))) ((x5 + (3 : Int32)).toNatClampNeg) ((x0 >>> ((0 : Int32) &&& 31)) &&& (255 : Int32))) ((x5 + (4 : Int32)).toNatClampNeg) ((x1 >>> ((24 : Int32) &&& 31)) &&& (255 : Int32))) ((x5 + (5 : Int32)).toNatClampNeg) ((x1 >>> ((16 : Int32) &&& 31)) &&& (255 : Int32))) ((x5 + (6 : Int32)).toNatClampNeg) ((x1 >>> ((8 : Int32) &&& 31)) &&& (255 : Int32))) ((x5 + (7 : Int32)).toNatClampNeg) ((x1 >>> ((0 : Int32) &&& 31)) &&& (255 : Int32))) ((x5 + (8 : Int32)).toNatClampNeg) ((x2 >>> ((24 : Int32) &&& 31)) &&& (255 : Int32))) ((x5 + (9 : Int32)).toNatClampNeg) ((x2 >>> ((16 : Int32) &&& 31)) &&& (255 : Int32))) ((x5 + (10 : Int32)).toNatClampNeg) ((x2 >>> ((8 : Int32) &&& 31)) &&& (255 : Int32))) ((x5 + (11 : Int32)).toNatClampNeg) ((x2 >>> ((0 : Int32) &&& 31)) &&& (255 : Int32))) ((x5 + (12 : Int32)).toNatClampNeg) ((x3 >>> ((24 : Int32) &&& 31)) &&& (255 : Int32))) ((x5 + (13 : Int32)).toNatClampNeg) ((x3 >>> ((16 : Int32) &&& 31)) &&& (255 : Int32))) ((x5 + (14 : Int32)).toNatClampNeg) ((x3 >>> ((8 : Int32) &&& 31)) &&& (255 : Int32))) ((x5 + (15 : Int32)).toNatClampNeg) ((x3 >>> ((0 : Int32) &&& 31)) &&& (255 : Int32)))))] H := hP
  have hD : va_D A [(a0, .inr (10, [.ref a1, .int x5, .int 0, .int x7, .int x8, .int x9, .ref a2, .ref a3, .ref a4, .ref a5, .ref a6, .ref a7, .int x10, .ref a8, .ref a9, .ref a10, .ref a11, .ref a12, .int x11, .ref a13, .int x12, .ref a14, .int x13, .ref a15, .int x14, .ref a16, .int x15, .int x16, .ref a17, .ref a18, .int x17, .int x18, .int x19, .int x20, .int x21, .ref a19, .ref a20, .ref a21, .ref a22, .ref a23, .int x22, .ref a24, .ref a25, .ref a26, .ref a27, .int x23, .ref a28, .int x24, .ref a29, .int x25, .ref a30, .ref a31, .int x26, .int x27, .int x28, .ref a32, .ref a33, .ref a34, .ref a35, .ref a36, .ref a37, .ref a38, .int x29, .int x30, .int x31, .ref a39])), (a1, .inl (c 0, 800, .inl (upd (upd (upd (upd (upd (upd (upd (upd (upd (upd (upd (upd (upd (upd (upd (upd (f0) ((x5 + (0 : Int32)).toNatClampNeg) ((x0 >>> ((24 : Int32) &&& 31)) &&& (255 : Int32))) ((x5 + (1 : Int32)).toNatClampNeg) ((x0 >>> ((16 : Int32) &&& 31)) &&& (255 : Int32))) ((x5 + (2 : Int32)).toNatClampNeg) ((x0 >>> ((8 : Int32) &&& 31)) &&& (255 : Int32))) ((x5 + (3 : Int32)).toNatClampNeg) ((x0 >>> ((0 : Int32) &&& 31)) &&& (255 : Int32))) ((x5 + (4 : Int32)).toNatClampNeg) ((x1 >>> ((24 : Int32) &&& 31)) &&& (255 : Int32))) ((x5 + (5 : Int32)).toNatClampNeg) ((x1 >>> ((16 : Int32) &&& 31)) &&& (255 : Int32))) ((x5 + (6 : Int32)).toNatClampNeg) ((x1 >>> ((8 : Int32) &&& 31)) &&& (255 : Int32))) ((x5 + (7 : Int32)).toNatClampNeg) ((x1 >>> ((0 : Int32) &&& 31)) &&& (255 : Int32))) ((x5 + (8 : Int32)).toNatClampNeg) ((x2 >>> ((24 : Int32) &&& 31)) &&& (255 : Int32))) ((x5 + (9 : Int32)).toNatClampNeg) ((x2 >>> ((16 : Int32) &&& 31)) &&& (255 : Int32))) ((x5 + (10 : Int32)).toNatClampNeg) ((x2 >>> ((8 : Int32) &&& 31)) &&& (255 : Int32))) ((x5 + (11 : Int32)).toNatClampNeg) ((x2 >>> ((0 : Int32) &&& 31)) &&& (255 : Int32))) ((x5 + (12 : Int32)).toNatClampNeg) ((x3 >>> ((24 : Int32) &&& 31)) &&& (255 : Int32))) ((x5 + (13 : Int32)).toNatClampNeg) ((x3 >>> ((16 : Int32) &&& 31)) &&& (255 : Int32))) ((x5 + (14 : Int32)).toNatClampNeg) ((x3 >>> ((8 : Int32) &&& 31)) &&& (255 : Int32))) ((x5 + (15 : Int32)).toNatClampNeg) ((x3 >>> ((0 : Int32) &&& 31)) &&& (255 : Int32)))))] := hD
  refine lv_iinc (v := 16) (lv' := [(6, .int 16), (7, .int x3), (0, .ref a0), (1, .int x0), (2, .int x1), (3, .int x2), (4, .int x3), (5, .int x4)]) hx hb dX10_feed_107 hl (k := 1) rfl (by decide) (by decide) rfl (fun ls hl => ?_)
  refine lv_goto (tgt := 23) hx hb dX10_feed_110 (by decide) ?_
  refine lv_iload hx hb dX10_feed_23 (lv_at hl 0 rfl) ?_
  refine lv_bipush (v := 20) hx hb dX10_feed_25 (by decide) ?_
  refine lv_icmp_ge (tgt := 113) hx hb dX10_feed_27 (by decide) (fun h9 => absurd h9 (by decide)) (fun _ => ?_)
  refine lv_iload hx hb dX10_feed_30 (lv_at hl 0 rfl) ?_
  refine lv_iconst (v := 4) hx hb dX10_feed_32 (by decide) ?_
  refine lv_icmp_ge (tgt := 40) hx hb dX10_feed_33 (by decide) (fun _ => ?_) (fun h9 => absurd (by decide) h9)
  refine lv_iload hx hb dX10_feed_40 (lv_at hl 0 rfl) ?_
  refine lv_bipush (v := 8) hx hb dX10_feed_42 (by decide) ?_
  refine lv_icmp_ge (tgt := 51) hx hb dX10_feed_44 (by decide) (fun _ => ?_) (fun h9 => absurd (by decide) h9)
  refine lv_iload hx hb dX10_feed_51 (lv_at hl 0 rfl) ?_
  refine lv_bipush (v := 12) hx hb dX10_feed_53 (by decide) ?_
  refine lv_icmp_ge (tgt := 62) hx hb dX10_feed_55 (by decide) (fun _ => ?_) (fun h9 => absurd (by decide) h9)
  refine lv_iload hx hb dX10_feed_62 (lv_at hl 0 rfl) ?_
  refine lv_bipush (v := 16) hx hb dX10_feed_64 (by decide) ?_
  refine lv_icmp_ge (tgt := 74) hx hb dX10_feed_66 (by decide) (fun _ => ?_) (fun h9 => absurd (by decide) h9)
  refine lv_iload hx hb dX10_feed_74 (lv_at hl 7 rfl) ?_
  refine lv_istore (lv' := [(7, .int x4), (6, .int 16), (0, .ref a0), (1, .int x0), (2, .int x1), (3, .int x2), (4, .int x3), (5, .int x4)]) hx hb dX10_feed_76 hl (by decide) rfl (fun ls hl => ?_)
  refine lv_aload_n hx hb dX10_feed_78 rfl (lv_at hl 2 rfl) ?_
  refine va_get (D := D) (ci := 10) (v := .ref a1) (C := RX10) (T := TX10) (N := 66) hx hb hts iX10 hown hK hP 0 rfl rfl 0 (by decide) (hts (.fieldLink RX10 7 "ShortTellerModel" "tape" "[I") (List.mem_of_getElem? (i := 3) rfl)) (fun _ h9 => h9) rfl dX10_feed_79 ?_
  refine lv_aload_n hx hb dX10_feed_82 rfl (lv_at hl 2 rfl) ?_
  refine va_get (D := D) (ci := 10) (v := .int x5) (C := RX10) (T := TX10) (N := 66) hx hb hts iX10 hown hK hP 0 rfl rfl 1 (by decide) (hts (.fieldLink RX10 138 "ShortTellerModel" "tapeSize" "I") (List.mem_of_getElem? (i := 2) rfl)) (fun _ h9 => h9) rfl dX10_feed_83 ?_
  refine lv_iload hx hb dX10_feed_86 (lv_at hl 1 rfl) ?_
  refine lv_iadd hx hb dX10_feed_88 ?_
  refine lv_iload hx hb dX10_feed_89 (lv_at hl 0 rfl) ?_
  refine lv_bipush (v := 24) hx hb dX10_feed_91 (by decide) ?_
  refine lv_bipush (v := 8) hx hb dX10_feed_93 (by decide) ?_
  refine lv_iload hx hb dX10_feed_95 (lv_at hl 1 rfl) ?_
  refine lv_iconst (v := 4) hx hb dX10_feed_97 (by decide) ?_
  refine lv_irem hx hb dX10_feed_98 (by decide) ?_
  refine q1_top (v := 0) (by decide) ?_
  refine lv_imul hx hb dX10_feed_99 ?_
  refine q1_top (v := 0) (by decide) ?_
  refine lv_isub hx hb dX10_feed_100 ?_
  refine q1_top (v := 24) (by decide) ?_
  refine lv_ishr hx hb dX10_feed_101 ?_
  refine lv_sipush (v := 255) hx hb dX10_feed_102 (by decide) ?_
  refine lv_iand hx hb dX10_feed_105 ?_
  refine q1_iast (c := c) (K := (x5 + (16 : Int32)).toNatClampNeg) (F := upd (upd (upd (upd (upd (upd (upd (upd (upd (upd (upd (upd (upd (upd (upd (upd (upd (f0) ((x5 + (0 : Int32)).toNatClampNeg) ((x0 >>> ((24 : Int32) &&& 31)) &&& (255 : Int32))) ((x5 + (1 : Int32)).toNatClampNeg) ((x0 >>> ((16 : Int32) &&& 31)) &&& (255 : Int32))) ((x5 + (2 : Int32)).toNatClampNeg) ((x0 >>> ((8 : Int32) &&& 31)) &&& (255 : Int32))) ((x5 + (3 : Int32)).toNatClampNeg) ((x0 >>> ((0 : Int32) &&& 31)) &&& (255 : Int32))) ((x5 + (4 : Int32)).toNatClampNeg) ((x1 >>> ((24 : Int32) &&& 31)) &&& (255 : Int32))) ((x5 + (5 : Int32)).toNatClampNeg) ((x1 >>> ((16 : Int32) &&& 31)) &&& (255 : Int32))) ((x5 + (6 : Int32)).toNatClampNeg) ((x1 >>> ((8 : Int32) &&& 31)) &&& (255 : Int32))) ((x5 + (7 : Int32)).toNatClampNeg) ((x1 >>> ((0 : Int32) &&& 31)) &&& (255 : Int32))) ((x5 + (8 : Int32)).toNatClampNeg) ((x2 >>> ((24 : Int32) &&& 31)) &&& (255 : Int32))) ((x5 + (9 : Int32)).toNatClampNeg) ((x2 >>> ((16 : Int32) &&& 31)) &&& (255 : Int32))) ((x5 + (10 : Int32)).toNatClampNeg) ((x2 >>> ((8 : Int32) &&& 31)) &&& (255 : Int32))) ((x5 + (11 : Int32)).toNatClampNeg) ((x2 >>> ((0 : Int32) &&& 31)) &&& (255 : Int32))) ((x5 + (12 : Int32)).toNatClampNeg) ((x3 >>> ((24 : Int32) &&& 31)) &&& (255 : Int32))) ((x5 + (13 : Int32)).toNatClampNeg) ((x3 >>> ((16 : Int32) &&& 31)) &&& (255 : Int32))) ((x5 + (14 : Int32)).toNatClampNeg) ((x3 >>> ((8 : Int32) &&& 31)) &&& (255 : Int32))) ((x5 + (15 : Int32)).toNatClampNeg) ((x3 >>> ((0 : Int32) &&& 31)) &&& (255 : Int32))) ((x5 + (16 : Int32)).toNatClampNeg) ((x4 >>> ((24 : Int32) &&& 31)) &&& (255 : Int32))) hx hb hK hP hD hS 1 rfl rfl g33 g34 rfl dX10_feed_106 (fun H locs hP hD hS => ?_)
  have hP : va_P D vwCl [(a0, .inr (10, [.ref a1, .int x5, .int 0, .int x7, .int x8, .int x9, .ref a2, .ref a3, .ref a4, .ref a5, .ref a6, .ref a7, .int x10, .ref a8, .ref a9, .ref a10, .ref a11, .ref a12, .int x11, .ref a13, .int x12, .ref a14, .int x13, .ref a15, .int x14, .ref a16, .int x15, .int x16, .ref a17, .ref a18, .int x17, .int x18, .int x19, .int x20, .int x21, .ref a19, .ref a20, .ref a21, .ref a22, .ref a23, .int x22, .ref a24, .ref a25, .ref a26, .ref a27, .int x23, .ref a28, .int x24, .ref a29, .int x25, .ref a30, .ref a31, .int x26, .int x27, .int x28, .ref a32, .ref a33, .ref a34, .ref a35, .ref a36, .ref a37, .ref a38, .int x29, .int x30, .int x31, .ref a39])), (a1, .inl (c 0, 800, .inl (upd (upd (upd (upd (upd (upd (upd (upd (upd (upd (upd (upd (upd (upd (upd (upd (upd (f0) ((x5 + (0 : Int32)).toNatClampNeg) ((x0 >>> ((24 : Int32) &&& 31)) &&& (255 : Int32))) ((x5 + (1 : Int32)).toNatClampNeg) ((x0 >>> ((16 : Int32) &&& 31)) &&& (255 : Int32))) ((x5 + (2 : Int32)).toNatClampNeg) ((x0 >>> ((8 : Int32) &&& 31)) &&& (255 : Int32))) ((x5 + (3 : Int32)).toNatClampNeg) ((x0 >>> ((0 : Int32) &&& 31)) &&& (255 : Int32))) ((x5 + (4 : Int32)).toNatClampNeg) ((x1 >>> ((24 : Int32) &&& 31)) &&& (255 : Int32))) ((x5 + (5 : Int32)).toNatClampNeg) ((x1 >>> ((16 : Int32) &&& 31)) &&& (255 : Int32))) ((x5 + (6 : Int32)).toNatClampNeg) ((x1 >>> ((8 : Int32) &&& 31)) &&& (255 : Int32))) ((x5 + (7 : Int32)).toNatClampNeg) ((x1 >>> ((0 : Int32) &&& 31)) &&& (255 : Int32))) ((x5 + (8 : Int32)).toNatClampNeg) ((x2 >>> ((24 : Int32) &&& 31)) &&& (255 : Int32))) ((x5 + (9 : Int32)).toNatClampNeg) ((x2 >>> ((16 : Int32) &&& 31)) &&& (255 : Int32))) ((x5 + (10 : Int32)).toNatClampNeg) ((x2 >>> ((8 : Int32) &&& 31)) &&& (255 : Int32))) ((x5 + (11 : Int32)).toNatClampNeg) ((x2 >>> ((0 : Int32) &&& 31)) &&& (255 : Int32))) ((x5 + (12 : Int32)).toNatClampNeg) ((x3 >>> ((24 : Int32) &&& 31)) &&& (255 : Int32))) ((x5 + (13 : Int32)).toNatClampNeg) ((x3 >>> ((16 : Int32) &&& 31)) &&& (255 : Int32))) ((x5 + (14 : Int32)).toNatClampNeg) ((x3 >>> ((8 : Int32) &&& 31)) &&& (255 : Int32))) ((x5 + (15 : Int32)).toNatClampNeg) ((x3 >>> ((0 : Int32) &&& 31)) &&& (255 : Int32))) ((x5 + (16 : Int32)).toNatClampNeg) ((x4 >>> ((24 : Int32) &&& 31)) &&& (255 : Int32)))))] H := hP
  have hD : va_D A [(a0, .inr (10, [.ref a1, .int x5, .int 0, .int x7, .int x8, .int x9, .ref a2, .ref a3, .ref a4, .ref a5, .ref a6, .ref a7, .int x10, .ref a8, .ref a9, .ref a10, .ref a11, .ref a12, .int x11, .ref a13, .int x12, .ref a14, .int x13, .ref a15, .int x14, .ref a16, .int x15, .int x16, .ref a17, .ref a18, .int x17, .int x18, .int x19, .int x20, .int x21, .ref a19, .ref a20, .ref a21, .ref a22, .ref a23, .int x22, .ref a24, .ref a25, .ref a26, .ref a27, .int x23, .ref a28, .int x24, .ref a29, .int x25, .ref a30, .ref a31, .int x26, .int x27, .int x28, .ref a32, .ref a33, .ref a34, .ref a35, .ref a36, .ref a37, .ref a38, .int x29, .int x30, .int x31, .ref a39])), (a1, .inl (c 0, 800, .inl (upd (upd (upd (upd (upd (upd (upd (upd (upd (upd (upd (upd (upd (upd (upd (upd (upd (f0) ((x5 + (0 : Int32)).toNatClampNeg) ((x0 >>> ((24 : Int32) &&& 31)) &&& (255 : Int32))) ((x5 + (1 : Int32)).toNatClampNeg) ((x0 >>> ((16 : Int32) &&& 31)) &&& (255 : Int32))) ((x5 + (2 : Int32)).toNatClampNeg) ((x0 >>> ((8 : Int32) &&& 31)) &&& (255 : Int32))) ((x5 + (3 : Int32)).toNatClampNeg) ((x0 >>> ((0 : Int32) &&& 31)) &&& (255 : Int32))) ((x5 + (4 : Int32)).toNatClampNeg) ((x1 >>> ((24 : Int32) &&& 31)) &&& (255 : Int32))) ((x5 + (5 : Int32)).toNatClampNeg) ((x1 >>> ((16 : Int32) &&& 31)) &&& (255 : Int32))) ((x5 + (6 : Int32)).toNatClampNeg) ((x1 >>> ((8 : Int32) &&& 31)) &&& (255 : Int32))) ((x5 + (7 : Int32)).toNatClampNeg) ((x1 >>> ((0 : Int32) &&& 31)) &&& (255 : Int32))) ((x5 + (8 : Int32)).toNatClampNeg) ((x2 >>> ((24 : Int32) &&& 31)) &&& (255 : Int32))) ((x5 + (9 : Int32)).toNatClampNeg) ((x2 >>> ((16 : Int32) &&& 31)) &&& (255 : Int32))) ((x5 + (10 : Int32)).toNatClampNeg) ((x2 >>> ((8 : Int32) &&& 31)) &&& (255 : Int32))) ((x5 + (11 : Int32)).toNatClampNeg) ((x2 >>> ((0 : Int32) &&& 31)) &&& (255 : Int32))) ((x5 + (12 : Int32)).toNatClampNeg) ((x3 >>> ((24 : Int32) &&& 31)) &&& (255 : Int32))) ((x5 + (13 : Int32)).toNatClampNeg) ((x3 >>> ((16 : Int32) &&& 31)) &&& (255 : Int32))) ((x5 + (14 : Int32)).toNatClampNeg) ((x3 >>> ((8 : Int32) &&& 31)) &&& (255 : Int32))) ((x5 + (15 : Int32)).toNatClampNeg) ((x3 >>> ((0 : Int32) &&& 31)) &&& (255 : Int32))) ((x5 + (16 : Int32)).toNatClampNeg) ((x4 >>> ((24 : Int32) &&& 31)) &&& (255 : Int32)))))] := hD
  refine lv_iinc (v := 17) (lv' := [(6, .int 17), (7, .int x4), (0, .ref a0), (1, .int x0), (2, .int x1), (3, .int x2), (4, .int x3), (5, .int x4)]) hx hb dX10_feed_107 hl (k := 1) rfl (by decide) (by decide) rfl (fun ls hl => ?_)
  refine lv_goto (tgt := 23) hx hb dX10_feed_110 (by decide) ?_
  refine lv_iload hx hb dX10_feed_23 (lv_at hl 0 rfl) ?_
  refine lv_bipush (v := 20) hx hb dX10_feed_25 (by decide) ?_
  refine lv_icmp_ge (tgt := 113) hx hb dX10_feed_27 (by decide) (fun h9 => absurd h9 (by decide)) (fun _ => ?_)
  refine lv_iload hx hb dX10_feed_30 (lv_at hl 0 rfl) ?_
  refine lv_iconst (v := 4) hx hb dX10_feed_32 (by decide) ?_
  refine lv_icmp_ge (tgt := 40) hx hb dX10_feed_33 (by decide) (fun _ => ?_) (fun h9 => absurd (by decide) h9)
  refine lv_iload hx hb dX10_feed_40 (lv_at hl 0 rfl) ?_
  refine lv_bipush (v := 8) hx hb dX10_feed_42 (by decide) ?_
  refine lv_icmp_ge (tgt := 51) hx hb dX10_feed_44 (by decide) (fun _ => ?_) (fun h9 => absurd (by decide) h9)
  refine lv_iload hx hb dX10_feed_51 (lv_at hl 0 rfl) ?_
  refine lv_bipush (v := 12) hx hb dX10_feed_53 (by decide) ?_
  refine lv_icmp_ge (tgt := 62) hx hb dX10_feed_55 (by decide) (fun _ => ?_) (fun h9 => absurd (by decide) h9)
  refine lv_iload hx hb dX10_feed_62 (lv_at hl 0 rfl) ?_
  refine lv_bipush (v := 16) hx hb dX10_feed_64 (by decide) ?_
  refine lv_icmp_ge (tgt := 74) hx hb dX10_feed_66 (by decide) (fun _ => ?_) (fun h9 => absurd (by decide) h9)
  refine lv_iload hx hb dX10_feed_74 (lv_at hl 7 rfl) ?_
  refine lv_istore (lv' := [(7, .int x4), (6, .int 17), (0, .ref a0), (1, .int x0), (2, .int x1), (3, .int x2), (4, .int x3), (5, .int x4)]) hx hb dX10_feed_76 hl (by decide) rfl (fun ls hl => ?_)
  refine lv_aload_n hx hb dX10_feed_78 rfl (lv_at hl 2 rfl) ?_
  refine va_get (D := D) (ci := 10) (v := .ref a1) (C := RX10) (T := TX10) (N := 66) hx hb hts iX10 hown hK hP 0 rfl rfl 0 (by decide) (hts (.fieldLink RX10 7 "ShortTellerModel" "tape" "[I") (List.mem_of_getElem? (i := 3) rfl)) (fun _ h9 => h9) rfl dX10_feed_79 ?_
  refine lv_aload_n hx hb dX10_feed_82 rfl (lv_at hl 2 rfl) ?_
  refine va_get (D := D) (ci := 10) (v := .int x5) (C := RX10) (T := TX10) (N := 66) hx hb hts iX10 hown hK hP 0 rfl rfl 1 (by decide) (hts (.fieldLink RX10 138 "ShortTellerModel" "tapeSize" "I") (List.mem_of_getElem? (i := 2) rfl)) (fun _ h9 => h9) rfl dX10_feed_83 ?_
  refine lv_iload hx hb dX10_feed_86 (lv_at hl 1 rfl) ?_
  refine lv_iadd hx hb dX10_feed_88 ?_
  refine lv_iload hx hb dX10_feed_89 (lv_at hl 0 rfl) ?_
  refine lv_bipush (v := 24) hx hb dX10_feed_91 (by decide) ?_
  refine lv_bipush (v := 8) hx hb dX10_feed_93 (by decide) ?_
  refine lv_iload hx hb dX10_feed_95 (lv_at hl 1 rfl) ?_
  refine lv_iconst (v := 4) hx hb dX10_feed_97 (by decide) ?_
  refine lv_irem hx hb dX10_feed_98 (by decide) ?_
  refine q1_top (v := 1) (by decide) ?_
  refine lv_imul hx hb dX10_feed_99 ?_
  refine q1_top (v := 8) (by decide) ?_
  refine lv_isub hx hb dX10_feed_100 ?_
  refine q1_top (v := 16) (by decide) ?_
  refine lv_ishr hx hb dX10_feed_101 ?_
  refine lv_sipush (v := 255) hx hb dX10_feed_102 (by decide) ?_
  refine lv_iand hx hb dX10_feed_105 ?_
  refine q1_iast (c := c) (K := (x5 + (17 : Int32)).toNatClampNeg) (F := upd (upd (upd (upd (upd (upd (upd (upd (upd (upd (upd (upd (upd (upd (upd (upd (upd (upd (f0) ((x5 + (0 : Int32)).toNatClampNeg) ((x0 >>> ((24 : Int32) &&& 31)) &&& (255 : Int32))) ((x5 + (1 : Int32)).toNatClampNeg) ((x0 >>> ((16 : Int32) &&& 31)) &&& (255 : Int32))) ((x5 + (2 : Int32)).toNatClampNeg) ((x0 >>> ((8 : Int32) &&& 31)) &&& (255 : Int32))) ((x5 + (3 : Int32)).toNatClampNeg) ((x0 >>> ((0 : Int32) &&& 31)) &&& (255 : Int32))) ((x5 + (4 : Int32)).toNatClampNeg) ((x1 >>> ((24 : Int32) &&& 31)) &&& (255 : Int32))) ((x5 + (5 : Int32)).toNatClampNeg) ((x1 >>> ((16 : Int32) &&& 31)) &&& (255 : Int32))) ((x5 + (6 : Int32)).toNatClampNeg) ((x1 >>> ((8 : Int32) &&& 31)) &&& (255 : Int32))) ((x5 + (7 : Int32)).toNatClampNeg) ((x1 >>> ((0 : Int32) &&& 31)) &&& (255 : Int32))) ((x5 + (8 : Int32)).toNatClampNeg) ((x2 >>> ((24 : Int32) &&& 31)) &&& (255 : Int32))) ((x5 + (9 : Int32)).toNatClampNeg) ((x2 >>> ((16 : Int32) &&& 31)) &&& (255 : Int32))) ((x5 + (10 : Int32)).toNatClampNeg) ((x2 >>> ((8 : Int32) &&& 31)) &&& (255 : Int32))) ((x5 + (11 : Int32)).toNatClampNeg) ((x2 >>> ((0 : Int32) &&& 31)) &&& (255 : Int32))) ((x5 + (12 : Int32)).toNatClampNeg) ((x3 >>> ((24 : Int32) &&& 31)) &&& (255 : Int32))) ((x5 + (13 : Int32)).toNatClampNeg) ((x3 >>> ((16 : Int32) &&& 31)) &&& (255 : Int32))) ((x5 + (14 : Int32)).toNatClampNeg) ((x3 >>> ((8 : Int32) &&& 31)) &&& (255 : Int32))) ((x5 + (15 : Int32)).toNatClampNeg) ((x3 >>> ((0 : Int32) &&& 31)) &&& (255 : Int32))) ((x5 + (16 : Int32)).toNatClampNeg) ((x4 >>> ((24 : Int32) &&& 31)) &&& (255 : Int32))) ((x5 + (17 : Int32)).toNatClampNeg) ((x4 >>> ((16 : Int32) &&& 31)) &&& (255 : Int32))) hx hb hK hP hD hS 1 rfl rfl g35 g36 rfl dX10_feed_106 (fun H locs hP hD hS => ?_)
  have hP : va_P D vwCl [(a0, .inr (10, [.ref a1, .int x5, .int 0, .int x7, .int x8, .int x9, .ref a2, .ref a3, .ref a4, .ref a5, .ref a6, .ref a7, .int x10, .ref a8, .ref a9, .ref a10, .ref a11, .ref a12, .int x11, .ref a13, .int x12, .ref a14, .int x13, .ref a15, .int x14, .ref a16, .int x15, .int x16, .ref a17, .ref a18, .int x17, .int x18, .int x19, .int x20, .int x21, .ref a19, .ref a20, .ref a21, .ref a22, .ref a23, .int x22, .ref a24, .ref a25, .ref a26, .ref a27, .int x23, .ref a28, .int x24, .ref a29, .int x25, .ref a30, .ref a31, .int x26, .int x27, .int x28, .ref a32, .ref a33, .ref a34, .ref a35, .ref a36, .ref a37, .ref a38, .int x29, .int x30, .int x31, .ref a39])), (a1, .inl (c 0, 800, .inl (upd (upd (upd (upd (upd (upd (upd (upd (upd (upd (upd (upd (upd (upd (upd (upd (upd (upd (f0) ((x5 + (0 : Int32)).toNatClampNeg) ((x0 >>> ((24 : Int32) &&& 31)) &&& (255 : Int32))) ((x5 + (1 : Int32)).toNatClampNeg) ((x0 >>> ((16 : Int32) &&& 31)) &&& (255 : Int32))) ((x5 + (2 : Int32)).toNatClampNeg) ((x0 >>> ((8 : Int32) &&& 31)) &&& (255 : Int32))) ((x5 + (3 : Int32)).toNatClampNeg) ((x0 >>> ((0 : Int32) &&& 31)) &&& (255 : Int32))) ((x5 + (4 : Int32)).toNatClampNeg) ((x1 >>> ((24 : Int32) &&& 31)) &&& (255 : Int32))) ((x5 + (5 : Int32)).toNatClampNeg) ((x1 >>> ((16 : Int32) &&& 31)) &&& (255 : Int32))) ((x5 + (6 : Int32)).toNatClampNeg) ((x1 >>> ((8 : Int32) &&& 31)) &&& (255 : Int32))) ((x5 + (7 : Int32)).toNatClampNeg) ((x1 >>> ((0 : Int32) &&& 31)) &&& (255 : Int32))) ((x5 + (8 : Int32)).toNatClampNeg) ((x2 >>> ((24 : Int32) &&& 31)) &&& (255 : Int32))) ((x5 + (9 : Int32)).toNatClampNeg) ((x2 >>> ((16 : Int32) &&& 31)) &&& (255 : Int32))) ((x5 + (10 : Int32)).toNatClampNeg) ((x2 >>> ((8 : Int32) &&& 31)) &&& (255 : Int32))) ((x5 + (11 : Int32)).toNatClampNeg) ((x2 >>> ((0 : Int32) &&& 31)) &&& (255 : Int32))) ((x5 + (12 : Int32)).toNatClampNeg) ((x3 >>> ((24 : Int32) &&& 31)) &&& (255 : Int32))) ((x5 + (13 : Int32)).toNatClampNeg) ((x3 >>> ((16 : Int32) &&& 31)) &&& (255 : Int32))) ((x5 + (14 : Int32)).toNatClampNeg) ((x3 >>> ((8 : Int32) &&& 31)) &&& (255 : Int32))) ((x5 + (15 : Int32)).toNatClampNeg) ((x3 >>> ((0 : Int32) &&& 31)) &&& (255 : Int32))) ((x5 + (16 : Int32)).toNatClampNeg) ((x4 >>> ((24 : Int32) &&& 31)) &&& (255 : Int32))) ((x5 + (17 : Int32)).toNatClampNeg) ((x4 >>> ((16 : Int32) &&& 31)) &&& (255 : Int32)))))] H := hP
  have hD : va_D A [(a0, .inr (10, [.ref a1, .int x5, .int 0, .int x7, .int x8, .int x9, .ref a2, .ref a3, .ref a4, .ref a5, .ref a6, .ref a7, .int x10, .ref a8, .ref a9, .ref a10, .ref a11, .ref a12, .int x11, .ref a13, .int x12, .ref a14, .int x13, .ref a15, .int x14, .ref a16, .int x15, .int x16, .ref a17, .ref a18, .int x17, .int x18, .int x19, .int x20, .int x21, .ref a19, .ref a20, .ref a21, .ref a22, .ref a23, .int x22, .ref a24, .ref a25, .ref a26, .ref a27, .int x23, .ref a28, .int x24, .ref a29, .int x25, .ref a30, .ref a31, .int x26, .int x27, .int x28, .ref a32, .ref a33, .ref a34, .ref a35, .ref a36, .ref a37, .ref a38, .int x29, .int x30, .int x31, .ref a39])), (a1, .inl (c 0, 800, .inl (upd (upd (upd (upd (upd (upd (upd (upd (upd (upd (upd (upd (upd (upd (upd (upd (upd (upd (f0) ((x5 + (0 : Int32)).toNatClampNeg) ((x0 >>> ((24 : Int32) &&& 31)) &&& (255 : Int32))) ((x5 + (1 : Int32)).toNatClampNeg) ((x0 >>> ((16 : Int32) &&& 31)) &&& (255 : Int32))) ((x5 + (2 : Int32)).toNatClampNeg) ((x0 >>> ((8 : Int32) &&& 31)) &&& (255 : Int32))) ((x5 + (3 : Int32)).toNatClampNeg) ((x0 >>> ((0 : Int32) &&& 31)) &&& (255 : Int32))) ((x5 + (4 : Int32)).toNatClampNeg) ((x1 >>> ((24 : Int32) &&& 31)) &&& (255 : Int32))) ((x5 + (5 : Int32)).toNatClampNeg) ((x1 >>> ((16 : Int32) &&& 31)) &&& (255 : Int32))) ((x5 + (6 : Int32)).toNatClampNeg) ((x1 >>> ((8 : Int32) &&& 31)) &&& (255 : Int32))) ((x5 + (7 : Int32)).toNatClampNeg) ((x1 >>> ((0 : Int32) &&& 31)) &&& (255 : Int32))) ((x5 + (8 : Int32)).toNatClampNeg) ((x2 >>> ((24 : Int32) &&& 31)) &&& (255 : Int32))) ((x5 + (9 : Int32)).toNatClampNeg) ((x2 >>> ((16 : Int32) &&& 31)) &&& (255 : Int32))) ((x5 + (10 : Int32)).toNatClampNeg) ((x2 >>> ((8 : Int32) &&& 31)) &&& (255 : Int32))) ((x5 + (11 : Int32)).toNatClampNeg) ((x2 >>> ((0 : Int32) &&& 31)) &&& (255 : Int32))) ((x5 + (12 : Int32)).toNatClampNeg) ((x3 >>> ((24 : Int32) &&& 31)) &&& (255 : Int32))) ((x5 + (13 : Int32)).toNatClampNeg) ((x3 >>> ((16 : Int32) &&& 31)) &&& (255 : Int32))) ((x5 + (14 : Int32)).toNatClampNeg) ((x3 >>> ((8 : Int32) &&& 31)) &&& (255 : Int32))) ((x5 + (15 : Int32)).toNatClampNeg) ((x3 >>> ((0 : Int32) &&& 31)) &&& (255 : Int32))) ((x5 + (16 : Int32)).toNatClampNeg) ((x4 >>> ((24 : Int32) &&& 31)) &&& (255 : Int32))) ((x5 + (17 : Int32)).toNatClampNeg) ((x4 >>> ((16 : Int32) &&& 31)) &&& (255 : Int32)))))] := hD
  refine lv_iinc (v := 18) (lv' := [(6, .int 18), (7, .int x4), (0, .ref a0), (1, .int x0), (2, .int x1), (3, .int x2), (4, .int x3), (5, .int x4)]) hx hb dX10_feed_107 hl (k := 1) rfl (by decide) (by decide) rfl (fun ls hl => ?_)
  refine lv_goto (tgt := 23) hx hb dX10_feed_110 (by decide) ?_
  refine lv_iload hx hb dX10_feed_23 (lv_at hl 0 rfl) ?_
  refine lv_bipush (v := 20) hx hb dX10_feed_25 (by decide) ?_
  refine lv_icmp_ge (tgt := 113) hx hb dX10_feed_27 (by decide) (fun h9 => absurd h9 (by decide)) (fun _ => ?_)
  refine lv_iload hx hb dX10_feed_30 (lv_at hl 0 rfl) ?_
  refine lv_iconst (v := 4) hx hb dX10_feed_32 (by decide) ?_
  refine lv_icmp_ge (tgt := 40) hx hb dX10_feed_33 (by decide) (fun _ => ?_) (fun h9 => absurd (by decide) h9)
  refine lv_iload hx hb dX10_feed_40 (lv_at hl 0 rfl) ?_
  refine lv_bipush (v := 8) hx hb dX10_feed_42 (by decide) ?_
  refine lv_icmp_ge (tgt := 51) hx hb dX10_feed_44 (by decide) (fun _ => ?_) (fun h9 => absurd (by decide) h9)
  refine lv_iload hx hb dX10_feed_51 (lv_at hl 0 rfl) ?_
  refine lv_bipush (v := 12) hx hb dX10_feed_53 (by decide) ?_
  refine lv_icmp_ge (tgt := 62) hx hb dX10_feed_55 (by decide) (fun _ => ?_) (fun h9 => absurd (by decide) h9)
  refine lv_iload hx hb dX10_feed_62 (lv_at hl 0 rfl) ?_
  refine lv_bipush (v := 16) hx hb dX10_feed_64 (by decide) ?_
  refine lv_icmp_ge (tgt := 74) hx hb dX10_feed_66 (by decide) (fun _ => ?_) (fun h9 => absurd (by decide) h9)
  refine lv_iload hx hb dX10_feed_74 (lv_at hl 7 rfl) ?_
  refine lv_istore (lv' := [(7, .int x4), (6, .int 18), (0, .ref a0), (1, .int x0), (2, .int x1), (3, .int x2), (4, .int x3), (5, .int x4)]) hx hb dX10_feed_76 hl (by decide) rfl (fun ls hl => ?_)
  refine lv_aload_n hx hb dX10_feed_78 rfl (lv_at hl 2 rfl) ?_
  refine va_get (D := D) (ci := 10) (v := .ref a1) (C := RX10) (T := TX10) (N := 66) hx hb hts iX10 hown hK hP 0 rfl rfl 0 (by decide) (hts (.fieldLink RX10 7 "ShortTellerModel" "tape" "[I") (List.mem_of_getElem? (i := 3) rfl)) (fun _ h9 => h9) rfl dX10_feed_79 ?_
  refine lv_aload_n hx hb dX10_feed_82 rfl (lv_at hl 2 rfl) ?_
  refine va_get (D := D) (ci := 10) (v := .int x5) (C := RX10) (T := TX10) (N := 66) hx hb hts iX10 hown hK hP 0 rfl rfl 1 (by decide) (hts (.fieldLink RX10 138 "ShortTellerModel" "tapeSize" "I") (List.mem_of_getElem? (i := 2) rfl)) (fun _ h9 => h9) rfl dX10_feed_83 ?_
  refine lv_iload hx hb dX10_feed_86 (lv_at hl 1 rfl) ?_
  refine lv_iadd hx hb dX10_feed_88 ?_
  refine lv_iload hx hb dX10_feed_89 (lv_at hl 0 rfl) ?_
  refine lv_bipush (v := 24) hx hb dX10_feed_91 (by decide) ?_
  refine lv_bipush (v := 8) hx hb dX10_feed_93 (by decide) ?_
  refine lv_iload hx hb dX10_feed_95 (lv_at hl 1 rfl) ?_
  refine lv_iconst (v := 4) hx hb dX10_feed_97 (by decide) ?_
  refine lv_irem hx hb dX10_feed_98 (by decide) ?_
  refine q1_top (v := 2) (by decide) ?_
  refine lv_imul hx hb dX10_feed_99 ?_
  refine q1_top (v := 16) (by decide) ?_
  refine lv_isub hx hb dX10_feed_100 ?_
  refine q1_top (v := 8) (by decide) ?_
  refine lv_ishr hx hb dX10_feed_101 ?_
  refine lv_sipush (v := 255) hx hb dX10_feed_102 (by decide) ?_
  refine lv_iand hx hb dX10_feed_105 ?_
  refine q1_iast (c := c) (K := (x5 + (18 : Int32)).toNatClampNeg) (F := upd (upd (upd (upd (upd (upd (upd (upd (upd (upd (upd (upd (upd (upd (upd (upd (upd (upd (upd (f0) ((x5 + (0 : Int32)).toNatClampNeg) ((x0 >>> ((24 : Int32) &&& 31)) &&& (255 : Int32))) ((x5 + (1 : Int32)).toNatClampNeg) ((x0 >>> ((16 : Int32) &&& 31)) &&& (255 : Int32))) ((x5 + (2 : Int32)).toNatClampNeg) ((x0 >>> ((8 : Int32) &&& 31)) &&& (255 : Int32))) ((x5 + (3 : Int32)).toNatClampNeg) ((x0 >>> ((0 : Int32) &&& 31)) &&& (255 : Int32))) ((x5 + (4 : Int32)).toNatClampNeg) ((x1 >>> ((24 : Int32) &&& 31)) &&& (255 : Int32))) ((x5 + (5 : Int32)).toNatClampNeg) ((x1 >>> ((16 : Int32) &&& 31)) &&& (255 : Int32))) ((x5 + (6 : Int32)).toNatClampNeg) ((x1 >>> ((8 : Int32) &&& 31)) &&& (255 : Int32))) ((x5 + (7 : Int32)).toNatClampNeg) ((x1 >>> ((0 : Int32) &&& 31)) &&& (255 : Int32))) ((x5 + (8 : Int32)).toNatClampNeg) ((x2 >>> ((24 : Int32) &&& 31)) &&& (255 : Int32))) ((x5 + (9 : Int32)).toNatClampNeg) ((x2 >>> ((16 : Int32) &&& 31)) &&& (255 : Int32))) ((x5 + (10 : Int32)).toNatClampNeg) ((x2 >>> ((8 : Int32) &&& 31)) &&& (255 : Int32))) ((x5 + (11 : Int32)).toNatClampNeg) ((x2 >>> ((0 : Int32) &&& 31)) &&& (255 : Int32))) ((x5 + (12 : Int32)).toNatClampNeg) ((x3 >>> ((24 : Int32) &&& 31)) &&& (255 : Int32))) ((x5 + (13 : Int32)).toNatClampNeg) ((x3 >>> ((16 : Int32) &&& 31)) &&& (255 : Int32))) ((x5 + (14 : Int32)).toNatClampNeg) ((x3 >>> ((8 : Int32) &&& 31)) &&& (255 : Int32))) ((x5 + (15 : Int32)).toNatClampNeg) ((x3 >>> ((0 : Int32) &&& 31)) &&& (255 : Int32))) ((x5 + (16 : Int32)).toNatClampNeg) ((x4 >>> ((24 : Int32) &&& 31)) &&& (255 : Int32))) ((x5 + (17 : Int32)).toNatClampNeg) ((x4 >>> ((16 : Int32) &&& 31)) &&& (255 : Int32))) ((x5 + (18 : Int32)).toNatClampNeg) ((x4 >>> ((8 : Int32) &&& 31)) &&& (255 : Int32))) hx hb hK hP hD hS 1 rfl rfl g37 g38 rfl dX10_feed_106 (fun H locs hP hD hS => ?_)
  have hP : va_P D vwCl [(a0, .inr (10, [.ref a1, .int x5, .int 0, .int x7, .int x8, .int x9, .ref a2, .ref a3, .ref a4, .ref a5, .ref a6, .ref a7, .int x10, .ref a8, .ref a9, .ref a10, .ref a11, .ref a12, .int x11, .ref a13, .int x12, .ref a14, .int x13, .ref a15, .int x14, .ref a16, .int x15, .int x16, .ref a17, .ref a18, .int x17, .int x18, .int x19, .int x20, .int x21, .ref a19, .ref a20, .ref a21, .ref a22, .ref a23, .int x22, .ref a24, .ref a25, .ref a26, .ref a27, .int x23, .ref a28, .int x24, .ref a29, .int x25, .ref a30, .ref a31, .int x26, .int x27, .int x28, .ref a32, .ref a33, .ref a34, .ref a35, .ref a36, .ref a37, .ref a38, .int x29, .int x30, .int x31, .ref a39])), (a1, .inl (c 0, 800, .inl (upd (upd (upd (upd (upd (upd (upd (upd (upd (upd (upd (upd (upd (upd (upd (upd (upd (upd (upd (f0) ((x5 + (0 : Int32)).toNatClampNeg) ((x0 >>> ((24 : Int32) &&& 31)) &&& (255 : Int32))) ((x5 + (1 : Int32)).toNatClampNeg) ((x0 >>> ((16 : Int32) &&& 31)) &&& (255 : Int32))) ((x5 + (2 : Int32)).toNatClampNeg) ((x0 >>> ((8 : Int32) &&& 31)) &&& (255 : Int32))) ((x5 + (3 : Int32)).toNatClampNeg) ((x0 >>> ((0 : Int32) &&& 31)) &&& (255 : Int32))) ((x5 + (4 : Int32)).toNatClampNeg) ((x1 >>> ((24 : Int32) &&& 31)) &&& (255 : Int32))) ((x5 + (5 : Int32)).toNatClampNeg) ((x1 >>> ((16 : Int32) &&& 31)) &&& (255 : Int32))) ((x5 + (6 : Int32)).toNatClampNeg) ((x1 >>> ((8 : Int32) &&& 31)) &&& (255 : Int32))) ((x5 + (7 : Int32)).toNatClampNeg) ((x1 >>> ((0 : Int32) &&& 31)) &&& (255 : Int32))) ((x5 + (8 : Int32)).toNatClampNeg) ((x2 >>> ((24 : Int32) &&& 31)) &&& (255 : Int32))) ((x5 + (9 : Int32)).toNatClampNeg) ((x2 >>> ((16 : Int32) &&& 31)) &&& (255 : Int32))) ((x5 + (10 : Int32)).toNatClampNeg) ((x2 >>> ((8 : Int32) &&& 31)) &&& (255 : Int32))) ((x5 + (11 : Int32)).toNatClampNeg) ((x2 >>> ((0 : Int32) &&& 31)) &&& (255 : Int32))) ((x5 + (12 : Int32)).toNatClampNeg) ((x3 >>> ((24 : Int32) &&& 31)) &&& (255 : Int32))) ((x5 + (13 : Int32)).toNatClampNeg) ((x3 >>> ((16 : Int32) &&& 31)) &&& (255 : Int32))) ((x5 + (14 : Int32)).toNatClampNeg) ((x3 >>> ((8 : Int32) &&& 31)) &&& (255 : Int32))) ((x5 + (15 : Int32)).toNatClampNeg) ((x3 >>> ((0 : Int32) &&& 31)) &&& (255 : Int32))) ((x5 + (16 : Int32)).toNatClampNeg) ((x4 >>> ((24 : Int32) &&& 31)) &&& (255 : Int32))) ((x5 + (17 : Int32)).toNatClampNeg) ((x4 >>> ((16 : Int32) &&& 31)) &&& (255 : Int32))) ((x5 + (18 : Int32)).toNatClampNeg) ((x4 >>> ((8 : Int32) &&& 31)) &&& (255 : Int32)))))] H := hP
  have hD : va_D A [(a0, .inr (10, [.ref a1, .int x5, .int 0, .int x7, .int x8, .int x9, .ref a2, .ref a3, .ref a4, .ref a5, .ref a6, .ref a7, .int x10, .ref a8, .ref a9, .ref a10, .ref a11, .ref a12, .int x11, .ref a13, .int x12, .ref a14, .int x13, .ref a15, .int x14, .ref a16, .int x15, .int x16, .ref a17, .ref a18, .int x17, .int x18, .int x19, .int x20, .int x21, .ref a19, .ref a20, .ref a21, .ref a22, .ref a23, .int x22, .ref a24, .ref a25, .ref a26, .ref a27, .int x23, .ref a28, .int x24, .ref a29, .int x25, .ref a30, .ref a31, .int x26, .int x27, .int x28, .ref a32, .ref a33, .ref a34, .ref a35, .ref a36, .ref a37, .ref a38, .int x29, .int x30, .int x31, .ref a39])), (a1, .inl (c 0, 800, .inl (upd (upd (upd (upd (upd (upd (upd (upd (upd (upd (upd (upd (upd (upd (upd (upd (upd (upd (upd (f0) ((x5 + (0 : Int32)).toNatClampNeg) ((x0 >>> ((24 : Int32) &&& 31)) &&& (255 : Int32))) ((x5 + (1 : Int32)).toNatClampNeg) ((x0 >>> ((16 : Int32) &&& 31)) &&& (255 : Int32))) ((x5 + (2 : Int32)).toNatClampNeg) ((x0 >>> ((8 : Int32) &&& 31)) &&& (255 : Int32))) ((x5 + (3 : Int32)).toNatClampNeg) ((x0 >>> ((0 : Int32) &&& 31)) &&& (255 : Int32))) ((x5 + (4 : Int32)).toNatClampNeg) ((x1 >>> ((24 : Int32) &&& 31)) &&& (255 : Int32))) ((x5 + (5 : Int32)).toNatClampNeg) ((x1 >>> ((16 : Int32) &&& 31)) &&& (255 : Int32))) ((x5 + (6 : Int32)).toNatClampNeg) ((x1 >>> ((8 : Int32) &&& 31)) &&& (255 : Int32))) ((x5 + (7 : Int32)).toNatClampNeg) ((x1 >>> ((0 : Int32) &&& 31)) &&& (255 : Int32))) ((x5 + (8 : Int32)).toNatClampNeg) ((x2 >>> ((24 : Int32) &&& 31)) &&& (255 : Int32))) ((x5 + (9 : Int32)).toNatClampNeg) ((x2 >>> ((16 : Int32) &&& 31)) &&& (255 : Int32))) ((x5 + (10 : Int32)).toNatClampNeg) ((x2 >>> ((8 : Int32) &&& 31)) &&& (255 : Int32))) ((x5 + (11 : Int32)).toNatClampNeg) ((x2 >>> ((0 : Int32) &&& 31)) &&& (255 : Int32))) ((x5 + (12 : Int32)).toNatClampNeg) ((x3 >>> ((24 : Int32) &&& 31)) &&& (255 : Int32))) ((x5 + (13 : Int32)).toNatClampNeg) ((x3 >>> ((16 : Int32) &&& 31)) &&& (255 : Int32))) ((x5 + (14 : Int32)).toNatClampNeg) ((x3 >>> ((8 : Int32) &&& 31)) &&& (255 : Int32))) ((x5 + (15 : Int32)).toNatClampNeg) ((x3 >>> ((0 : Int32) &&& 31)) &&& (255 : Int32))) ((x5 + (16 : Int32)).toNatClampNeg) ((x4 >>> ((24 : Int32) &&& 31)) &&& (255 : Int32))) ((x5 + (17 : Int32)).toNatClampNeg) ((x4 >>> ((16 : Int32) &&& 31)) &&& (255 : Int32))) ((x5 + (18 : Int32)).toNatClampNeg) ((x4 >>> ((8 : Int32) &&& 31)) &&& (255 : Int32)))))] := hD
  refine lv_iinc (v := 19) (lv' := [(6, .int 19), (7, .int x4), (0, .ref a0), (1, .int x0), (2, .int x1), (3, .int x2), (4, .int x3), (5, .int x4)]) hx hb dX10_feed_107 hl (k := 1) rfl (by decide) (by decide) rfl (fun ls hl => ?_)
  refine lv_goto (tgt := 23) hx hb dX10_feed_110 (by decide) ?_
  refine lv_iload hx hb dX10_feed_23 (lv_at hl 0 rfl) ?_
  refine lv_bipush (v := 20) hx hb dX10_feed_25 (by decide) ?_
  refine lv_icmp_ge (tgt := 113) hx hb dX10_feed_27 (by decide) (fun h9 => absurd h9 (by decide)) (fun _ => ?_)
  refine lv_iload hx hb dX10_feed_30 (lv_at hl 0 rfl) ?_
  refine lv_iconst (v := 4) hx hb dX10_feed_32 (by decide) ?_
  refine lv_icmp_ge (tgt := 40) hx hb dX10_feed_33 (by decide) (fun _ => ?_) (fun h9 => absurd (by decide) h9)
  refine lv_iload hx hb dX10_feed_40 (lv_at hl 0 rfl) ?_
  refine lv_bipush (v := 8) hx hb dX10_feed_42 (by decide) ?_
  refine lv_icmp_ge (tgt := 51) hx hb dX10_feed_44 (by decide) (fun _ => ?_) (fun h9 => absurd (by decide) h9)
  refine lv_iload hx hb dX10_feed_51 (lv_at hl 0 rfl) ?_
  refine lv_bipush (v := 12) hx hb dX10_feed_53 (by decide) ?_
  refine lv_icmp_ge (tgt := 62) hx hb dX10_feed_55 (by decide) (fun _ => ?_) (fun h9 => absurd (by decide) h9)
  refine lv_iload hx hb dX10_feed_62 (lv_at hl 0 rfl) ?_
  refine lv_bipush (v := 16) hx hb dX10_feed_64 (by decide) ?_
  refine lv_icmp_ge (tgt := 74) hx hb dX10_feed_66 (by decide) (fun _ => ?_) (fun h9 => absurd (by decide) h9)
  refine lv_iload hx hb dX10_feed_74 (lv_at hl 7 rfl) ?_
  refine lv_istore (lv' := [(7, .int x4), (6, .int 19), (0, .ref a0), (1, .int x0), (2, .int x1), (3, .int x2), (4, .int x3), (5, .int x4)]) hx hb dX10_feed_76 hl (by decide) rfl (fun ls hl => ?_)
  refine lv_aload_n hx hb dX10_feed_78 rfl (lv_at hl 2 rfl) ?_
  refine va_get (D := D) (ci := 10) (v := .ref a1) (C := RX10) (T := TX10) (N := 66) hx hb hts iX10 hown hK hP 0 rfl rfl 0 (by decide) (hts (.fieldLink RX10 7 "ShortTellerModel" "tape" "[I") (List.mem_of_getElem? (i := 3) rfl)) (fun _ h9 => h9) rfl dX10_feed_79 ?_
  refine lv_aload_n hx hb dX10_feed_82 rfl (lv_at hl 2 rfl) ?_
  refine va_get (D := D) (ci := 10) (v := .int x5) (C := RX10) (T := TX10) (N := 66) hx hb hts iX10 hown hK hP 0 rfl rfl 1 (by decide) (hts (.fieldLink RX10 138 "ShortTellerModel" "tapeSize" "I") (List.mem_of_getElem? (i := 2) rfl)) (fun _ h9 => h9) rfl dX10_feed_83 ?_
  refine lv_iload hx hb dX10_feed_86 (lv_at hl 1 rfl) ?_
  refine lv_iadd hx hb dX10_feed_88 ?_
  refine lv_iload hx hb dX10_feed_89 (lv_at hl 0 rfl) ?_
  refine lv_bipush (v := 24) hx hb dX10_feed_91 (by decide) ?_
  refine lv_bipush (v := 8) hx hb dX10_feed_93 (by decide) ?_
  refine lv_iload hx hb dX10_feed_95 (lv_at hl 1 rfl) ?_
  refine lv_iconst (v := 4) hx hb dX10_feed_97 (by decide) ?_
  refine lv_irem hx hb dX10_feed_98 (by decide) ?_
  refine q1_top (v := 3) (by decide) ?_
  refine lv_imul hx hb dX10_feed_99 ?_
  refine q1_top (v := 24) (by decide) ?_
  refine lv_isub hx hb dX10_feed_100 ?_
  refine q1_top (v := 0) (by decide) ?_
  refine lv_ishr hx hb dX10_feed_101 ?_
  refine lv_sipush (v := 255) hx hb dX10_feed_102 (by decide) ?_
  refine lv_iand hx hb dX10_feed_105 ?_
  refine q1_iast (c := c) (K := (x5 + (19 : Int32)).toNatClampNeg) (F := upd (upd (upd (upd (upd (upd (upd (upd (upd (upd (upd (upd (upd (upd (upd (upd (upd (upd (upd (upd (f0) ((x5 + (0 : Int32)).toNatClampNeg) ((x0 >>> ((24 : Int32) &&& 31)) &&& (255 : Int32))) ((x5 + (1 : Int32)).toNatClampNeg) ((x0 >>> ((16 : Int32) &&& 31)) &&& (255 : Int32))) ((x5 + (2 : Int32)).toNatClampNeg) ((x0 >>> ((8 : Int32) &&& 31)) &&& (255 : Int32))) ((x5 + (3 : Int32)).toNatClampNeg) ((x0 >>> ((0 : Int32) &&& 31)) &&& (255 : Int32))) ((x5 + (4 : Int32)).toNatClampNeg) ((x1 >>> ((24 : Int32) &&& 31)) &&& (255 : Int32))) ((x5 + (5 : Int32)).toNatClampNeg) ((x1 >>> ((16 : Int32) &&& 31)) &&& (255 : Int32))) ((x5 + (6 : Int32)).toNatClampNeg) ((x1 >>> ((8 : Int32) &&& 31)) &&& (255 : Int32))) ((x5 + (7 : Int32)).toNatClampNeg) ((x1 >>> ((0 : Int32) &&& 31)) &&& (255 : Int32))) ((x5 + (8 : Int32)).toNatClampNeg) ((x2 >>> ((24 : Int32) &&& 31)) &&& (255 : Int32))) ((x5 + (9 : Int32)).toNatClampNeg) ((x2 >>> ((16 : Int32) &&& 31)) &&& (255 : Int32))) ((x5 + (10 : Int32)).toNatClampNeg) ((x2 >>> ((8 : Int32) &&& 31)) &&& (255 : Int32))) ((x5 + (11 : Int32)).toNatClampNeg) ((x2 >>> ((0 : Int32) &&& 31)) &&& (255 : Int32))) ((x5 + (12 : Int32)).toNatClampNeg) ((x3 >>> ((24 : Int32) &&& 31)) &&& (255 : Int32))) ((x5 + (13 : Int32)).toNatClampNeg) ((x3 >>> ((16 : Int32) &&& 31)) &&& (255 : Int32))) ((x5 + (14 : Int32)).toNatClampNeg) ((x3 >>> ((8 : Int32) &&& 31)) &&& (255 : Int32))) ((x5 + (15 : Int32)).toNatClampNeg) ((x3 >>> ((0 : Int32) &&& 31)) &&& (255 : Int32))) ((x5 + (16 : Int32)).toNatClampNeg) ((x4 >>> ((24 : Int32) &&& 31)) &&& (255 : Int32))) ((x5 + (17 : Int32)).toNatClampNeg) ((x4 >>> ((16 : Int32) &&& 31)) &&& (255 : Int32))) ((x5 + (18 : Int32)).toNatClampNeg) ((x4 >>> ((8 : Int32) &&& 31)) &&& (255 : Int32))) ((x5 + (19 : Int32)).toNatClampNeg) ((x4 >>> ((0 : Int32) &&& 31)) &&& (255 : Int32))) hx hb hK hP hD hS 1 rfl rfl g39 g40 rfl dX10_feed_106 (fun H locs hP hD hS => ?_)
  have hP : va_P D vwCl [(a0, .inr (10, [.ref a1, .int x5, .int 0, .int x7, .int x8, .int x9, .ref a2, .ref a3, .ref a4, .ref a5, .ref a6, .ref a7, .int x10, .ref a8, .ref a9, .ref a10, .ref a11, .ref a12, .int x11, .ref a13, .int x12, .ref a14, .int x13, .ref a15, .int x14, .ref a16, .int x15, .int x16, .ref a17, .ref a18, .int x17, .int x18, .int x19, .int x20, .int x21, .ref a19, .ref a20, .ref a21, .ref a22, .ref a23, .int x22, .ref a24, .ref a25, .ref a26, .ref a27, .int x23, .ref a28, .int x24, .ref a29, .int x25, .ref a30, .ref a31, .int x26, .int x27, .int x28, .ref a32, .ref a33, .ref a34, .ref a35, .ref a36, .ref a37, .ref a38, .int x29, .int x30, .int x31, .ref a39])), (a1, .inl (c 0, 800, .inl (upd (upd (upd (upd (upd (upd (upd (upd (upd (upd (upd (upd (upd (upd (upd (upd (upd (upd (upd (upd (f0) ((x5 + (0 : Int32)).toNatClampNeg) ((x0 >>> ((24 : Int32) &&& 31)) &&& (255 : Int32))) ((x5 + (1 : Int32)).toNatClampNeg) ((x0 >>> ((16 : Int32) &&& 31)) &&& (255 : Int32))) ((x5 + (2 : Int32)).toNatClampNeg) ((x0 >>> ((8 : Int32) &&& 31)) &&& (255 : Int32))) ((x5 + (3 : Int32)).toNatClampNeg) ((x0 >>> ((0 : Int32) &&& 31)) &&& (255 : Int32))) ((x5 + (4 : Int32)).toNatClampNeg) ((x1 >>> ((24 : Int32) &&& 31)) &&& (255 : Int32))) ((x5 + (5 : Int32)).toNatClampNeg) ((x1 >>> ((16 : Int32) &&& 31)) &&& (255 : Int32))) ((x5 + (6 : Int32)).toNatClampNeg) ((x1 >>> ((8 : Int32) &&& 31)) &&& (255 : Int32))) ((x5 + (7 : Int32)).toNatClampNeg) ((x1 >>> ((0 : Int32) &&& 31)) &&& (255 : Int32))) ((x5 + (8 : Int32)).toNatClampNeg) ((x2 >>> ((24 : Int32) &&& 31)) &&& (255 : Int32))) ((x5 + (9 : Int32)).toNatClampNeg) ((x2 >>> ((16 : Int32) &&& 31)) &&& (255 : Int32))) ((x5 + (10 : Int32)).toNatClampNeg) ((x2 >>> ((8 : Int32) &&& 31)) &&& (255 : Int32))) ((x5 + (11 : Int32)).toNatClampNeg) ((x2 >>> ((0 : Int32) &&& 31)) &&& (255 : Int32))) ((x5 + (12 : Int32)).toNatClampNeg) ((x3 >>> ((24 : Int32) &&& 31)) &&& (255 : Int32))) ((x5 + (13 : Int32)).toNatClampNeg) ((x3 >>> ((16 : Int32) &&& 31)) &&& (255 : Int32))) ((x5 + (14 : Int32)).toNatClampNeg) ((x3 >>> ((8 : Int32) &&& 31)) &&& (255 : Int32))) ((x5 + (15 : Int32)).toNatClampNeg) ((x3 >>> ((0 : Int32) &&& 31)) &&& (255 : Int32))) ((x5 + (16 : Int32)).toNatClampNeg) ((x4 >>> ((24 : Int32) &&& 31)) &&& (255 : Int32))) ((x5 + (17 : Int32)).toNatClampNeg) ((x4 >>> ((16 : Int32) &&& 31)) &&& (255 : Int32))) ((x5 + (18 : Int32)).toNatClampNeg) ((x4 >>> ((8 : Int32) &&& 31)) &&& (255 : Int32))) ((x5 + (19 : Int32)).toNatClampNeg) ((x4 >>> ((0 : Int32) &&& 31)) &&& (255 : Int32)))))] H := hP
  have hD : va_D A [(a0, .inr (10, [.ref a1, .int x5, .int 0, .int x7, .int x8, .int x9, .ref a2, .ref a3, .ref a4, .ref a5, .ref a6, .ref a7, .int x10, .ref a8, .ref a9, .ref a10, .ref a11, .ref a12, .int x11, .ref a13, .int x12, .ref a14, .int x13, .ref a15, .int x14, .ref a16, .int x15, .int x16, .ref a17, .ref a18, .int x17, .int x18, .int x19, .int x20, .int x21, .ref a19, .ref a20, .ref a21, .ref a22, .ref a23, .int x22, .ref a24, .ref a25, .ref a26, .ref a27, .int x23, .ref a28, .int x24, .ref a29, .int x25, .ref a30, .ref a31, .int x26, .int x27, .int x28, .ref a32, .ref a33, .ref a34, .ref a35, .ref a36, .ref a37, .ref a38, .int x29, .int x30, .int x31, .ref a39])), (a1, .inl (c 0, 800, .inl (upd (upd (upd (upd (upd (upd (upd (upd (upd (upd (upd (upd (upd (upd (upd (upd (upd (upd (upd (upd (f0) ((x5 + (0 : Int32)).toNatClampNeg) ((x0 >>> ((24 : Int32) &&& 31)) &&& (255 : Int32))) ((x5 + (1 : Int32)).toNatClampNeg) ((x0 >>> ((16 : Int32) &&& 31)) &&& (255 : Int32))) ((x5 + (2 : Int32)).toNatClampNeg) ((x0 >>> ((8 : Int32) &&& 31)) &&& (255 : Int32))) ((x5 + (3 : Int32)).toNatClampNeg) ((x0 >>> ((0 : Int32) &&& 31)) &&& (255 : Int32))) ((x5 + (4 : Int32)).toNatClampNeg) ((x1 >>> ((24 : Int32) &&& 31)) &&& (255 : Int32))) ((x5 + (5 : Int32)).toNatClampNeg) ((x1 >>> ((16 : Int32) &&& 31)) &&& (255 : Int32))) ((x5 + (6 : Int32)).toNatClampNeg) ((x1 >>> ((8 : Int32) &&& 31)) &&& (255 : Int32))) ((x5 + (7 : Int32)).toNatClampNeg) ((x1 >>> ((0 : Int32) &&& 31)) &&& (255 : Int32))) ((x5 + (8 : Int32)).toNatClampNeg) ((x2 >>> ((24 : Int32) &&& 31)) &&& (255 : Int32))) ((x5 + (9 : Int32)).toNatClampNeg) ((x2 >>> ((16 : Int32) &&& 31)) &&& (255 : Int32))) ((x5 + (10 : Int32)).toNatClampNeg) ((x2 >>> ((8 : Int32) &&& 31)) &&& (255 : Int32))) ((x5 + (11 : Int32)).toNatClampNeg) ((x2 >>> ((0 : Int32) &&& 31)) &&& (255 : Int32))) ((x5 + (12 : Int32)).toNatClampNeg) ((x3 >>> ((24 : Int32) &&& 31)) &&& (255 : Int32))) ((x5 + (13 : Int32)).toNatClampNeg) ((x3 >>> ((16 : Int32) &&& 31)) &&& (255 : Int32))) ((x5 + (14 : Int32)).toNatClampNeg) ((x3 >>> ((8 : Int32) &&& 31)) &&& (255 : Int32))) ((x5 + (15 : Int32)).toNatClampNeg) ((x3 >>> ((0 : Int32) &&& 31)) &&& (255 : Int32))) ((x5 + (16 : Int32)).toNatClampNeg) ((x4 >>> ((24 : Int32) &&& 31)) &&& (255 : Int32))) ((x5 + (17 : Int32)).toNatClampNeg) ((x4 >>> ((16 : Int32) &&& 31)) &&& (255 : Int32))) ((x5 + (18 : Int32)).toNatClampNeg) ((x4 >>> ((8 : Int32) &&& 31)) &&& (255 : Int32))) ((x5 + (19 : Int32)).toNatClampNeg) ((x4 >>> ((0 : Int32) &&& 31)) &&& (255 : Int32)))))] := hD
  refine lv_iinc (v := 20) (lv' := [(6, .int 20), (7, .int x4), (0, .ref a0), (1, .int x0), (2, .int x1), (3, .int x2), (4, .int x3), (5, .int x4)]) hx hb dX10_feed_107 hl (k := 1) rfl (by decide) (by decide) rfl (fun ls hl => ?_)
  refine lv_goto (tgt := 23) hx hb dX10_feed_110 (by decide) ?_
  refine lv_iload hx hb dX10_feed_23 (lv_at hl 0 rfl) ?_
  refine lv_bipush (v := 20) hx hb dX10_feed_25 (by decide) ?_
  refine lv_icmp_ge (tgt := 113) hx hb dX10_feed_27 (by decide) (fun _ => ?_) (fun h9 => absurd (by decide) h9)
  refine lv_aload_n hx hb dX10_feed_113 rfl (lv_at hl 2 rfl) ?_
  refine lv_dup hx hb dX10_feed_114 rfl ?_
  refine va_get (D := D) (ci := 10) (v := .int x5) (C := RX10) (T := TX10) (N := 66) hx hb hts iX10 hown hK hP 0 rfl rfl 1 (by decide) (hts (.fieldLink RX10 138 "ShortTellerModel" "tapeSize" "I") (List.mem_of_getElem? (i := 2) rfl)) (fun _ h9 => h9) rfl dX10_feed_115 ?_
  refine lv_bipush (v := 20) hx hb dX10_feed_118 (by decide) ?_
  refine lv_iadd hx hb dX10_feed_120 ?_
  refine va_put (D := D) (ci := 10) (v := .int (x5 + (20 : Int32))) (ty := .int) (C := RX10) (T := TX10) (N := 66) hx hb hts iX10 tyX10 tyX10_ok nmX10 hown hK hP hD hS 0 rfl rfl 1 (by decide) (hts (.fieldLink RX10 138 "ShortTellerModel" "tapeSize" "I") (List.mem_of_getElem? (i := 2) rfl)) (fun _ h9 => h9) rfl (by decide +kernel) rfl rfl (Nat.le_of_ble_eq_true rfl) dX10_feed_121 (fun H locs hP hD hS => ?_)
  have hP : va_P D vwCl [(a0, .inr (10, [.ref a1, .int (x5 + (20 : Int32)), .int 0, .int x7, .int x8, .int x9, .ref a2, .ref a3, .ref a4, .ref a5, .ref a6, .ref a7, .int x10, .ref a8, .ref a9, .ref a10, .ref a11, .ref a12, .int x11, .ref a13, .int x12, .ref a14, .int x13, .ref a15, .int x14, .ref a16, .int x15, .int x16, .ref a17, .ref a18, .int x17, .int x18, .int x19, .int x20, .int x21, .ref a19, .ref a20, .ref a21, .ref a22, .ref a23, .int x22, .ref a24, .ref a25, .ref a26, .ref a27, .int x23, .ref a28, .int x24, .ref a29, .int x25, .ref a30, .ref a31, .int x26, .int x27, .int x28, .ref a32, .ref a33, .ref a34, .ref a35, .ref a36, .ref a37, .ref a38, .int x29, .int x30, .int x31, .ref a39])), (a1, .inl (c 0, 800, .inl (upd (upd (upd (upd (upd (upd (upd (upd (upd (upd (upd (upd (upd (upd (upd (upd (upd (upd (upd (upd (f0) ((x5 + (0 : Int32)).toNatClampNeg) ((x0 >>> ((24 : Int32) &&& 31)) &&& (255 : Int32))) ((x5 + (1 : Int32)).toNatClampNeg) ((x0 >>> ((16 : Int32) &&& 31)) &&& (255 : Int32))) ((x5 + (2 : Int32)).toNatClampNeg) ((x0 >>> ((8 : Int32) &&& 31)) &&& (255 : Int32))) ((x5 + (3 : Int32)).toNatClampNeg) ((x0 >>> ((0 : Int32) &&& 31)) &&& (255 : Int32))) ((x5 + (4 : Int32)).toNatClampNeg) ((x1 >>> ((24 : Int32) &&& 31)) &&& (255 : Int32))) ((x5 + (5 : Int32)).toNatClampNeg) ((x1 >>> ((16 : Int32) &&& 31)) &&& (255 : Int32))) ((x5 + (6 : Int32)).toNatClampNeg) ((x1 >>> ((8 : Int32) &&& 31)) &&& (255 : Int32))) ((x5 + (7 : Int32)).toNatClampNeg) ((x1 >>> ((0 : Int32) &&& 31)) &&& (255 : Int32))) ((x5 + (8 : Int32)).toNatClampNeg) ((x2 >>> ((24 : Int32) &&& 31)) &&& (255 : Int32))) ((x5 + (9 : Int32)).toNatClampNeg) ((x2 >>> ((16 : Int32) &&& 31)) &&& (255 : Int32))) ((x5 + (10 : Int32)).toNatClampNeg) ((x2 >>> ((8 : Int32) &&& 31)) &&& (255 : Int32))) ((x5 + (11 : Int32)).toNatClampNeg) ((x2 >>> ((0 : Int32) &&& 31)) &&& (255 : Int32))) ((x5 + (12 : Int32)).toNatClampNeg) ((x3 >>> ((24 : Int32) &&& 31)) &&& (255 : Int32))) ((x5 + (13 : Int32)).toNatClampNeg) ((x3 >>> ((16 : Int32) &&& 31)) &&& (255 : Int32))) ((x5 + (14 : Int32)).toNatClampNeg) ((x3 >>> ((8 : Int32) &&& 31)) &&& (255 : Int32))) ((x5 + (15 : Int32)).toNatClampNeg) ((x3 >>> ((0 : Int32) &&& 31)) &&& (255 : Int32))) ((x5 + (16 : Int32)).toNatClampNeg) ((x4 >>> ((24 : Int32) &&& 31)) &&& (255 : Int32))) ((x5 + (17 : Int32)).toNatClampNeg) ((x4 >>> ((16 : Int32) &&& 31)) &&& (255 : Int32))) ((x5 + (18 : Int32)).toNatClampNeg) ((x4 >>> ((8 : Int32) &&& 31)) &&& (255 : Int32))) ((x5 + (19 : Int32)).toNatClampNeg) ((x4 >>> ((0 : Int32) &&& 31)) &&& (255 : Int32)))))] H := hP
  have hD : va_D A [(a0, .inr (10, [.ref a1, .int (x5 + (20 : Int32)), .int 0, .int x7, .int x8, .int x9, .ref a2, .ref a3, .ref a4, .ref a5, .ref a6, .ref a7, .int x10, .ref a8, .ref a9, .ref a10, .ref a11, .ref a12, .int x11, .ref a13, .int x12, .ref a14, .int x13, .ref a15, .int x14, .ref a16, .int x15, .int x16, .ref a17, .ref a18, .int x17, .int x18, .int x19, .int x20, .int x21, .ref a19, .ref a20, .ref a21, .ref a22, .ref a23, .int x22, .ref a24, .ref a25, .ref a26, .ref a27, .int x23, .ref a28, .int x24, .ref a29, .int x25, .ref a30, .ref a31, .int x26, .int x27, .int x28, .ref a32, .ref a33, .ref a34, .ref a35, .ref a36, .ref a37, .ref a38, .int x29, .int x30, .int x31, .ref a39])), (a1, .inl (c 0, 800, .inl (upd (upd (upd (upd (upd (upd (upd (upd (upd (upd (upd (upd (upd (upd (upd (upd (upd (upd (upd (upd (f0) ((x5 + (0 : Int32)).toNatClampNeg) ((x0 >>> ((24 : Int32) &&& 31)) &&& (255 : Int32))) ((x5 + (1 : Int32)).toNatClampNeg) ((x0 >>> ((16 : Int32) &&& 31)) &&& (255 : Int32))) ((x5 + (2 : Int32)).toNatClampNeg) ((x0 >>> ((8 : Int32) &&& 31)) &&& (255 : Int32))) ((x5 + (3 : Int32)).toNatClampNeg) ((x0 >>> ((0 : Int32) &&& 31)) &&& (255 : Int32))) ((x5 + (4 : Int32)).toNatClampNeg) ((x1 >>> ((24 : Int32) &&& 31)) &&& (255 : Int32))) ((x5 + (5 : Int32)).toNatClampNeg) ((x1 >>> ((16 : Int32) &&& 31)) &&& (255 : Int32))) ((x5 + (6 : Int32)).toNatClampNeg) ((x1 >>> ((8 : Int32) &&& 31)) &&& (255 : Int32))) ((x5 + (7 : Int32)).toNatClampNeg) ((x1 >>> ((0 : Int32) &&& 31)) &&& (255 : Int32))) ((x5 + (8 : Int32)).toNatClampNeg) ((x2 >>> ((24 : Int32) &&& 31)) &&& (255 : Int32))) ((x5 + (9 : Int32)).toNatClampNeg) ((x2 >>> ((16 : Int32) &&& 31)) &&& (255 : Int32))) ((x5 + (10 : Int32)).toNatClampNeg) ((x2 >>> ((8 : Int32) &&& 31)) &&& (255 : Int32))) ((x5 + (11 : Int32)).toNatClampNeg) ((x2 >>> ((0 : Int32) &&& 31)) &&& (255 : Int32))) ((x5 + (12 : Int32)).toNatClampNeg) ((x3 >>> ((24 : Int32) &&& 31)) &&& (255 : Int32))) ((x5 + (13 : Int32)).toNatClampNeg) ((x3 >>> ((16 : Int32) &&& 31)) &&& (255 : Int32))) ((x5 + (14 : Int32)).toNatClampNeg) ((x3 >>> ((8 : Int32) &&& 31)) &&& (255 : Int32))) ((x5 + (15 : Int32)).toNatClampNeg) ((x3 >>> ((0 : Int32) &&& 31)) &&& (255 : Int32))) ((x5 + (16 : Int32)).toNatClampNeg) ((x4 >>> ((24 : Int32) &&& 31)) &&& (255 : Int32))) ((x5 + (17 : Int32)).toNatClampNeg) ((x4 >>> ((16 : Int32) &&& 31)) &&& (255 : Int32))) ((x5 + (18 : Int32)).toNatClampNeg) ((x4 >>> ((8 : Int32) &&& 31)) &&& (255 : Int32))) ((x5 + (19 : Int32)).toNatClampNeg) ((x4 >>> ((0 : Int32) &&& 31)) &&& (255 : Int32)))))] := hD
  refine lv_aload_n hx hb dX10_feed_124 rfl (lv_at hl 2 rfl) ?_
  refine va_get (D := D) (ci := 10) (v := .int (x5 + (20 : Int32))) (C := RX10) (T := TX10) (N := 66) hx hb hts iX10 hown hK hP 0 rfl rfl 1 (by decide) (hts (.fieldLink RX10 138 "ShortTellerModel" "tapeSize" "I") (List.mem_of_getElem? (i := 2) rfl)) (fun _ h9 => h9) rfl dX10_feed_125 ?_
  refine W.widen (k := 0) (n := 0) (Nat.le_of_ble_eq_true rfl) (Nat.le_of_ble_eq_true rfl) ?_
  exact hret (q1_u [] []) _ _ _ _ dX10_feed_128 hP hD hS
set_option maxHeartbeats 4000000 in
set_option maxRecDepth 100000 in
theorem k5_X10_feed (l : Launch) (D : va_G) (c : Nat → ClassId) (sz : Nat) (a0 : Nat) (x0 : Int32) (x1 : Int32) (x2 : Int32) (x3 : Int32) (x4 : Int32) (a1 : Nat) (x5 : Int32) (x6 : Int32) (x7 : Int32) (x8 : Int32) (x9 : Int32) (a2 : Nat) (a3 : Nat) (a4 : Nat) (a5 : Nat) (a6 : Nat) (a7 : Nat) (x10 : Int32) (a8 : Nat) (a9 : Nat) (a10 : Nat) (a11 : Nat) (a12 : Nat) (x11 : Int32) (a13 : Nat) (x12 : Int32) (a14 : Nat) (x13 : Int32) (a15 : Nat) (x14 : Int32) (a16 : Nat) (x15 : Int32) (x16 : Int32) (a17 : Nat) (a18 : Nat) (x17 : Int32) (x18 : Int32) (x19 : Int32) (x20 : Int32) (x21 : Int32) (a19 : Nat) (a20 : Nat) (a21 : Nat) (a22 : Nat) (a23 : Nat) (x22 : Int32) (a24 : Nat) (a25 : Nat) (a26 : Nat) (a27 : Nat) (x23 : Int32) (a28 : Nat) (x24 : Int32) (a29 : Nat) (x25 : Int32) (a30 : Nat) (a31 : Nat) (x26 : Int32) (x27 : Int32) (x28 : Int32) (a32 : Nat) (a33 : Nat) (a34 : Nat) (a35 : Nat) (a36 : Nat) (a37 : Nat) (a38 : Nat) (x29 : Int32) (x30 : Int32) (x31 : Int32) (a39 : Nat) (g0 : ¬ (x5 + (20 : Int32)) ≤ (800 : Int32)) : Met l yX10_feed wsX10_feed ({ frames := 0, cells := 0, slots := 0, locals := 0 }) (q1_P D c [(a0, .inr (10, [.ref a1, .int x5, .int x6, .int x7, .int x8, .int x9, .ref a2, .ref a3, .ref a4, .ref a5, .ref a6, .ref a7, .int x10, .ref a8, .ref a9, .ref a10, .ref a11, .ref a12, .int x11, .ref a13, .int x12, .ref a14, .int x13, .ref a15, .int x14, .ref a16, .int x15, .int x16, .ref a17, .ref a18, .int x17, .int x18, .int x19, .int x20, .int x21, .ref a19, .ref a20, .ref a21, .ref a22, .ref a23, .int x22, .ref a24, .ref a25, .ref a26, .ref a27, .int x23, .ref a28, .int x24, .ref a29, .int x25, .ref a30, .ref a31, .int x26, .int x27, .int x28, .ref a32, .ref a33, .ref a34, .ref a35, .ref a36, .ref a37, .ref a38, .int x29, .int x30, .int x31, .ref a39]))] sz [.ref a0, .int x0, .int x1, .int x2, .int x3, .int x4]) (q1_i D [(a0, .inr (10, [.ref a1, .int x5, .int x6, .int x7, .int x8, .int x9, .ref a2, .ref a3, .ref a4, .ref a5, .ref a6, .ref a7, .int x10, .ref a8, .ref a9, .ref a10, .ref a11, .ref a12, .int x11, .ref a13, .int x12, .ref a14, .int x13, .ref a15, .int x14, .ref a16, .int x15, .int x16, .ref a17, .ref a18, .int x17, .int x18, .int x19, .int x20, .int x21, .ref a19, .ref a20, .ref a21, .ref a22, .ref a23, .int x22, .ref a24, .ref a25, .ref a26, .ref a27, .int x23, .ref a28, .int x24, .ref a29, .int x25, .ref a30, .ref a31, .int x26, .int x27, .int x28, .ref a32, .ref a33, .ref a34, .ref a35, .ref a36, .ref a37, .ref a38, .int x29, .int x30, .int x31, .ref a39]))] sz (-1) (fun u => [(a0, .inr (10, [.ref a1, .int x5, .int 0, .int x7, .int x8, .int x9, .ref a2, .ref a3, .ref a4, .ref a5, .ref a6, .ref a7, .int x10, .ref a8, .ref a9, .ref a10, .ref a11, .ref a12, .int x11, .ref a13, .int x12, .ref a14, .int x13, .ref a15, .int x14, .ref a16, .int x15, .int x16, .ref a17, .ref a18, .int x17, .int x18, .int x19, .int x20, .int x21, .ref a19, .ref a20, .ref a21, .ref a22, .ref a23, .int x22, .ref a24, .ref a25, .ref a26, .ref a27, .int x23, .ref a28, .int x24, .ref a29, .int x25, .ref a30, .ref a31, .int x26, .int x27, .int x28, .ref a32, .ref a33, .ref a34, .ref a35, .ref a36, .ref a37, .ref a38, .int x29, .int x30, .int x31, .ref a39]))])) 0 0 (va_A [(a0, .inr (10, [.ref a1, .int x5, .int x6, .int x7, .int x8, .int x9, .ref a2, .ref a3, .ref a4, .ref a5, .ref a6, .ref a7, .int x10, .ref a8, .ref a9, .ref a10, .ref a11, .ref a12, .int x11, .ref a13, .int x12, .ref a14, .int x13, .ref a15, .int x14, .ref a16, .int x15, .int x16, .ref a17, .ref a18, .int x17, .int x18, .int x19, .int x20, .int x21, .ref a19, .ref a20, .ref a21, .ref a22, .ref a23, .int x22, .ref a24, .ref a25, .ref a26, .ref a27, .int x23, .ref a28, .int x24, .ref a29, .int x25, .ref a30, .ref a31, .int x26, .int x27, .int x28, .ref a32, .ref a33, .ref a34, .ref a35, .ref a36, .ref a37, .ref a38, .int x29, .int x30, .int x31, .ref a39]))] sz) := by
  refine q1_of_i (ty := .int) rfl (cc := cX10_feed) (maxL := 8) (by decide) rfl (Nat.le_of_ble_eq_true rfl) (fun p e s m args below meth cd A Q ls hx hb hml hown hts hin hA hS hP hD hK hN hl hret => ?_)
  have hown : s.vm.findClass RX10 = some m.cls := hown
  obtain ⟨H, eH⟩ : ∃ z, z = s.heap := ⟨_, rfl⟩
  have hP : va_P D vwCl [(a0, .inr (10, [.ref a1, .int x5, .int x6, .int x7, .int x8, .int x9, .ref a2, .ref a3, .ref a4, .ref a5, .ref a6, .ref a7, .int x10, .ref a8, .ref a9, .ref a10, .ref a11, .ref a12, .int x11, .ref a13, .int x12, .ref a14, .int x13, .ref a15, .int x14, .ref a16, .int x15, .int x16, .ref a17, .ref a18, .int x17, .int x18, .int x19, .int x20, .int x21, .ref a19, .ref a20, .ref a21, .ref a22, .ref a23, .int x22, .ref a24, .ref a25, .ref a26, .ref a27, .int x23, .ref a28, .int x24, .ref a29, .int x25, .ref a30, .ref a31, .int x26, .int x27, .int x28, .ref a32, .ref a33, .ref a34, .ref a35, .ref a36, .ref a37, .ref a38, .int x29, .int x30, .int x31, .ref a39]))] H := by rw [eH]; exact hP
  have hS : va_S A s.heap H [] := by rw [eH]; exact hS
  rw [← eH]
  have iX10 : ∀ w ∈ wsX100, w ∈ wsX10_feed := fun w h => List.mem_cons_of_mem _ (List.mem_append_right _ h)
  have hl : lv_has ls 8 [(0, .ref a0), (1, .int x0), (2, .int x1), (3, .int x2), (4, .int x3), (5, .int x4)] := hl
  refine lv_aload_n hx hb dX10_feed_0 rfl (lv_at hl 0 rfl) ?_
  refine lv_iconst (v := 0) hx hb dX10_feed_1 (by decide) ?_
  refine va_put (D := D) (ci := 10) (v := .int 0) (ty := .int) (C := RX10) (T := TX10) (N := 66) hx hb hts iX10 tyX10 tyX10_ok nmX10 hown hK hP hD hS 0 rfl rfl 2 (by decide) (hts (.fieldLink RX10 135 "ShortTellerModel" "thrown" "I") (List.mem_of_getElem? (i := 1) rfl)) (fun _ h9 => h9) rfl (by decide +kernel) rfl rfl (Nat.le_of_ble_eq_true rfl) dX10_feed_2 (fun H locs hP hD hS => ?_)
  have hP : va_P D vwCl [(a0, .inr (10, [.ref a1, .int x5, .int 0, .int x7, .int x8, .int x9, .ref a2, .ref a3, .ref a4, .ref a5, .ref a6, .ref a7, .int x10, .ref a8, .ref a9, .ref a10, .ref a11, .ref a12, .int x11, .ref a13, .int x12, .ref a14, .int x13, .ref a15, .int x14, .ref a16, .int x15, .int x16, .ref a17, .ref a18, .int x17, .int x18, .int x19, .int x20, .int x21, .ref a19, .ref a20, .ref a21, .ref a22, .ref a23, .int x22, .ref a24, .ref a25, .ref a26, .ref a27, .int x23, .ref a28, .int x24, .ref a29, .int x25, .ref a30, .ref a31, .int x26, .int x27, .int x28, .ref a32, .ref a33, .ref a34, .ref a35, .ref a36, .ref a37, .ref a38, .int x29, .int x30, .int x31, .ref a39]))] H := hP
  have hD : va_D A [(a0, .inr (10, [.ref a1, .int x5, .int 0, .int x7, .int x8, .int x9, .ref a2, .ref a3, .ref a4, .ref a5, .ref a6, .ref a7, .int x10, .ref a8, .ref a9, .ref a10, .ref a11, .ref a12, .int x11, .ref a13, .int x12, .ref a14, .int x13, .ref a15, .int x14, .ref a16, .int x15, .int x16, .ref a17, .ref a18, .int x17, .int x18, .int x19, .int x20, .int x21, .ref a19, .ref a20, .ref a21, .ref a22, .ref a23, .int x22, .ref a24, .ref a25, .ref a26, .ref a27, .int x23, .ref a28, .int x24, .ref a29, .int x25, .ref a30, .ref a31, .int x26, .int x27, .int x28, .ref a32, .ref a33, .ref a34, .ref a35, .ref a36, .ref a37, .ref a38, .int x29, .int x30, .int x31, .ref a39]))] := hD
  refine lv_aload_n hx hb dX10_feed_5 rfl (lv_at hl 0 rfl) ?_
  refine va_get (D := D) (ci := 10) (v := .int x5) (C := RX10) (T := TX10) (N := 66) hx hb hts iX10 hown hK hP 0 rfl rfl 1 (by decide) (hts (.fieldLink RX10 138 "ShortTellerModel" "tapeSize" "I") (List.mem_of_getElem? (i := 2) rfl)) (fun _ h9 => h9) rfl dX10_feed_6 ?_
  refine lv_bipush (v := 20) hx hb dX10_feed_9 (by decide) ?_
  refine lv_iadd hx hb dX10_feed_11 ?_
  refine lv_sipush (v := 800) hx hb dX10_feed_12 (by decide) ?_
  refine lv_icmp_le (tgt := 20) hx hb dX10_feed_15 (by decide) (fun h9 => absurd h9 g0) (fun _ => ?_)
  refine lv_iconst (v := -1) hx hb dX10_feed_18 (by decide) ?_
  refine W.widen (k := 0) (n := 0) (Nat.le_of_ble_eq_true rfl) (Nat.le_of_ble_eq_true rfl) ?_
  exact hret (q1_u [] []) _ _ _ _ dX10_feed_19 hP hD hS
