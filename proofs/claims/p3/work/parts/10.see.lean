theorem dX10_blanks_0 : decode cX10_blanks 0 = .ok (.aload_n 0, 1) := by decide +kernel
theorem dX10_blanks_1 : decode cX10_blanks 1 = .ok (.invokevirtual 150, 3) := by decide +kernel
theorem dX10_blanks_10 : decode cX10_blanks 10 = .ok (.invokevirtual 150, 3) := by decide +kernel
theorem dX10_blanks_13 : decode cX10_blanks 13 = .ok (.bipush 32, 2) := by decide +kernel
theorem dX10_blanks_15 : decode cX10_blanks 15 = .ok (.if_icmp .ne 16, 3) := by decide +kernel
theorem dX10_blanks_18 : decode cX10_blanks 18 = .ok (.aload_n 0, 1) := by decide +kernel
theorem dX10_blanks_19 : decode cX10_blanks 19 = .ok (.dup, 1) := by decide +kernel
theorem dX10_blanks_20 : decode cX10_blanks 20 = .ok (.getfield 144, 3) := by decide +kernel
theorem dX10_blanks_23 : decode cX10_blanks 23 = .ok (.iconst 1, 1) := by decide +kernel
theorem dX10_blanks_24 : decode cX10_blanks 24 = .ok (.iadd, 1) := by decide +kernel
theorem dX10_blanks_25 : decode cX10_blanks 25 = .ok (.putfield 144, 3) := by decide +kernel
theorem dX10_blanks_28 : decode cX10_blanks 28 = .ok (.goto (-28), 3) := by decide +kernel
theorem dX10_blanks_31 : decode cX10_blanks 31 = .ok (.return_, 1) := by decide +kernel
theorem dX10_blanks_4 : decode cX10_blanks 4 = .ok (.bipush 10, 2) := by decide +kernel
theorem dX10_blanks_6 : decode cX10_blanks 6 = .ok (.if_icmp .eq 12, 3) := by decide +kernel
theorem dX10_blanks_9 : decode cX10_blanks 9 = .ok (.aload_n 0, 1) := by decide +kernel
theorem dX10_see_0 : decode cX10_see 0 = .ok (.aload_n 0, 1) := by decide +kernel
theorem dX10_see_1 : decode cX10_see 1 = .ok (.getfield 144, 3) := by decide +kernel
theorem dX10_see_11 : decode cX10_see 11 = .ok (.aload_n 0, 1) := by decide +kernel
theorem dX10_see_12 : decode cX10_see 12 = .ok (.getfield 7, 3) := by decide +kernel
theorem dX10_see_15 : decode cX10_see 15 = .ok (.aload_n 0, 1) := by decide +kernel
theorem dX10_see_16 : decode cX10_see 16 = .ok (.getfield 144, 3) := by decide +kernel
theorem dX10_see_19 : decode cX10_see 19 = .ok (.iaload, 1) := by decide +kernel
theorem dX10_see_20 : decode cX10_see 20 = .ok (.goto 4, 3) := by decide +kernel
theorem dX10_see_23 : decode cX10_see 23 = .ok (.iconst (-1), 1) := by decide +kernel
theorem dX10_see_24 : decode cX10_see 24 = .ok (.ireturn, 1) := by decide +kernel
theorem dX10_see_4 : decode cX10_see 4 = .ok (.aload_n 0, 1) := by decide +kernel
theorem dX10_see_5 : decode cX10_see 5 = .ok (.getfield 147, 3) := by decide +kernel
theorem dX10_see_8 : decode cX10_see 8 = .ok (.if_icmp .ge 15, 3) := by decide +kernel
set_option maxRecDepth 20000 in
theorem ggX10_blanks_X10_see : GoodIn wsX10_blanks wsX10_see := goodIn_r _ [6, 1, 7, 8, 9, 10, 11, 12, 13, 14, 15, 16, 17, 18, 19, 20, 21, 22, 23, 24, 25, 26, 27, 28, 29, 30, 31, 32, 33, 34, 35, 36, 37, 38, 39, 40, 41, 42, 43, 44, 45, 46, 47, 48, 49, 50, 51, 52, 53, 54, 55, 56, 57, 58, 59, 60, 61, 62, 63, 64, 65, 66, 67, 68, 69, 70, 71, 72, 73, 74] (by decide +kernel) (by decide +kernel)
set_option maxRecDepth 20000 in
theorem gX10_blanks_X10_see : GoodIn wsX10_blanks (wsV RX10 150 RX10 yX10_see wsX10_see) := goodIn_app (goodIn_of _ (by decide +kernel)) ggX10_blanks_X10_see
