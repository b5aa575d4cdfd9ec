theorem dX10_ends_0 : decode cX10_ends 0 = .ok (.aload_n 0, 1) := by decide +kernel
theorem dX10_ends_1 : decode cX10_ends 1 = .ok (.dup, 1) := by decide +kernel
theorem dX10_ends_10 : decode cX10_ends 10 = .ok (.aload_n 0, 1) := by decide +kernel
theorem dX10_ends_11 : decode cX10_ends 11 = .ok (.getfield 113, 3) := by decide +kernel
theorem dX10_ends_14 : decode cX10_ends 14 = .ok (.aload_n 0, 1) := by decide +kernel
theorem dX10_ends_15 : decode cX10_ends 15 = .ok (.getfield 174, 3) := by decide +kernel
theorem dX10_ends_18 : decode cX10_ends 18 = .ok (.baload, 1) := by decide +kernel
theorem dX10_ends_19 : decode cX10_ends 19 = .ok (.ifCond .ne 18, 3) := by decide +kernel
theorem dX10_ends_2 : decode cX10_ends 2 = .ok (.getfield 174, 3) := by decide +kernel
theorem dX10_ends_22 : decode cX10_ends 22 = .ok (.aload_n 0, 1) := by decide +kernel
theorem dX10_ends_23 : decode cX10_ends 23 = .ok (.iconst 4, 1) := by decide +kernel
theorem dX10_ends_24 : decode cX10_ends 24 = .ok (.aload_n 0, 1) := by decide +kernel
theorem dX10_ends_25 : decode cX10_ends 25 = .ok (.getfield 110, 3) := by decide +kernel
theorem dX10_ends_28 : decode cX10_ends 28 = .ok (.aload_n 0, 1) := by decide +kernel
theorem dX10_ends_29 : decode cX10_ends 29 = .ok (.getfield 174, 3) := by decide +kernel
theorem dX10_ends_32 : decode cX10_ends 32 = .ok (.iaload, 1) := by decide +kernel
theorem dX10_ends_33 : decode cX10_ends 33 = .ok (.invokevirtual 167, 3) := by decide +kernel
theorem dX10_ends_36 : decode cX10_ends 36 = .ok (.ireturn, 1) := by decide +kernel
theorem dX10_ends_37 : decode cX10_ends 37 = .ok (.aload_n 0, 1) := by decide +kernel
theorem dX10_ends_38 : decode cX10_ends 38 = .ok (.getfield 107, 3) := by decide +kernel
theorem dX10_ends_41 : decode cX10_ends 41 = .ok (.aload_n 0, 1) := by decide +kernel
theorem dX10_ends_42 : decode cX10_ends 42 = .ok (.getfield 174, 3) := by decide +kernel
theorem dX10_ends_45 : decode cX10_ends 45 = .ok (.iaload, 1) := by decide +kernel
theorem dX10_ends_46 : decode cX10_ends 46 = .ok (.iconst 3, 1) := by decide +kernel
theorem dX10_ends_47 : decode cX10_ends 47 = .ok (.if_icmp .ne 15, 3) := by decide +kernel
theorem dX10_ends_5 : decode cX10_ends 5 = .ok (.iconst 1, 1) := by decide +kernel
theorem dX10_ends_50 : decode cX10_ends 50 = .ok (.aload_n 0, 1) := by decide +kernel
theorem dX10_ends_51 : decode cX10_ends 51 = .ok (.getfield 113, 3) := by decide +kernel
theorem dX10_ends_54 : decode cX10_ends 54 = .ok (.aload_n 0, 1) := by decide +kernel
theorem dX10_ends_55 : decode cX10_ends 55 = .ok (.getfield 174, 3) := by decide +kernel
theorem dX10_ends_58 : decode cX10_ends 58 = .ok (.iconst 1, 1) := by decide +kernel
theorem dX10_ends_59 : decode cX10_ends 59 = .ok (.isub, 1) := by decide +kernel
theorem dX10_ends_6 : decode cX10_ends 6 = .ok (.isub, 1) := by decide +kernel
theorem dX10_ends_60 : decode cX10_ends 60 = .ok (.iconst 1, 1) := by decide +kernel
theorem dX10_ends_61 : decode cX10_ends 61 = .ok (.bastore, 1) := by decide +kernel
theorem dX10_ends_62 : decode cX10_ends 62 = .ok (.iconst 1, 1) := by decide +kernel
theorem dX10_ends_63 : decode cX10_ends 63 = .ok (.ireturn, 1) := by decide +kernel
theorem dX10_ends_7 : decode cX10_ends 7 = .ok (.putfield 174, 3) := by decide +kernel
set_option maxRecDepth 20000 in
theorem ggX10_ends_X10_wrong : GoodIn wsX10_ends wsX10_wrong := goodIn_r _ [9, 10, 11, 12, 13, 14, 15, 16, 17, 18, 19, 20, 21, 22, 23, 24, 25, 26, 27, 28, 29, 30, 31, 32, 33, 34, 35, 36, 37, 38, 39, 40, 41, 42, 43, 44, 45, 46, 47, 48, 49, 50, 51, 52, 53, 54, 55, 56, 57, 58, 59, 60, 61, 62, 63, 64, 65, 66, 67, 68, 69, 70, 71, 72, 73, 74, 75, 76, 77] rfl (by decide +kernel)
set_option maxRecDepth 20000 in
theorem gX10_ends_X10_wrong : GoodIn wsX10_ends (wsV RX10 167 RX10 yX10_wrong wsX10_wrong) := goodIn_app (goodIn_of _ (by decide +kernel)) ggX10_ends_X10_wrong
