theorem dX10_begins_0 : decode cX10_begins 0 = .ok (.aload_n 0, 1) := by decide +kernel
theorem dX10_begins_1 : decode cX10_begins 1 = .ok (.getfield 181, 3) := by decide +kernel
theorem dX10_begins_10 : decode cX10_begins 10 = .ok (.iconst 2, 1) := by decide +kernel
theorem dX10_begins_11 : decode cX10_begins 11 = .ok (.aload_n 0, 1) := by decide +kernel
theorem dX10_begins_12 : decode cX10_begins 12 = .ok (.getfield 144, 3) := by decide +kernel
theorem dX10_begins_15 : decode cX10_begins 15 = .ok (.invokevirtual 167, 3) := by decide +kernel
theorem dX10_begins_18 : decode cX10_begins 18 = .ok (.ireturn, 1) := by decide +kernel
theorem dX10_begins_19 : decode cX10_begins 19 = .ok (.aload_n 0, 1) := by decide +kernel
theorem dX10_begins_20 : decode cX10_begins 20 = .ok (.getfield 83, 3) := by decide +kernel
theorem dX10_begins_23 : decode cX10_begins 23 = .ok (.aload_n 0, 1) := by decide +kernel
theorem dX10_begins_24 : decode cX10_begins 24 = .ok (.getfield 181, 3) := by decide +kernel
theorem dX10_begins_27 : decode cX10_begins 27 = .ok (.iload_n 1, 1) := by decide +kernel
theorem dX10_begins_28 : decode cX10_begins 28 = .ok (.iastore, 1) := by decide +kernel
theorem dX10_begins_29 : decode cX10_begins 29 = .ok (.aload_n 0, 1) := by decide +kernel
theorem dX10_begins_30 : decode cX10_begins 30 = .ok (.getfield 86, 3) := by decide +kernel
theorem dX10_begins_33 : decode cX10_begins 33 = .ok (.aload_n 0, 1) := by decide +kernel
theorem dX10_begins_34 : decode cX10_begins 34 = .ok (.getfield 181, 3) := by decide +kernel
theorem dX10_begins_37 : decode cX10_begins 37 = .ok (.aload_n 0, 1) := by decide +kernel
theorem dX10_begins_38 : decode cX10_begins 38 = .ok (.getfield 174, 3) := by decide +kernel
theorem dX10_begins_4 : decode cX10_begins 4 = .ok (.bipush 14, 2) := by decide +kernel
theorem dX10_begins_41 : decode cX10_begins 41 = .ok (.ifCond .ne 7, 3) := by decide +kernel
theorem dX10_begins_44 : decode cX10_begins 44 = .ok (.iconst (-1), 1) := by decide +kernel
theorem dX10_begins_45 : decode cX10_begins 45 = .ok (.goto 14, 3) := by decide +kernel
theorem dX10_begins_48 : decode cX10_begins 48 = .ok (.aload_n 0, 1) := by decide +kernel
theorem dX10_begins_49 : decode cX10_begins 49 = .ok (.getfield 117, 3) := by decide +kernel
theorem dX10_begins_52 : decode cX10_begins 52 = .ok (.aload_n 0, 1) := by decide +kernel
theorem dX10_begins_53 : decode cX10_begins 53 = .ok (.getfield 174, 3) := by decide +kernel
theorem dX10_begins_56 : decode cX10_begins 56 = .ok (.iconst 1, 1) := by decide +kernel
theorem dX10_begins_57 : decode cX10_begins 57 = .ok (.isub, 1) := by decide +kernel
theorem dX10_begins_58 : decode cX10_begins 58 = .ok (.iaload, 1) := by decide +kernel
theorem dX10_begins_59 : decode cX10_begins 59 = .ok (.iastore, 1) := by decide +kernel
theorem dX10_begins_6 : decode cX10_begins 6 = .ok (.if_icmp .ne 13, 3) := by decide +kernel
theorem dX10_begins_60 : decode cX10_begins 60 = .ok (.aload_n 0, 1) := by decide +kernel
theorem dX10_begins_61 : decode cX10_begins 61 = .ok (.getfield 89, 3) := by decide +kernel
theorem dX10_begins_64 : decode cX10_begins 64 = .ok (.aload_n 0, 1) := by decide +kernel
theorem dX10_begins_65 : decode cX10_begins 65 = .ok (.getfield 181, 3) := by decide +kernel
theorem dX10_begins_68 : decode cX10_begins 68 = .ok (.iload_n 2, 1) := by decide +kernel
theorem dX10_begins_69 : decode cX10_begins 69 = .ok (.iastore, 1) := by decide +kernel
theorem dX10_begins_70 : decode cX10_begins 70 = .ok (.aload_n 0, 1) := by decide +kernel
theorem dX10_begins_71 : decode cX10_begins 71 = .ok (.getfield 92, 3) := by decide +kernel
theorem dX10_begins_74 : decode cX10_begins 74 = .ok (.aload_n 0, 1) := by decide +kernel
theorem dX10_begins_75 : decode cX10_begins 75 = .ok (.getfield 181, 3) := by decide +kernel
theorem dX10_begins_78 : decode cX10_begins 78 = .ok (.iconst 0, 1) := by decide +kernel
theorem dX10_begins_79 : decode cX10_begins 79 = .ok (.iastore, 1) := by decide +kernel
theorem dX10_begins_80 : decode cX10_begins 80 = .ok (.aload_n 0, 1) := by decide +kernel
theorem dX10_begins_81 : decode cX10_begins 81 = .ok (.dup, 1) := by decide +kernel
theorem dX10_begins_82 : decode cX10_begins 82 = .ok (.getfield 181, 3) := by decide +kernel
theorem dX10_begins_85 : decode cX10_begins 85 = .ok (.iconst 1, 1) := by decide +kernel
theorem dX10_begins_86 : decode cX10_begins 86 = .ok (.iadd, 1) := by decide +kernel
theorem dX10_begins_87 : decode cX10_begins 87 = .ok (.putfield 181, 3) := by decide +kernel
theorem dX10_begins_9 : decode cX10_begins 9 = .ok (.aload_n 0, 1) := by decide +kernel
theorem dX10_begins_90 : decode cX10_begins 90 = .ok (.iconst 1, 1) := by decide +kernel
theorem dX10_begins_91 : decode cX10_begins 91 = .ok (.ireturn, 1) := by decide +kernel
theorem dX10_opens_0 : decode cX10_opens 0 = .ok (.aload_n 0, 1) := by decide +kernel
theorem dX10_opens_1 : decode cX10_opens 1 = .ok (.getfield 107, 3) := by decide +kernel
theorem dX10_opens_10 : decode cX10_opens 10 = .ok (.aload_n 0, 1) := by decide +kernel
theorem dX10_opens_11 : decode cX10_opens 11 = .ok (.getfield 110, 3) := by decide +kernel
theorem dX10_opens_14 : decode cX10_opens 14 = .ok (.aload_n 0, 1) := by decide +kernel
theorem dX10_opens_15 : decode cX10_opens 15 = .ok (.getfield 174, 3) := by decide +kernel
theorem dX10_opens_18 : decode cX10_opens 18 = .ok (.aload_n 0, 1) := by decide +kernel
theorem dX10_opens_19 : decode cX10_opens 19 = .ok (.getfield 144, 3) := by decide +kernel
theorem dX10_opens_22 : decode cX10_opens 22 = .ok (.iastore, 1) := by decide +kernel
theorem dX10_opens_23 : decode cX10_opens 23 = .ok (.aload_n 0, 1) := by decide +kernel
theorem dX10_opens_24 : decode cX10_opens 24 = .ok (.getfield 113, 3) := by decide +kernel
theorem dX10_opens_27 : decode cX10_opens 27 = .ok (.aload_n 0, 1) := by decide +kernel
theorem dX10_opens_28 : decode cX10_opens 28 = .ok (.getfield 174, 3) := by decide +kernel
theorem dX10_opens_31 : decode cX10_opens 31 = .ok (.iconst 0, 1) := by decide +kernel
theorem dX10_opens_32 : decode cX10_opens 32 = .ok (.bastore, 1) := by decide +kernel
theorem dX10_opens_33 : decode cX10_opens 33 = .ok (.aload_n 0, 1) := by decide +kernel
theorem dX10_opens_34 : decode cX10_opens 34 = .ok (.getfield 117, 3) := by decide +kernel
theorem dX10_opens_37 : decode cX10_opens 37 = .ok (.aload_n 0, 1) := by decide +kernel
theorem dX10_opens_38 : decode cX10_opens 38 = .ok (.getfield 174, 3) := by decide +kernel
theorem dX10_opens_4 : decode cX10_opens 4 = .ok (.aload_n 0, 1) := by decide +kernel
theorem dX10_opens_41 : decode cX10_opens 41 = .ok (.iload_n 2, 1) := by decide +kernel
theorem dX10_opens_42 : decode cX10_opens 42 = .ok (.iastore, 1) := by decide +kernel
theorem dX10_opens_43 : decode cX10_opens 43 = .ok (.aload_n 0, 1) := by decide +kernel
theorem dX10_opens_44 : decode cX10_opens 44 = .ok (.getfield 120, 3) := by decide +kernel
theorem dX10_opens_47 : decode cX10_opens 47 = .ok (.aload_n 0, 1) := by decide +kernel
theorem dX10_opens_48 : decode cX10_opens 48 = .ok (.getfield 174, 3) := by decide +kernel
theorem dX10_opens_5 : decode cX10_opens 5 = .ok (.getfield 174, 3) := by decide +kernel
theorem dX10_opens_51 : decode cX10_opens 51 = .ok (.iload_n 3, 1) := by decide +kernel
theorem dX10_opens_52 : decode cX10_opens 52 = .ok (.iastore, 1) := by decide +kernel
theorem dX10_opens_53 : decode cX10_opens 53 = .ok (.aload_n 0, 1) := by decide +kernel
theorem dX10_opens_54 : decode cX10_opens 54 = .ok (.getfield 123, 3) := by decide +kernel
theorem dX10_opens_57 : decode cX10_opens 57 = .ok (.aload_n 0, 1) := by decide +kernel
theorem dX10_opens_58 : decode cX10_opens 58 = .ok (.getfield 174, 3) := by decide +kernel
theorem dX10_opens_61 : decode cX10_opens 61 = .ok (.iload 4, 2) := by decide +kernel
theorem dX10_opens_63 : decode cX10_opens 63 = .ok (.iastore, 1) := by decide +kernel
theorem dX10_opens_64 : decode cX10_opens 64 = .ok (.aload_n 0, 1) := by decide +kernel
theorem dX10_opens_65 : decode cX10_opens 65 = .ok (.dup, 1) := by decide +kernel
theorem dX10_opens_66 : decode cX10_opens 66 = .ok (.getfield 174, 3) := by decide +kernel
theorem dX10_opens_69 : decode cX10_opens 69 = .ok (.iconst 1, 1) := by decide +kernel
theorem dX10_opens_70 : decode cX10_opens 70 = .ok (.iadd, 1) := by decide +kernel
theorem dX10_opens_71 : decode cX10_opens 71 = .ok (.putfield 174, 3) := by decide +kernel
theorem dX10_opens_74 : decode cX10_opens 74 = .ok (.return_, 1) := by decide +kernel
theorem dX10_opens_8 : decode cX10_opens 8 = .ok (.iload_n 1, 1) := by decide +kernel
theorem dX10_opens_9 : decode cX10_opens 9 = .ok (.iastore, 1) := by decide +kernel
set_option maxRecDepth 20000 in
theorem ggX10_begins_X10_wrong : GoodIn wsX10_begins wsX10_wrong := goodIn_r _ [13, 14, 15, 16, 17, 18, 19, 20, 21, 22, 23, 24, 25, 26, 27, 28, 29, 30, 31, 32, 33, 34, 35, 36, 37, 38, 39, 40, 41, 42, 43, 44, 45, 46, 47, 48, 49, 50, 51, 52, 53, 54, 55, 56, 57, 58, 59, 60, 61, 62, 63, 64, 65, 66, 67, 68, 69, 70, 71, 72, 73, 74, 75, 76, 77, 78, 79, 80, 81] (by decide +kernel) (by decide +kernel)
set_option maxRecDepth 20000 in
theorem gX10_begins_X10_wrong : GoodIn wsX10_begins (wsV RX10 167 RX10 yX10_wrong wsX10_wrong) := goodIn_app (goodIn_of _ (by decide +kernel)) ggX10_begins_X10_wrong
