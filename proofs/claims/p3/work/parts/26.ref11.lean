theorem dX10_finish_0 : decode cX10_finish 0 = .ok (.aload_n 0, 1) := by decide +kernel
theorem dX10_finish_1 : decode cX10_finish 1 = .ok (.iconst 0, 1) := by decide +kernel
theorem dX10_finish_10 : decode cX10_finish 10 = .ok (.getfield 233, 3) := by decide +kernel
theorem dX10_finish_13 : decode cX10_finish 13 = .ok (.ishl, 1) := by decide +kernel
theorem dX10_finish_14 : decode cX10_finish 14 = .ok (.if_icmp .ge 52, 3) := by decide +kernel
theorem dX10_finish_17 : decode cX10_finish 17 = .ok (.aload_n 0, 1) := by decide +kernel
theorem dX10_finish_18 : decode cX10_finish 18 = .ok (.getfield 62, 3) := by decide +kernel
theorem dX10_finish_2 : decode cX10_finish 2 = .ok (.putfield 278, 3) := by decide +kernel
theorem dX10_finish_21 : decode cX10_finish 21 = .ok (.iload_n 1, 1) := by decide +kernel
theorem dX10_finish_22 : decode cX10_finish 22 = .ok (.iconst (-1), 1) := by decide +kernel
theorem dX10_finish_23 : decode cX10_finish 23 = .ok (.iastore, 1) := by decide +kernel
theorem dX10_finish_24 : decode cX10_finish 24 = .ok (.aload_n 0, 1) := by decide +kernel
theorem dX10_finish_25 : decode cX10_finish 25 = .ok (.iload_n 1, 1) := by decide +kernel
theorem dX10_finish_26 : decode cX10_finish 26 = .ok (.invokevirtual 281, 3) := by decide +kernel
theorem dX10_finish_29 : decode cX10_finish 29 = .ok (.ifCond .ne 6, 3) := by decide +kernel
theorem dX10_finish_32 : decode cX10_finish 32 = .ok (.goto 28, 3) := by decide +kernel
theorem dX10_finish_35 : decode cX10_finish 35 = .ok (.aload_n 0, 1) := by decide +kernel
theorem dX10_finish_36 : decode cX10_finish 36 = .ok (.dup, 1) := by decide +kernel
theorem dX10_finish_37 : decode cX10_finish 37 = .ok (.getfield 278, 3) := by decide +kernel
theorem dX10_finish_40 : decode cX10_finish 40 = .ok (.iconst 1, 1) := by decide +kernel
theorem dX10_finish_41 : decode cX10_finish 41 = .ok (.iadd, 1) := by decide +kernel
theorem dX10_finish_42 : decode cX10_finish 42 = .ok (.putfield 278, 3) := by decide +kernel
theorem dX10_finish_45 : decode cX10_finish 45 = .ok (.aload_n 0, 1) := by decide +kernel
theorem dX10_finish_46 : decode cX10_finish 46 = .ok (.iload_n 1, 1) := by decide +kernel
theorem dX10_finish_47 : decode cX10_finish 47 = .ok (.invokevirtual 284, 3) := by decide +kernel
theorem dX10_finish_5 : decode cX10_finish 5 = .ok (.iconst 0, 1) := by decide +kernel
theorem dX10_finish_50 : decode cX10_finish 50 = .ok (.aload_n 0, 1) := by decide +kernel
theorem dX10_finish_51 : decode cX10_finish 51 = .ok (.getfield 62, 3) := by decide +kernel
theorem dX10_finish_54 : decode cX10_finish 54 = .ok (.iload_n 1, 1) := by decide +kernel
theorem dX10_finish_55 : decode cX10_finish 55 = .ok (.aload_n 0, 1) := by decide +kernel
theorem dX10_finish_56 : decode cX10_finish 56 = .ok (.getfield 254, 3) := by decide +kernel
theorem dX10_finish_59 : decode cX10_finish 59 = .ok (.iastore, 1) := by decide +kernel
theorem dX10_finish_6 : decode cX10_finish 6 = .ok (.istore_n 1, 1) := by decide +kernel
theorem dX10_finish_60 : decode cX10_finish 60 = .ok (.iinc 1 1, 3) := by decide +kernel
theorem dX10_finish_63 : decode cX10_finish 63 = .ok (.goto (-56), 3) := by decide +kernel
theorem dX10_finish_66 : decode cX10_finish 66 = .ok (.aload_n 0, 1) := by decide +kernel
theorem dX10_finish_67 : decode cX10_finish 67 = .ok (.aload_n 0, 1) := by decide +kernel
theorem dX10_finish_68 : decode cX10_finish 68 = .ok (.getfield 62, 3) := by decide +kernel
theorem dX10_finish_7 : decode cX10_finish 7 = .ok (.iload_n 1, 1) := by decide +kernel
theorem dX10_finish_71 : decode cX10_finish 71 = .ok (.iconst 1, 1) := by decide +kernel
theorem dX10_finish_72 : decode cX10_finish 72 = .ok (.aload_n 0, 1) := by decide +kernel
theorem dX10_finish_73 : decode cX10_finish 73 = .ok (.getfield 233, 3) := by decide +kernel
theorem dX10_finish_76 : decode cX10_finish 76 = .ok (.ishl, 1) := by decide +kernel
theorem dX10_finish_77 : decode cX10_finish 77 = .ok (.iconst 1, 1) := by decide +kernel
theorem dX10_finish_78 : decode cX10_finish 78 = .ok (.isub, 1) := by decide +kernel
theorem dX10_finish_79 : decode cX10_finish 79 = .ok (.iaload, 1) := by decide +kernel
theorem dX10_finish_8 : decode cX10_finish 8 = .ok (.iconst 1, 1) := by decide +kernel
theorem dX10_finish_80 : decode cX10_finish 80 = .ok (.putfield 288, 3) := by decide +kernel
theorem dX10_finish_83 : decode cX10_finish 83 = .ok (.aload_n 0, 1) := by decide +kernel
theorem dX10_finish_84 : decode cX10_finish 84 = .ok (.invokevirtual 291, 3) := by decide +kernel
theorem dX10_finish_87 : decode cX10_finish 87 = .ok (.return_, 1) := by decide +kernel
theorem dX10_finish_9 : decode cX10_finish 9 = .ok (.aload_n 0, 1) := by decide +kernel
theorem dX10_told_0 : decode cX10_told 0 = .ok (.iconst 0, 1) := by decide +kernel
theorem dX10_told_1 : decode cX10_told 1 = .ok (.istore_n 2, 1) := by decide +kernel
theorem dX10_told_12 : decode cX10_told 12 = .ok (.iload_n 2, 1) := by decide +kernel
theorem dX10_told_13 : decode cX10_told 13 = .ok (.iload_n 1, 1) := by decide +kernel
theorem dX10_told_14 : decode cX10_told 14 = .ok (.iload_n 3, 1) := by decide +kernel
theorem dX10_told_15 : decode cX10_told 15 = .ok (.invokestatic 251, 3) := by decide +kernel
theorem dX10_told_18 : decode cX10_told 18 = .ok (.ifCond .eq 12, 3) := by decide +kernel
theorem dX10_told_2 : decode cX10_told 2 = .ok (.iconst 0, 1) := by decide +kernel
theorem dX10_told_21 : decode cX10_told 21 = .ok (.aload_n 0, 1) := by decide +kernel
theorem dX10_told_22 : decode cX10_told 22 = .ok (.getfield 47, 3) := by decide +kernel
theorem dX10_told_25 : decode cX10_told 25 = .ok (.iload_n 3, 1) := by decide +kernel
theorem dX10_told_26 : decode cX10_told 26 = .ok (.iaload, 1) := by decide +kernel
theorem dX10_told_27 : decode cX10_told 27 = .ok (.goto 4, 3) := by decide +kernel
theorem dX10_told_3 : decode cX10_told 3 = .ok (.istore_n 3, 1) := by decide +kernel
theorem dX10_told_30 : decode cX10_told 30 = .ok (.iconst 0, 1) := by decide +kernel
theorem dX10_told_31 : decode cX10_told 31 = .ok (.ior, 1) := by decide +kernel
theorem dX10_told_32 : decode cX10_told 32 = .ok (.istore_n 2, 1) := by decide +kernel
theorem dX10_told_33 : decode cX10_told 33 = .ok (.iinc 3 1, 3) := by decide +kernel
theorem dX10_told_36 : decode cX10_told 36 = .ok (.goto (-32), 3) := by decide +kernel
theorem dX10_told_39 : decode cX10_told 39 = .ok (.iconst 0, 1) := by decide +kernel
theorem dX10_told_4 : decode cX10_told 4 = .ok (.iload_n 3, 1) := by decide +kernel
theorem dX10_told_40 : decode cX10_told 40 = .ok (.istore_n 3, 1) := by decide +kernel
theorem dX10_told_41 : decode cX10_told 41 = .ok (.iload_n 3, 1) := by decide +kernel
theorem dX10_told_42 : decode cX10_told 42 = .ok (.aload_n 0, 1) := by decide +kernel
theorem dX10_told_43 : decode cX10_told 43 = .ok (.getfield 239, 3) := by decide +kernel
theorem dX10_told_46 : decode cX10_told 46 = .ok (.if_icmp .ge 48, 3) := by decide +kernel
theorem dX10_told_49 : decode cX10_told 49 = .ok (.iload_n 2, 1) := by decide +kernel
theorem dX10_told_5 : decode cX10_told 5 = .ok (.aload_n 0, 1) := by decide +kernel
theorem dX10_told_50 : decode cX10_told 50 = .ok (.aload_n 0, 1) := by decide +kernel
theorem dX10_told_51 : decode cX10_told 51 = .ok (.getfield 53, 3) := by decide +kernel
theorem dX10_told_54 : decode cX10_told 54 = .ok (.iload_n 3, 1) := by decide +kernel
theorem dX10_told_55 : decode cX10_told 55 = .ok (.iaload, 1) := by decide +kernel
theorem dX10_told_56 : decode cX10_told 56 = .ok (.ifCond .ge 29, 3) := by decide +kernel
theorem dX10_told_59 : decode cX10_told 59 = .ok (.aload_n 0, 1) := by decide +kernel
theorem dX10_told_6 : decode cX10_told 6 = .ok (.getfield 233, 3) := by decide +kernel
theorem dX10_told_60 : decode cX10_told 60 = .ok (.iload_n 1, 1) := by decide +kernel
theorem dX10_told_61 : decode cX10_told 61 = .ok (.iload_n 3, 1) := by decide +kernel
theorem dX10_told_62 : decode cX10_told 62 = .ok (.invokevirtual 260, 3) := by decide +kernel
theorem dX10_told_65 : decode cX10_told 65 = .ok (.ifCond .eq 20, 3) := by decide +kernel
theorem dX10_told_68 : decode cX10_told 68 = .ok (.aload_n 0, 1) := by decide +kernel
theorem dX10_told_69 : decode cX10_told 69 = .ok (.getfield 56, 3) := by decide +kernel
theorem dX10_told_72 : decode cX10_told 72 = .ok (.bipush (-2), 2) := by decide +kernel
theorem dX10_told_74 : decode cX10_told 74 = .ok (.aload_n 0, 1) := by decide +kernel
theorem dX10_told_75 : decode cX10_told 75 = .ok (.getfield 53, 3) := by decide +kernel
theorem dX10_told_78 : decode cX10_told 78 = .ok (.iload_n 3, 1) := by decide +kernel
theorem dX10_told_79 : decode cX10_told 79 = .ok (.iaload, 1) := by decide +kernel
theorem dX10_told_80 : decode cX10_told 80 = .ok (.isub, 1) := by decide +kernel
theorem dX10_told_81 : decode cX10_told 81 = .ok (.iaload, 1) := by decide +kernel
theorem dX10_told_82 : decode cX10_told 82 = .ok (.goto 4, 3) := by decide +kernel
theorem dX10_told_85 : decode cX10_told 85 = .ok (.iconst 0, 1) := by decide +kernel
theorem dX10_told_86 : decode cX10_told 86 = .ok (.ior, 1) := by decide +kernel
theorem dX10_told_87 : decode cX10_told 87 = .ok (.istore_n 2, 1) := by decide +kernel
theorem dX10_told_88 : decode cX10_told 88 = .ok (.iinc 3 1, 3) := by decide +kernel
theorem dX10_told_9 : decode cX10_told 9 = .ok (.if_icmp .ge 30, 3) := by decide +kernel
theorem dX10_told_91 : decode cX10_told 91 = .ok (.goto (-50), 3) := by decide +kernel
theorem dX10_told_94 : decode cX10_told 94 = .ok (.iload_n 2, 1) := by decide +kernel
theorem dX10_told_95 : decode cX10_told 95 = .ok (.ireturn, 1) := by decide +kernel
theorem dX10_valueAll_0 : decode cX10_valueAll 0 = .ok (.iconst 0, 1) := by decide +kernel
theorem dX10_valueAll_1 : decode cX10_valueAll 1 = .ok (.istore_n 1, 1) := by decide +kernel
theorem dX10_valueAll_12 : decode cX10_valueAll 12 = .ok (.aload_n 0, 1) := by decide +kernel
theorem dX10_valueAll_13 : decode cX10_valueAll 13 = .ok (.getfield 65, 3) := by decide +kernel
theorem dX10_valueAll_16 : decode cX10_valueAll 16 = .ok (.iload_n 1, 1) := by decide +kernel
theorem dX10_valueAll_17 : decode cX10_valueAll 17 = .ok (.aload_n 0, 1) := by decide +kernel
theorem dX10_valueAll_18 : decode cX10_valueAll 18 = .ok (.getfield 62, 3) := by decide +kernel
theorem dX10_valueAll_2 : decode cX10_valueAll 2 = .ok (.iload_n 1, 1) := by decide +kernel
theorem dX10_valueAll_21 : decode cX10_valueAll 21 = .ok (.iload_n 1, 1) := by decide +kernel
theorem dX10_valueAll_22 : decode cX10_valueAll 22 = .ok (.iaload, 1) := by decide +kernel
theorem dX10_valueAll_23 : decode cX10_valueAll 23 = .ok (.ifCond .ge 7, 3) := by decide +kernel
theorem dX10_valueAll_26 : decode cX10_valueAll 26 = .ok (.iconst (-1), 1) := by decide +kernel
theorem dX10_valueAll_27 : decode cX10_valueAll 27 = .ok (.goto 8, 3) := by decide +kernel
theorem dX10_valueAll_3 : decode cX10_valueAll 3 = .ok (.iconst 1, 1) := by decide +kernel
theorem dX10_valueAll_30 : decode cX10_valueAll 30 = .ok (.aload_n 0, 1) := by decide +kernel
theorem dX10_valueAll_31 : decode cX10_valueAll 31 = .ok (.iload_n 1, 1) := by decide +kernel
theorem dX10_valueAll_32 : decode cX10_valueAll 32 = .ok (.invokevirtual 294, 3) := by decide +kernel
theorem dX10_valueAll_35 : decode cX10_valueAll 35 = .ok (.iastore, 1) := by decide +kernel
theorem dX10_valueAll_36 : decode cX10_valueAll 36 = .ok (.iinc 1 1, 3) := by decide +kernel
theorem dX10_valueAll_39 : decode cX10_valueAll 39 = .ok (.goto (-37), 3) := by decide +kernel
theorem dX10_valueAll_4 : decode cX10_valueAll 4 = .ok (.aload_n 0, 1) := by decide +kernel
theorem dX10_valueAll_42 : decode cX10_valueAll 42 = .ok (.aload_n 0, 1) := by decide +kernel
theorem dX10_valueAll_43 : decode cX10_valueAll 43 = .ok (.iconst 0, 1) := by decide +kernel
theorem dX10_valueAll_44 : decode cX10_valueAll 44 = .ok (.putfield 297, 3) := by decide +kernel
theorem dX10_valueAll_47 : decode cX10_valueAll 47 = .ok (.return_, 1) := by decide +kernel
theorem dX10_valueAll_5 : decode cX10_valueAll 5 = .ok (.getfield 233, 3) := by decide +kernel
theorem dX10_valueAll_8 : decode cX10_valueAll 8 = .ok (.ishl, 1) := by decide +kernel
theorem dX10_valueAll_9 : decode cX10_valueAll 9 = .ok (.if_icmp .ge 33, 3) := by decide +kernel
theorem dX10_valueOf_0 : decode cX10_valueOf 0 = .ok (.aload_n 0, 1) := by decide +kernel
theorem dX10_valueOf_1 : decode cX10_valueOf 1 = .ok (.iload_n 1, 1) := by decide +kernel
theorem dX10_valueOf_11 : decode cX10_valueOf 11 = .ok (.iload 4, 2) := by decide +kernel
theorem dX10_valueOf_13 : decode cX10_valueOf 13 = .ok (.bipush 31, 2) := by decide +kernel
theorem dX10_valueOf_15 : decode cX10_valueOf 15 = .ok (.if_icmp .ge 40, 3) := by decide +kernel
theorem dX10_valueOf_18 : decode cX10_valueOf 18 = .ok (.iload_n 3, 1) := by decide +kernel
theorem dX10_valueOf_19 : decode cX10_valueOf 19 = .ok (.iload_n 2, 1) := by decide +kernel
theorem dX10_valueOf_2 : decode cX10_valueOf 2 = .ok (.invokevirtual 274, 3) := by decide +kernel
theorem dX10_valueOf_20 : decode cX10_valueOf 20 = .ok (.aload_n 0, 1) := by decide +kernel
theorem dX10_valueOf_21 : decode cX10_valueOf 21 = .ok (.getfield 248, 3) := by decide +kernel
theorem dX10_valueOf_24 : decode cX10_valueOf 24 = .ok (.iconst (-1), 1) := by decide +kernel
theorem dX10_valueOf_25 : decode cX10_valueOf 25 = .ok (.ixor, 1) := by decide +kernel
theorem dX10_valueOf_26 : decode cX10_valueOf 26 = .ok (.iand, 1) := by decide +kernel
theorem dX10_valueOf_27 : decode cX10_valueOf 27 = .ok (.iload 4, 2) := by decide +kernel
theorem dX10_valueOf_29 : decode cX10_valueOf 29 = .ok (.ishr, 1) := by decide +kernel
theorem dX10_valueOf_30 : decode cX10_valueOf 30 = .ok (.iconst 1, 1) := by decide +kernel
theorem dX10_valueOf_31 : decode cX10_valueOf 31 = .ok (.iand, 1) := by decide +kernel
theorem dX10_valueOf_32 : decode cX10_valueOf 32 = .ok (.iconst 1, 1) := by decide +kernel
theorem dX10_valueOf_33 : decode cX10_valueOf 33 = .ok (.if_icmp .ne 13, 3) := by decide +kernel
theorem dX10_valueOf_36 : decode cX10_valueOf 36 = .ok (.aload_n 0, 1) := by decide +kernel
theorem dX10_valueOf_37 : decode cX10_valueOf 37 = .ok (.getfield 59, 3) := by decide +kernel
theorem dX10_valueOf_40 : decode cX10_valueOf 40 = .ok (.iload 4, 2) := by decide +kernel
theorem dX10_valueOf_42 : decode cX10_valueOf 42 = .ok (.iaload, 1) := by decide +kernel
theorem dX10_valueOf_43 : decode cX10_valueOf 43 = .ok (.goto 4, 3) := by decide +kernel
theorem dX10_valueOf_46 : decode cX10_valueOf 46 = .ok (.iconst 0, 1) := by decide +kernel
theorem dX10_valueOf_47 : decode cX10_valueOf 47 = .ok (.iadd, 1) := by decide +kernel
theorem dX10_valueOf_48 : decode cX10_valueOf 48 = .ok (.istore_n 3, 1) := by decide +kernel
theorem dX10_valueOf_49 : decode cX10_valueOf 49 = .ok (.iinc 4 1, 3) := by decide +kernel
theorem dX10_valueOf_5 : decode cX10_valueOf 5 = .ok (.istore_n 2, 1) := by decide +kernel
theorem dX10_valueOf_52 : decode cX10_valueOf 52 = .ok (.goto (-41), 3) := by decide +kernel
theorem dX10_valueOf_55 : decode cX10_valueOf 55 = .ok (.iload_n 3, 1) := by decide +kernel
theorem dX10_valueOf_56 : decode cX10_valueOf 56 = .ok (.ireturn, 1) := by decide +kernel
theorem dX10_valueOf_6 : decode cX10_valueOf 6 = .ok (.iconst 0, 1) := by decide +kernel
theorem dX10_valueOf_7 : decode cX10_valueOf 7 = .ok (.istore_n 3, 1) := by decide +kernel
theorem dX10_valueOf_8 : decode cX10_valueOf 8 = .ok (.iconst 0, 1) := by decide +kernel
theorem dX10_valueOf_9 : decode cX10_valueOf 9 = .ok (.istore 4, 2) := by decide +kernel
set_option maxRecDepth 20000 in
theorem ggX10_told_X10_stays : GoodIn wsX10_told wsX10_stays := goodIn_r _ [13, 4, 3, 6, 7, 8, 9, 14, 15, 16, 17, 18, 19, 20, 21, 22, 23, 24, 25, 26, 27, 28, 29, 30, 31, 32, 33, 34, 35, 36, 37, 38, 39, 40, 41, 42, 43, 44, 45, 46, 47, 48, 49, 50, 51, 52, 53, 54, 55, 56, 57, 58, 59, 60, 61, 62, 63, 64, 65, 66, 67, 68, 69, 70, 71, 72, 73, 74, 75, 76, 77, 78, 79] rfl (by decide +kernel)
set_option maxRecDepth 20000 in
theorem gX10_told_X10_stays : GoodIn wsX10_told (wsV RX10 260 RX10 yX10_stays wsX10_stays) := goodIn_app (goodIn_of _ (by decide +kernel)) ggX10_told_X10_stays
set_option maxRecDepth 20000 in
theorem ggX10_told_X10_has : GoodIn wsX10_told wsX10_has := goodIn_r _ [9] rfl (by decide +kernel)
set_option maxRecDepth 20000 in
theorem gX10_told_X10_has : GoodIn wsX10_told (va_wsS RX10 251 yX10_has wsX10_has) := goodIn_app (goodIn_of _ (by decide +kernel)) ggX10_told_X10_has
set_option maxRecDepth 20000 in
theorem ggX10_valueOf_X10_told : GoodIn wsX10_valueOf wsX10_told := goodIn_r _ [7, 8, 9, 10, 11, 12, 13, 14, 6, 15, 16, 17, 18, 19, 20, 21, 22, 23, 24, 25, 26, 27, 28, 29, 30, 31, 32, 33, 34, 35, 36, 37, 38, 39, 40, 41, 42, 43, 44, 45, 46, 47, 48, 49, 50, 51, 52, 53, 54, 55, 56, 57, 58, 59, 60, 61, 62, 63, 64, 65, 66, 67, 68, 69, 70, 71, 72, 73, 74, 75, 76, 77, 78, 79, 80, 81, 82, 83, 84, 85] rfl (by decide +kernel)
set_option maxRecDepth 20000 in
theorem gX10_valueOf_X10_told : GoodIn wsX10_valueOf (wsV RX10 274 RX10 yX10_told wsX10_told) := goodIn_app (goodIn_of _ (by decide +kernel)) ggX10_valueOf_X10_told
set_option maxRecDepth 20000 in
theorem ggX10_valueAll_X10_valueOf : GoodIn wsX10_valueAll wsX10_valueOf := goodIn_r _ [9, 10, 11, 12, 13, 14, 8, 15, 1, 16, 17, 18, 19, 20, 21, 22, 23, 24, 25, 26, 27, 28, 29, 30, 31, 32, 33, 34, 35, 36, 37, 38, 39, 40, 41, 42, 43, 44, 45, 46, 47, 48, 49, 50, 51, 52, 53, 54, 55, 56, 57, 58, 59, 60, 61, 62, 63, 64, 65, 66, 67, 68, 69, 70, 71, 72, 73, 74, 75, 76, 77, 78, 79, 80, 81, 82, 83, 84, 85, 86, 87, 88, 89, 90, 91, 92] rfl (by decide +kernel)
set_option maxRecDepth 20000 in
theorem gX10_valueAll_X10_valueOf : GoodIn wsX10_valueAll (wsV RX10 294 RX10 yX10_valueOf wsX10_valueOf) := goodIn_app (goodIn_of _ (by decide +kernel)) ggX10_valueAll_X10_valueOf
set_option maxRecDepth 20000 in
theorem ggX10_finish_X10_valueAll : GoodIn wsX10_finish wsX10_valueAll := goodIn_r _ [52, 2, 53, 3, 54, 55, 56, 57, 9, 58, 59, 60, 61, 62, 63, 64, 65, 35, 34, 66, 15, 16, 17, 30, 31, 32, 33, 67, 68, 69, 70, 71, 72, 73, 74, 75, 76, 77, 78, 79, 80, 81, 82, 83, 84, 85, 86, 87, 88, 89, 90, 91, 92, 93, 94, 95, 96, 97, 98, 99, 100, 101, 102, 103, 104, 105, 106, 107, 108, 109, 110, 111, 112, 113, 114, 115, 116, 117, 118, 119, 120, 121, 122, 123, 124, 125, 126, 127, 128, 129, 130, 131, 132] rfl (by decide +kernel)
set_option maxRecDepth 20000 in
theorem gX10_finish_X10_valueAll : GoodIn wsX10_finish (wsV RX10 291 RX10 yX10_valueAll wsX10_valueAll) := goodIn_app (goodIn_of _ (by decide +kernel)) ggX10_finish_X10_valueAll
set_option maxRecDepth 20000 in
theorem ggX10_finish_X10_isSound : GoodIn wsX10_finish wsX10_isSound := goodIn_r _ [10, 2, 11, 12, 13, 14, 15, 16, 9, 17, 67, 68, 69, 70, 71, 72, 73, 74, 75, 76, 77, 78, 79, 80, 81, 82, 83, 84, 85, 86, 87, 88, 89, 90, 91, 92, 93, 94, 95, 96, 97, 98, 99, 100, 101, 102, 103, 104, 105, 106, 107, 108, 109, 110, 111, 112, 113, 114, 115, 116, 117, 118, 119, 120, 121, 122, 123, 124, 125, 126, 127, 128, 129, 130, 131, 132] rfl (by decide +kernel)
set_option maxRecDepth 20000 in
theorem gX10_finish_X10_isSound : GoodIn wsX10_finish (wsV RX10 281 RX10 yX10_isSound wsX10_isSound) := goodIn_app (goodIn_of _ (by decide +kernel)) ggX10_finish_X10_isSound
set_option maxRecDepth 20000 in
theorem ggX10_finish_X10_read : GoodIn wsX10_finish wsX10_read := goodIn_r _ [21, 4, 22, 23, 24, 25, 26, 27, 28, 29, 30, 31, 32, 9, 33, 34, 35, 15, 16, 17, 36, 37, 38, 39, 2, 14, 40, 41, 42, 43, 44, 45, 46, 47, 48, 67, 68, 69, 70, 71, 72, 73, 74, 75, 76, 77, 78, 79, 80, 81, 82, 83, 84, 85, 86, 87, 88, 89, 90, 91, 92, 93, 94, 95, 96, 97, 98, 99, 100, 101, 102, 103, 104, 105, 106, 107, 108, 109, 110, 111, 112, 113, 114, 115, 116, 117, 118, 119, 120, 121, 122, 123, 124, 125, 126, 127, 128, 129, 130, 131, 132] rfl (by decide +kernel)
set_option maxRecDepth 20000 in
theorem gX10_finish_X10_read : GoodIn wsX10_finish (wsV RX10 284 RX10 yX10_read wsX10_read) := goodIn_app (goodIn_of _ (by decide +kernel)) ggX10_finish_X10_read
set_option maxHeartbeats 4000000 in
set_option maxRecDepth 100000 in
theorem y3_told (l : Launch) (D : va_G) (c : Nat → ClassId) (sz : Nat) (y : Nat) (a : Nat → Nat) (v_tapeSize v_thrown v_fault v_faultPlace v_things v_options v_lists v_sentences v_headings v_words v_factBits v_known v_soundMany v_wholeLength v_next v_end v_rThings v_rOptions v_rLists v_rSentences v_rHeadings v_lastName v_inSentence v_open v_written v_named v_sorted : Int32) (f_tape f_kind f_owner f_from f_size f_means f_signs f_oKind f_oIn f_oList f_oWords f_oFacts f_listIn f_sOwner f_hFacts f_weights f_lengths f_values f_rKind f_rOwner f_rFrom f_rSize f_rMeans f_rOKind f_rOIn f_rOList f_rOFacts f_rListIn f_rSOwner f_rHFacts f_rWeights f_opKind f_opFrom f_opWord f_opOwner f_opList f_opItems f_out f_ranks : Nat → Int32) (x_q : Int32) (h0 : 0 ≤ v_options.toInt) (h1 : v_options.toInt ≤ 14) (h2 : 0 ≤ v_sentences.toInt) (h3 : v_sentences.toInt ≤ 414) (h4 : ∀ j : Nat, -422 < (f_sOwner j).toInt ∧ (f_sOwner j).toInt < 14 ∧ (f_sOwner j).toInt ≠ -1) : Met l yX10_told wsX10_told ({ frames := 2, cells := 0, slots := 0, locals := 44 }) (q3_P D c (wM c y a v_tapeSize v_thrown v_fault v_faultPlace v_things v_options v_lists v_sentences v_headings v_words v_factBits v_known v_soundMany v_wholeLength v_next v_end v_rThings v_rOptions v_rLists v_rSentences v_rHeadings v_lastName v_inSentence v_open v_written v_named v_sorted f_tape f_kind f_owner f_from f_size f_means f_signs f_oKind f_oIn f_oList f_oWords f_oFacts f_listIn f_sOwner f_hFacts f_weights f_lengths f_values f_rKind f_rOwner f_rFrom f_rSize f_rMeans f_rOKind f_rOIn f_rOList f_rOFacts f_rListIn f_rSOwner f_rHFacts f_rWeights f_opKind f_opFrom f_opWord f_opOwner f_opList f_opItems f_out f_ranks) sz [.ref y, .int x_q]) (q2_i D (wM c y a v_tapeSize v_thrown v_fault v_faultPlace v_things v_options v_lists v_sentences v_headings v_words v_factBits v_known v_soundMany v_wholeLength v_next v_end v_rThings v_rOptions v_rLists v_rSentences v_rHeadings v_lastName v_inSentence v_open v_written v_named v_sorted f_tape f_kind f_owner f_from f_size f_means f_signs f_oKind f_oIn f_oList f_oWords f_oFacts f_listIn f_sOwner f_hFacts f_weights f_lengths f_values f_rKind f_rOwner f_rFrom f_rSize f_rMeans f_rOKind f_rOIn f_rOList f_rOFacts f_rListIn f_rSOwner f_rHFacts f_rWeights f_opKind f_opFrom f_opWord f_opOwner f_opList f_opItems f_out f_ranks) sz (fun r u => True) (fun u => wM c y a v_tapeSize v_thrown v_fault v_faultPlace v_things v_options v_lists v_sentences v_headings v_words v_factBits v_known v_soundMany v_wholeLength v_next v_end v_rThings v_rOptions v_rLists v_rSentences v_rHeadings v_lastName v_inSentence v_open v_written v_named v_sorted f_tape f_kind f_owner f_from f_size f_means f_signs f_oKind f_oIn f_oList f_oWords f_oFacts f_listIn f_sOwner f_hFacts f_weights f_lengths f_values f_rKind f_rOwner f_rFrom f_rSize f_rMeans f_rOKind f_rOIn f_rOList f_rOFacts f_rListIn f_rSOwner f_rHFacts f_rWeights f_opKind f_opFrom f_opWord f_opOwner f_opList f_opItems f_out f_ranks)) (0) (0) (va_A (wM c y a v_tapeSize v_thrown v_fault v_faultPlace v_things v_options v_lists v_sentences v_headings v_words v_factBits v_known v_soundMany v_wholeLength v_next v_end v_rThings v_rOptions v_rLists v_rSentences v_rHeadings v_lastName v_inSentence v_open v_written v_named v_sorted f_tape f_kind f_owner f_from f_size f_means f_signs f_oKind f_oIn f_oList f_oWords f_oFacts f_listIn f_sOwner f_hFacts f_weights f_lengths f_values f_rKind f_rOwner f_rFrom f_rSize f_rMeans f_rOKind f_rOIn f_rOList f_rOFacts f_rListIn f_rSOwner f_rHFacts f_rWeights f_opKind f_opFrom f_opWord f_opOwner f_opList f_opItems f_out f_ranks) sz) := by
  refine q3_of_i (ty := .int) (fun _ _ _ => rfl) (cc := cX10_told) (maxL := 4) (by decide) rfl (Nat.le_of_ble_eq_true rfl) (fun p e s m args below meth cd A Q ls hx hb hml hown hts hA hS hP hD hK hl hret => ?_)
  have hown : s.vm.findClass RX10 = some m.cls := hown
  obtain ⟨H, eH⟩ : ∃ z, z = s.heap := ⟨_, rfl⟩
  have hP : va_P D vwCl (wM c y a v_tapeSize v_thrown v_fault v_faultPlace v_things v_options v_lists v_sentences v_headings v_words v_factBits v_known v_soundMany v_wholeLength v_next v_end v_rThings v_rOptions v_rLists v_rSentences v_rHeadings v_lastName v_inSentence v_open v_written v_named v_sorted f_tape f_kind f_owner f_from f_size f_means f_signs f_oKind f_oIn f_oList f_oWords f_oFacts f_listIn f_sOwner f_hFacts f_weights f_lengths f_values f_rKind f_rOwner f_rFrom f_rSize f_rMeans f_rOKind f_rOIn f_rOList f_rOFacts f_rListIn f_rSOwner f_rHFacts f_rWeights f_opKind f_opFrom f_opWord f_opOwner f_opList f_opItems f_out f_ranks) H := by rw [eH]; exact hP
  have hS : va_S A s.heap H [] := by rw [eH]; exact hS
  rw [← eH]
  have iX10 : ∀ w ∈ wsX100, w ∈ wsX10_told := fun w h => List.mem_cons_of_mem _ (List.mem_append_right _ h)
  have hl : lv_has ls 4 [(0, .ref y), (1, .int x_q)] := hl
  refine lv_iconst (v := 0) hx hb dX10_told_0 (by decide) ?_
  refine lv_istore_n (lv' := [(2, .int 0), (0, .ref y), (1, .int x_q)]) hx hb dX10_told_1 rfl hl (by decide) rfl (fun ls hl => ?_)
  refine lv_iconst (v := 0) hx hb dX10_told_2 (by decide) ?_
  refine lv_istore_n (lv' := [(3, .int 0), (2, .int 0), (0, .ref y), (1, .int x_q)]) hx hb dX10_told_3 rfl hl (by decide) rfl (fun ls hl => ?_)
  have lp4 : ∀ (k : Nat) (s2_4 : Int32) (s3_4 : Int32), (0 ≤ s3_4.toInt) → (s3_4.toInt ≤ 14) → 15 - s3_4.toInt < (k : Int) → ∀ (H : Heap) (locs : List Loc) (ls : Array Slot), va_P D vwCl (wM c y a v_tapeSize v_thrown v_fault v_faultPlace v_things v_options v_lists v_sentences v_headings v_words v_factBits v_known v_soundMany v_wholeLength v_next v_end v_rThings v_rOptions v_rLists v_rSentences v_rHeadings v_lastName v_inSentence v_open v_written v_named v_sorted f_tape f_kind f_owner f_from f_size f_means f_signs f_oKind f_oIn f_oList f_oWords f_oFacts f_listIn f_sOwner f_hFacts f_weights f_lengths f_values f_rKind f_rOwner f_rFrom f_rSize f_rMeans f_rOKind f_rOIn f_rOList f_rOFacts f_rListIn f_rSOwner f_rHFacts f_rWeights f_opKind f_opFrom f_opWord f_opOwner f_opList f_opItems f_out f_ranks) H → va_D A (wM c y a v_tapeSize v_thrown v_fault v_faultPlace v_things v_options v_lists v_sentences v_headings v_words v_factBits v_known v_soundMany v_wholeLength v_next v_end v_rThings v_rOptions v_rLists v_rSentences v_rHeadings v_lastName v_inSentence v_open v_written v_named v_sorted f_tape f_kind f_owner f_from f_size f_means f_signs f_oKind f_oIn f_oList f_oWords f_oFacts f_listIn f_sOwner f_hFacts f_weights f_lengths f_values f_rKind f_rOwner f_rFrom f_rSize f_rMeans f_rOKind f_rOIn f_rOList f_rOFacts f_rListIn f_rSOwner f_rHFacts f_rWeights f_opKind f_opFrom f_opWord f_opOwner f_opList f_opItems f_out f_ranks) → va_S A s.heap H locs → lv_has ls 4 [(3, .int s3_4), (2, .int s2_4), (0, .ref y), (1, .int x_q)] → W p l e ({ frames := 2, cells := 0, slots := 0, locals := 44 }) s m args below meth cd H locs 0 0 Q (F0 m 4 ls []) := by
    intro k
    induction k with
    | zero => intro s2_4 s3_4 j0_4 j1_4 hm; exfalso; omega
    | succ k ih_4 =>
      intro s2_4 s3_4 j0_4 j1_4 hm_4 H locs ls hP hD hS hl
      refine lv_iload_n hx hb dX10_told_4 rfl (lv_at hl 0 rfl) ?_
      refine lv_aload_n hx hb dX10_told_5 rfl (lv_at hl 2 rfl) ?_
      refine va_get (D := D) (ci := 10) (v := .int v_options) (C := RX10) (T := TX10) (N := 66) hx hb hts iX10 hown hK hP 0 rfl rfl 12 (by decide) (hts (.fieldLink RX10 233 "ShortTellerModel" "options" "I") (List.mem_of_getElem? (i := 1) rfl)) (fun _ h9 => h9) rfl dX10_told_6 ?_
      refine lv_icmp_ge (tgt := 39) hx hb dX10_told_9 (by decide) (fun g1 => ?_) (fun g1 => ?_)
      · have g1 : v_options.toInt ≤ s3_4.toInt := (q3_le rfl rfl).mp g1
        refine lv_iconst (v := 0) hx hb dX10_told_39 (by decide) ?_
        refine lv_istore_n (lv' := [(3, .int 0), (2, .int s2_4), (0, .ref y), (1, .int x_q)]) hx hb dX10_told_40 rfl hl (by decide) rfl (fun ls hl => ?_)
        have lp41 : ∀ (k : Nat) (s2_41 : Int32) (s3_41 : Int32), (0 ≤ s3_41.toInt) → (s3_41.toInt ≤ 414) → 415 - s3_41.toInt < (k : Int) → ∀ (H : Heap) (locs : List Loc) (ls : Array Slot), va_P D vwCl (wM c y a v_tapeSize v_thrown v_fault v_faultPlace v_things v_options v_lists v_sentences v_headings v_words v_factBits v_known v_soundMany v_wholeLength v_next v_end v_rThings v_rOptions v_rLists v_rSentences v_rHeadings v_lastName v_inSentence v_open v_written v_named v_sorted f_tape f_kind f_owner f_from f_size f_means f_signs f_oKind f_oIn f_oList f_oWords f_oFacts f_listIn f_sOwner f_hFacts f_weights f_lengths f_values f_rKind f_rOwner f_rFrom f_rSize f_rMeans f_rOKind f_rOIn f_rOList f_rOFacts f_rListIn f_rSOwner f_rHFacts f_rWeights f_opKind f_opFrom f_opWord f_opOwner f_opList f_opItems f_out f_ranks) H → va_D A (wM c y a v_tapeSize v_thrown v_fault v_faultPlace v_things v_options v_lists v_sentences v_headings v_words v_factBits v_known v_soundMany v_wholeLength v_next v_end v_rThings v_rOptions v_rLists v_rSentences v_rHeadings v_lastName v_inSentence v_open v_written v_named v_sorted f_tape f_kind f_owner f_from f_size f_means f_signs f_oKind f_oIn f_oList f_oWords f_oFacts f_listIn f_sOwner f_hFacts f_weights f_lengths f_values f_rKind f_rOwner f_rFrom f_rSize f_rMeans f_rOKind f_rOIn f_rOList f_rOFacts f_rListIn f_rSOwner f_rHFacts f_rWeights f_opKind f_opFrom f_opWord f_opOwner f_opList f_opItems f_out f_ranks) → va_S A s.heap H locs → lv_has ls 4 [(3, .int s3_41), (2, .int s2_41), (0, .ref y), (1, .int x_q)] → W p l e ({ frames := 2, cells := 0, slots := 0, locals := 44 }) s m args below meth cd H locs 0 0 Q (F0 m 41 ls []) := by
          intro k
          induction k with
          | zero => intro s2_41 s3_41 j0_41 j1_41 hm; exfalso; omega
          | succ k ih_41 =>
            intro s2_41 s3_41 j0_41 j1_41 hm_41 H locs ls hP hD hS hl
            clear j0_4 j1_4 hm_4 g1
            refine lv_iload_n hx hb dX10_told_41 rfl (lv_at hl 0 rfl) ?_
            refine lv_aload_n hx hb dX10_told_42 rfl (lv_at hl 2 rfl) ?_
            refine va_get (D := D) (ci := 10) (v := .int v_sentences) (C := RX10) (T := TX10) (N := 66) hx hb hts iX10 hown hK hP 0 rfl rfl 20 (by decide) (hts (.fieldLink RX10 239 "ShortTellerModel" "sentences" "I") (List.mem_of_getElem? (i := 3) rfl)) (fun _ h9 => h9) rfl dX10_told_43 ?_
            refine lv_icmp_ge (tgt := 94) hx hb dX10_told_46 (by decide) (fun g2 => ?_) (fun g2 => ?_)
            · have g2 : v_sentences.toInt ≤ s3_41.toInt := (q3_le rfl rfl).mp g2
              refine lv_iload_n hx hb dX10_told_94 rfl (lv_at hl 1 rfl) ?_
              exact hret (s2_41) (q2_u [] [] []) _ _ _ _ trivial dX10_told_95 hP hD hS
            · have g2 : ¬ v_sentences.toInt ≤ s3_41.toInt := (not_congr (q3_le rfl rfl)).mp g2
              refine lv_iload_n hx hb dX10_told_49 rfl (lv_at hl 1 rfl) ?_
              refine lv_aload_n hx hb dX10_told_50 rfl (lv_at hl 2 rfl) ?_
              refine va_get (D := D) (ci := 10) (v := .ref (a 13)) (C := RX10) (T := TX10) (N := 66) hx hb hts iX10 hown hK hP 0 rfl rfl 21 (by decide) (hts (.fieldLink RX10 53 "ShortTellerModel" "sOwner" "[I") (List.mem_of_getElem? (i := 4) rfl)) (fun _ h9 => h9) rfl dX10_told_51 ?_
              refine lv_iload_n hx hb dX10_told_54 rfl (lv_at hl 0 rfl) ?_
              refine q3_iald (c := c) hx hb hK hP 14 rfl (q2_in (by omega) (by omega)) dX10_told_55 (fun n3 en3 => ?_)
              have tn3 : n3.toInt = (f_sOwner s3_41.toNatClampNeg).toInt := by rw [en3]
              have rn3 : -422 < n3.toInt ∧ n3.toInt < 14 ∧ n3.toInt ≠ -1 := by rw [en3]; exact h4 _
              refine lv_if_ge (tgt := 85) hx hb dX10_told_56 (by decide) (fun g4 => ?_) (fun g4 => ?_)
              · have g4 : (0 : Int) ≤ n3.toInt := (q3_le (by decide) rfl).mp g4
                refine lv_iconst (v := 0) hx hb dX10_told_85 (by decide) ?_
                refine lv_ior hx hb dX10_told_86 ?_
                refine lv_topi (fun n5 en5 => ?_)
                refine lv_istore_n (lv' := [(2, .int n5), (3, .int s3_41), (0, .ref y), (1, .int x_q)]) hx hb dX10_told_87 rfl hl (by decide) rfl (fun ls hl => ?_)
                obtain ⟨n6, en6⟩ : ∃ z : Int32, z = s3_41 + (1) := ⟨_, rfl⟩
                have tn6 : n6.toInt = s3_41.toInt + (1 : Int) := q3_add en6 rfl (by decide) (by omega) (by omega)
                refine lv_iinc (v := n6) (lv' := [(3, .int n6), (2, .int n5), (0, .ref y), (1, .int x_q)]) hx hb dX10_told_88 hl (k := 1) rfl (by rw [en6]; rfl) (by decide) rfl (fun ls hl => ?_)
                refine lv_goto (tgt := 41) hx hb dX10_told_91 (by decide) ?_
                exact ih_41 n5 n6 (show 0 ≤ n6.toInt by omega) (show n6.toInt ≤ 414 by omega) (show 415 - n6.toInt < _ by omega) _ _ _ hP hD hS hl
              · have g4 : ¬ (0 : Int) ≤ n3.toInt := (not_congr (q3_le (by decide) rfl)).mp g4
                refine lv_aload_n hx hb dX10_told_59 rfl (lv_at hl 2 rfl) ?_
                refine lv_iload_n hx hb dX10_told_60 rfl (lv_at hl 3 rfl) ?_
                refine lv_iload_n hx hb dX10_told_61 rfl (lv_at hl 0 rfl) ?_
                refine q3_ci (va_runV (As := [.int x_q, .int s3_41]) (rest := [.int s2_41]) ⟨hx, hb, hml, hown, hts⟩ (y3_stays l D c H.size y a v_tapeSize v_thrown v_fault v_faultPlace v_things v_options v_lists v_sentences v_headings v_words v_factBits v_known v_soundMany v_wholeLength v_next v_end v_rThings v_rOptions v_rLists v_rSentences v_rHeadings v_lastName v_inSentence v_open v_written v_named v_sorted f_tape f_kind f_owner f_from f_size f_means f_signs f_oKind f_oIn f_oList f_oWords f_oFacts f_listIn f_sOwner f_hFacts f_weights f_lengths f_values f_rKind f_rOwner f_rFrom f_rSize f_rMeans f_rOKind f_rOIn f_rOList f_rOFacts f_rListIn f_rSOwner f_rHFacts f_rWeights f_opKind f_opFrom f_opWord f_opOwner f_opList f_opItems f_out f_ranks x_q s3_41 h2 h3 j0_41 (show s3_41.toInt < 420 by omega)) (cwV 2 hts gX10_told_X10_stays rfl rfl rfl (by decide +kernel) ⟨Nat.le_of_ble_eq_true rfl, Nat.le_of_ble_eq_true rfl⟩) (q3_preV (c := c) (ci := 10) (q0 := 0) hP hK hD rfl rfl) rfl rfl hl.1 rfl (lv_room (Nat.le_of_ble_eq_true rfl)) dX10_told_62 ⟨Nat.le_of_ble_eq_true rfl, Nat.le_of_ble_eq_true rfl⟩) hD hS hA (fun n7 un7 H locs pn7 hP hD hS => ?_)
                have pn7 : (n7.toInt = 0 ∨ n7.toInt = 1) ∧ True := pn7
                obtain ⟨pn7_0, -⟩ := pn7
                have hP : va_P D vwCl (wM c y a v_tapeSize v_thrown v_fault v_faultPlace v_things v_options v_lists v_sentences v_headings v_words v_factBits v_known v_soundMany v_wholeLength v_next v_end v_rThings v_rOptions v_rLists v_rSentences v_rHeadings v_lastName v_inSentence v_open v_written v_named v_sorted f_tape f_kind f_owner f_from f_size f_means f_signs f_oKind f_oIn f_oList f_oWords f_oFacts f_listIn f_sOwner f_hFacts f_weights f_lengths f_values f_rKind f_rOwner f_rFrom f_rSize f_rMeans f_rOKind f_rOIn f_rOList f_rOFacts f_rListIn f_rSOwner f_rHFacts f_rWeights f_opKind f_opFrom f_opWord f_opOwner f_opList f_opItems f_out f_ranks) H := hP
                have hD : va_D A (wM c y a v_tapeSize v_thrown v_fault v_faultPlace v_things v_options v_lists v_sentences v_headings v_words v_factBits v_known v_soundMany v_wholeLength v_next v_end v_rThings v_rOptions v_rLists v_rSentences v_rHeadings v_lastName v_inSentence v_open v_written v_named v_sorted f_tape f_kind f_owner f_from f_size f_means f_signs f_oKind f_oIn f_oList f_oWords f_oFacts f_listIn f_sOwner f_hFacts f_weights f_lengths f_values f_rKind f_rOwner f_rFrom f_rSize f_rMeans f_rOKind f_rOIn f_rOList f_rOFacts f_rListIn f_rSOwner f_rHFacts f_rWeights f_opKind f_opFrom f_opWord f_opOwner f_opList f_opItems f_out f_ranks) := hD
                refine lv_if_eq (tgt := 85) hx hb dX10_told_65 (by decide) (fun g8 => ?_) (fun g8 => ?_)
                · have g8 : n7.toInt = (0 : Int) := (q3_eq rfl (by decide)).mp g8
                  refine lv_iconst (v := 0) hx hb dX10_told_85 (by decide) ?_
                  refine lv_ior hx hb dX10_told_86 ?_
                  refine lv_topi (fun n9 en9 => ?_)
                  refine lv_istore_n (lv' := [(2, .int n9), (3, .int s3_41), (0, .ref y), (1, .int x_q)]) hx hb dX10_told_87 rfl hl (by decide) rfl (fun ls hl => ?_)
                  obtain ⟨n10, en10⟩ : ∃ z : Int32, z = s3_41 + (1) := ⟨_, rfl⟩
                  have tn10 : n10.toInt = s3_41.toInt + (1 : Int) := q3_add en10 rfl (by decide) (by omega) (by omega)
                  refine lv_iinc (v := n10) (lv' := [(3, .int n10), (2, .int n9), (0, .ref y), (1, .int x_q)]) hx hb dX10_told_88 hl (k := 1) rfl (by rw [en10]; rfl) (by decide) rfl (fun ls hl => ?_)
                  refine lv_goto (tgt := 41) hx hb dX10_told_91 (by decide) ?_
                  exact ih_41 n9 n10 (show 0 ≤ n10.toInt by omega) (show n10.toInt ≤ 414 by omega) (show 415 - n10.toInt < _ by omega) _ _ _ hP hD hS hl
                · have g8 : ¬ n7.toInt = (0 : Int) := (not_congr (q3_eq rfl (by decide))).mp g8
                  refine lv_aload_n hx hb dX10_told_68 rfl (lv_at hl 2 rfl) ?_
                  refine va_get (D := D) (ci := 10) (v := .ref (a 14)) (C := RX10) (T := TX10) (N := 66) hx hb hts iX10 hown hK hP 0 rfl rfl 23 (by decide) (hts (.fieldLink RX10 56 "ShortTellerModel" "hFacts" "[I") (List.mem_of_getElem? (i := 5) rfl)) (fun _ h9 => h9) rfl dX10_told_69 ?_
                  refine lv_bipush (v := -2) hx hb dX10_told_72 (by decide) ?_
                  refine lv_aload_n hx hb dX10_told_74 rfl (lv_at hl 2 rfl) ?_
                  refine va_get (D := D) (ci := 10) (v := .ref (a 13)) (C := RX10) (T := TX10) (N := 66) hx hb hts iX10 hown hK hP 0 rfl rfl 21 (by decide) (hts (.fieldLink RX10 53 "ShortTellerModel" "sOwner" "[I") (List.mem_of_getElem? (i := 4) rfl)) (fun _ h9 => h9) rfl dX10_told_75 ?_
                  refine lv_iload_n hx hb dX10_told_78 rfl (lv_at hl 0 rfl) ?_
                  refine q3_iald (c := c) hx hb hK hP 14 rfl (q2_in (by omega) (by omega)) dX10_told_79 (fun n11 en11 => ?_)
                  have tn11 : n11.toInt = (f_sOwner s3_41.toNatClampNeg).toInt := by rw [en11]
                  have rn11 : -422 < n11.toInt ∧ n11.toInt < 14 ∧ n11.toInt ≠ -1 := by rw [en11]; exact h4 _
                  refine lv_isub hx hb dX10_told_80 ?_
                  refine lv_topi (fun n12 en12 => ?_)
                  have tn12 : n12.toInt = (-2 : Int) - n11.toInt := q3_sub en12 (by decide) rfl (by omega) (by omega)
                  refine q3_iald (c := c) hx hb hK hP 15 rfl (q2_in (by omega) (by omega)) dX10_told_81 (fun n13 en13 => ?_)
                  have tn13 : n13.toInt = (f_hFacts n12.toNatClampNeg).toInt := by rw [en13]
                  refine lv_goto (tgt := 86) hx hb dX10_told_82 (by decide) ?_
                  refine lv_ior hx hb dX10_told_86 ?_
                  refine lv_topi (fun n14 en14 => ?_)
                  refine lv_istore_n (lv' := [(2, .int n14), (3, .int s3_41), (0, .ref y), (1, .int x_q)]) hx hb dX10_told_87 rfl hl (by decide) rfl (fun ls hl => ?_)
                  obtain ⟨n15, en15⟩ : ∃ z : Int32, z = s3_41 + (1) := ⟨_, rfl⟩
                  have tn15 : n15.toInt = s3_41.toInt + (1 : Int) := q3_add en15 rfl (by decide) (by omega) (by omega)
                  refine lv_iinc (v := n15) (lv' := [(3, .int n15), (2, .int n14), (0, .ref y), (1, .int x_q)]) hx hb dX10_told_88 hl (k := 1) rfl (by rw [en15]; rfl) (by decide) rfl (fun ls hl => ?_)
                  refine lv_goto (tgt := 41) hx hb dX10_told_91 (by decide) ?_
                  exact ih_41 n14 n15 (show 0 ≤ n15.toInt by omega) (show n15.toInt ≤ 414 by omega) (show 415 - n15.toInt < _ by omega) _ _ _ hP hD hS hl
        exact lp41 (Int.toNat (415 - (0 : Int)) + 1) s2_4 (0) (show 0 ≤ (0 : Int) by omega) (show (0 : Int) ≤ 414 by omega) (show 415 - (0 : Int) < ((Int.toNat (415 - (0 : Int)) + 1 : Nat) : Int) by omega) _ _ _ hP hD hS hl
      · have g1 : ¬ v_options.toInt ≤ s3_4.toInt := (not_congr (q3_le rfl rfl)).mp g1
        refine lv_iload_n hx hb dX10_told_12 rfl (lv_at hl 1 rfl) ?_
        refine lv_iload_n hx hb dX10_told_13 rfl (lv_at hl 3 rfl) ?_
        refine lv_iload_n hx hb dX10_told_14 rfl (lv_at hl 0 rfl) ?_
        refine q3_ci (va_runS (As := [.int x_q, .int s3_4]) (rest := [.int s2_4]) ⟨hx, hb, hml, hown, hts⟩ (y3_has l D c H.size y a v_tapeSize v_thrown v_fault v_faultPlace v_things v_options v_lists v_sentences v_headings v_words v_factBits v_known v_soundMany v_wholeLength v_next v_end v_rThings v_rOptions v_rLists v_rSentences v_rHeadings v_lastName v_inSentence v_open v_written v_named v_sorted f_tape f_kind f_owner f_from f_size f_means f_signs f_oKind f_oIn f_oList f_oWords f_oFacts f_listIn f_sOwner f_hFacts f_weights f_lengths f_values f_rKind f_rOwner f_rFrom f_rSize f_rMeans f_rOKind f_rOIn f_rOList f_rOFacts f_rListIn f_rSOwner f_rHFacts f_rWeights f_opKind f_opFrom f_opWord f_opOwner f_opList f_opItems f_out f_ranks x_q s3_4) (va_cwS 2 hts gX10_told_X10_has rfl rfl rfl (by decide +kernel) ⟨Nat.le_of_ble_eq_true rfl, Nat.le_of_ble_eq_true rfl⟩) (q3_preS (c := c) hP hK hD) rfl rfl hl.1 rfl (lv_room (Nat.le_of_ble_eq_true rfl)) dX10_told_15 ⟨Nat.le_of_ble_eq_true rfl, Nat.le_of_ble_eq_true rfl⟩) hD hS hA (fun n16 un16 H locs pn16 hP hD hS => ?_)
        have pn16 : (n16.toInt = 0 ∨ n16.toInt = 1) ∧ True := pn16
        obtain ⟨pn16_0, -⟩ := pn16
        have hP : va_P D vwCl (wM c y a v_tapeSize v_thrown v_fault v_faultPlace v_things v_options v_lists v_sentences v_headings v_words v_factBits v_known v_soundMany v_wholeLength v_next v_end v_rThings v_rOptions v_rLists v_rSentences v_rHeadings v_lastName v_inSentence v_open v_written v_named v_sorted f_tape f_kind f_owner f_from f_size f_means f_signs f_oKind f_oIn f_oList f_oWords f_oFacts f_listIn f_sOwner f_hFacts f_weights f_lengths f_values f_rKind f_rOwner f_rFrom f_rSize f_rMeans f_rOKind f_rOIn f_rOList f_rOFacts f_rListIn f_rSOwner f_rHFacts f_rWeights f_opKind f_opFrom f_opWord f_opOwner f_opList f_opItems f_out f_ranks) H := hP
        have hD : va_D A (wM c y a v_tapeSize v_thrown v_fault v_faultPlace v_things v_options v_lists v_sentences v_headings v_words v_factBits v_known v_soundMany v_wholeLength v_next v_end v_rThings v_rOptions v_rLists v_rSentences v_rHeadings v_lastName v_inSentence v_open v_written v_named v_sorted f_tape f_kind f_owner f_from f_size f_means f_signs f_oKind f_oIn f_oList f_oWords f_oFacts f_listIn f_sOwner f_hFacts f_weights f_lengths f_values f_rKind f_rOwner f_rFrom f_rSize f_rMeans f_rOKind f_rOIn f_rOList f_rOFacts f_rListIn f_rSOwner f_rHFacts f_rWeights f_opKind f_opFrom f_opWord f_opOwner f_opList f_opItems f_out f_ranks) := hD
        refine lv_if_eq (tgt := 30) hx hb dX10_told_18 (by decide) (fun g17 => ?_) (fun g17 => ?_)
        · have g17 : n16.toInt = (0 : Int) := (q3_eq rfl (by decide)).mp g17
          refine lv_iconst (v := 0) hx hb dX10_told_30 (by decide) ?_
          refine lv_ior hx hb dX10_told_31 ?_
          refine lv_topi (fun n18 en18 => ?_)
          refine lv_istore_n (lv' := [(2, .int n18), (3, .int s3_4), (0, .ref y), (1, .int x_q)]) hx hb dX10_told_32 rfl hl (by decide) rfl (fun ls hl => ?_)
          obtain ⟨n19, en19⟩ : ∃ z : Int32, z = s3_4 + (1) := ⟨_, rfl⟩
          have tn19 : n19.toInt = s3_4.toInt + (1 : Int) := q3_add en19 rfl (by decide) (by omega) (by omega)
          refine lv_iinc (v := n19) (lv' := [(3, .int n19), (2, .int n18), (0, .ref y), (1, .int x_q)]) hx hb dX10_told_33 hl (k := 1) rfl (by rw [en19]; rfl) (by decide) rfl (fun ls hl => ?_)
          refine lv_goto (tgt := 4) hx hb dX10_told_36 (by decide) ?_
          exact ih_4 n18 n19 (show 0 ≤ n19.toInt by omega) (show n19.toInt ≤ 14 by omega) (show 15 - n19.toInt < _ by omega) _ _ _ hP hD hS hl
        · have g17 : ¬ n16.toInt = (0 : Int) := (not_congr (q3_eq rfl (by decide))).mp g17
          refine lv_aload_n hx hb dX10_told_21 rfl (lv_at hl 2 rfl) ?_
          refine va_get (D := D) (ci := 10) (v := .ref (a 11)) (C := RX10) (T := TX10) (N := 66) hx hb hts iX10 hown hK hP 0 rfl rfl 17 (by decide) (hts (.fieldLink RX10 47 "ShortTellerModel" "oFacts" "[I") (List.mem_of_getElem? (i := 2) rfl)) (fun _ h9 => h9) rfl dX10_told_22 ?_
          refine lv_iload_n hx hb dX10_told_25 rfl (lv_at hl 0 rfl) ?_
          refine q3_iald (c := c) hx hb hK hP 12 rfl (q2_in (by omega) (by omega)) dX10_told_26 (fun n20 en20 => ?_)
          have tn20 : n20.toInt = (f_oFacts s3_4.toNatClampNeg).toInt := by rw [en20]
          refine lv_goto (tgt := 31) hx hb dX10_told_27 (by decide) ?_
          refine lv_ior hx hb dX10_told_31 ?_
          refine lv_topi (fun n21 en21 => ?_)
          refine lv_istore_n (lv' := [(2, .int n21), (3, .int s3_4), (0, .ref y), (1, .int x_q)]) hx hb dX10_told_32 rfl hl (by decide) rfl (fun ls hl => ?_)
          obtain ⟨n22, en22⟩ : ∃ z : Int32, z = s3_4 + (1) := ⟨_, rfl⟩
          have tn22 : n22.toInt = s3_4.toInt + (1 : Int) := q3_add en22 rfl (by decide) (by omega) (by omega)
          refine lv_iinc (v := n22) (lv' := [(3, .int n22), (2, .int n21), (0, .ref y), (1, .int x_q)]) hx hb dX10_told_33 hl (k := 1) rfl (by rw [en22]; rfl) (by decide) rfl (fun ls hl => ?_)
          refine lv_goto (tgt := 4) hx hb dX10_told_36 (by decide) ?_
          exact ih_4 n21 n22 (show 0 ≤ n22.toInt by omega) (show n22.toInt ≤ 14 by omega) (show 15 - n22.toInt < _ by omega) _ _ _ hP hD hS hl
  exact lp4 (Int.toNat (15 - (0 : Int)) + 1) (0) (0) (show 0 ≤ (0 : Int) by omega) (show (0 : Int) ≤ 14 by omega) (show 15 - (0 : Int) < ((Int.toNat (15 - (0 : Int)) + 1 : Nat) : Int) by omega) _ _ _ hP hD hS hl
set_option maxHeartbeats 4000000 in
set_option maxRecDepth 100000 in
theorem y3_valueOf (l : Launch) (D : va_G) (c : Nat → ClassId) (sz : Nat) (y : Nat) (a : Nat → Nat) (v_tapeSize v_thrown v_fault v_faultPlace v_things v_options v_lists v_sentences v_headings v_words v_factBits v_known v_soundMany v_wholeLength v_next v_end v_rThings v_rOptions v_rLists v_rSentences v_rHeadings v_lastName v_inSentence v_open v_written v_named v_sorted : Int32) (f_tape f_kind f_owner f_from f_size f_means f_signs f_oKind f_oIn f_oList f_oWords f_oFacts f_listIn f_sOwner f_hFacts f_weights f_lengths f_values f_rKind f_rOwner f_rFrom f_rSize f_rMeans f_rOKind f_rOIn f_rOList f_rOFacts f_rListIn f_rSOwner f_rHFacts f_rWeights f_opKind f_opFrom f_opWord f_opOwner f_opList f_opItems f_out f_ranks : Nat → Int32) (x_q : Int32) (h0 : 0 ≤ v_options.toInt) (h1 : v_options.toInt ≤ 14) (h2 : 0 ≤ v_sentences.toInt) (h3 : v_sentences.toInt ≤ 414) (h4 : ∀ j : Nat, -422 < (f_sOwner j).toInt ∧ (f_sOwner j).toInt < 14 ∧ (f_sOwner j).toInt ≠ -1) : Met l yX10_valueOf wsX10_valueOf ({ frames := 3, cells := 0, slots := 0, locals := 67 }) (q3_P D c (wM c y a v_tapeSize v_thrown v_fault v_faultPlace v_things v_options v_lists v_sentences v_headings v_words v_factBits v_known v_soundMany v_wholeLength v_next v_end v_rThings v_rOptions v_rLists v_rSentences v_rHeadings v_lastName v_inSentence v_open v_written v_named v_sorted f_tape f_kind f_owner f_from f_size f_means f_signs f_oKind f_oIn f_oList f_oWords f_oFacts f_listIn f_sOwner f_hFacts f_weights f_lengths f_values f_rKind f_rOwner f_rFrom f_rSize f_rMeans f_rOKind f_rOIn f_rOList f_rOFacts f_rListIn f_rSOwner f_rHFacts f_rWeights f_opKind f_opFrom f_opWord f_opOwner f_opList f_opItems f_out f_ranks) sz [.ref y, .int x_q]) (q2_i D (wM c y a v_tapeSize v_thrown v_fault v_faultPlace v_things v_options v_lists v_sentences v_headings v_words v_factBits v_known v_soundMany v_wholeLength v_next v_end v_rThings v_rOptions v_rLists v_rSentences v_rHeadings v_lastName v_inSentence v_open v_written v_named v_sorted f_tape f_kind f_owner f_from f_size f_means f_signs f_oKind f_oIn f_oList f_oWords f_oFacts f_listIn f_sOwner f_hFacts f_weights f_lengths f_values f_rKind f_rOwner f_rFrom f_rSize f_rMeans f_rOKind f_rOIn f_rOList f_rOFacts f_rListIn f_rSOwner f_rHFacts f_rWeights f_opKind f_opFrom f_opWord f_opOwner f_opList f_opItems f_out f_ranks) sz (fun r u => True) (fun u => wM c y a v_tapeSize v_thrown v_fault v_faultPlace v_things v_options v_lists v_sentences v_headings v_words v_factBits v_known v_soundMany v_wholeLength v_next v_end v_rThings v_rOptions v_rLists v_rSentences v_rHeadings v_lastName v_inSentence v_open v_written v_named v_sorted f_tape f_kind f_owner f_from f_size f_means f_signs f_oKind f_oIn f_oList f_oWords f_oFacts f_listIn f_sOwner f_hFacts f_weights f_lengths f_values f_rKind f_rOwner f_rFrom f_rSize f_rMeans f_rOKind f_rOIn f_rOList f_rOFacts f_rListIn f_rSOwner f_rHFacts f_rWeights f_opKind f_opFrom f_opWord f_opOwner f_opList f_opItems f_out f_ranks)) (0) (0) (va_A (wM c y a v_tapeSize v_thrown v_fault v_faultPlace v_things v_options v_lists v_sentences v_headings v_words v_factBits v_known v_soundMany v_wholeLength v_next v_end v_rThings v_rOptions v_rLists v_rSentences v_rHeadings v_lastName v_inSentence v_open v_written v_named v_sorted f_tape f_kind f_owner f_from f_size f_means f_signs f_oKind f_oIn f_oList f_oWords f_oFacts f_listIn f_sOwner f_hFacts f_weights f_lengths f_values f_rKind f_rOwner f_rFrom f_rSize f_rMeans f_rOKind f_rOIn f_rOList f_rOFacts f_rListIn f_rSOwner f_rHFacts f_rWeights f_opKind f_opFrom f_opWord f_opOwner f_opList f_opItems f_out f_ranks) sz) := by
  refine q3_of_i (ty := .int) (fun _ _ _ => rfl) (cc := cX10_valueOf) (maxL := 5) (by decide) rfl (Nat.le_of_ble_eq_true rfl) (fun p e s m args below meth cd A Q ls hx hb hml hown hts hA hS hP hD hK hl hret => ?_)
  have hown : s.vm.findClass RX10 = some m.cls := hown
  obtain ⟨H, eH⟩ : ∃ z, z = s.heap := ⟨_, rfl⟩
  have hP : va_P D vwCl (wM c y a v_tapeSize v_thrown v_fault v_faultPlace v_things v_options v_lists v_sentences v_headings v_words v_factBits v_known v_soundMany v_wholeLength v_next v_end v_rThings v_rOptions v_rLists v_rSentences v_rHeadings v_lastName v_inSentence v_open v_written v_named v_sorted f_tape f_kind f_owner f_from f_size f_means f_signs f_oKind f_oIn f_oList f_oWords f_oFacts f_listIn f_sOwner f_hFacts f_weights f_lengths f_values f_rKind f_rOwner f_rFrom f_rSize f_rMeans f_rOKind f_rOIn f_rOList f_rOFacts f_rListIn f_rSOwner f_rHFacts f_rWeights f_opKind f_opFrom f_opWord f_opOwner f_opList f_opItems f_out f_ranks) H := by rw [eH]; exact hP
  have hS : va_S A s.heap H [] := by rw [eH]; exact hS
  rw [← eH]
  have iX10 : ∀ w ∈ wsX100, w ∈ wsX10_valueOf := fun w h => List.mem_cons_of_mem _ (List.mem_append_right _ h)
  have hl : lv_has ls 5 [(0, .ref y), (1, .int x_q)] := hl
  refine lv_aload_n hx hb dX10_valueOf_0 rfl (lv_at hl 0 rfl) ?_
  refine lv_iload_n hx hb dX10_valueOf_1 rfl (lv_at hl 1 rfl) ?_
  refine q3_ci (va_runV (As := [.int x_q]) (rest := []) ⟨hx, hb, hml, hown, hts⟩ (y3_told l D c H.size y a v_tapeSize v_thrown v_fault v_faultPlace v_things v_options v_lists v_sentences v_headings v_words v_factBits v_known v_soundMany v_wholeLength v_next v_end v_rThings v_rOptions v_rLists v_rSentences v_rHeadings v_lastName v_inSentence v_open v_written v_named v_sorted f_tape f_kind f_owner f_from f_size f_means f_signs f_oKind f_oIn f_oList f_oWords f_oFacts f_listIn f_sOwner f_hFacts f_weights f_lengths f_values f_rKind f_rOwner f_rFrom f_rSize f_rMeans f_rOKind f_rOIn f_rOList f_rOFacts f_rListIn f_rSOwner f_rHFacts f_rWeights f_opKind f_opFrom f_opWord f_opOwner f_opList f_opItems f_out f_ranks x_q h0 h1 h2 h3 h4) (cwV 1 hts gX10_valueOf_X10_told rfl rfl rfl (by decide +kernel) ⟨Nat.le_of_ble_eq_true rfl, Nat.le_of_ble_eq_true rfl⟩) (q3_preV (c := c) (ci := 10) (q0 := 0) hP hK hD rfl rfl) rfl rfl hl.1 rfl (lv_room (Nat.le_of_ble_eq_true rfl)) dX10_valueOf_2 ⟨Nat.le_of_ble_eq_true rfl, Nat.le_of_ble_eq_true rfl⟩) hD hS hA (fun n1 un1 H locs pn1 hP hD hS => ?_)
  clear pn1
  have hP : va_P D vwCl (wM c y a v_tapeSize v_thrown v_fault v_faultPlace v_things v_options v_lists v_sentences v_headings v_words v_factBits v_known v_soundMany v_wholeLength v_next v_end v_rThings v_rOptions v_rLists v_rSentences v_rHeadings v_lastName v_inSentence v_open v_written v_named v_sorted f_tape f_kind f_owner f_from f_size f_means f_signs f_oKind f_oIn f_oList f_oWords f_oFacts f_listIn f_sOwner f_hFacts f_weights f_lengths f_values f_rKind f_rOwner f_rFrom f_rSize f_rMeans f_rOKind f_rOIn f_rOList f_rOFacts f_rListIn f_rSOwner f_rHFacts f_rWeights f_opKind f_opFrom f_opWord f_opOwner f_opList f_opItems f_out f_ranks) H := hP
  have hD : va_D A (wM c y a v_tapeSize v_thrown v_fault v_faultPlace v_things v_options v_lists v_sentences v_headings v_words v_factBits v_known v_soundMany v_wholeLength v_next v_end v_rThings v_rOptions v_rLists v_rSentences v_rHeadings v_lastName v_inSentence v_open v_written v_named v_sorted f_tape f_kind f_owner f_from f_size f_means f_signs f_oKind f_oIn f_oList f_oWords f_oFacts f_listIn f_sOwner f_hFacts f_weights f_lengths f_values f_rKind f_rOwner f_rFrom f_rSize f_rMeans f_rOKind f_rOIn f_rOList f_rOFacts f_rListIn f_rSOwner f_rHFacts f_rWeights f_opKind f_opFrom f_opWord f_opOwner f_opList f_opItems f_out f_ranks) := hD
  refine lv_istore_n (lv' := [(2, .int n1), (0, .ref y), (1, .int x_q)]) hx hb dX10_valueOf_5 rfl hl (by decide) rfl (fun ls hl => ?_)
  refine lv_iconst (v := 0) hx hb dX10_valueOf_6 (by decide) ?_
  refine lv_istore_n (lv' := [(3, .int 0), (2, .int n1), (0, .ref y), (1, .int x_q)]) hx hb dX10_valueOf_7 rfl hl (by decide) rfl (fun ls hl => ?_)
  refine lv_iconst (v := 0) hx hb dX10_valueOf_8 (by decide) ?_
  refine lv_istore (lv' := [(4, .int 0), (3, .int 0), (2, .int n1), (0, .ref y), (1, .int x_q)]) hx hb dX10_valueOf_9 hl (by decide) rfl (fun ls hl => ?_)
  have lp11 : ∀ (k : Nat) (s3_11 : Int32) (s4_11 : Int32), (0 ≤ s4_11.toInt) → (s4_11.toInt ≤ 31) → 32 - s4_11.toInt < (k : Int) → ∀ (H : Heap) (locs : List Loc) (ls : Array Slot), va_P D vwCl (wM c y a v_tapeSize v_thrown v_fault v_faultPlace v_things v_options v_lists v_sentences v_headings v_words v_factBits v_known v_soundMany v_wholeLength v_next v_end v_rThings v_rOptions v_rLists v_rSentences v_rHeadings v_lastName v_inSentence v_open v_written v_named v_sorted f_tape f_kind f_owner f_from f_size f_means f_signs f_oKind f_oIn f_oList f_oWords f_oFacts f_listIn f_sOwner f_hFacts f_weights f_lengths f_values f_rKind f_rOwner f_rFrom f_rSize f_rMeans f_rOKind f_rOIn f_rOList f_rOFacts f_rListIn f_rSOwner f_rHFacts f_rWeights f_opKind f_opFrom f_opWord f_opOwner f_opList f_opItems f_out f_ranks) H → va_D A (wM c y a v_tapeSize v_thrown v_fault v_faultPlace v_things v_options v_lists v_sentences v_headings v_words v_factBits v_known v_soundMany v_wholeLength v_next v_end v_rThings v_rOptions v_rLists v_rSentences v_rHeadings v_lastName v_inSentence v_open v_written v_named v_sorted f_tape f_kind f_owner f_from f_size f_means f_signs f_oKind f_oIn f_oList f_oWords f_oFacts f_listIn f_sOwner f_hFacts f_weights f_lengths f_values f_rKind f_rOwner f_rFrom f_rSize f_rMeans f_rOKind f_rOIn f_rOList f_rOFacts f_rListIn f_rSOwner f_rHFacts f_rWeights f_opKind f_opFrom f_opWord f_opOwner f_opList f_opItems f_out f_ranks) → va_S A s.heap H locs → lv_has ls 5 [(4, .int s4_11), (3, .int s3_11), (2, .int n1), (0, .ref y), (1, .int x_q)] → W p l e ({ frames := 3, cells := 0, slots := 0, locals := 67 }) s m args below meth cd H locs 0 0 Q (F0 m 11 ls []) := by
    intro k
    induction k with
    | zero => intro s3_11 s4_11 j0_11 j1_11 hm; exfalso; omega
    | succ k ih_11 =>
      intro s3_11 s4_11 j0_11 j1_11 hm_11 H locs ls hP hD hS hl
      refine lv_iload hx hb dX10_valueOf_11 (lv_at hl 0 rfl) ?_
      refine lv_bipush (v := 31) hx hb dX10_valueOf_13 (by decide) ?_
      refine lv_icmp_ge (tgt := 55) hx hb dX10_valueOf_15 (by decide) (fun g2 => ?_) (fun g2 => ?_)
      · have g2 : (31 : Int) ≤ s4_11.toInt := (q3_le (by decide) rfl).mp g2
        refine lv_iload_n hx hb dX10_valueOf_55 rfl (lv_at hl 1 rfl) ?_
        exact hret (s3_11) (q2_u [] [] []) _ _ _ _ trivial dX10_valueOf_56 hP hD hS
      · have g2 : ¬ (31 : Int) ≤ s4_11.toInt := (not_congr (q3_le (by decide) rfl)).mp g2
        refine lv_iload_n hx hb dX10_valueOf_18 rfl (lv_at hl 1 rfl) ?_
        refine lv_iload_n hx hb dX10_valueOf_19 rfl (lv_at hl 2 rfl) ?_
        refine lv_aload_n hx hb dX10_valueOf_20 rfl (lv_at hl 3 rfl) ?_
        refine va_get (D := D) (ci := 10) (v := .int v_known) (C := RX10) (T := TX10) (N := 66) hx hb hts iX10 hown hK hP 0 rfl rfl 27 (by decide) (hts (.fieldLink RX10 248 "ShortTellerModel" "known" "I") (List.mem_of_getElem? (i := 1) rfl)) (fun _ h9 => h9) rfl dX10_valueOf_21 ?_
        refine lv_iconst (v := -1) hx hb dX10_valueOf_24 (by decide) ?_
        refine lv_ixor hx hb dX10_valueOf_25 ?_
        refine lv_topi (fun n3 en3 => ?_)
        refine lv_iand hx hb dX10_valueOf_26 ?_
        refine lv_topi (fun n4 en4 => ?_)
        refine lv_iload hx hb dX10_valueOf_27 (lv_at hl 0 rfl) ?_
        refine lv_ishr hx hb dX10_valueOf_29 ?_
        refine lv_topi (fun n5 en5 => ?_)
        refine lv_iconst (v := 1) hx hb dX10_valueOf_30 (by decide) ?_
        refine lv_iand hx hb dX10_valueOf_31 ?_
        refine lv_topi (fun n6 en6 => ?_)
        have tn6 := q3_and1 en6
        refine lv_iconst (v := 1) hx hb dX10_valueOf_32 (by decide) ?_
        refine lv_icmp_ne (tgt := 46) hx hb dX10_valueOf_33 (by decide) (fun g7 => ?_) (fun g7 => ?_)
        · have g7 : ¬ n6.toInt = (1 : Int) := (not_congr (q3_eq rfl (by decide))).mp g7
          refine lv_iconst (v := 0) hx hb dX10_valueOf_46 (by decide) ?_
          refine lv_iadd hx hb dX10_valueOf_47 ?_
          refine lv_topi (fun n8 en8 => ?_)
          refine lv_istore_n (lv' := [(3, .int n8), (4, .int s4_11), (2, .int n1), (0, .ref y), (1, .int x_q)]) hx hb dX10_valueOf_48 rfl hl (by decide) rfl (fun ls hl => ?_)
          obtain ⟨n9, en9⟩ : ∃ z : Int32, z = s4_11 + (1) := ⟨_, rfl⟩
          have tn9 : n9.toInt = s4_11.toInt + (1 : Int) := q3_add en9 rfl (by decide) (by omega) (by omega)
          refine lv_iinc (v := n9) (lv' := [(4, .int n9), (3, .int n8), (2, .int n1), (0, .ref y), (1, .int x_q)]) hx hb dX10_valueOf_49 hl (k := 1) rfl (by rw [en9]; rfl) (by decide) rfl (fun ls hl => ?_)
          refine lv_goto (tgt := 11) hx hb dX10_valueOf_52 (by decide) ?_
          exact ih_11 n8 n9 (show 0 ≤ n9.toInt by omega) (show n9.toInt ≤ 31 by omega) (show 32 - n9.toInt < _ by omega) _ _ _ hP hD hS hl
        · have g7 : n6.toInt = (1 : Int) := (q3_eq rfl (by decide)).mp g7
          refine lv_aload_n hx hb dX10_valueOf_36 rfl (lv_at hl 3 rfl) ?_
          refine va_get (D := D) (ci := 10) (v := .ref (a 15)) (C := RX10) (T := TX10) (N := 66) hx hb hts iX10 hown hK hP 0 rfl rfl 25 (by decide) (hts (.fieldLink RX10 59 "ShortTellerModel" "weights" "[I") (List.mem_of_getElem? (i := 2) rfl)) (fun _ h9 => h9) rfl dX10_valueOf_37 ?_
          refine lv_iload hx hb dX10_valueOf_40 (lv_at hl 0 rfl) ?_
          refine q3_iald (c := c) hx hb hK hP 16 rfl (q2_in (by omega) (by omega)) dX10_valueOf_42 (fun n10 en10 => ?_)
          have tn10 : n10.toInt = (f_weights s4_11.toNatClampNeg).toInt := by rw [en10]
          refine lv_goto (tgt := 47) hx hb dX10_valueOf_43 (by decide) ?_
          refine lv_iadd hx hb dX10_valueOf_47 ?_
          refine lv_topi (fun n11 en11 => ?_)
          refine lv_istore_n (lv' := [(3, .int n11), (4, .int s4_11), (2, .int n1), (0, .ref y), (1, .int x_q)]) hx hb dX10_valueOf_48 rfl hl (by decide) rfl (fun ls hl => ?_)
          obtain ⟨n12, en12⟩ : ∃ z : Int32, z = s4_11 + (1) := ⟨_, rfl⟩
          have tn12 : n12.toInt = s4_11.toInt + (1 : Int) := q3_add en12 rfl (by decide) (by omega) (by omega)
          refine lv_iinc (v := n12) (lv' := [(4, .int n12), (3, .int n11), (2, .int n1), (0, .ref y), (1, .int x_q)]) hx hb dX10_valueOf_49 hl (k := 1) rfl (by rw [en12]; rfl) (by decide) rfl (fun ls hl => ?_)
          refine lv_goto (tgt := 11) hx hb dX10_valueOf_52 (by decide) ?_
          exact ih_11 n11 n12 (show 0 ≤ n12.toInt by omega) (show n12.toInt ≤ 31 by omega) (show 32 - n12.toInt < _ by omega) _ _ _ hP hD hS hl
  exact lp11 (Int.toNat (32 - (0 : Int)) + 1) (0) (0) (show 0 ≤ (0 : Int) by omega) (show (0 : Int) ≤ 31 by omega) (show 32 - (0 : Int) < ((Int.toNat (32 - (0 : Int)) + 1 : Nat) : Int) by omega) _ _ _ hP hD hS hl
set_option maxHeartbeats 4000000 in
set_option maxRecDepth 100000 in
theorem y3_valueAll (l : Launch) (D : va_G) (c : Nat → ClassId) (sz : Nat) (y : Nat) (a : Nat → Nat) (v_tapeSize v_thrown v_fault v_faultPlace v_things v_options v_lists v_sentences v_headings v_words v_factBits v_known v_soundMany v_wholeLength v_next v_end v_rThings v_rOptions v_rLists v_rSentences v_rHeadings v_lastName v_inSentence v_open v_written v_named v_sorted : Int32) (f_tape f_kind f_owner f_from f_size f_means f_signs f_oKind f_oIn f_oList f_oWords f_oFacts f_listIn f_sOwner f_hFacts f_weights f_lengths f_values f_rKind f_rOwner f_rFrom f_rSize f_rMeans f_rOKind f_rOIn f_rOList f_rOFacts f_rListIn f_rSOwner f_rHFacts f_rWeights f_opKind f_opFrom f_opWord f_opOwner f_opList f_opItems f_out f_ranks : Nat → Int32) (h0 : 0 ≤ v_options.toInt) (h1 : v_options.toInt ≤ 14) (h2 : 0 ≤ v_sentences.toInt) (h3 : v_sentences.toInt ≤ 414) (h4 : ∀ j : Nat, -422 < (f_sOwner j).toInt ∧ (f_sOwner j).toInt < 14 ∧ (f_sOwner j).toInt ≠ -1) : Met l yX10_valueAll wsX10_valueAll ({ frames := 4, cells := 0, slots := 0, locals := 91 }) (q3_P D c (wM c y a v_tapeSize v_thrown v_fault v_faultPlace v_things v_options v_lists v_sentences v_headings v_words v_factBits v_known v_soundMany v_wholeLength v_next v_end v_rThings v_rOptions v_rLists v_rSentences v_rHeadings v_lastName v_inSentence v_open v_written v_named v_sorted f_tape f_kind f_owner f_from f_size f_means f_signs f_oKind f_oIn f_oList f_oWords f_oFacts f_listIn f_sOwner f_hFacts f_weights f_lengths f_values f_rKind f_rOwner f_rFrom f_rSize f_rMeans f_rOKind f_rOIn f_rOList f_rOFacts f_rListIn f_rSOwner f_rHFacts f_rWeights f_opKind f_opFrom f_opWord f_opOwner f_opList f_opItems f_out f_ranks) sz [.ref y]) (q2_v D (wM c y a v_tapeSize v_thrown v_fault v_faultPlace v_things v_options v_lists v_sentences v_headings v_words v_factBits v_known v_soundMany v_wholeLength v_next v_end v_rThings v_rOptions v_rLists v_rSentences v_rHeadings v_lastName v_inSentence v_open v_written v_named v_sorted f_tape f_kind f_owner f_from f_size f_means f_signs f_oKind f_oIn f_oList f_oWords f_oFacts f_listIn f_sOwner f_hFacts f_weights f_lengths f_values f_rKind f_rOwner f_rFrom f_rSize f_rMeans f_rOKind f_rOIn f_rOList f_rOFacts f_rListIn f_rSOwner f_rHFacts f_rWeights f_opKind f_opFrom f_opWord f_opOwner f_opList f_opItems f_out f_ranks) sz (fun u => True) (fun u => wM c y a v_tapeSize v_thrown v_fault v_faultPlace v_things v_options v_lists v_sentences v_headings v_words v_factBits v_known v_soundMany v_wholeLength v_next v_end v_rThings v_rOptions v_rLists v_rSentences v_rHeadings v_lastName v_inSentence v_open v_written v_named (u.2.1 0) f_tape f_kind f_owner f_from f_size f_means f_signs f_oKind f_oIn f_oList f_oWords f_oFacts f_listIn f_sOwner f_hFacts f_weights f_lengths (u.2.2 0) f_rKind f_rOwner f_rFrom f_rSize f_rMeans f_rOKind f_rOIn f_rOList f_rOFacts f_rListIn f_rSOwner f_rHFacts f_rWeights f_opKind f_opFrom f_opWord f_opOwner f_opList f_opItems f_out f_ranks)) (0) (0) (va_A (wM c y a v_tapeSize v_thrown v_fault v_faultPlace v_things v_options v_lists v_sentences v_headings v_words v_factBits v_known v_soundMany v_wholeLength v_next v_end v_rThings v_rOptions v_rLists v_rSentences v_rHeadings v_lastName v_inSentence v_open v_written v_named v_sorted f_tape f_kind f_owner f_from f_size f_means f_signs f_oKind f_oIn f_oList f_oWords f_oFacts f_listIn f_sOwner f_hFacts f_weights f_lengths f_values f_rKind f_rOwner f_rFrom f_rSize f_rMeans f_rOKind f_rOIn f_rOList f_rOFacts f_rListIn f_rSOwner f_rHFacts f_rWeights f_opKind f_opFrom f_opWord f_opOwner f_opList f_opItems f_out f_ranks) sz) := by
  refine q3_of_v (cc := cX10_valueAll) (maxL := 2) (by decide) rfl (Nat.le_of_ble_eq_true rfl) (fun p e s m args below meth cd A Q ls hx hb hml hown hts hA hS hP hD hK hl hret => ?_)
  have hown : s.vm.findClass RX10 = some m.cls := hown
  obtain ⟨H, eH⟩ : ∃ z, z = s.heap := ⟨_, rfl⟩
  have hP : va_P D vwCl (wM c y a v_tapeSize v_thrown v_fault v_faultPlace v_things v_options v_lists v_sentences v_headings v_words v_factBits v_known v_soundMany v_wholeLength v_next v_end v_rThings v_rOptions v_rLists v_rSentences v_rHeadings v_lastName v_inSentence v_open v_written v_named v_sorted f_tape f_kind f_owner f_from f_size f_means f_signs f_oKind f_oIn f_oList f_oWords f_oFacts f_listIn f_sOwner f_hFacts f_weights f_lengths f_values f_rKind f_rOwner f_rFrom f_rSize f_rMeans f_rOKind f_rOIn f_rOList f_rOFacts f_rListIn f_rSOwner f_rHFacts f_rWeights f_opKind f_opFrom f_opWord f_opOwner f_opList f_opItems f_out f_ranks) H := by rw [eH]; exact hP
  have hS : va_S A s.heap H [] := by rw [eH]; exact hS
  rw [← eH]
  have iX10 : ∀ w ∈ wsX100, w ∈ wsX10_valueAll := fun w h => List.mem_cons_of_mem _ (List.mem_append_right _ h)
  have hl : lv_has ls 2 [(0, .ref y)] := hl
  refine lv_iconst (v := 0) hx hb dX10_valueAll_0 (by decide) ?_
  refine lv_istore_n (lv' := [(1, .int 0), (0, .ref y)]) hx hb dX10_valueAll_1 rfl hl (by decide) rfl (fun ls hl => ?_)
  have lp2 : ∀ (k : Nat) (s1_2 : Int32) (y_values_2 : Nat → Int32), (0 ≤ s1_2.toInt) → (s1_2.toInt ≤ 16384) → 16385 - s1_2.toInt < (k : Int) → ∀ (H : Heap) (locs : List Loc) (ls : Array Slot), va_P D vwCl (wM c y a v_tapeSize v_thrown v_fault v_faultPlace v_things v_options v_lists v_sentences v_headings v_words v_factBits v_known v_soundMany v_wholeLength v_next v_end v_rThings v_rOptions v_rLists v_rSentences v_rHeadings v_lastName v_inSentence v_open v_written v_named v_sorted f_tape f_kind f_owner f_from f_size f_means f_signs f_oKind f_oIn f_oList f_oWords f_oFacts f_listIn f_sOwner f_hFacts f_weights f_lengths y_values_2 f_rKind f_rOwner f_rFrom f_rSize f_rMeans f_rOKind f_rOIn f_rOList f_rOFacts f_rListIn f_rSOwner f_rHFacts f_rWeights f_opKind f_opFrom f_opWord f_opOwner f_opList f_opItems f_out f_ranks) H → va_D A (wM c y a v_tapeSize v_thrown v_fault v_faultPlace v_things v_options v_lists v_sentences v_headings v_words v_factBits v_known v_soundMany v_wholeLength v_next v_end v_rThings v_rOptions v_rLists v_rSentences v_rHeadings v_lastName v_inSentence v_open v_written v_named v_sorted f_tape f_kind f_owner f_from f_size f_means f_signs f_oKind f_oIn f_oList f_oWords f_oFacts f_listIn f_sOwner f_hFacts f_weights f_lengths y_values_2 f_rKind f_rOwner f_rFrom f_rSize f_rMeans f_rOKind f_rOIn f_rOList f_rOFacts f_rListIn f_rSOwner f_rHFacts f_rWeights f_opKind f_opFrom f_opWord f_opOwner f_opList f_opItems f_out f_ranks) → va_S A s.heap H locs → lv_has ls 2 [(1, .int s1_2), (0, .ref y)] → W p l e ({ frames := 4, cells := 0, slots := 0, locals := 91 }) s m args below meth cd H locs 0 0 Q (F0 m 2 ls []) := by
    intro k
    induction k with
    | zero => intro s1_2 y_values_2 j0_2 j1_2 hm; exfalso; omega
    | succ k ih_2 =>
      intro s1_2 y_values_2 j0_2 j1_2 hm_2 H locs ls hP hD hS hl
      refine lv_iload_n hx hb dX10_valueAll_2 rfl (lv_at hl 0 rfl) ?_
      refine lv_iconst (v := 1) hx hb dX10_valueAll_3 (by decide) ?_
      refine lv_aload_n hx hb dX10_valueAll_4 rfl (lv_at hl 1 rfl) ?_
      refine va_get (D := D) (ci := 10) (v := .int v_options) (C := RX10) (T := TX10) (N := 66) hx hb hts iX10 hown hK hP 0 rfl rfl 12 (by decide) (hts (.fieldLink RX10 233 "ShortTellerModel" "options" "I") (List.mem_of_getElem? (i := 1) rfl)) (fun _ h9 => h9) rfl dX10_valueAll_5 ?_
      refine lv_ishl hx hb dX10_valueAll_8 ?_
      refine lv_topi (fun n1 en1 => ?_)
      have tn1 := q3_sh en1 (by omega) (by omega)
      refine lv_icmp_ge (tgt := 42) hx hb dX10_valueAll_9 (by decide) (fun g2 => ?_) (fun g2 => ?_)
      · have g2 : n1.toInt ≤ s1_2.toInt := (q3_le rfl rfl).mp g2
        refine lv_aload_n hx hb dX10_valueAll_42 rfl (lv_at hl 1 rfl) ?_
        refine lv_iconst (v := 0) hx hb dX10_valueAll_43 (by decide) ?_
        refine va_put (D := D) (ci := 10) (v := .int 0) (ty := .boolean) (C := RX10) (T := TX10) (N := 66) hx hb hts iX10 tyX10 tyX10_ok nmX10 hown hK hP hD hS 0 rfl rfl 64 (by decide) (hts (.fieldLink RX10 297 "ShortTellerModel" "sorted" "Z") (List.mem_of_getElem? (i := 4) rfl)) (fun _ h9 => h9) rfl (by decide +kernel) rfl rfl (Nat.le_of_ble_eq_true rfl) dX10_valueAll_44 (fun H locs hP hD hS => ?_)
        have hP : va_P D vwCl (wM c y a v_tapeSize v_thrown v_fault v_faultPlace v_things v_options v_lists v_sentences v_headings v_words v_factBits v_known v_soundMany v_wholeLength v_next v_end v_rThings v_rOptions v_rLists v_rSentences v_rHeadings v_lastName v_inSentence v_open v_written v_named (0) f_tape f_kind f_owner f_from f_size f_means f_signs f_oKind f_oIn f_oList f_oWords f_oFacts f_listIn f_sOwner f_hFacts f_weights f_lengths y_values_2 f_rKind f_rOwner f_rFrom f_rSize f_rMeans f_rOKind f_rOIn f_rOList f_rOFacts f_rListIn f_rSOwner f_rHFacts f_rWeights f_opKind f_opFrom f_opWord f_opOwner f_opList f_opItems f_out f_ranks) H := hP
        have hD : va_D A (wM c y a v_tapeSize v_thrown v_fault v_faultPlace v_things v_options v_lists v_sentences v_headings v_words v_factBits v_known v_soundMany v_wholeLength v_next v_end v_rThings v_rOptions v_rLists v_rSentences v_rHeadings v_lastName v_inSentence v_open v_written v_named (0) f_tape f_kind f_owner f_from f_size f_means f_signs f_oKind f_oIn f_oList f_oWords f_oFacts f_listIn f_sOwner f_hFacts f_weights f_lengths y_values_2 f_rKind f_rOwner f_rFrom f_rSize f_rMeans f_rOKind f_rOIn f_rOList f_rOFacts f_rListIn f_rSOwner f_rHFacts f_rWeights f_opKind f_opFrom f_opWord f_opOwner f_opList f_opItems f_out f_ranks) := hD
        exact hret (q2_u [] [0] [y_values_2]) _ _ _ _ trivial dX10_valueAll_47 hP hD hS
      · have g2 : ¬ n1.toInt ≤ s1_2.toInt := (not_congr (q3_le rfl rfl)).mp g2
        refine lv_aload_n hx hb dX10_valueAll_12 rfl (lv_at hl 1 rfl) ?_
        refine va_get (D := D) (ci := 10) (v := .ref (a 17)) (C := RX10) (T := TX10) (N := 66) hx hb hts iX10 hown hK hP 0 rfl rfl 29 (by decide) (hts (.fieldLink RX10 65 "ShortTellerModel" "values" "[I") (List.mem_of_getElem? (i := 2) rfl)) (fun _ h9 => h9) rfl dX10_valueAll_13 ?_
        refine lv_iload_n hx hb dX10_valueAll_16 rfl (lv_at hl 0 rfl) ?_
        refine lv_aload_n hx hb dX10_valueAll_17 rfl (lv_at hl 1 rfl) ?_
        refine va_get (D := D) (ci := 10) (v := .ref (a 16)) (C := RX10) (T := TX10) (N := 66) hx hb hts iX10 hown hK hP 0 rfl rfl 28 (by decide) (hts (.fieldLink RX10 62 "ShortTellerModel" "lengths" "[I") (List.mem_of_getElem? (i := 3) rfl)) (fun _ h9 => h9) rfl dX10_valueAll_18 ?_
        refine lv_iload_n hx hb dX10_valueAll_21 rfl (lv_at hl 0 rfl) ?_
        refine q3_iald (c := c) hx hb hK hP 17 rfl (q2_in (by omega) (by omega)) dX10_valueAll_22 (fun n3 en3 => ?_)
        have tn3 : n3.toInt = (f_lengths s1_2.toNatClampNeg).toInt := by rw [en3]
        refine lv_if_ge (tgt := 30) hx hb dX10_valueAll_23 (by decide) (fun g4 => ?_) (fun g4 => ?_)
        · have g4 : (0 : Int) ≤ n3.toInt := (q3_le (by decide) rfl).mp g4
          refine lv_aload_n hx hb dX10_valueAll_30 rfl (lv_at hl 1 rfl) ?_
          refine lv_iload_n hx hb dX10_valueAll_31 rfl (lv_at hl 0 rfl) ?_
          refine q3_ci (va_runV (As := [.int s1_2]) (rest := [.int s1_2, .ref (a 17)]) ⟨hx, hb, hml, hown, hts⟩ (y3_valueOf l D c H.size y a v_tapeSize v_thrown v_fault v_faultPlace v_things v_options v_lists v_sentences v_headings v_words v_factBits v_known v_soundMany v_wholeLength v_next v_end v_rThings v_rOptions v_rLists v_rSentences v_rHeadings v_lastName v_inSentence v_open v_written v_named v_sorted f_tape f_kind f_owner f_from f_size f_means f_signs f_oKind f_oIn f_oList f_oWords f_oFacts f_listIn f_sOwner f_hFacts f_weights f_lengths y_values_2 f_rKind f_rOwner f_rFrom f_rSize f_rMeans f_rOKind f_rOIn f_rOList f_rOFacts f_rListIn f_rSOwner f_rHFacts f_rWeights f_opKind f_opFrom f_opWord f_opOwner f_opList f_opItems f_out f_ranks s1_2 h0 h1 h2 h3 h4) (cwV 1 hts gX10_valueAll_X10_valueOf rfl rfl rfl (by decide +kernel) ⟨Nat.le_of_ble_eq_true rfl, Nat.le_of_ble_eq_true rfl⟩) (q3_preV (c := c) (ci := 10) (q0 := 0) hP hK hD rfl rfl) rfl rfl hl.1 rfl (lv_room (Nat.le_of_ble_eq_true rfl)) dX10_valueAll_32 ⟨Nat.le_of_ble_eq_true rfl, Nat.le_of_ble_eq_true rfl⟩) hD hS hA (fun n5 un5 H locs pn5 hP hD hS => ?_)
          clear pn5
          have hP : va_P D vwCl (wM c y a v_tapeSize v_thrown v_fault v_faultPlace v_things v_options v_lists v_sentences v_headings v_words v_factBits v_known v_soundMany v_wholeLength v_next v_end v_rThings v_rOptions v_rLists v_rSentences v_rHeadings v_lastName v_inSentence v_open v_written v_named v_sorted f_tape f_kind f_owner f_from f_size f_means f_signs f_oKind f_oIn f_oList f_oWords f_oFacts f_listIn f_sOwner f_hFacts f_weights f_lengths y_values_2 f_rKind f_rOwner f_rFrom f_rSize f_rMeans f_rOKind f_rOIn f_rOList f_rOFacts f_rListIn f_rSOwner f_rHFacts f_rWeights f_opKind f_opFrom f_opWord f_opOwner f_opList f_opItems f_out f_ranks) H := hP
          have hD : va_D A (wM c y a v_tapeSize v_thrown v_fault v_faultPlace v_things v_options v_lists v_sentences v_headings v_words v_factBits v_known v_soundMany v_wholeLength v_next v_end v_rThings v_rOptions v_rLists v_rSentences v_rHeadings v_lastName v_inSentence v_open v_written v_named v_sorted f_tape f_kind f_owner f_from f_size f_means f_signs f_oKind f_oIn f_oList f_oWords f_oFacts f_listIn f_sOwner f_hFacts f_weights f_lengths y_values_2 f_rKind f_rOwner f_rFrom f_rSize f_rMeans f_rOKind f_rOIn f_rOList f_rOFacts f_rListIn f_rSOwner f_rHFacts f_rWeights f_opKind f_opFrom f_opWord f_opOwner f_opList f_opItems f_out f_ranks) := hD
          refine q3_iast (c := c) hx hb hK hP hD hS 18 rfl (q2_in (by omega) (by omega)) dX10_valueAll_35 (fun F6 eF6 H locs hP hD hS => ?_)
          have hP : va_P D vwCl (wM c y a v_tapeSize v_thrown v_fault v_faultPlace v_things v_options v_lists v_sentences v_headings v_words v_factBits v_known v_soundMany v_wholeLength v_next v_end v_rThings v_rOptions v_rLists v_rSentences v_rHeadings v_lastName v_inSentence v_open v_written v_named v_sorted f_tape f_kind f_owner f_from f_size f_means f_signs f_oKind f_oIn f_oList f_oWords f_oFacts f_listIn f_sOwner f_hFacts f_weights f_lengths F6 f_rKind f_rOwner f_rFrom f_rSize f_rMeans f_rOKind f_rOIn f_rOList f_rOFacts f_rListIn f_rSOwner f_rHFacts f_rWeights f_opKind f_opFrom f_opWord f_opOwner f_opList f_opItems f_out f_ranks) H := hP
          have hD : va_D A (wM c y a v_tapeSize v_thrown v_fault v_faultPlace v_things v_options v_lists v_sentences v_headings v_words v_factBits v_known v_soundMany v_wholeLength v_next v_end v_rThings v_rOptions v_rLists v_rSentences v_rHeadings v_lastName v_inSentence v_open v_written v_named v_sorted f_tape f_kind f_owner f_from f_size f_means f_signs f_oKind f_oIn f_oList f_oWords f_oFacts f_listIn f_sOwner f_hFacts f_weights f_lengths F6 f_rKind f_rOwner f_rFrom f_rSize f_rMeans f_rOKind f_rOIn f_rOList f_rOFacts f_rListIn f_rSOwner f_rHFacts f_rWeights f_opKind f_opFrom f_opWord f_opOwner f_opList f_opItems f_out f_ranks) := hD
          obtain ⟨n7, en7⟩ : ∃ z : Int32, z = s1_2 + (1) := ⟨_, rfl⟩
          have tn7 : n7.toInt = s1_2.toInt + (1 : Int) := q3_add en7 rfl (by decide) (by omega) (by omega)
          refine lv_iinc (v := n7) (lv' := [(1, .int n7), (0, .ref y)]) hx hb dX10_valueAll_36 hl (k := 0) rfl (by rw [en7]; rfl) (by decide) rfl (fun ls hl => ?_)
          refine lv_goto (tgt := 2) hx hb dX10_valueAll_39 (by decide) ?_
          exact ih_2 n7 F6 (show 0 ≤ n7.toInt by omega) (show n7.toInt ≤ 16384 by omega) (show 16385 - n7.toInt < _ by omega) _ _ _ hP hD hS hl
        · have g4 : ¬ (0 : Int) ≤ n3.toInt := (not_congr (q3_le (by decide) rfl)).mp g4
          refine lv_iconst (v := -1) hx hb dX10_valueAll_26 (by decide) ?_
          refine lv_goto (tgt := 35) hx hb dX10_valueAll_27 (by decide) ?_
          refine q3_iast (c := c) hx hb hK hP hD hS 18 rfl (q2_in (by omega) (by omega)) dX10_valueAll_35 (fun F8 eF8 H locs hP hD hS => ?_)
          have hP : va_P D vwCl (wM c y a v_tapeSize v_thrown v_fault v_faultPlace v_things v_options v_lists v_sentences v_headings v_words v_factBits v_known v_soundMany v_wholeLength v_next v_end v_rThings v_rOptions v_rLists v_rSentences v_rHeadings v_lastName v_inSentence v_open v_written v_named v_sorted f_tape f_kind f_owner f_from f_size f_means f_signs f_oKind f_oIn f_oList f_oWords f_oFacts f_listIn f_sOwner f_hFacts f_weights f_lengths F8 f_rKind f_rOwner f_rFrom f_rSize f_rMeans f_rOKind f_rOIn f_rOList f_rOFacts f_rListIn f_rSOwner f_rHFacts f_rWeights f_opKind f_opFrom f_opWord f_opOwner f_opList f_opItems f_out f_ranks) H := hP
          have hD : va_D A (wM c y a v_tapeSize v_thrown v_fault v_faultPlace v_things v_options v_lists v_sentences v_headings v_words v_factBits v_known v_soundMany v_wholeLength v_next v_end v_rThings v_rOptions v_rLists v_rSentences v_rHeadings v_lastName v_inSentence v_open v_written v_named v_sorted f_tape f_kind f_owner f_from f_size f_means f_signs f_oKind f_oIn f_oList f_oWords f_oFacts f_listIn f_sOwner f_hFacts f_weights f_lengths F8 f_rKind f_rOwner f_rFrom f_rSize f_rMeans f_rOKind f_rOIn f_rOList f_rOFacts f_rListIn f_rSOwner f_rHFacts f_rWeights f_opKind f_opFrom f_opWord f_opOwner f_opList f_opItems f_out f_ranks) := hD
          obtain ⟨n9, en9⟩ : ∃ z : Int32, z = s1_2 + (1) := ⟨_, rfl⟩
          have tn9 : n9.toInt = s1_2.toInt + (1 : Int) := q3_add en9 rfl (by decide) (by omega) (by omega)
          refine lv_iinc (v := n9) (lv' := [(1, .int n9), (0, .ref y)]) hx hb dX10_valueAll_36 hl (k := 0) rfl (by rw [en9]; rfl) (by decide) rfl (fun ls hl => ?_)
          refine lv_goto (tgt := 2) hx hb dX10_valueAll_39 (by decide) ?_
          exact ih_2 n9 F8 (show 0 ≤ n9.toInt by omega) (show n9.toInt ≤ 16384 by omega) (show 16385 - n9.toInt < _ by omega) _ _ _ hP hD hS hl
  exact lp2 (Int.toNat (16385 - (0 : Int)) + 1) (0) f_values (show 0 ≤ (0 : Int) by omega) (show (0 : Int) ≤ 16384 by omega) (show 16385 - (0 : Int) < ((Int.toNat (16385 - (0 : Int)) + 1 : Nat) : Int) by omega) _ _ _ hP hD hS hl
set_option maxHeartbeats 4000000 in
set_option maxRecDepth 100000 in
theorem y3_finish (l : Launch) (D : va_G) (c : Nat → ClassId) (sz : Nat) (y : Nat) (a : Nat → Nat) (v_tapeSize v_thrown v_fault v_faultPlace v_things v_options v_lists v_sentences v_headings v_words v_factBits v_known v_soundMany v_wholeLength v_next v_end v_rThings v_rOptions v_rLists v_rSentences v_rHeadings v_lastName v_inSentence v_open v_written v_named v_sorted : Int32) (f_tape f_kind f_owner f_from f_size f_means f_signs f_oKind f_oIn f_oList f_oWords f_oFacts f_listIn f_sOwner f_hFacts f_weights f_lengths f_values f_rKind f_rOwner f_rFrom f_rSize f_rMeans f_rOKind f_rOIn f_rOList f_rOFacts f_rListIn f_rSOwner f_rHFacts f_rWeights f_opKind f_opFrom f_opWord f_opOwner f_opList f_opItems f_out f_ranks : Nat → Int32) (h0 : 0 ≤ v_options.toInt) (h1 : v_options.toInt ≤ 14) (h2 : 0 ≤ v_lists.toInt) (h3 : v_lists.toInt ≤ 14) (h4 : 0 ≤ v_sentences.toInt) (h5 : v_sentences.toInt ≤ 414) (h6 : 0 ≤ v_things.toInt) (h7 : v_things.toInt ≤ 814) (h8 : q4_s f_kind f_size (Int.toNat v_things.toInt) ≤ 8456) (h9 : q4_n f_kind (Int.toNat v_things.toInt) ≤ v_sentences.toInt) (h10 : ∀ j : Nat, -422 < (f_sOwner j).toInt ∧ (f_sOwner j).toInt < 14 ∧ (f_sOwner j).toInt ≠ -1) (h11 : ∀ j : Nat, (f_lengths j).toInt ≤ 10000) (h12 : q4_T f_kind f_owner f_from f_size f_means) : Met l yX10_finish wsX10_finish ({ frames := 5, cells := 0, slots := 0, locals := 112 }) (q3_P D c (wM c y a v_tapeSize v_thrown v_fault v_faultPlace v_things v_options v_lists v_sentences v_headings v_words v_factBits v_known v_soundMany v_wholeLength v_next v_end v_rThings v_rOptions v_rLists v_rSentences v_rHeadings v_lastName v_inSentence v_open v_written v_named v_sorted f_tape f_kind f_owner f_from f_size f_means f_signs f_oKind f_oIn f_oList f_oWords f_oFacts f_listIn f_sOwner f_hFacts f_weights f_lengths f_values f_rKind f_rOwner f_rFrom f_rSize f_rMeans f_rOKind f_rOIn f_rOList f_rOFacts f_rListIn f_rSOwner f_rHFacts f_rWeights f_opKind f_opFrom f_opWord f_opOwner f_opList f_opItems f_out f_ranks) sz [.ref y]) (q2_v D (wM c y a v_tapeSize v_thrown v_fault v_faultPlace v_things v_options v_lists v_sentences v_headings v_words v_factBits v_known v_soundMany v_wholeLength v_next v_end v_rThings v_rOptions v_rLists v_rSentences v_rHeadings v_lastName v_inSentence v_open v_written v_named v_sorted f_tape f_kind f_owner f_from f_size f_means f_signs f_oKind f_oIn f_oList f_oWords f_oFacts f_listIn f_sOwner f_hFacts f_weights f_lengths f_values f_rKind f_rOwner f_rFrom f_rSize f_rMeans f_rOKind f_rOIn f_rOList f_rOFacts f_rListIn f_rSOwner f_rHFacts f_rWeights f_opKind f_opFrom f_opWord f_opOwner f_opList f_opItems f_out f_ranks) sz (fun u => (0 ≤ (u.2.1 0).toInt) ∧ ((u.2.1 0).toInt ≤ 16384) ∧ (∀ j : Nat, ((u.2.2 0) j).toInt ≤ 10000) ∧ True) (fun u => wM c y a v_tapeSize v_thrown v_fault v_faultPlace v_things v_options v_lists v_sentences v_headings v_words v_factBits v_known (u.2.1 0) (u.2.1 3) v_next v_end v_rThings v_rOptions v_rLists v_rSentences v_rHeadings v_lastName v_inSentence v_open (u.2.1 1) (u.2.1 2) (u.2.1 4) f_tape f_kind f_owner f_from f_size f_means f_signs f_oKind f_oIn f_oList f_oWords f_oFacts f_listIn f_sOwner f_hFacts f_weights (u.2.2 0) (u.2.2 2) f_rKind f_rOwner f_rFrom f_rSize f_rMeans f_rOKind f_rOIn f_rOList f_rOFacts f_rListIn f_rSOwner f_rHFacts f_rWeights f_opKind f_opFrom f_opWord f_opOwner f_opList f_opItems (u.2.2 1) f_ranks)) (0) (0) (va_A (wM c y a v_tapeSize v_thrown v_fault v_faultPlace v_things v_options v_lists v_sentences v_headings v_words v_factBits v_known v_soundMany v_wholeLength v_next v_end v_rThings v_rOptions v_rLists v_rSentences v_rHeadings v_lastName v_inSentence v_open v_written v_named v_sorted f_tape f_kind f_owner f_from f_size f_means f_signs f_oKind f_oIn f_oList f_oWords f_oFacts f_listIn f_sOwner f_hFacts f_weights f_lengths f_values f_rKind f_rOwner f_rFrom f_rSize f_rMeans f_rOKind f_rOIn f_rOList f_rOFacts f_rListIn f_rSOwner f_rHFacts f_rWeights f_opKind f_opFrom f_opWord f_opOwner f_opList f_opItems f_out f_ranks) sz) := by
  refine q3_of_v (cc := cX10_finish) (maxL := 2) (by decide) rfl (Nat.le_of_ble_eq_true rfl) (fun p e s m args below meth cd A Q ls hx hb hml hown hts hA hS hP hD hK hl hret => ?_)
  have hown : s.vm.findClass RX10 = some m.cls := hown
  obtain ⟨H, eH⟩ : ∃ z, z = s.heap := ⟨_, rfl⟩
  have hP : va_P D vwCl (wM c y a v_tapeSize v_thrown v_fault v_faultPlace v_things v_options v_lists v_sentences v_headings v_words v_factBits v_known v_soundMany v_wholeLength v_next v_end v_rThings v_rOptions v_rLists v_rSentences v_rHeadings v_lastName v_inSentence v_open v_written v_named v_sorted f_tape f_kind f_owner f_from f_size f_means f_signs f_oKind f_oIn f_oList f_oWords f_oFacts f_listIn f_sOwner f_hFacts f_weights f_lengths f_values f_rKind f_rOwner f_rFrom f_rSize f_rMeans f_rOKind f_rOIn f_rOList f_rOFacts f_rListIn f_rSOwner f_rHFacts f_rWeights f_opKind f_opFrom f_opWord f_opOwner f_opList f_opItems f_out f_ranks) H := by rw [eH]; exact hP
  have hS : va_S A s.heap H [] := by rw [eH]; exact hS
  rw [← eH]
  have iX10 : ∀ w ∈ wsX100, w ∈ wsX10_finish := fun w h => List.mem_cons_of_mem _ (List.mem_append_right _ h)
  have hl : lv_has ls 2 [(0, .ref y)] := hl
  refine lv_aload_n hx hb dX10_finish_0 rfl (lv_at hl 0 rfl) ?_
  refine lv_iconst (v := 0) hx hb dX10_finish_1 (by decide) ?_
  refine va_put (D := D) (ci := 10) (v := .int 0) (ty := .int) (C := RX10) (T := TX10) (N := 66) hx hb hts iX10 tyX10 tyX10_ok nmX10 hown hK hP hD hS 0 rfl rfl 30 (by decide) (hts (.fieldLink RX10 278 "ShortTellerModel" "soundMany" "I") (List.mem_of_getElem? (i := 1) rfl)) (fun _ h9 => h9) rfl (by decide +kernel) rfl rfl (Nat.le_of_ble_eq_true rfl) dX10_finish_2 (fun H locs hP hD hS => ?_)
  have hP : va_P D vwCl (wM c y a v_tapeSize v_thrown v_fault v_faultPlace v_things v_options v_lists v_sentences v_headings v_words v_factBits v_known (0) v_wholeLength v_next v_end v_rThings v_rOptions v_rLists v_rSentences v_rHeadings v_lastName v_inSentence v_open v_written v_named v_sorted f_tape f_kind f_owner f_from f_size f_means f_signs f_oKind f_oIn f_oList f_oWords f_oFacts f_listIn f_sOwner f_hFacts f_weights f_lengths f_values f_rKind f_rOwner f_rFrom f_rSize f_rMeans f_rOKind f_rOIn f_rOList f_rOFacts f_rListIn f_rSOwner f_rHFacts f_rWeights f_opKind f_opFrom f_opWord f_opOwner f_opList f_opItems f_out f_ranks) H := hP
  have hD : va_D A (wM c y a v_tapeSize v_thrown v_fault v_faultPlace v_things v_options v_lists v_sentences v_headings v_words v_factBits v_known (0) v_wholeLength v_next v_end v_rThings v_rOptions v_rLists v_rSentences v_rHeadings v_lastName v_inSentence v_open v_written v_named v_sorted f_tape f_kind f_owner f_from f_size f_means f_signs f_oKind f_oIn f_oList f_oWords f_oFacts f_listIn f_sOwner f_hFacts f_weights f_lengths f_values f_rKind f_rOwner f_rFrom f_rSize f_rMeans f_rOKind f_rOIn f_rOList f_rOFacts f_rListIn f_rSOwner f_rHFacts f_rWeights f_opKind f_opFrom f_opWord f_opOwner f_opList f_opItems f_out f_ranks) := hD
  refine lv_iconst (v := 0) hx hb dX10_finish_5 (by decide) ?_
  refine lv_istore_n (lv' := [(1, .int 0), (0, .ref y)]) hx hb dX10_finish_6 rfl hl (by decide) rfl (fun ls hl => ?_)
  have lp7 : ∀ (k : Nat) (s1_7 : Int32) (z_soundMany_7 : Int32) (z_written_7 : Int32) (z_named_7 : Int32) (y_lengths_7 : Nat → Int32) (y_out_7 : Nat → Int32), (0 ≤ s1_7.toInt) → (s1_7.toInt ≤ 16384) → (0 ≤ z_soundMany_7.toInt) → (z_soundMany_7.toInt ≤ s1_7.toInt) → (∀ j : Nat, (y_lengths_7 j).toInt ≤ 10000) → 16385 - s1_7.toInt < (k : Int) → ∀ (H : Heap) (locs : List Loc) (ls : Array Slot), va_P D vwCl (wM c y a v_tapeSize v_thrown v_fault v_faultPlace v_things v_options v_lists v_sentences v_headings v_words v_factBits v_known z_soundMany_7 v_wholeLength v_next v_end v_rThings v_rOptions v_rLists v_rSentences v_rHeadings v_lastName v_inSentence v_open z_written_7 z_named_7 v_sorted f_tape f_kind f_owner f_from f_size f_means f_signs f_oKind f_oIn f_oList f_oWords f_oFacts f_listIn f_sOwner f_hFacts f_weights y_lengths_7 f_values f_rKind f_rOwner f_rFrom f_rSize f_rMeans f_rOKind f_rOIn f_rOList f_rOFacts f_rListIn f_rSOwner f_rHFacts f_rWeights f_opKind f_opFrom f_opWord f_opOwner f_opList f_opItems y_out_7 f_ranks) H → va_D A (wM c y a v_tapeSize v_thrown v_fault v_faultPlace v_things v_options v_lists v_sentences v_headings v_words v_factBits v_known z_soundMany_7 v_wholeLength v_next v_end v_rThings v_rOptions v_rLists v_rSentences v_rHeadings v_lastName v_inSentence v_open z_written_7 z_named_7 v_sorted f_tape f_kind f_owner f_from f_size f_means f_signs f_oKind f_oIn f_oList f_oWords f_oFacts f_listIn f_sOwner f_hFacts f_weights y_lengths_7 f_values f_rKind f_rOwner f_rFrom f_rSize f_rMeans f_rOKind f_rOIn f_rOList f_rOFacts f_rListIn f_rSOwner f_rHFacts f_rWeights f_opKind f_opFrom f_opWord f_opOwner f_opList f_opItems y_out_7 f_ranks) → va_S A s.heap H locs → lv_has ls 2 [(1, .int s1_7), (0, .ref y)] → W p l e ({ frames := 5, cells := 0, slots := 0, locals := 112 }) s m args below meth cd H locs 0 0 Q (F0 m 7 ls []) := by
    intro k
    induction k with
    | zero => intro s1_7 z_soundMany_7 z_written_7 z_named_7 y_lengths_7 y_out_7 j0_7 j1_7 j2_7 j3_7 j4_7 hm; exfalso; omega
    | succ k ih_7 =>
      intro s1_7 z_soundMany_7 z_written_7 z_named_7 y_lengths_7 y_out_7 j0_7 j1_7 j2_7 j3_7 j4_7 hm_7 H locs ls hP hD hS hl
      refine lv_iload_n hx hb dX10_finish_7 rfl (lv_at hl 0 rfl) ?_
      refine lv_iconst (v := 1) hx hb dX10_finish_8 (by decide) ?_
      refine lv_aload_n hx hb dX10_finish_9 rfl (lv_at hl 1 rfl) ?_
      refine va_get (D := D) (ci := 10) (v := .int v_options) (C := RX10) (T := TX10) (N := 66) hx hb hts iX10 hown hK hP 0 rfl rfl 12 (by decide) (hts (.fieldLink RX10 233 "ShortTellerModel" "options" "I") (List.mem_of_getElem? (i := 2) rfl)) (fun _ h9 => h9) rfl dX10_finish_10 ?_
      refine lv_ishl hx hb dX10_finish_13 ?_
      refine lv_topi (fun n1 en1 => ?_)
      have tn1 := q3_sh en1 (by omega) (by omega)
      refine lv_icmp_ge (tgt := 66) hx hb dX10_finish_14 (by decide) (fun g2 => ?_) (fun g2 => ?_)
      · have g2 : n1.toInt ≤ s1_7.toInt := (q3_le rfl rfl).mp g2
        refine lv_aload_n hx hb dX10_finish_66 rfl (lv_at hl 1 rfl) ?_
        refine lv_aload_n hx hb dX10_finish_67 rfl (lv_at hl 1 rfl) ?_
        refine va_get (D := D) (ci := 10) (v := .ref (a 16)) (C := RX10) (T := TX10) (N := 66) hx hb hts iX10 hown hK hP 0 rfl rfl 28 (by decide) (hts (.fieldLink RX10 62 "ShortTellerModel" "lengths" "[I") (List.mem_of_getElem? (i := 3) rfl)) (fun _ h9 => h9) rfl dX10_finish_68 ?_
        refine lv_iconst (v := 1) hx hb dX10_finish_71 (by decide) ?_
        refine lv_aload_n hx hb dX10_finish_72 rfl (lv_at hl 1 rfl) ?_
        refine va_get (D := D) (ci := 10) (v := .int v_options) (C := RX10) (T := TX10) (N := 66) hx hb hts iX10 hown hK hP 0 rfl rfl 12 (by decide) (hts (.fieldLink RX10 233 "ShortTellerModel" "options" "I") (List.mem_of_getElem? (i := 2) rfl)) (fun _ h9 => h9) rfl dX10_finish_73 ?_
        refine lv_ishl hx hb dX10_finish_76 ?_
        refine lv_topi (fun n3 en3 => ?_)
        have tn3 := q3_sh en3 (by omega) (by omega)
        refine lv_iconst (v := 1) hx hb dX10_finish_77 (by decide) ?_
        refine lv_isub hx hb dX10_finish_78 ?_
        refine lv_topi (fun n4 en4 => ?_)
        have tn4 : n4.toInt = n3.toInt - (1 : Int) := q3_sub en4 rfl (by decide) (by omega) (by omega)
        refine q3_iald (c := c) hx hb hK hP 17 rfl (q2_in (by omega) (by omega)) dX10_finish_79 (fun n5 en5 => ?_)
        have tn5 : n5.toInt = (y_lengths_7 n4.toNatClampNeg).toInt := by rw [en5]
        have rn5 : n5.toInt ≤ 10000 := by rw [en5]; exact j4_7 _
        refine va_put (D := D) (ci := 10) (v := .int n5) (ty := .int) (C := RX10) (T := TX10) (N := 66) hx hb hts iX10 tyX10 tyX10_ok nmX10 hown hK hP hD hS 0 rfl rfl 31 (by decide) (hts (.fieldLink RX10 288 "ShortTellerModel" "wholeLength" "I") (List.mem_of_getElem? (i := 5) rfl)) (fun _ h9 => h9) rfl (by decide +kernel) rfl rfl (Nat.le_of_ble_eq_true rfl) dX10_finish_80 (fun H locs hP hD hS => ?_)
        have hP : va_P D vwCl (wM c y a v_tapeSize v_thrown v_fault v_faultPlace v_things v_options v_lists v_sentences v_headings v_words v_factBits v_known z_soundMany_7 n5 v_next v_end v_rThings v_rOptions v_rLists v_rSentences v_rHeadings v_lastName v_inSentence v_open z_written_7 z_named_7 v_sorted f_tape f_kind f_owner f_from f_size f_means f_signs f_oKind f_oIn f_oList f_oWords f_oFacts f_listIn f_sOwner f_hFacts f_weights y_lengths_7 f_values f_rKind f_rOwner f_rFrom f_rSize f_rMeans f_rOKind f_rOIn f_rOList f_rOFacts f_rListIn f_rSOwner f_rHFacts f_rWeights f_opKind f_opFrom f_opWord f_opOwner f_opList f_opItems y_out_7 f_ranks) H := hP
        have hD : va_D A (wM c y a v_tapeSize v_thrown v_fault v_faultPlace v_things v_options v_lists v_sentences v_headings v_words v_factBits v_known z_soundMany_7 n5 v_next v_end v_rThings v_rOptions v_rLists v_rSentences v_rHeadings v_lastName v_inSentence v_open z_written_7 z_named_7 v_sorted f_tape f_kind f_owner f_from f_size f_means f_signs f_oKind f_oIn f_oList f_oWords f_oFacts f_listIn f_sOwner f_hFacts f_weights y_lengths_7 f_values f_rKind f_rOwner f_rFrom f_rSize f_rMeans f_rOKind f_rOIn f_rOList f_rOFacts f_rListIn f_rSOwner f_rHFacts f_rWeights f_opKind f_opFrom f_opWord f_opOwner f_opList f_opItems y_out_7 f_ranks) := hD
        refine lv_aload_n hx hb dX10_finish_83 rfl (lv_at hl 1 rfl) ?_
        refine q3_cv (va_runV (As := []) (rest := []) ⟨hx, hb, hml, hown, hts⟩ (y3_valueAll l D c H.size y a v_tapeSize v_thrown v_fault v_faultPlace v_things v_options v_lists v_sentences v_headings v_words v_factBits v_known z_soundMany_7 n5 v_next v_end v_rThings v_rOptions v_rLists v_rSentences v_rHeadings v_lastName v_inSentence v_open z_written_7 z_named_7 v_sorted f_tape f_kind f_owner f_from f_size f_means f_signs f_oKind f_oIn f_oList f_oWords f_oFacts f_listIn f_sOwner f_hFacts f_weights y_lengths_7 f_values f_rKind f_rOwner f_rFrom f_rSize f_rMeans f_rOKind f_rOIn f_rOList f_rOFacts f_rListIn f_rSOwner f_rHFacts f_rWeights f_opKind f_opFrom f_opWord f_opOwner f_opList f_opItems y_out_7 f_ranks h0 h1 h4 h5 h10) (cwV 0 hts gX10_finish_X10_valueAll rfl rfl rfl (by decide +kernel) ⟨Nat.le_of_ble_eq_true rfl, Nat.le_of_ble_eq_true rfl⟩) (q3_preV (c := c) (ci := 10) (q0 := 0) hP hK hD rfl rfl) rfl rfl hl.1 rfl (lv_room (Nat.le_of_ble_eq_true rfl)) dX10_finish_84 ⟨Nat.le_of_ble_eq_true rfl, Nat.le_of_ble_eq_true rfl⟩) hD hS hA (fun un6 H locs pn6 hP hD hS => ?_)
        clear pn6
        have hP : va_P D vwCl (wM c y a v_tapeSize v_thrown v_fault v_faultPlace v_things v_options v_lists v_sentences v_headings v_words v_factBits v_known z_soundMany_7 n5 v_next v_end v_rThings v_rOptions v_rLists v_rSentences v_rHeadings v_lastName v_inSentence v_open z_written_7 z_named_7 (un6.2.1 0) f_tape f_kind f_owner f_from f_size f_means f_signs f_oKind f_oIn f_oList f_oWords f_oFacts f_listIn f_sOwner f_hFacts f_weights y_lengths_7 (un6.2.2 0) f_rKind f_rOwner f_rFrom f_rSize f_rMeans f_rOKind f_rOIn f_rOList f_rOFacts f_rListIn f_rSOwner f_rHFacts f_rWeights f_opKind f_opFrom f_opWord f_opOwner f_opList f_opItems y_out_7 f_ranks) H := hP
        have hD : va_D A (wM c y a v_tapeSize v_thrown v_fault v_faultPlace v_things v_options v_lists v_sentences v_headings v_words v_factBits v_known z_soundMany_7 n5 v_next v_end v_rThings v_rOptions v_rLists v_rSentences v_rHeadings v_lastName v_inSentence v_open z_written_7 z_named_7 (un6.2.1 0) f_tape f_kind f_owner f_from f_size f_means f_signs f_oKind f_oIn f_oList f_oWords f_oFacts f_listIn f_sOwner f_hFacts f_weights y_lengths_7 (un6.2.2 0) f_rKind f_rOwner f_rFrom f_rSize f_rMeans f_rOKind f_rOIn f_rOList f_rOFacts f_rListIn f_rSOwner f_rHFacts f_rWeights f_opKind f_opFrom f_opWord f_opOwner f_opList f_opItems y_out_7 f_ranks) := hD
        exact hret (q2_u [] [z_soundMany_7, z_written_7, z_named_7, n5, un6.2.1 0] [y_lengths_7, y_out_7, un6.2.2 0]) _ _ _ _ ⟨j2_7, (show z_soundMany_7.toInt ≤ 16384 by omega), j4_7, trivial⟩ dX10_finish_87 hP hD hS
      · have g2 : ¬ n1.toInt ≤ s1_7.toInt := (not_congr (q3_le rfl rfl)).mp g2
        refine lv_aload_n hx hb dX10_finish_17 rfl (lv_at hl 1 rfl) ?_
        refine va_get (D := D) (ci := 10) (v := .ref (a 16)) (C := RX10) (T := TX10) (N := 66) hx hb hts iX10 hown hK hP 0 rfl rfl 28 (by decide) (hts (.fieldLink RX10 62 "ShortTellerModel" "lengths" "[I") (List.mem_of_getElem? (i := 3) rfl)) (fun _ h9 => h9) rfl dX10_finish_18 ?_
        refine lv_iload_n hx hb dX10_finish_21 rfl (lv_at hl 0 rfl) ?_
        refine lv_iconst (v := -1) hx hb dX10_finish_22 (by decide) ?_
        refine q3_iast (c := c) hx hb hK hP hD hS 17 rfl (q2_in (by omega) (by omega)) dX10_finish_23 (fun F7 eF7 H locs hP hD hS => ?_)
        have hP : va_P D vwCl (wM c y a v_tapeSize v_thrown v_fault v_faultPlace v_things v_options v_lists v_sentences v_headings v_words v_factBits v_known z_soundMany_7 v_wholeLength v_next v_end v_rThings v_rOptions v_rLists v_rSentences v_rHeadings v_lastName v_inSentence v_open z_written_7 z_named_7 v_sorted f_tape f_kind f_owner f_from f_size f_means f_signs f_oKind f_oIn f_oList f_oWords f_oFacts f_listIn f_sOwner f_hFacts f_weights F7 f_values f_rKind f_rOwner f_rFrom f_rSize f_rMeans f_rOKind f_rOIn f_rOList f_rOFacts f_rListIn f_rSOwner f_rHFacts f_rWeights f_opKind f_opFrom f_opWord f_opOwner f_opList f_opItems y_out_7 f_ranks) H := hP
        have hD : va_D A (wM c y a v_tapeSize v_thrown v_fault v_faultPlace v_things v_options v_lists v_sentences v_headings v_words v_factBits v_known z_soundMany_7 v_wholeLength v_next v_end v_rThings v_rOptions v_rLists v_rSentences v_rHeadings v_lastName v_inSentence v_open z_written_7 z_named_7 v_sorted f_tape f_kind f_owner f_from f_size f_means f_signs f_oKind f_oIn f_oList f_oWords f_oFacts f_listIn f_sOwner f_hFacts f_weights F7 f_values f_rKind f_rOwner f_rFrom f_rSize f_rMeans f_rOKind f_rOIn f_rOList f_rOFacts f_rListIn f_rSOwner f_rHFacts f_rWeights f_opKind f_opFrom f_opWord f_opOwner f_opList f_opItems y_out_7 f_ranks) := hD
        have hF7_0 : ∀ j : Nat, (F7 j).toInt ≤ 10000 := q3_up (P := fun z => z.toInt ≤ 10000) eF7 j4_7 (show (-1 : Int) ≤ 10000 by omega)
        refine lv_aload_n hx hb dX10_finish_24 rfl (lv_at hl 1 rfl) ?_
        refine lv_iload_n hx hb dX10_finish_25 rfl (lv_at hl 0 rfl) ?_
        refine q3_ci (va_runV (As := [.int s1_7]) (rest := []) ⟨hx, hb, hml, hown, hts⟩ (y3_isSound l D c H.size y a v_tapeSize v_thrown v_fault v_faultPlace v_things v_options v_lists v_sentences v_headings v_words v_factBits v_known z_soundMany_7 v_wholeLength v_next v_end v_rThings v_rOptions v_rLists v_rSentences v_rHeadings v_lastName v_inSentence v_open z_written_7 z_named_7 v_sorted f_tape f_kind f_owner f_from f_size f_means f_signs f_oKind f_oIn f_oList f_oWords f_oFacts f_listIn f_sOwner f_hFacts f_weights F7 f_values f_rKind f_rOwner f_rFrom f_rSize f_rMeans f_rOKind f_rOIn f_rOList f_rOFacts f_rListIn f_rSOwner f_rHFacts f_rWeights f_opKind f_opFrom f_opWord f_opOwner f_opList f_opItems y_out_7 f_ranks s1_7 h0 h1 h2 h3) (cwV 1 hts gX10_finish_X10_isSound rfl rfl rfl (by decide +kernel) ⟨Nat.le_of_ble_eq_true rfl, Nat.le_of_ble_eq_true rfl⟩) (q3_preV (c := c) (ci := 10) (q0 := 0) hP hK hD rfl rfl) rfl rfl hl.1 rfl (lv_room (Nat.le_of_ble_eq_true rfl)) dX10_finish_26 ⟨Nat.le_of_ble_eq_true rfl, Nat.le_of_ble_eq_true rfl⟩) hD hS hA (fun n8 un8 H locs pn8 hP hD hS => ?_)
        have pn8 : (n8.toInt = 0 ∨ n8.toInt = 1) ∧ True := pn8
        obtain ⟨pn8_0, -⟩ := pn8
        have hP : va_P D vwCl (wM c y a v_tapeSize v_thrown v_fault v_faultPlace v_things v_options v_lists v_sentences v_headings v_words v_factBits v_known z_soundMany_7 v_wholeLength v_next v_end v_rThings v_rOptions v_rLists v_rSentences v_rHeadings v_lastName v_inSentence v_open z_written_7 z_named_7 v_sorted f_tape f_kind f_owner f_from f_size f_means f_signs f_oKind f_oIn f_oList f_oWords f_oFacts f_listIn f_sOwner f_hFacts f_weights F7 f_values f_rKind f_rOwner f_rFrom f_rSize f_rMeans f_rOKind f_rOIn f_rOList f_rOFacts f_rListIn f_rSOwner f_rHFacts f_rWeights f_opKind f_opFrom f_opWord f_opOwner f_opList f_opItems y_out_7 f_ranks) H := hP
        have hD : va_D A (wM c y a v_tapeSize v_thrown v_fault v_faultPlace v_things v_options v_lists v_sentences v_headings v_words v_factBits v_known z_soundMany_7 v_wholeLength v_next v_end v_rThings v_rOptions v_rLists v_rSentences v_rHeadings v_lastName v_inSentence v_open z_written_7 z_named_7 v_sorted f_tape f_kind f_owner f_from f_size f_means f_signs f_oKind f_oIn f_oList f_oWords f_oFacts f_listIn f_sOwner f_hFacts f_weights F7 f_values f_rKind f_rOwner f_rFrom f_rSize f_rMeans f_rOKind f_rOIn f_rOList f_rOFacts f_rListIn f_rSOwner f_rHFacts f_rWeights f_opKind f_opFrom f_opWord f_opOwner f_opList f_opItems y_out_7 f_ranks) := hD
        refine lv_if_ne (tgt := 35) hx hb dX10_finish_29 (by decide) (fun g9 => ?_) (fun g9 => ?_)
        · have g9 : ¬ n8.toInt = (0 : Int) := (not_congr (q3_eq rfl (by decide))).mp g9
          refine lv_aload_n hx hb dX10_finish_35 rfl (lv_at hl 1 rfl) ?_
          refine lv_dup hx hb dX10_finish_36 rfl ?_
          refine va_get (D := D) (ci := 10) (v := .int z_soundMany_7) (C := RX10) (T := TX10) (N := 66) hx hb hts iX10 hown hK hP 0 rfl rfl 30 (by decide) (hts (.fieldLink RX10 278 "ShortTellerModel" "soundMany" "I") (List.mem_of_getElem? (i := 1) rfl)) (fun _ h9 => h9) rfl dX10_finish_37 ?_
          refine lv_iconst (v := 1) hx hb dX10_finish_40 (by decide) ?_
          refine lv_iadd hx hb dX10_finish_41 ?_
          refine lv_topi (fun n10 en10 => ?_)
          have tn10 : n10.toInt = z_soundMany_7.toInt + (1 : Int) := q3_add en10 rfl (by decide) (by omega) (by omega)
          refine va_put (D := D) (ci := 10) (v := .int n10) (ty := .int) (C := RX10) (T := TX10) (N := 66) hx hb hts iX10 tyX10 tyX10_ok nmX10 hown hK hP hD hS 0 rfl rfl 30 (by decide) (hts (.fieldLink RX10 278 "ShortTellerModel" "soundMany" "I") (List.mem_of_getElem? (i := 1) rfl)) (fun _ h9 => h9) rfl (by decide +kernel) rfl rfl (Nat.le_of_ble_eq_true rfl) dX10_finish_42 (fun H locs hP hD hS => ?_)
          have hP : va_P D vwCl (wM c y a v_tapeSize v_thrown v_fault v_faultPlace v_things v_options v_lists v_sentences v_headings v_words v_factBits v_known n10 v_wholeLength v_next v_end v_rThings v_rOptions v_rLists v_rSentences v_rHeadings v_lastName v_inSentence v_open z_written_7 z_named_7 v_sorted f_tape f_kind f_owner f_from f_size f_means f_signs f_oKind f_oIn f_oList f_oWords f_oFacts f_listIn f_sOwner f_hFacts f_weights F7 f_values f_rKind f_rOwner f_rFrom f_rSize f_rMeans f_rOKind f_rOIn f_rOList f_rOFacts f_rListIn f_rSOwner f_rHFacts f_rWeights f_opKind f_opFrom f_opWord f_opOwner f_opList f_opItems y_out_7 f_ranks) H := hP
          have hD : va_D A (wM c y a v_tapeSize v_thrown v_fault v_faultPlace v_things v_options v_lists v_sentences v_headings v_words v_factBits v_known n10 v_wholeLength v_next v_end v_rThings v_rOptions v_rLists v_rSentences v_rHeadings v_lastName v_inSentence v_open z_written_7 z_named_7 v_sorted f_tape f_kind f_owner f_from f_size f_means f_signs f_oKind f_oIn f_oList f_oWords f_oFacts f_listIn f_sOwner f_hFacts f_weights F7 f_values f_rKind f_rOwner f_rFrom f_rSize f_rMeans f_rOKind f_rOIn f_rOList f_rOFacts f_rListIn f_rSOwner f_rHFacts f_rWeights f_opKind f_opFrom f_opWord f_opOwner f_opList f_opItems y_out_7 f_ranks) := hD
          refine lv_aload_n hx hb dX10_finish_45 rfl (lv_at hl 1 rfl) ?_
          refine lv_iload_n hx hb dX10_finish_46 rfl (lv_at hl 0 rfl) ?_
          refine q3_cv (va_runV (As := [.int s1_7]) (rest := []) ⟨hx, hb, hml, hown, hts⟩ (y3_read l D c H.size y a v_tapeSize v_thrown v_fault v_faultPlace v_things v_options v_lists v_sentences v_headings v_words v_factBits v_known n10 v_wholeLength v_next v_end v_rThings v_rOptions v_rLists v_rSentences v_rHeadings v_lastName v_inSentence v_open z_written_7 z_named_7 v_sorted f_tape f_kind f_owner f_from f_size f_means f_signs f_oKind f_oIn f_oList f_oWords f_oFacts f_listIn f_sOwner f_hFacts f_weights F7 f_values f_rKind f_rOwner f_rFrom f_rSize f_rMeans f_rOKind f_rOIn f_rOList f_rOFacts f_rListIn f_rSOwner f_rHFacts f_rWeights f_opKind f_opFrom f_opWord f_opOwner f_opList f_opItems y_out_7 f_ranks s1_7 h0 h1 h4 h5 h6 h7 h8 h9 h12) (cwV 1 hts gX10_finish_X10_read rfl rfl rfl (by decide +kernel) ⟨Nat.le_of_ble_eq_true rfl, Nat.le_of_ble_eq_true rfl⟩) (q3_preV (c := c) (ci := 10) (q0 := 0) hP hK hD rfl rfl) rfl rfl hl.1 rfl (lv_room (Nat.le_of_ble_eq_true rfl)) dX10_finish_47 ⟨Nat.le_of_ble_eq_true rfl, Nat.le_of_ble_eq_true rfl⟩) hD hS hA (fun un11 H locs pn11 hP hD hS => ?_)
          have pn11 : (0 ≤ (un11.2.1 0).toInt) ∧ ((un11.2.1 0).toInt ≤ 10000) ∧ True := pn11
          obtain ⟨pn11_0, pn11_1, -⟩ := pn11
          have hP : va_P D vwCl (wM c y a v_tapeSize v_thrown v_fault v_faultPlace v_things v_options v_lists v_sentences v_headings v_words v_factBits v_known n10 v_wholeLength v_next v_end v_rThings v_rOptions v_rLists v_rSentences v_rHeadings v_lastName v_inSentence v_open (un11.2.1 0) (un11.2.1 1) v_sorted f_tape f_kind f_owner f_from f_size f_means f_signs f_oKind f_oIn f_oList f_oWords f_oFacts f_listIn f_sOwner f_hFacts f_weights F7 f_values f_rKind f_rOwner f_rFrom f_rSize f_rMeans f_rOKind f_rOIn f_rOList f_rOFacts f_rListIn f_rSOwner f_rHFacts f_rWeights f_opKind f_opFrom f_opWord f_opOwner f_opList f_opItems (un11.2.2 0) f_ranks) H := hP
          have hD : va_D A (wM c y a v_tapeSize v_thrown v_fault v_faultPlace v_things v_options v_lists v_sentences v_headings v_words v_factBits v_known n10 v_wholeLength v_next v_end v_rThings v_rOptions v_rLists v_rSentences v_rHeadings v_lastName v_inSentence v_open (un11.2.1 0) (un11.2.1 1) v_sorted f_tape f_kind f_owner f_from f_size f_means f_signs f_oKind f_oIn f_oList f_oWords f_oFacts f_listIn f_sOwner f_hFacts f_weights F7 f_values f_rKind f_rOwner f_rFrom f_rSize f_rMeans f_rOKind f_rOIn f_rOList f_rOFacts f_rListIn f_rSOwner f_rHFacts f_rWeights f_opKind f_opFrom f_opWord f_opOwner f_opList f_opItems (un11.2.2 0) f_ranks) := hD
          refine lv_aload_n hx hb dX10_finish_50 rfl (lv_at hl 1 rfl) ?_
          refine va_get (D := D) (ci := 10) (v := .ref (a 16)) (C := RX10) (T := TX10) (N := 66) hx hb hts iX10 hown hK hP 0 rfl rfl 28 (by decide) (hts (.fieldLink RX10 62 "ShortTellerModel" "lengths" "[I") (List.mem_of_getElem? (i := 3) rfl)) (fun _ h9 => h9) rfl dX10_finish_51 ?_
          refine lv_iload_n hx hb dX10_finish_54 rfl (lv_at hl 0 rfl) ?_
          refine lv_aload_n hx hb dX10_finish_55 rfl (lv_at hl 1 rfl) ?_
          refine va_get (D := D) (ci := 10) (v := .int (un11.2.1 0)) (C := RX10) (T := TX10) (N := 66) hx hb hts iX10 hown hK hP 0 rfl rfl 62 (by decide) (hts (.fieldLink RX10 254 "ShortTellerModel" "written" "I") (List.mem_of_getElem? (i := 4) rfl)) (fun _ h9 => h9) rfl dX10_finish_56 ?_
          refine q3_iast (c := c) hx hb hK hP hD hS 17 rfl (q2_in (by omega) (by omega)) dX10_finish_59 (fun F12 eF12 H locs hP hD hS => ?_)
          have hP : va_P D vwCl (wM c y a v_tapeSize v_thrown v_fault v_faultPlace v_things v_options v_lists v_sentences v_headings v_words v_factBits v_known n10 v_wholeLength v_next v_end v_rThings v_rOptions v_rLists v_rSentences v_rHeadings v_lastName v_inSentence v_open (un11.2.1 0) (un11.2.1 1) v_sorted f_tape f_kind f_owner f_from f_size f_means f_signs f_oKind f_oIn f_oList f_oWords f_oFacts f_listIn f_sOwner f_hFacts f_weights F12 f_values f_rKind f_rOwner f_rFrom f_rSize f_rMeans f_rOKind f_rOIn f_rOList f_rOFacts f_rListIn f_rSOwner f_rHFacts f_rWeights f_opKind f_opFrom f_opWord f_opOwner f_opList f_opItems (un11.2.2 0) f_ranks) H := hP
          have hD : va_D A (wM c y a v_tapeSize v_thrown v_fault v_faultPlace v_things v_options v_lists v_sentences v_headings v_words v_factBits v_known n10 v_wholeLength v_next v_end v_rThings v_rOptions v_rLists v_rSentences v_rHeadings v_lastName v_inSentence v_open (un11.2.1 0) (un11.2.1 1) v_sorted f_tape f_kind f_owner f_from f_size f_means f_signs f_oKind f_oIn f_oList f_oWords f_oFacts f_listIn f_sOwner f_hFacts f_weights F12 f_values f_rKind f_rOwner f_rFrom f_rSize f_rMeans f_rOKind f_rOIn f_rOList f_rOFacts f_rListIn f_rSOwner f_rHFacts f_rWeights f_opKind f_opFrom f_opWord f_opOwner f_opList f_opItems (un11.2.2 0) f_ranks) := hD
          have hF12_0 : ∀ j : Nat, (F12 j).toInt ≤ 10000 := q3_up (P := fun z => z.toInt ≤ 10000) eF12 hF7_0 (show (un11.2.1 0).toInt ≤ 10000 by omega)
          obtain ⟨n13, en13⟩ : ∃ z : Int32, z = s1_7 + (1) := ⟨_, rfl⟩
          have tn13 : n13.toInt = s1_7.toInt + (1 : Int) := q3_add en13 rfl (by decide) (by omega) (by omega)
          refine lv_iinc (v := n13) (lv' := [(1, .int n13), (0, .ref y)]) hx hb dX10_finish_60 hl (k := 0) rfl (by rw [en13]; rfl) (by decide) rfl (fun ls hl => ?_)
          refine lv_goto (tgt := 7) hx hb dX10_finish_63 (by decide) ?_
          exact ih_7 n13 n10 (un11.2.1 0) (un11.2.1 1) F12 (un11.2.2 0) (show 0 ≤ n13.toInt by omega) (show n13.toInt ≤ 16384 by omega) (show 0 ≤ n10.toInt by omega) (show n10.toInt ≤ n13.toInt by omega) hF12_0 (show 16385 - n13.toInt < _ by omega) _ _ _ hP hD hS hl
        · have g9 : n8.toInt = (0 : Int) := (q3_eq rfl (by decide)).mp g9
          refine lv_goto (tgt := 60) hx hb dX10_finish_32 (by decide) ?_
          obtain ⟨n14, en14⟩ : ∃ z : Int32, z = s1_7 + (1) := ⟨_, rfl⟩
          have tn14 : n14.toInt = s1_7.toInt + (1 : Int) := q3_add en14 rfl (by decide) (by omega) (by omega)
          refine lv_iinc (v := n14) (lv' := [(1, .int n14), (0, .ref y)]) hx hb dX10_finish_60 hl (k := 0) rfl (by rw [en14]; rfl) (by decide) rfl (fun ls hl => ?_)
          refine lv_goto (tgt := 7) hx hb dX10_finish_63 (by decide) ?_
          exact ih_7 n14 z_soundMany_7 z_written_7 z_named_7 F7 y_out_7 (show 0 ≤ n14.toInt by omega) (show n14.toInt ≤ 16384 by omega) j2_7 (show z_soundMany_7.toInt ≤ n14.toInt by omega) hF7_0 (show 16385 - n14.toInt < _ by omega) _ _ _ hP hD hS hl
  exact lp7 (Int.toNat (16385 - (0 : Int)) + 1) (0) (0) v_written v_named f_lengths f_out (show 0 ≤ (0 : Int) by omega) (show (0 : Int) ≤ 16384 by omega) (show 0 ≤ (0 : Int) by omega) (show (0 : Int) ≤ (0 : Int) by omega) h11 (show 16385 - (0 : Int) < ((Int.toNat (16385 - (0 : Int)) + 1 : Nat) : Int) by omega) _ _ _ hP hD hS hl
