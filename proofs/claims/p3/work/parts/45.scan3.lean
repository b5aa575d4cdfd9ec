theorem dX7_close_0 : decode cX7_close 0 = .ok (.aload_n 0, 1) := by decide +kernel
theorem dX7_close_1 : decode cX7_close 1 = .ok (.getfield 45, 3) := by decide +kernel
theorem dX7_close_10 : decode cX7_close 10 = .ok (.aload_n 0, 1) := by decide +kernel
theorem dX7_close_101 : decode cX7_close 101 = .ok (.iconst 4, 1) := by decide +kernel
theorem dX7_close_102 : decode cX7_close 102 = .ok (.aload_n 0, 1) := by decide +kernel
theorem dX7_close_103 : decode cX7_close 103 = .ok (.getfield 45, 3) := by decide +kernel
theorem dX7_close_106 : decode cX7_close 106 = .ok (.getfield 126, 3) := by decide +kernel
theorem dX7_close_109 : decode cX7_close 109 = .ok (.iconst (-1), 1) := by decide +kernel
theorem dX7_close_11 : decode cX7_close 11 = .ok (.iconst 4, 1) := by decide +kernel
theorem dX7_close_110 : decode cX7_close 110 = .ok (.iconst 0, 1) := by decide +kernel
theorem dX7_close_111 : decode cX7_close 111 = .ok (.iconst (-1), 1) := by decide +kernel
theorem dX7_close_112 : decode cX7_close 112 = .ok (.invokevirtual 188, 3) := by decide +kernel
theorem dX7_close_115 : decode cX7_close 115 = .ok (.aload_n 0, 1) := by decide +kernel
theorem dX7_close_116 : decode cX7_close 116 = .ok (.iconst (-1), 1) := by decide +kernel
theorem dX7_close_117 : decode cX7_close 117 = .ok (.putfield 27, 3) := by decide +kernel
theorem dX7_close_12 : decode cX7_close 12 = .ok (.aload_n 0, 1) := by decide +kernel
theorem dX7_close_120 : decode cX7_close 120 = .ok (.goto 18, 3) := by decide +kernel
theorem dX7_close_123 : decode cX7_close 123 = .ok (.aload_n 0, 1) := by decide +kernel
theorem dX7_close_124 : decode cX7_close 124 = .ok (.iload_n 1, 1) := by decide +kernel
theorem dX7_close_125 : decode cX7_close 125 = .ok (.bipush 125, 2) := by decide +kernel
theorem dX7_close_127 : decode cX7_close 127 = .ok (.if_icmp .ne 7, 3) := by decide +kernel
theorem dX7_close_13 : decode cX7_close 13 = .ok (.getfield 45, 3) := by decide +kernel
theorem dX7_close_130 : decode cX7_close 130 = .ok (.iconst 1, 1) := by decide +kernel
theorem dX7_close_131 : decode cX7_close 131 = .ok (.goto 4, 3) := by decide +kernel
theorem dX7_close_134 : decode cX7_close 134 = .ok (.iconst 0, 1) := by decide +kernel
theorem dX7_close_135 : decode cX7_close 135 = .ok (.invokevirtual 194, 3) := by decide +kernel
theorem dX7_close_138 : decode cX7_close 138 = .ok (.return_, 1) := by decide +kernel
theorem dX7_close_16 : decode cX7_close 16 = .ok (.getfield 129, 3) := by decide +kernel
theorem dX7_close_19 : decode cX7_close 19 = .ok (.invokevirtual 62, 3) := by decide +kernel
theorem dX7_close_22 : decode cX7_close 22 = .ok (.return_, 1) := by decide +kernel
theorem dX7_close_23 : decode cX7_close 23 = .ok (.aload_n 0, 1) := by decide +kernel
theorem dX7_close_24 : decode cX7_close 24 = .ok (.dup, 1) := by decide +kernel
theorem dX7_close_25 : decode cX7_close 25 = .ok (.getfield 24, 3) := by decide +kernel
theorem dX7_close_28 : decode cX7_close 28 = .ok (.iconst 1, 1) := by decide +kernel
theorem dX7_close_29 : decode cX7_close 29 = .ok (.iadd, 1) := by decide +kernel
theorem dX7_close_30 : decode cX7_close 30 = .ok (.putfield 24, 3) := by decide +kernel
theorem dX7_close_33 : decode cX7_close 33 = .ok (.iload_n 1, 1) := by decide +kernel
theorem dX7_close_34 : decode cX7_close 34 = .ok (.lookupswitch 89 #[(46, 45), (124, 26)], 26) := by decide +kernel
theorem dX7_close_4 : decode cX7_close 4 = .ok (.getfield 175, 3) := by decide +kernel
theorem dX7_close_60 : decode cX7_close 60 = .ok (.aload_n 0, 1) := by decide +kernel
theorem dX7_close_61 : decode cX7_close 61 = .ok (.getfield 45, 3) := by decide +kernel
theorem dX7_close_64 : decode cX7_close 64 = .ok (.iconst 0, 1) := by decide +kernel
theorem dX7_close_65 : decode cX7_close 65 = .ok (.putfield 89, 3) := by decide +kernel
theorem dX7_close_68 : decode cX7_close 68 = .ok (.aload_n 0, 1) := by decide +kernel
theorem dX7_close_69 : decode cX7_close 69 = .ok (.getfield 45, 3) := by decide +kernel
theorem dX7_close_7 : decode cX7_close 7 = .ok (.ifCond .ne 16, 3) := by decide +kernel
theorem dX7_close_72 : decode cX7_close 72 = .ok (.iconst 0, 1) := by decide +kernel
theorem dX7_close_73 : decode cX7_close 73 = .ok (.putfield 175, 3) := by decide +kernel
theorem dX7_close_76 : decode cX7_close 76 = .ok (.goto 62, 3) := by decide +kernel
theorem dX7_close_79 : decode cX7_close 79 = .ok (.aload_n 0, 1) := by decide +kernel
theorem dX7_close_80 : decode cX7_close 80 = .ok (.getfield 36, 3) := by decide +kernel
theorem dX7_close_83 : decode cX7_close 83 = .ok (.aload_n 0, 1) := by decide +kernel
theorem dX7_close_84 : decode cX7_close 84 = .ok (.getfield 45, 3) := by decide +kernel
theorem dX7_close_87 : decode cX7_close 87 = .ok (.getfield 126, 3) := by decide +kernel
theorem dX7_close_90 : decode cX7_close 90 = .ok (.iconst 1, 1) := by decide +kernel
theorem dX7_close_91 : decode cX7_close 91 = .ok (.invokevirtual 178, 3) := by decide +kernel
theorem dX7_close_94 : decode cX7_close 94 = .ok (.aload_n 0, 1) := by decide +kernel
theorem dX7_close_95 : decode cX7_close 95 = .ok (.getfield 36, 3) := by decide +kernel
theorem dX7_close_98 : decode cX7_close 98 = .ok (.getfield 184, 3) := by decide +kernel
theorem dX7_leave_0 : decode cX7_leave 0 = .ok (.aload_n 0, 1) := by decide +kernel
theorem dX7_leave_1 : decode cX7_leave 1 = .ok (.getfield 27, 3) := by decide +kernel
theorem dX7_leave_11 : decode cX7_leave 11 = .ok (.aload_n 0, 1) := by decide +kernel
theorem dX7_leave_12 : decode cX7_leave 12 = .ok (.getfield 11, 3) := by decide +kernel
theorem dX7_leave_15 : decode cX7_leave 15 = .ok (.arraylength, 1) := by decide +kernel
theorem dX7_leave_16 : decode cX7_leave 16 = .ok (.if_icmp .ge 52, 3) := by decide +kernel
theorem dX7_leave_19 : decode cX7_leave 19 = .ok (.aload_n 0, 1) := by decide +kernel
theorem dX7_leave_20 : decode cX7_leave 20 = .ok (.dup, 1) := by decide +kernel
theorem dX7_leave_21 : decode cX7_leave 21 = .ok (.getfield 27, 3) := by decide +kernel
theorem dX7_leave_24 : decode cX7_leave 24 = .ok (.iconst 1, 1) := by decide +kernel
theorem dX7_leave_25 : decode cX7_leave 25 = .ok (.isub, 1) := by decide +kernel
theorem dX7_leave_26 : decode cX7_leave 26 = .ok (.putfield 27, 3) := by decide +kernel
theorem dX7_leave_29 : decode cX7_leave 29 = .ok (.aload_n 0, 1) := by decide +kernel
theorem dX7_leave_30 : decode cX7_leave 30 = .ok (.aload_n 0, 1) := by decide +kernel
theorem dX7_leave_31 : decode cX7_leave 31 = .ok (.getfield 11, 3) := by decide +kernel
theorem dX7_leave_34 : decode cX7_leave 34 = .ok (.aload_n 0, 1) := by decide +kernel
theorem dX7_leave_35 : decode cX7_leave 35 = .ok (.getfield 27, 3) := by decide +kernel
theorem dX7_leave_38 : decode cX7_leave 38 = .ok (.aaload, 1) := by decide +kernel
theorem dX7_leave_39 : decode cX7_leave 39 = .ok (.putfield 45, 3) := by decide +kernel
theorem dX7_leave_4 : decode cX7_leave 4 = .ok (.ifCond .le 64, 3) := by decide +kernel
theorem dX7_leave_42 : decode cX7_leave 42 = .ok (.aload_n 0, 1) := by decide +kernel
theorem dX7_leave_43 : decode cX7_leave 43 = .ok (.getfield 45, 3) := by decide +kernel
theorem dX7_leave_46 : decode cX7_leave 46 = .ok (.aload_n 0, 1) := by decide +kernel
theorem dX7_leave_47 : decode cX7_leave 47 = .ok (.getfield 45, 3) := by decide +kernel
theorem dX7_leave_50 : decode cX7_leave 50 = .ok (.getfield 175, 3) := by decide +kernel
theorem dX7_leave_53 : decode cX7_leave 53 = .ok (.ifCond .ne 7, 3) := by decide +kernel
theorem dX7_leave_56 : decode cX7_leave 56 = .ok (.iload_n 1, 1) := by decide +kernel
theorem dX7_leave_57 : decode cX7_leave 57 = .ok (.ifCond .eq 7, 3) := by decide +kernel
theorem dX7_leave_60 : decode cX7_leave 60 = .ok (.iconst 1, 1) := by decide +kernel
theorem dX7_leave_61 : decode cX7_leave 61 = .ok (.goto 4, 3) := by decide +kernel
theorem dX7_leave_64 : decode cX7_leave 64 = .ok (.iconst 0, 1) := by decide +kernel
theorem dX7_leave_65 : decode cX7_leave 65 = .ok (.putfield 175, 3) := by decide +kernel
theorem dX7_leave_68 : decode cX7_leave 68 = .ok (.return_, 1) := by decide +kernel
theorem dX7_leave_7 : decode cX7_leave 7 = .ok (.aload_n 0, 1) := by decide +kernel
theorem dX7_leave_8 : decode cX7_leave 8 = .ok (.getfield 27, 3) := by decide +kernel
theorem dX7_step_0 : decode cX7_step 0 = .ok (.iload_n 1, 1) := by decide +kernel
theorem dX7_step_1 : decode cX7_step 1 = .ok (.bipush 10, 2) := by decide +kernel
theorem dX7_step_12 : decode cX7_step 12 = .ok (.aload_n 0, 1) := by decide +kernel
theorem dX7_step_13 : decode cX7_step 13 = .ok (.dup, 1) := by decide +kernel
theorem dX7_step_14 : decode cX7_step 14 = .ok (.getfield 24, 3) := by decide +kernel
theorem dX7_step_17 : decode cX7_step 17 = .ok (.iconst 1, 1) := by decide +kernel
theorem dX7_step_18 : decode cX7_step 18 = .ok (.iadd, 1) := by decide +kernel
theorem dX7_step_19 : decode cX7_step 19 = .ok (.putfield 24, 3) := by decide +kernel
theorem dX7_step_22 : decode cX7_step 22 = .ok (.goto 63, 3) := by decide +kernel
theorem dX7_step_25 : decode cX7_step 25 = .ok (.aload_n 0, 1) := by decide +kernel
theorem dX7_step_26 : decode cX7_step 26 = .ok (.iload_n 1, 1) := by decide +kernel
theorem dX7_step_27 : decode cX7_step 27 = .ok (.invokevirtual 66, 3) := by decide +kernel
theorem dX7_step_3 : decode cX7_step 3 = .ok (.if_icmp .eq 9, 3) := by decide +kernel
theorem dX7_step_30 : decode cX7_step 30 = .ok (.ifCond .ne 15, 3) := by decide +kernel
theorem dX7_step_33 : decode cX7_step 33 = .ok (.aload_n 0, 1) := by decide +kernel
theorem dX7_step_34 : decode cX7_step 34 = .ok (.iconst 1, 1) := by decide +kernel
theorem dX7_step_35 : decode cX7_step 35 = .ok (.aload_n 0, 1) := by decide +kernel
theorem dX7_step_36 : decode cX7_step 36 = .ok (.getfield 24, 3) := by decide +kernel
theorem dX7_step_39 : decode cX7_step 39 = .ok (.invokevirtual 62, 3) := by decide +kernel
theorem dX7_step_42 : decode cX7_step 42 = .ok (.goto 43, 3) := by decide +kernel
theorem dX7_step_45 : decode cX7_step 45 = .ok (.iload_n 1, 1) := by decide +kernel
theorem dX7_step_46 : decode cX7_step 46 = .ok (.bipush 61, 2) := by decide +kernel
theorem dX7_step_48 : decode cX7_step 48 = .ok (.if_icmp .ne 10, 3) := by decide +kernel
theorem dX7_step_51 : decode cX7_step 51 = .ok (.aload_n 0, 1) := by decide +kernel
theorem dX7_step_52 : decode cX7_step 52 = .ok (.invokevirtual 70, 3) := by decide +kernel
theorem dX7_step_55 : decode cX7_step 55 = .ok (.goto 30, 3) := by decide +kernel
theorem dX7_step_58 : decode cX7_step 58 = .ok (.iload_n 1, 1) := by decide +kernel
theorem dX7_step_59 : decode cX7_step 59 = .ok (.invokestatic 73, 3) := by decide +kernel
theorem dX7_step_6 : decode cX7_step 6 = .ok (.iload_n 1, 1) := by decide +kernel
theorem dX7_step_62 : decode cX7_step 62 = .ok (.ifCond .ne 11, 3) := by decide +kernel
theorem dX7_step_65 : decode cX7_step 65 = .ok (.aload_n 0, 1) := by decide +kernel
theorem dX7_step_66 : decode cX7_step 66 = .ok (.iload_n 1, 1) := by decide +kernel
theorem dX7_step_67 : decode cX7_step 67 = .ok (.invokevirtual 76, 3) := by decide +kernel
theorem dX7_step_7 : decode cX7_step 7 = .ok (.bipush 32, 2) := by decide +kernel
theorem dX7_step_70 : decode cX7_step 70 = .ok (.goto 15, 3) := by decide +kernel
theorem dX7_step_73 : decode cX7_step 73 = .ok (.aload_n 0, 1) := by decide +kernel
theorem dX7_step_74 : decode cX7_step 74 = .ok (.invokevirtual 79, 3) := by decide +kernel
theorem dX7_step_77 : decode cX7_step 77 = .ok (.ifCond .eq 8, 3) := by decide +kernel
theorem dX7_step_80 : decode cX7_step 80 = .ok (.aload_n 0, 1) := by decide +kernel
theorem dX7_step_81 : decode cX7_step 81 = .ok (.iload_n 1, 1) := by decide +kernel
theorem dX7_step_82 : decode cX7_step 82 = .ok (.invokevirtual 83, 3) := by decide +kernel
theorem dX7_step_85 : decode cX7_step 85 = .ok (.return_, 1) := by decide +kernel
theorem dX7_step_9 : decode cX7_step 9 = .ok (.if_icmp .ne 16, 3) := by decide +kernel
theorem dX7_takePart_0 : decode cX7_takePart 0 = .ok (.iload_n 1, 1) := by decide +kernel
theorem dX7_takePart_1 : decode cX7_takePart 1 = .ok (.lookupswitch 120 #[(40, 51), (42, 72), (60, 65), (123, 58), (126, 86)], 51) := by decide +kernel
theorem dX7_takePart_101 : decode cX7_takePart 101 = .ok (.invokevirtual 62, 3) := by decide +kernel
theorem dX7_takePart_104 : decode cX7_takePart 104 = .ok (.goto 26, 3) := by decide +kernel
theorem dX7_takePart_107 : decode cX7_takePart 107 = .ok (.aload_n 0, 1) := by decide +kernel
theorem dX7_takePart_108 : decode cX7_takePart 108 = .ok (.iconst 2, 1) := by decide +kernel
theorem dX7_takePart_109 : decode cX7_takePart 109 = .ok (.aload_n 0, 1) := by decide +kernel
theorem dX7_takePart_110 : decode cX7_takePart 110 = .ok (.getfield 24, 3) := by decide +kernel
theorem dX7_takePart_113 : decode cX7_takePart 113 = .ok (.iconst 1, 1) := by decide +kernel
theorem dX7_takePart_114 : decode cX7_takePart 114 = .ok (.iadd, 1) := by decide +kernel
theorem dX7_takePart_115 : decode cX7_takePart 115 = .ok (.invokevirtual 141, 3) := by decide +kernel
theorem dX7_takePart_118 : decode cX7_takePart 118 = .ok (.goto 12, 3) := by decide +kernel
theorem dX7_takePart_121 : decode cX7_takePart 121 = .ok (.aload_n 0, 1) := by decide +kernel
theorem dX7_takePart_122 : decode cX7_takePart 122 = .ok (.iconst 0, 1) := by decide +kernel
theorem dX7_takePart_123 : decode cX7_takePart 123 = .ok (.aload_n 0, 1) := by decide +kernel
theorem dX7_takePart_124 : decode cX7_takePart 124 = .ok (.getfield 24, 3) := by decide +kernel
theorem dX7_takePart_127 : decode cX7_takePart 127 = .ok (.invokevirtual 141, 3) := by decide +kernel
theorem dX7_takePart_130 : decode cX7_takePart 130 = .ok (.return_, 1) := by decide +kernel
theorem dX7_takePart_52 : decode cX7_takePart 52 = .ok (.aload_n 0, 1) := by decide +kernel
theorem dX7_takePart_53 : decode cX7_takePart 53 = .ok (.invokevirtual 132, 3) := by decide +kernel
theorem dX7_takePart_56 : decode cX7_takePart 56 = .ok (.goto 74, 3) := by decide +kernel
theorem dX7_takePart_59 : decode cX7_takePart 59 = .ok (.aload_n 0, 1) := by decide +kernel
theorem dX7_takePart_60 : decode cX7_takePart 60 = .ok (.invokevirtual 135, 3) := by decide +kernel
theorem dX7_takePart_63 : decode cX7_takePart 63 = .ok (.goto 67, 3) := by decide +kernel
theorem dX7_takePart_66 : decode cX7_takePart 66 = .ok (.aload_n 0, 1) := by decide +kernel
theorem dX7_takePart_67 : decode cX7_takePart 67 = .ok (.invokevirtual 138, 3) := by decide +kernel
theorem dX7_takePart_70 : decode cX7_takePart 70 = .ok (.goto 60, 3) := by decide +kernel
theorem dX7_takePart_73 : decode cX7_takePart 73 = .ok (.aload_n 0, 1) := by decide +kernel
theorem dX7_takePart_74 : decode cX7_takePart 74 = .ok (.iconst 1, 1) := by decide +kernel
theorem dX7_takePart_75 : decode cX7_takePart 75 = .ok (.aload_n 0, 1) := by decide +kernel
theorem dX7_takePart_76 : decode cX7_takePart 76 = .ok (.getfield 24, 3) := by decide +kernel
theorem dX7_takePart_79 : decode cX7_takePart 79 = .ok (.iconst 1, 1) := by decide +kernel
theorem dX7_takePart_80 : decode cX7_takePart 80 = .ok (.iadd, 1) := by decide +kernel
theorem dX7_takePart_81 : decode cX7_takePart 81 = .ok (.invokevirtual 141, 3) := by decide +kernel
theorem dX7_takePart_84 : decode cX7_takePart 84 = .ok (.goto 46, 3) := by decide +kernel
theorem dX7_takePart_87 : decode cX7_takePart 87 = .ok (.aload_n 0, 1) := by decide +kernel
theorem dX7_takePart_88 : decode cX7_takePart 88 = .ok (.getfield 33, 3) := by decide +kernel
theorem dX7_takePart_91 : decode cX7_takePart 91 = .ok (.iconst (-1), 1) := by decide +kernel
theorem dX7_takePart_92 : decode cX7_takePart 92 = .ok (.if_icmp .ne 15, 3) := by decide +kernel
theorem dX7_takePart_95 : decode cX7_takePart 95 = .ok (.aload_n 0, 1) := by decide +kernel
theorem dX7_takePart_96 : decode cX7_takePart 96 = .ok (.iconst 3, 1) := by decide +kernel
theorem dX7_takePart_97 : decode cX7_takePart 97 = .ok (.aload_n 0, 1) := by decide +kernel
theorem dX7_takePart_98 : decode cX7_takePart 98 = .ok (.getfield 24, 3) := by decide +kernel
set_option maxRecDepth 20000 in
theorem ggX7_takePart_X7_takeWord : GoodIn wsX7_takePart wsX7_takeWord := goodIn_r _ [104, 9, 70, 105, 1, 76, 77, 78, 15, 79, 80, 81, 106, 107, 6, 108, 31, 32, 33, 34, 35, 36, 109, 110, 111, 112, 113, 8, 41, 11, 10, 114, 2, 115, 116, 117, 118, 119, 18, 120, 97, 98, 99, 100, 121, 122, 123, 124, 125, 126, 127, 128, 129, 130, 131, 132, 133, 134, 135, 136, 137, 138, 139, 140, 141, 142, 143, 144, 145, 146, 147, 148, 149, 150, 151, 152, 153, 154, 155, 156, 157, 165, 166, 167, 168, 169, 170, 171, 172, 173, 174, 175, 176, 177, 178, 179, 180, 158, 159, 160, 161, 162, 163, 164, 181, 182, 183, 184, 185, 186, 187, 191, 192, 193, 194, 195, 196] rfl (by decide +kernel)
set_option maxRecDepth 20000 in
theorem gX7_takePart_X7_takeWord : GoodIn wsX7_takePart (wsV RX7 141 RX7 yX7_takeWord wsX7_takeWord) := goodIn_app (goodIn_of _ (by decide +kernel)) ggX7_takePart_X7_takeWord
set_option maxRecDepth 20000 in
theorem ggX7_takePart_X7_openAside : GoodIn wsX7_takePart wsX7_openAside := goodIn_r _ [7, 8, 9, 10, 11, 1, 12, 13, 14, 15, 16, 17, 18, 19, 20, 21, 22, 23, 24, 25, 26, 27, 28, 29, 30, 31, 32, 33, 6, 34, 35, 36, 37, 38, 39, 40, 41, 42, 43, 44, 45, 46, 47, 48, 49, 50, 51, 52, 53, 148, 149, 150, 151, 152, 153, 154, 155, 156, 157, 158, 159, 160, 161, 162, 163, 164, 165, 166, 167, 168, 169, 170, 171, 172, 173, 174, 175, 176, 177, 178, 179, 180, 181, 182, 183, 184, 185, 186, 187] rfl (by decide +kernel)
set_option maxRecDepth 20000 in
theorem gX7_takePart_X7_openAside : GoodIn wsX7_takePart (wsV RX7 132 RX7 yX7_openAside wsX7_openAside) := goodIn_app (goodIn_of _ (by decide +kernel)) ggX7_takePart_X7_openAside
set_option maxRecDepth 20000 in
theorem ggX7_takePart_X7_takeFact : GoodIn wsX7_takePart wsX7_takeFact := goodIn_r _ [69, 1, 9, 70, 71, 72, 73, 74, 75, 10, 11, 76, 77, 78, 15, 79, 80, 81, 82, 83, 6, 84, 31, 32, 33, 34, 35, 36, 85, 86, 87, 88, 89, 90, 91, 92, 93, 94, 95, 18, 96, 97, 98, 99, 100, 148, 149, 150, 151, 152, 153, 154, 155, 156, 157, 165, 166, 167, 168, 169, 170, 171, 172, 173, 174, 175, 176, 177, 178, 179, 180, 158, 159, 160, 161, 162, 163, 164, 188, 189, 190, 181, 182, 183, 184, 185, 186, 187] rfl (by decide +kernel)
set_option maxRecDepth 20000 in
theorem gX7_takePart_X7_takeFact : GoodIn wsX7_takePart (wsV RX7 138 RX7 yX7_takeFact wsX7_takeFact) := goodIn_app (goodIn_of _ (by decide +kernel)) ggX7_takePart_X7_takeFact
set_option maxRecDepth 20000 in
theorem ggX7_takePart_X7_openList : GoodIn wsX7_takePart wsX7_openList := goodIn_r _ [57, 8, 9, 10, 11, 1, 58, 59, 60, 61, 15, 62, 63, 64, 65, 31, 32, 33, 6, 34, 35, 36, 37, 38, 39, 40, 41, 42, 43, 44, 45, 46, 47, 48, 49, 50, 51, 52, 53, 148, 149, 150, 151, 152, 153, 154, 155, 156, 157, 158, 159, 160, 161, 162, 163, 164, 165, 166, 167, 168, 169, 170, 171, 172, 173, 174, 175, 176, 177, 178, 179, 180] rfl (by decide +kernel)
set_option maxRecDepth 20000 in
theorem gX7_takePart_X7_openList : GoodIn wsX7_takePart (wsV RX7 135 RX7 yX7_openList wsX7_openList) := goodIn_app (goodIn_of _ (by decide +kernel)) ggX7_takePart_X7_openList
set_option maxRecDepth 20000 in
theorem ggX7_takePart_X7_fail : GoodIn wsX7_takePart wsX7_fail := goodIn_r _ [34, 35, 36, 148, 149, 150, 151, 152, 153, 154, 155, 156, 157] rfl (by decide +kernel)
set_option maxRecDepth 20000 in
theorem gX7_takePart_X7_fail : GoodIn wsX7_takePart (wsV RX7 62 RX7 yX7_fail wsX7_fail) := goodIn_app (goodIn_of _ (by decide +kernel)) ggX7_takePart_X7_fail
set_option maxRecDepth 20000 in
theorem ggX7_close_X7_leave : GoodIn wsX7_close wsX7_leave := goodIn_r _ [42, 9, 43, 1, 2, 44, 45, 46, 47, 48, 49, 50, 51, 52, 53, 54, 55, 56, 57, 58, 59, 60] rfl (by decide +kernel)
set_option maxRecDepth 20000 in
theorem gX7_close_X7_leave : GoodIn wsX7_close (wsV RX7 194 RX7 yX7_leave wsX7_leave) := goodIn_app (goodIn_of _ (by decide +kernel)) ggX7_close_X7_leave
set_option maxRecDepth 20000 in
theorem ggX7_close_X8_addSigns : GoodIn wsX7_close wsX8_addSigns := goodIn_r _ [21, 22, 23, 24, 25, 26, 20, 27, 61, 62, 63, 64, 65, 66, 67, 68, 69, 70, 71, 72, 73, 74, 75, 76, 77, 78, 79, 80, 81, 82, 83] rfl (by decide +kernel)
set_option maxRecDepth 20000 in
theorem gX7_close_X8_addSigns : GoodIn wsX7_close (wsV RX7 178 RX8 yX8_addSigns wsX8_addSigns) := goodIn_app (goodIn_of _ (by decide +kernel)) ggX7_close_X8_addSigns
set_option maxRecDepth 20000 in
theorem ggX7_close_X2_add : GoodIn wsX7_close wsX2_add := goodIn_r _ [32, 33, 34, 35, 36, 37, 38, 84, 85, 86, 87, 88, 89] rfl (by decide +kernel)
set_option maxRecDepth 20000 in
theorem gX7_close_X2_add : GoodIn wsX7_close (wsV RX7 188 RX2 yX2_add wsX2_add) := goodIn_app (goodIn_of _ (by decide +kernel)) ggX7_close_X2_add
set_option maxRecDepth 20000 in
theorem ggX7_close_X7_fail : GoodIn wsX7_close wsX7_fail := goodIn_r _ [14, 15, 16, 44, 45, 46, 47, 48, 49, 50, 51, 52, 53] rfl (by decide +kernel)
set_option maxRecDepth 20000 in
theorem gX7_close_X7_fail : GoodIn wsX7_close (wsV RX7 62 RX7 yX7_fail wsX7_fail) := goodIn_app (goodIn_of _ (by decide +kernel)) ggX7_close_X7_fail
set_option maxRecDepth 20000 in
theorem ggX7_step_X7_mayStand : GoodIn wsX7_step wsX7_mayStand := goodIn_r _ [6, 7, 8, 9, 10, 11, 12, 5, 13, 14, 15, 16, 17, 18, 19, 20, 212, 213, 214, 215, 216, 217, 218, 219, 220, 221, 222, 223, 224, 225, 226, 227, 228] rfl (by decide +kernel)
set_option maxRecDepth 20000 in
theorem gX7_step_X7_mayStand : GoodIn wsX7_step (wsV RX7 66 RX7 yX7_mayStand wsX7_mayStand) := goodIn_app (goodIn_of _ (by decide +kernel)) ggX7_step_X7_mayStand
set_option maxRecDepth 20000 in
theorem ggX7_step_X7_mayBeginPart : GoodIn wsX7_step wsX7_mayBeginPart := goodIn_r _ [13, 14, 15, 5, 16] rfl (by decide +kernel)
set_option maxRecDepth 20000 in
theorem gX7_step_X7_mayBeginPart : GoodIn wsX7_step (va_wsS RX7 73 yX7_mayBeginPart wsX7_mayBeginPart) := goodIn_app (goodIn_of _ (by decide +kernel)) ggX7_step_X7_mayBeginPart
set_option maxRecDepth 20000 in
theorem ggX7_step_X7_beginPart : GoodIn wsX7_step wsX7_beginPart := goodIn_r _ [109, 7, 8, 10, 9, 110, 111, 112, 5, 113, 32, 1, 31, 114, 115, 116, 36, 117, 118, 39, 40, 41, 119, 120, 121, 122, 123, 45, 46, 47, 48, 49, 50, 51, 52, 53, 54, 55, 56, 21, 22, 23, 24, 25, 26, 57, 58, 59, 60, 61, 62, 63, 64, 65, 66, 67, 68, 69, 70, 71, 72, 73, 124, 125, 126, 127, 128, 80, 79, 20, 129, 130, 131, 132, 133, 134, 135, 136, 42, 137, 92, 93, 94, 95, 96, 97, 98, 99, 100, 101, 212, 213, 214, 215, 216, 217, 218, 219, 220, 221, 222, 223, 224, 225, 226, 227, 228, 229, 230, 231, 232, 233, 234, 235, 236, 237, 238, 239, 240, 241, 242, 243, 244, 245, 246, 247, 248, 249, 250, 251, 252, 253, 254, 255, 256, 257] rfl (by decide +kernel)
set_option maxRecDepth 20000 in
theorem gX7_step_X7_beginPart : GoodIn wsX7_step (wsV RX7 79 RX7 yX7_beginPart wsX7_beginPart) := goodIn_app (goodIn_of _ (by decide +kernel)) ggX7_step_X7_beginPart
set_option maxRecDepth 20000 in
theorem ggX7_step_X7_takePart : GoodIn wsX7_step wsX7_takePart := goodIn_r _ [141, 1, 142, 143, 144, 145, 5, 146, 7, 32, 8, 80, 147, 120, 121, 36, 122, 123, 40, 45, 46, 47, 48, 49, 50, 51, 52, 53, 54, 55, 56, 21, 22, 23, 24, 25, 26, 57, 58, 59, 60, 61, 62, 63, 64, 65, 66, 67, 68, 69, 70, 71, 72, 73, 148, 149, 150, 151, 128, 152, 153, 154, 155, 133, 136, 134, 156, 157, 158, 159, 160, 161, 162, 163, 164, 165, 166, 167, 168, 169, 170, 171, 172, 173, 174, 175, 176, 177, 178, 179, 180, 181, 182, 183, 184, 185, 186, 87, 88, 89, 90, 187, 188, 189, 190, 31, 14, 15, 16, 191, 192, 193, 194, 195, 78, 81, 196, 197, 198, 199, 200, 82, 83, 84, 85, 86, 201, 202, 203, 204, 205, 206, 207, 208, 209, 210, 211, 91, 92, 93, 94, 95, 96, 97, 98, 99, 100, 101, 212, 213, 214, 215, 216, 217, 218, 219, 220, 221, 222, 223, 224, 225, 226, 227, 228, 229, 230, 231, 232, 233, 234, 235, 236, 237, 238, 239, 240, 241, 242, 243, 244, 245, 246, 247, 248, 249, 250, 251, 258, 259, 260, 252, 253, 254, 255, 256, 257] rfl (by decide +kernel)
set_option maxRecDepth 20000 in
theorem gX7_step_X7_takePart : GoodIn wsX7_step (wsV RX7 83 RX7 yX7_takePart wsX7_takePart) := goodIn_app (goodIn_of _ (by decide +kernel)) ggX7_step_X7_takePart
set_option maxRecDepth 20000 in
theorem ggX7_step_X7_close : GoodIn wsX7_step wsX7_close := goodIn_r _ [77, 8, 78, 79, 1, 10, 32, 80, 81, 7, 21, 22, 23, 5, 24, 25, 26, 82, 83, 84, 36, 85, 40, 86, 87, 88, 89, 90, 91, 92, 93, 94, 95, 96, 97, 98, 99, 100, 101, 102, 103, 104, 105, 61, 212, 213, 214, 215, 216, 217, 218, 219, 220, 221, 222, 223, 224, 225, 226, 227, 228, 229, 230, 231, 232, 233, 234, 235, 236, 237, 238, 239, 240, 241, 242, 243, 244, 245, 246, 247, 248, 249, 250, 251, 252, 253, 254, 255, 256, 257] rfl (by decide +kernel)
set_option maxRecDepth 20000 in
theorem gX7_step_X7_close : GoodIn wsX7_step (wsV RX7 76 RX7 yX7_close wsX7_close) := goodIn_app (goodIn_of _ (by decide +kernel)) ggX7_step_X7_close
set_option maxRecDepth 20000 in
theorem ggX7_step_X7_openHeading : GoodIn wsX7_step wsX7_openHeading := goodIn_r _ [30, 31, 32, 1, 33, 34, 35, 36, 37, 38, 39, 40, 41, 42, 43, 44, 45, 46, 47, 48, 49, 50, 51, 52, 53, 54, 55, 56, 57, 58, 59, 5, 60, 7, 61, 8, 62, 63, 64, 65, 66, 67, 68, 69, 70, 71, 72, 73, 212, 213, 214, 215, 216, 217, 218, 219, 220, 221, 229, 230, 231, 232, 233, 234, 235, 236, 237, 238, 239, 240, 241, 242, 243, 244, 245, 246, 247, 248, 249, 250, 251, 252, 253, 254, 255, 256, 257, 222, 223, 224, 225, 226, 227, 228] rfl (by decide +kernel)
set_option maxRecDepth 20000 in
theorem gX7_step_X7_openHeading : GoodIn wsX7_step (wsV RX7 70 RX7 yX7_openHeading wsX7_openHeading) := goodIn_app (goodIn_of _ (by decide +kernel)) ggX7_step_X7_openHeading
set_option maxRecDepth 20000 in
theorem ggX7_step_X7_fail : GoodIn wsX7_step wsX7_fail := goodIn_r _ [24, 25, 26, 212, 213, 214, 215, 216, 217, 218, 219, 220, 221] rfl (by decide +kernel)
set_option maxRecDepth 20000 in
theorem gX7_step_X7_fail : GoodIn wsX7_step (wsV RX7 62 RX7 yX7_fail wsX7_fail) := goodIn_app (goodIn_of _ (by decide +kernel)) ggX7_step_X7_fail
