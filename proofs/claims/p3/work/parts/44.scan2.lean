theorem dX7_keepWord_0 : decode cX7_keepWord 0 = .ok (.aload_n 0, 1) := by decide +kernel
theorem dX7_keepWord_1 : decode cX7_keepWord 1 = .ok (.dup, 1) := by decide +kernel
theorem dX7_keepWord_10 : decode cX7_keepWord 10 = .ok (.aload_n 0, 1) := by decide +kernel
theorem dX7_keepWord_100 : decode cX7_keepWord 100 = .ok (.getfield 36, 3) := by decide +kernel
theorem dX7_keepWord_103 : decode cX7_keepWord 103 = .ok (.iload_n 2, 1) := by decide +kernel
theorem dX7_keepWord_104 : decode cX7_keepWord 104 = .ok (.iload_n 3, 1) := by decide +kernel
theorem dX7_keepWord_105 : decode cX7_keepWord 105 = .ok (.invokevirtual 181, 3) := by decide +kernel
theorem dX7_keepWord_108 : decode cX7_keepWord 108 = .ok (.putfield 33, 3) := by decide +kernel
theorem dX7_keepWord_11 : decode cX7_keepWord 11 = .ok (.getfield 36, 3) := by decide +kernel
theorem dX7_keepWord_111 : decode cX7_keepWord 111 = .ok (.aload_n 0, 1) := by decide +kernel
theorem dX7_keepWord_112 : decode cX7_keepWord 112 = .ok (.getfield 36, 3) := by decide +kernel
theorem dX7_keepWord_115 : decode cX7_keepWord 115 = .ok (.getfield 184, 3) := by decide +kernel
theorem dX7_keepWord_118 : decode cX7_keepWord 118 = .ok (.iload_n 1, 1) := by decide +kernel
theorem dX7_keepWord_119 : decode cX7_keepWord 119 = .ok (.aload_n 0, 1) := by decide +kernel
theorem dX7_keepWord_120 : decode cX7_keepWord 120 = .ok (.getfield 45, 3) := by decide +kernel
theorem dX7_keepWord_123 : decode cX7_keepWord 123 = .ok (.getfield 126, 3) := by decide +kernel
theorem dX7_keepWord_126 : decode cX7_keepWord 126 = .ok (.iload_n 2, 1) := by decide +kernel
theorem dX7_keepWord_127 : decode cX7_keepWord 127 = .ok (.iload_n 3, 1) := by decide +kernel
theorem dX7_keepWord_128 : decode cX7_keepWord 128 = .ok (.iload_n 1, 1) := by decide +kernel
theorem dX7_keepWord_129 : decode cX7_keepWord 129 = .ok (.ifCond .ne 7, 3) := by decide +kernel
theorem dX7_keepWord_132 : decode cX7_keepWord 132 = .ok (.iconst (-1), 1) := by decide +kernel
theorem dX7_keepWord_133 : decode cX7_keepWord 133 = .ok (.goto 7, 3) := by decide +kernel
theorem dX7_keepWord_136 : decode cX7_keepWord 136 = .ok (.aload_n 0, 1) := by decide +kernel
theorem dX7_keepWord_137 : decode cX7_keepWord 137 = .ok (.getfield 33, 3) := by decide +kernel
theorem dX7_keepWord_14 : decode cX7_keepWord 14 = .ok (.dup, 1) := by decide +kernel
theorem dX7_keepWord_140 : decode cX7_keepWord 140 = .ok (.invokevirtual 188, 3) := by decide +kernel
theorem dX7_keepWord_143 : decode cX7_keepWord 143 = .ok (.return_, 1) := by decide +kernel
theorem dX7_keepWord_15 : decode cX7_keepWord 15 = .ok (.getfield 169, 3) := by decide +kernel
theorem dX7_keepWord_18 : decode cX7_keepWord 18 = .ok (.iconst 1, 1) := by decide +kernel
theorem dX7_keepWord_19 : decode cX7_keepWord 19 = .ok (.iadd, 1) := by decide +kernel
theorem dX7_keepWord_2 : decode cX7_keepWord 2 = .ok (.getfield 30, 3) := by decide +kernel
theorem dX7_keepWord_20 : decode cX7_keepWord 20 = .ok (.putfield 169, 3) := by decide +kernel
theorem dX7_keepWord_23 : decode cX7_keepWord 23 = .ok (.iconst 0, 1) := by decide +kernel
theorem dX7_keepWord_24 : decode cX7_keepWord 24 = .ok (.istore 4, 2) := by decide +kernel
theorem dX7_keepWord_26 : decode cX7_keepWord 26 = .ok (.iload 4, 2) := by decide +kernel
theorem dX7_keepWord_28 : decode cX7_keepWord 28 = .ok (.aload_n 0, 1) := by decide +kernel
theorem dX7_keepWord_29 : decode cX7_keepWord 29 = .ok (.getfield 27, 3) := by decide +kernel
theorem dX7_keepWord_32 : decode cX7_keepWord 32 = .ok (.if_icmp .gt 36, 3) := by decide +kernel
theorem dX7_keepWord_35 : decode cX7_keepWord 35 = .ok (.iload 4, 2) := by decide +kernel
theorem dX7_keepWord_37 : decode cX7_keepWord 37 = .ok (.aload_n 0, 1) := by decide +kernel
theorem dX7_keepWord_38 : decode cX7_keepWord 38 = .ok (.getfield 11, 3) := by decide +kernel
theorem dX7_keepWord_41 : decode cX7_keepWord 41 = .ok (.arraylength, 1) := by decide +kernel
theorem dX7_keepWord_42 : decode cX7_keepWord 42 = .ok (.if_icmp .ge 26, 3) := by decide +kernel
theorem dX7_keepWord_45 : decode cX7_keepWord 45 = .ok (.aload_n 0, 1) := by decide +kernel
theorem dX7_keepWord_46 : decode cX7_keepWord 46 = .ok (.getfield 36, 3) := by decide +kernel
theorem dX7_keepWord_49 : decode cX7_keepWord 49 = .ok (.aload_n 0, 1) := by decide +kernel
theorem dX7_keepWord_5 : decode cX7_keepWord 5 = .ok (.iconst 1, 1) := by decide +kernel
theorem dX7_keepWord_50 : decode cX7_keepWord 50 = .ok (.getfield 11, 3) := by decide +kernel
theorem dX7_keepWord_53 : decode cX7_keepWord 53 = .ok (.iload 4, 2) := by decide +kernel
theorem dX7_keepWord_55 : decode cX7_keepWord 55 = .ok (.aaload, 1) := by decide +kernel
theorem dX7_keepWord_56 : decode cX7_keepWord 56 = .ok (.getfield 126, 3) := by decide +kernel
theorem dX7_keepWord_59 : decode cX7_keepWord 59 = .ok (.invokevirtual 172, 3) := by decide +kernel
theorem dX7_keepWord_6 : decode cX7_keepWord 6 = .ok (.iadd, 1) := by decide +kernel
theorem dX7_keepWord_62 : decode cX7_keepWord 62 = .ok (.iinc 4 1, 3) := by decide +kernel
theorem dX7_keepWord_65 : decode cX7_keepWord 65 = .ok (.goto (-39), 3) := by decide +kernel
theorem dX7_keepWord_68 : decode cX7_keepWord 68 = .ok (.aload_n 0, 1) := by decide +kernel
theorem dX7_keepWord_69 : decode cX7_keepWord 69 = .ok (.getfield 45, 3) := by decide +kernel
theorem dX7_keepWord_7 : decode cX7_keepWord 7 = .ok (.putfield 30, 3) := by decide +kernel
theorem dX7_keepWord_72 : decode cX7_keepWord 72 = .ok (.iconst 1, 1) := by decide +kernel
theorem dX7_keepWord_73 : decode cX7_keepWord 73 = .ok (.putfield 175, 3) := by decide +kernel
theorem dX7_keepWord_76 : decode cX7_keepWord 76 = .ok (.aload_n 0, 1) := by decide +kernel
theorem dX7_keepWord_77 : decode cX7_keepWord 77 = .ok (.getfield 36, 3) := by decide +kernel
theorem dX7_keepWord_80 : decode cX7_keepWord 80 = .ok (.aload_n 0, 1) := by decide +kernel
theorem dX7_keepWord_81 : decode cX7_keepWord 81 = .ok (.getfield 45, 3) := by decide +kernel
theorem dX7_keepWord_84 : decode cX7_keepWord 84 = .ok (.getfield 126, 3) := by decide +kernel
theorem dX7_keepWord_87 : decode cX7_keepWord 87 = .ok (.iload_n 3, 1) := by decide +kernel
theorem dX7_keepWord_88 : decode cX7_keepWord 88 = .ok (.iconst 1, 1) := by decide +kernel
theorem dX7_keepWord_89 : decode cX7_keepWord 89 = .ok (.iadd, 1) := by decide +kernel
theorem dX7_keepWord_90 : decode cX7_keepWord 90 = .ok (.invokevirtual 178, 3) := by decide +kernel
theorem dX7_keepWord_93 : decode cX7_keepWord 93 = .ok (.iload_n 1, 1) := by decide +kernel
theorem dX7_keepWord_94 : decode cX7_keepWord 94 = .ok (.iconst 1, 1) := by decide +kernel
theorem dX7_keepWord_95 : decode cX7_keepWord 95 = .ok (.if_icmp .ne 16, 3) := by decide +kernel
theorem dX7_keepWord_98 : decode cX7_keepWord 98 = .ok (.aload_n 0, 1) := by decide +kernel
theorem dX7_keepWord_99 : decode cX7_keepWord 99 = .ok (.aload_n 0, 1) := by decide +kernel
theorem dX7_openAside_0 : decode cX7_openAside 0 = .ok (.aload_n 0, 1) := by decide +kernel
theorem dX7_openAside_1 : decode cX7_openAside 1 = .ok (.getfield 27, 3) := by decide +kernel
theorem dX7_openAside_12 : decode cX7_openAside 12 = .ok (.iconst 1, 1) := by decide +kernel
theorem dX7_openAside_13 : decode cX7_openAside 13 = .ok (.aload_n 0, 1) := by decide +kernel
theorem dX7_openAside_14 : decode cX7_openAside 14 = .ok (.getfield 45, 3) := by decide +kernel
theorem dX7_openAside_17 : decode cX7_openAside 17 = .ok (.getfield 126, 3) := by decide +kernel
theorem dX7_openAside_20 : decode cX7_openAside 20 = .ok (.invokevirtual 144, 3) := by decide +kernel
theorem dX7_openAside_23 : decode cX7_openAside 23 = .ok (.goto 4, 3) := by decide +kernel
theorem dX7_openAside_26 : decode cX7_openAside 26 = .ok (.iconst (-1), 1) := by decide +kernel
theorem dX7_openAside_27 : decode cX7_openAside 27 = .ok (.istore_n 1, 1) := by decide +kernel
theorem dX7_openAside_28 : decode cX7_openAside 28 = .ok (.iload_n 1, 1) := by decide +kernel
theorem dX7_openAside_29 : decode cX7_openAside 29 = .ok (.iconst (-1), 1) := by decide +kernel
theorem dX7_openAside_30 : decode cX7_openAside 30 = .ok (.if_icmp .ne 13, 3) := by decide +kernel
theorem dX7_openAside_33 : decode cX7_openAside 33 = .ok (.aload_n 0, 1) := by decide +kernel
theorem dX7_openAside_34 : decode cX7_openAside 34 = .ok (.iconst 2, 1) := by decide +kernel
theorem dX7_openAside_35 : decode cX7_openAside 35 = .ok (.aload_n 0, 1) := by decide +kernel
theorem dX7_openAside_36 : decode cX7_openAside 36 = .ok (.getfield 24, 3) := by decide +kernel
theorem dX7_openAside_39 : decode cX7_openAside 39 = .ok (.invokevirtual 62, 3) := by decide +kernel
theorem dX7_openAside_4 : decode cX7_openAside 4 = .ok (.iconst 4, 1) := by decide +kernel
theorem dX7_openAside_42 : decode cX7_openAside 42 = .ok (.return_, 1) := by decide +kernel
theorem dX7_openAside_43 : decode cX7_openAside 43 = .ok (.aload_n 0, 1) := by decide +kernel
theorem dX7_openAside_44 : decode cX7_openAside 44 = .ok (.iconst 1, 1) := by decide +kernel
theorem dX7_openAside_45 : decode cX7_openAside 45 = .ok (.iload_n 1, 1) := by decide +kernel
theorem dX7_openAside_46 : decode cX7_openAside 46 = .ok (.invokevirtual 110, 3) := by decide +kernel
theorem dX7_openAside_49 : decode cX7_openAside 49 = .ok (.aload_n 0, 1) := by decide +kernel
theorem dX7_openAside_5 : decode cX7_openAside 5 = .ok (.if_icmp .ge 21, 3) := by decide +kernel
theorem dX7_openAside_50 : decode cX7_openAside 50 = .ok (.dup, 1) := by decide +kernel
theorem dX7_openAside_51 : decode cX7_openAside 51 = .ok (.getfield 24, 3) := by decide +kernel
theorem dX7_openAside_54 : decode cX7_openAside 54 = .ok (.iconst 1, 1) := by decide +kernel
theorem dX7_openAside_55 : decode cX7_openAside 55 = .ok (.iadd, 1) := by decide +kernel
theorem dX7_openAside_56 : decode cX7_openAside 56 = .ok (.putfield 24, 3) := by decide +kernel
theorem dX7_openAside_59 : decode cX7_openAside 59 = .ok (.return_, 1) := by decide +kernel
theorem dX7_openAside_8 : decode cX7_openAside 8 = .ok (.aload_n 0, 1) := by decide +kernel
theorem dX7_openAside_9 : decode cX7_openAside 9 = .ok (.getfield 36, 3) := by decide +kernel
theorem dX7_openList_0 : decode cX7_openList 0 = .ok (.aload_n 0, 1) := by decide +kernel
theorem dX7_openList_1 : decode cX7_openList 1 = .ok (.getfield 27, 3) := by decide +kernel
theorem dX7_openList_12 : decode cX7_openList 12 = .ok (.aload_n 0, 1) := by decide +kernel
theorem dX7_openList_13 : decode cX7_openList 13 = .ok (.getfield 45, 3) := by decide +kernel
theorem dX7_openList_16 : decode cX7_openList 16 = .ok (.getfield 126, 3) := by decide +kernel
theorem dX7_openList_19 : decode cX7_openList 19 = .ok (.invokevirtual 148, 3) := by decide +kernel
theorem dX7_openList_22 : decode cX7_openList 22 = .ok (.goto 4, 3) := by decide +kernel
theorem dX7_openList_25 : decode cX7_openList 25 = .ok (.iconst (-1), 1) := by decide +kernel
theorem dX7_openList_26 : decode cX7_openList 26 = .ok (.istore_n 1, 1) := by decide +kernel
theorem dX7_openList_27 : decode cX7_openList 27 = .ok (.iload_n 1, 1) := by decide +kernel
theorem dX7_openList_28 : decode cX7_openList 28 = .ok (.iconst (-1), 1) := by decide +kernel
theorem dX7_openList_29 : decode cX7_openList 29 = .ok (.if_icmp .ne 13, 3) := by decide +kernel
theorem dX7_openList_32 : decode cX7_openList 32 = .ok (.aload_n 0, 1) := by decide +kernel
theorem dX7_openList_33 : decode cX7_openList 33 = .ok (.iconst 2, 1) := by decide +kernel
theorem dX7_openList_34 : decode cX7_openList 34 = .ok (.aload_n 0, 1) := by decide +kernel
theorem dX7_openList_35 : decode cX7_openList 35 = .ok (.getfield 24, 3) := by decide +kernel
theorem dX7_openList_38 : decode cX7_openList 38 = .ok (.invokevirtual 62, 3) := by decide +kernel
theorem dX7_openList_4 : decode cX7_openList 4 = .ok (.iconst 4, 1) := by decide +kernel
theorem dX7_openList_41 : decode cX7_openList 41 = .ok (.return_, 1) := by decide +kernel
theorem dX7_openList_42 : decode cX7_openList 42 = .ok (.aload_n 0, 1) := by decide +kernel
theorem dX7_openList_43 : decode cX7_openList 43 = .ok (.iconst 2, 1) := by decide +kernel
theorem dX7_openList_44 : decode cX7_openList 44 = .ok (.iconst (-1), 1) := by decide +kernel
theorem dX7_openList_45 : decode cX7_openList 45 = .ok (.invokevirtual 110, 3) := by decide +kernel
theorem dX7_openList_48 : decode cX7_openList 48 = .ok (.aload_n 0, 1) := by decide +kernel
theorem dX7_openList_49 : decode cX7_openList 49 = .ok (.getfield 45, 3) := by decide +kernel
theorem dX7_openList_5 : decode cX7_openList 5 = .ok (.if_icmp .ge 20, 3) := by decide +kernel
theorem dX7_openList_52 : decode cX7_openList 52 = .ok (.iload_n 1, 1) := by decide +kernel
theorem dX7_openList_53 : decode cX7_openList 53 = .ok (.putfield 121, 3) := by decide +kernel
theorem dX7_openList_56 : decode cX7_openList 56 = .ok (.aload_n 0, 1) := by decide +kernel
theorem dX7_openList_57 : decode cX7_openList 57 = .ok (.dup, 1) := by decide +kernel
theorem dX7_openList_58 : decode cX7_openList 58 = .ok (.getfield 24, 3) := by decide +kernel
theorem dX7_openList_61 : decode cX7_openList 61 = .ok (.iconst 1, 1) := by decide +kernel
theorem dX7_openList_62 : decode cX7_openList 62 = .ok (.iadd, 1) := by decide +kernel
theorem dX7_openList_63 : decode cX7_openList 63 = .ok (.putfield 24, 3) := by decide +kernel
theorem dX7_openList_66 : decode cX7_openList 66 = .ok (.return_, 1) := by decide +kernel
theorem dX7_openList_8 : decode cX7_openList 8 = .ok (.aload_n 0, 1) := by decide +kernel
theorem dX7_openList_9 : decode cX7_openList 9 = .ok (.getfield 36, 3) := by decide +kernel
theorem dX7_takeFact_0 : decode cX7_takeFact 0 = .ok (.aload_n 0, 1) := by decide +kernel
theorem dX7_takeFact_1 : decode cX7_takeFact 1 = .ok (.getfield 24, 3) := by decide +kernel
theorem dX7_takeFact_10 : decode cX7_takeFact 10 = .ok (.istore_n 3, 1) := by decide +kernel
theorem dX7_takeFact_101 : decode cX7_takeFact 101 = .ok (.bipush 62, 2) := by decide +kernel
theorem dX7_takeFact_103 : decode cX7_takeFact 103 = .ok (.if_icmp .eq 12, 3) := by decide +kernel
theorem dX7_takeFact_106 : decode cX7_takeFact 106 = .ok (.aload_n 0, 1) := by decide +kernel
theorem dX7_takeFact_107 : decode cX7_takeFact 107 = .ok (.iconst 1, 1) := by decide +kernel
theorem dX7_takeFact_108 : decode cX7_takeFact 108 = .ok (.iload_n 2, 1) := by decide +kernel
theorem dX7_takeFact_109 : decode cX7_takeFact 109 = .ok (.invokevirtual 62, 3) := by decide +kernel
theorem dX7_takeFact_11 : decode cX7_takeFact 11 = .ok (.iload_n 2, 1) := by decide +kernel
theorem dX7_takeFact_112 : decode cX7_takeFact 112 = .ok (.goto 33, 3) := by decide +kernel
theorem dX7_takeFact_115 : decode cX7_takeFact 115 = .ok (.aload_n 0, 1) := by decide +kernel
theorem dX7_takeFact_116 : decode cX7_takeFact 116 = .ok (.getfield 40, 3) := by decide +kernel
theorem dX7_takeFact_119 : decode cX7_takeFact 119 = .ok (.iload_n 3, 1) := by decide +kernel
theorem dX7_takeFact_12 : decode cX7_takeFact 12 = .ok (.aload_n 0, 1) := by decide +kernel
theorem dX7_takeFact_120 : decode cX7_takeFact 120 = .ok (.invokevirtual 158, 3) := by decide +kernel
theorem dX7_takeFact_123 : decode cX7_takeFact 123 = .ok (.aload_n 0, 1) := by decide +kernel
theorem dX7_takeFact_124 : decode cX7_takeFact 124 = .ok (.getfield 36, 3) := by decide +kernel
theorem dX7_takeFact_127 : decode cX7_takeFact 127 = .ok (.aload_n 0, 1) := by decide +kernel
theorem dX7_takeFact_128 : decode cX7_takeFact 128 = .ok (.getfield 45, 3) := by decide +kernel
theorem dX7_takeFact_13 : decode cX7_takeFact 13 = .ok (.getfield 36, 3) := by decide +kernel
theorem dX7_takeFact_131 : decode cX7_takeFact 131 = .ok (.getfield 126, 3) := by decide +kernel
theorem dX7_takeFact_134 : decode cX7_takeFact 134 = .ok (.iload_n 3, 1) := by decide +kernel
theorem dX7_takeFact_135 : decode cX7_takeFact 135 = .ok (.invokevirtual 163, 3) := by decide +kernel
theorem dX7_takeFact_138 : decode cX7_takeFact 138 = .ok (.aload_n 0, 1) := by decide +kernel
theorem dX7_takeFact_139 : decode cX7_takeFact 139 = .ok (.iload_n 2, 1) := by decide +kernel
theorem dX7_takeFact_140 : decode cX7_takeFact 140 = .ok (.iconst 1, 1) := by decide +kernel
theorem dX7_takeFact_141 : decode cX7_takeFact 141 = .ok (.iadd, 1) := by decide +kernel
theorem dX7_takeFact_142 : decode cX7_takeFact 142 = .ok (.putfield 24, 3) := by decide +kernel
theorem dX7_takeFact_145 : decode cX7_takeFact 145 = .ok (.return_, 1) := by decide +kernel
theorem dX7_takeFact_16 : decode cX7_takeFact 16 = .ok (.getfield 49, 3) := by decide +kernel
theorem dX7_takeFact_19 : decode cX7_takeFact 19 = .ok (.if_icmp .ge 45, 3) := by decide +kernel
theorem dX7_takeFact_22 : decode cX7_takeFact 22 = .ok (.aload_n 0, 1) := by decide +kernel
theorem dX7_takeFact_23 : decode cX7_takeFact 23 = .ok (.getfield 36, 3) := by decide +kernel
theorem dX7_takeFact_26 : decode cX7_takeFact 26 = .ok (.iload_n 2, 1) := by decide +kernel
theorem dX7_takeFact_27 : decode cX7_takeFact 27 = .ok (.invokevirtual 54, 3) := by decide +kernel
theorem dX7_takeFact_30 : decode cX7_takeFact 30 = .ok (.invokestatic 150, 3) := by decide +kernel
theorem dX7_takeFact_33 : decode cX7_takeFact 33 = .ok (.ifCond .eq 31, 3) := by decide +kernel
theorem dX7_takeFact_36 : decode cX7_takeFact 36 = .ok (.iload_n 3, 1) := by decide +kernel
theorem dX7_takeFact_37 : decode cX7_takeFact 37 = .ok (.bipush 10, 2) := by decide +kernel
theorem dX7_takeFact_39 : decode cX7_takeFact 39 = .ok (.imul, 1) := by decide +kernel
theorem dX7_takeFact_4 : decode cX7_takeFact 4 = .ok (.iconst 1, 1) := by decide +kernel
theorem dX7_takeFact_40 : decode cX7_takeFact 40 = .ok (.aload_n 0, 1) := by decide +kernel
theorem dX7_takeFact_41 : decode cX7_takeFact 41 = .ok (.getfield 36, 3) := by decide +kernel
theorem dX7_takeFact_44 : decode cX7_takeFact 44 = .ok (.iload_n 2, 1) := by decide +kernel
theorem dX7_takeFact_45 : decode cX7_takeFact 45 = .ok (.invokevirtual 54, 3) := by decide +kernel
theorem dX7_takeFact_48 : decode cX7_takeFact 48 = .ok (.iadd, 1) := by decide +kernel
theorem dX7_takeFact_49 : decode cX7_takeFact 49 = .ok (.bipush 48, 2) := by decide +kernel
theorem dX7_takeFact_5 : decode cX7_takeFact 5 = .ok (.iadd, 1) := by decide +kernel
theorem dX7_takeFact_51 : decode cX7_takeFact 51 = .ok (.isub, 1) := by decide +kernel
theorem dX7_takeFact_52 : decode cX7_takeFact 52 = .ok (.bipush 31, 2) := by decide +kernel
theorem dX7_takeFact_54 : decode cX7_takeFact 54 = .ok (.invokestatic 153, 3) := by decide +kernel
theorem dX7_takeFact_57 : decode cX7_takeFact 57 = .ok (.istore_n 3, 1) := by decide +kernel
theorem dX7_takeFact_58 : decode cX7_takeFact 58 = .ok (.iinc 2 1, 3) := by decide +kernel
theorem dX7_takeFact_6 : decode cX7_takeFact 6 = .ok (.istore_n 1, 1) := by decide +kernel
theorem dX7_takeFact_61 : decode cX7_takeFact 61 = .ok (.goto (-50), 3) := by decide +kernel
theorem dX7_takeFact_64 : decode cX7_takeFact 64 = .ok (.iload_n 2, 1) := by decide +kernel
theorem dX7_takeFact_65 : decode cX7_takeFact 65 = .ok (.iload_n 1, 1) := by decide +kernel
theorem dX7_takeFact_66 : decode cX7_takeFact 66 = .ok (.if_icmp .ne 12, 3) := by decide +kernel
theorem dX7_takeFact_69 : decode cX7_takeFact 69 = .ok (.aload_n 0, 1) := by decide +kernel
theorem dX7_takeFact_7 : decode cX7_takeFact 7 = .ok (.iload_n 1, 1) := by decide +kernel
theorem dX7_takeFact_70 : decode cX7_takeFact 70 = .ok (.iconst 1, 1) := by decide +kernel
theorem dX7_takeFact_71 : decode cX7_takeFact 71 = .ok (.iload_n 1, 1) := by decide +kernel
theorem dX7_takeFact_72 : decode cX7_takeFact 72 = .ok (.invokevirtual 62, 3) := by decide +kernel
theorem dX7_takeFact_75 : decode cX7_takeFact 75 = .ok (.goto 70, 3) := by decide +kernel
theorem dX7_takeFact_78 : decode cX7_takeFact 78 = .ok (.iload_n 3, 1) := by decide +kernel
theorem dX7_takeFact_79 : decode cX7_takeFact 79 = .ok (.bipush 31, 2) := by decide +kernel
theorem dX7_takeFact_8 : decode cX7_takeFact 8 = .ok (.istore_n 2, 1) := by decide +kernel
theorem dX7_takeFact_81 : decode cX7_takeFact 81 = .ok (.if_icmp .lt 12, 3) := by decide +kernel
theorem dX7_takeFact_84 : decode cX7_takeFact 84 = .ok (.aload_n 0, 1) := by decide +kernel
theorem dX7_takeFact_85 : decode cX7_takeFact 85 = .ok (.iconst 2, 1) := by decide +kernel
theorem dX7_takeFact_86 : decode cX7_takeFact 86 = .ok (.iload_n 1, 1) := by decide +kernel
theorem dX7_takeFact_87 : decode cX7_takeFact 87 = .ok (.invokevirtual 62, 3) := by decide +kernel
theorem dX7_takeFact_9 : decode cX7_takeFact 9 = .ok (.iconst 0, 1) := by decide +kernel
theorem dX7_takeFact_90 : decode cX7_takeFact 90 = .ok (.goto 55, 3) := by decide +kernel
theorem dX7_takeFact_93 : decode cX7_takeFact 93 = .ok (.aload_n 0, 1) := by decide +kernel
theorem dX7_takeFact_94 : decode cX7_takeFact 94 = .ok (.getfield 36, 3) := by decide +kernel
theorem dX7_takeFact_97 : decode cX7_takeFact 97 = .ok (.iload_n 2, 1) := by decide +kernel
theorem dX7_takeFact_98 : decode cX7_takeFact 98 = .ok (.invokevirtual 54, 3) := by decide +kernel
theorem dX7_takeWord_0 : decode cX7_takeWord 0 = .ok (.iload_n 2, 1) := by decide +kernel
theorem dX7_takeWord_1 : decode cX7_takeWord 1 = .ok (.istore_n 3, 1) := by decide +kernel
theorem dX7_takeWord_10 : decode cX7_takeWord 10 = .ok (.if_icmp .ge 23, 3) := by decide +kernel
theorem dX7_takeWord_13 : decode cX7_takeWord 13 = .ok (.aload_n 0, 1) := by decide +kernel
theorem dX7_takeWord_14 : decode cX7_takeWord 14 = .ok (.getfield 36, 3) := by decide +kernel
theorem dX7_takeWord_17 : decode cX7_takeWord 17 = .ok (.iload_n 3, 1) := by decide +kernel
theorem dX7_takeWord_18 : decode cX7_takeWord 18 = .ok (.invokevirtual 54, 3) := by decide +kernel
theorem dX7_takeWord_2 : decode cX7_takeWord 2 = .ok (.iload_n 3, 1) := by decide +kernel
theorem dX7_takeWord_21 : decode cX7_takeWord 21 = .ok (.invokestatic 100, 3) := by decide +kernel
theorem dX7_takeWord_24 : decode cX7_takeWord 24 = .ok (.ifCond .eq 9, 3) := by decide +kernel
theorem dX7_takeWord_27 : decode cX7_takeWord 27 = .ok (.iinc 3 1, 3) := by decide +kernel
theorem dX7_takeWord_3 : decode cX7_takeWord 3 = .ok (.aload_n 0, 1) := by decide +kernel
theorem dX7_takeWord_30 : decode cX7_takeWord 30 = .ok (.goto (-28), 3) := by decide +kernel
theorem dX7_takeWord_33 : decode cX7_takeWord 33 = .ok (.iload_n 3, 1) := by decide +kernel
theorem dX7_takeWord_34 : decode cX7_takeWord 34 = .ok (.iload_n 2, 1) := by decide +kernel
theorem dX7_takeWord_35 : decode cX7_takeWord 35 = .ok (.if_icmp .ne 12, 3) := by decide +kernel
theorem dX7_takeWord_38 : decode cX7_takeWord 38 = .ok (.aload_n 0, 1) := by decide +kernel
theorem dX7_takeWord_39 : decode cX7_takeWord 39 = .ok (.iconst 1, 1) := by decide +kernel
theorem dX7_takeWord_4 : decode cX7_takeWord 4 = .ok (.getfield 36, 3) := by decide +kernel
theorem dX7_takeWord_40 : decode cX7_takeWord 40 = .ok (.iload_n 2, 1) := by decide +kernel
theorem dX7_takeWord_41 : decode cX7_takeWord 41 = .ok (.invokevirtual 62, 3) := by decide +kernel
theorem dX7_takeWord_44 : decode cX7_takeWord 44 = .ok (.goto 43, 3) := by decide +kernel
theorem dX7_takeWord_47 : decode cX7_takeWord 47 = .ok (.iload_n 3, 1) := by decide +kernel
theorem dX7_takeWord_48 : decode cX7_takeWord 48 = .ok (.iload_n 2, 1) := by decide +kernel
theorem dX7_takeWord_49 : decode cX7_takeWord 49 = .ok (.isub, 1) := by decide +kernel
theorem dX7_takeWord_50 : decode cX7_takeWord 50 = .ok (.bipush 20, 2) := by decide +kernel
theorem dX7_takeWord_52 : decode cX7_takeWord 52 = .ok (.if_icmp .gt 12, 3) := by decide +kernel
theorem dX7_takeWord_55 : decode cX7_takeWord 55 = .ok (.aload_n 0, 1) := by decide +kernel
theorem dX7_takeWord_56 : decode cX7_takeWord 56 = .ok (.getfield 30, 3) := by decide +kernel
theorem dX7_takeWord_59 : decode cX7_takeWord 59 = .ok (.bipush 40, 2) := by decide +kernel
theorem dX7_takeWord_61 : decode cX7_takeWord 61 = .ok (.if_icmp .lt 12, 3) := by decide +kernel
theorem dX7_takeWord_64 : decode cX7_takeWord 64 = .ok (.aload_n 0, 1) := by decide +kernel
theorem dX7_takeWord_65 : decode cX7_takeWord 65 = .ok (.iconst 2, 1) := by decide +kernel
theorem dX7_takeWord_66 : decode cX7_takeWord 66 = .ok (.iload_n 2, 1) := by decide +kernel
theorem dX7_takeWord_67 : decode cX7_takeWord 67 = .ok (.invokevirtual 62, 3) := by decide +kernel
theorem dX7_takeWord_7 : decode cX7_takeWord 7 = .ok (.getfield 49, 3) := by decide +kernel
theorem dX7_takeWord_70 : decode cX7_takeWord 70 = .ok (.goto 17, 3) := by decide +kernel
theorem dX7_takeWord_73 : decode cX7_takeWord 73 = .ok (.aload_n 0, 1) := by decide +kernel
theorem dX7_takeWord_74 : decode cX7_takeWord 74 = .ok (.iload_n 1, 1) := by decide +kernel
theorem dX7_takeWord_75 : decode cX7_takeWord 75 = .ok (.iload_n 2, 1) := by decide +kernel
theorem dX7_takeWord_76 : decode cX7_takeWord 76 = .ok (.iload_n 3, 1) := by decide +kernel
theorem dX7_takeWord_77 : decode cX7_takeWord 77 = .ok (.iload_n 2, 1) := by decide +kernel
theorem dX7_takeWord_78 : decode cX7_takeWord 78 = .ok (.isub, 1) := by decide +kernel
theorem dX7_takeWord_79 : decode cX7_takeWord 79 = .ok (.invokevirtual 166, 3) := by decide +kernel
theorem dX7_takeWord_82 : decode cX7_takeWord 82 = .ok (.aload_n 0, 1) := by decide +kernel
theorem dX7_takeWord_83 : decode cX7_takeWord 83 = .ok (.iload_n 3, 1) := by decide +kernel
theorem dX7_takeWord_84 : decode cX7_takeWord 84 = .ok (.putfield 24, 3) := by decide +kernel
theorem dX7_takeWord_87 : decode cX7_takeWord 87 = .ok (.return_, 1) := by decide +kernel
set_option maxRecDepth 20000 in
theorem ggX7_openAside_X7_open : GoodIn wsX7_openAside wsX7_open := goodIn_r _ [35, 1, 36, 3, 5, 37, 38, 39, 40, 41, 42, 43, 44, 45, 46, 47, 48, 49, 50, 51, 52, 53, 54, 55, 56, 57, 58, 59, 60, 61, 62, 63, 64, 65] rfl (by decide +kernel)
set_option maxRecDepth 20000 in
theorem gX7_openAside_X7_open : GoodIn wsX7_openAside (wsV RX7 110 RX7 yX7_open wsX7_open) := goodIn_app (goodIn_of _ (by decide +kernel)) ggX7_openAside_X7_open
set_option maxRecDepth 20000 in
theorem ggX7_openAside_X7_fail : GoodIn wsX7_openAside wsX7_fail := goodIn_r _ [29, 30, 31, 49, 50, 51, 52, 53, 54, 55, 56, 57, 58] rfl (by decide +kernel)
set_option maxRecDepth 20000 in
theorem gX7_openAside_X7_fail : GoodIn wsX7_openAside (wsV RX7 62 RX7 yX7_fail wsX7_fail) := goodIn_app (goodIn_of _ (by decide +kernel)) ggX7_openAside_X7_fail
set_option maxRecDepth 20000 in
theorem ggX7_openAside_X8_openOption : GoodIn wsX7_openAside wsX8_openOption := goodIn_r _ [10, 11, 12, 13, 14, 15, 16, 17, 18, 19, 20, 21, 22, 23, 24, 66, 67, 68, 69, 70, 71, 72, 73, 74, 75, 76, 77, 78, 79, 80, 81, 82, 83, 84, 85, 86, 87, 88] rfl (by decide +kernel)
set_option maxRecDepth 20000 in
theorem gX7_openAside_X8_openOption : GoodIn wsX7_openAside (wsV RX7 144 RX8 yX8_openOption wsX8_openOption) := goodIn_app (goodIn_of _ (by decide +kernel)) ggX7_openAside_X8_openOption
set_option maxRecDepth 20000 in
theorem ggX7_openList_X7_fail : GoodIn wsX7_openList wsX7_fail := goodIn_r _ [19, 20, 21, 39, 40, 41, 42, 43, 44, 45, 46, 47, 48] rfl (by decide +kernel)
set_option maxRecDepth 20000 in
theorem gX7_openList_X7_fail : GoodIn wsX7_openList (wsV RX7 62 RX7 yX7_fail wsX7_fail) := goodIn_app (goodIn_of _ (by decide +kernel)) ggX7_openList_X7_fail
set_option maxRecDepth 20000 in
theorem ggX7_openList_X8_openList : GoodIn wsX7_openList wsX8_openList := goodIn_r _ [11, 12, 13, 14, 56, 57, 58, 59, 60, 61, 62, 63, 64, 65, 66, 67, 68, 69, 70, 71] rfl (by decide +kernel)
set_option maxRecDepth 20000 in
theorem gX7_openList_X8_openList : GoodIn wsX7_openList (wsV RX7 148 RX8 yX8_openList wsX8_openList) := goodIn_app (goodIn_of _ (by decide +kernel)) ggX7_openList_X8_openList
set_option maxRecDepth 20000 in
theorem ggX7_openList_X7_open : GoodIn wsX7_openList wsX7_open := goodIn_r _ [25, 1, 26, 3, 5, 27, 28, 29, 30, 31, 32, 33, 34, 35, 36, 37, 38, 39, 40, 41, 42, 43, 44, 45, 46, 47, 48, 49, 50, 51, 52, 53, 54, 55] rfl (by decide +kernel)
set_option maxRecDepth 20000 in
theorem gX7_openList_X7_open : GoodIn wsX7_openList (wsV RX7 110 RX7 yX7_open wsX7_open) := goodIn_app (goodIn_of _ (by decide +kernel)) ggX7_openList_X7_open
set_option maxRecDepth 20000 in
theorem ggX7_takeFact_X8_signAt : GoodIn wsX7_takeFact wsX8_signAt := goodIn_r _ [15, 16, 17, 55, 56, 57, 58, 59, 60, 61, 62, 63, 64, 65, 66, 67, 68, 69, 70] rfl (by decide +kernel)
set_option maxRecDepth 20000 in
theorem gX7_takeFact_X8_signAt : GoodIn wsX7_takeFact (wsV RX7 54 RX8 yX8_signAt wsX8_signAt) := goodIn_app (goodIn_of _ (by decide +kernel)) ggX7_takeFact_X8_signAt
set_option maxRecDepth 20000 in
theorem ggX7_takeFact_X0_addPlace : GoodIn wsX7_takeFact wsX0_addPlace := goodIn_r _ [32, 33, 34, 78, 79, 80] rfl (by decide +kernel)
set_option maxRecDepth 20000 in
theorem gX7_takeFact_X0_addPlace : GoodIn wsX7_takeFact (wsV RX7 158 RX0 yX0_addPlace wsX0_addPlace) := goodIn_app (goodIn_of _ (by decide +kernel)) ggX7_takeFact_X0_addPlace
set_option maxRecDepth 20000 in
theorem ggX7_takeFact_X8_addFact : GoodIn wsX7_takeFact wsX8_addFact := goodIn_r _ [38, 39, 40, 41, 42, 43, 14, 44, 55, 56, 57, 58, 59, 60, 61, 62, 63, 64, 65, 66, 67, 68, 69, 70, 81, 82, 83, 84, 85, 86, 87] rfl (by decide +kernel)
set_option maxRecDepth 20000 in
theorem gX7_takeFact_X8_addFact : GoodIn wsX7_takeFact (wsV RX7 163 RX8 yX8_addFact wsX8_addFact) := goodIn_app (goodIn_of _ (by decide +kernel)) ggX7_takeFact_X8_addFact
set_option maxRecDepth 20000 in
theorem ggX7_takeFact_X7_fail : GoodIn wsX7_takeFact wsX7_fail := goodIn_r _ [25, 26, 27, 45, 46, 47, 48, 49, 50, 51, 52, 53, 54] rfl (by decide +kernel)
set_option maxRecDepth 20000 in
theorem gX7_takeFact_X7_fail : GoodIn wsX7_takeFact (wsV RX7 62 RX7 yX7_fail wsX7_fail) := goodIn_app (goodIn_of _ (by decide +kernel)) ggX7_takeFact_X7_fail
set_option maxRecDepth 20000 in
theorem ggX7_takeFact_X7_isDigit : GoodIn wsX7_takeFact wsX7_isDigit := goodIn_r _ [21] rfl (by decide +kernel)
set_option maxRecDepth 20000 in
theorem gX7_takeFact_X7_isDigit : GoodIn wsX7_takeFact (va_wsS RX7 150 yX7_isDigit wsX7_isDigit) := goodIn_app (goodIn_of _ (by decide +kernel)) ggX7_takeFact_X7_isDigit
set_option maxRecDepth 20000 in
theorem ggX7_keepWord_X8_addSigns : GoodIn wsX7_keepWord wsX8_addSigns := goodIn_r _ [25, 16, 26, 18, 19, 20, 14, 21, 61, 62, 63, 64, 65, 66, 67, 68, 69, 70, 71, 72, 73, 74, 75, 76, 84, 85, 86, 87, 88, 89, 90] rfl (by decide +kernel)
set_option maxRecDepth 20000 in
theorem gX7_keepWord_X8_addSigns : GoodIn wsX7_keepWord (wsV RX7 178 RX8 yX8_addSigns wsX8_addSigns) := goodIn_app (goodIn_of _ (by decide +kernel)) ggX7_keepWord_X8_addSigns
set_option maxRecDepth 20000 in
theorem ggX7_keepWord_X2_add : GoodIn wsX7_keepWord wsX2_add := goodIn_r _ [44, 45, 46, 47, 48, 49, 50, 91, 92, 93, 94, 95, 96] rfl (by decide +kernel)
set_option maxRecDepth 20000 in
theorem gX7_keepWord_X2_add : GoodIn wsX7_keepWord (wsV RX7 188 RX2 yX2_add wsX2_add) := goodIn_app (goodIn_of _ (by decide +kernel)) ggX7_keepWord_X2_add
set_option maxRecDepth 20000 in
theorem ggX7_keepWord_X8_nameOf : GoodIn wsX7_keepWord wsX8_nameOf := goodIn_r _ [30, 31, 32, 33, 34, 35, 36, 14, 37, 38, 39, 61, 62, 63, 64, 65, 66, 67, 68, 69, 70, 71, 72, 73, 74, 75, 76] rfl (by decide +kernel)
set_option maxRecDepth 20000 in
theorem gX7_keepWord_X8_nameOf : GoodIn wsX7_keepWord (wsV RX7 181 RX8 yX8_nameOf wsX8_nameOf) := goodIn_app (goodIn_of _ (by decide +kernel)) ggX7_keepWord_X8_nameOf
set_option maxRecDepth 20000 in
theorem ggX7_keepWord_X8_addWord : GoodIn wsX7_keepWord wsX8_addWord := goodIn_r _ [15, 16, 17, 18, 19, 20, 14, 21, 61, 62, 63, 64, 65, 66, 67, 68, 69, 70, 71, 72, 73, 74, 75, 76, 84, 85, 86, 87, 88, 89, 90] rfl (by decide +kernel)
set_option maxRecDepth 20000 in
theorem gX7_keepWord_X8_addWord : GoodIn wsX7_keepWord (wsV RX7 172 RX8 yX8_addWord wsX8_addWord) := goodIn_app (goodIn_of _ (by decide +kernel)) ggX7_keepWord_X8_addWord
set_option maxRecDepth 20000 in
theorem ggX7_takeWord_X7_fail : GoodIn wsX7_takeWord wsX7_fail := goodIn_r _ [19, 20, 21, 71, 72, 73, 74, 75, 76, 77, 78, 79, 80] rfl (by decide +kernel)
set_option maxRecDepth 20000 in
theorem gX7_takeWord_X7_fail : GoodIn wsX7_takeWord (wsV RX7 62 RX7 yX7_fail wsX7_fail) := goodIn_app (goodIn_of _ (by decide +kernel)) ggX7_takeWord_X7_fail
set_option maxRecDepth 20000 in
theorem ggX7_takeWord_X7_keepWord : GoodIn wsX7_takeWord wsX7_keepWord := goodIn_r _ [25, 3, 1, 26, 27, 28, 29, 30, 31, 32, 33, 34, 35, 36, 8, 37, 38, 39, 40, 41, 42, 43, 44, 45, 46, 47, 48, 49, 50, 51, 52, 53, 54, 55, 56, 57, 58, 59, 10, 11, 60, 61, 62, 63, 64, 65, 66, 67, 68, 69, 70, 71, 72, 73, 74, 75, 76, 77, 78, 79, 80, 81, 82, 83, 84, 85, 86, 87, 88, 89, 90, 91, 92, 93, 94, 95, 96, 97, 98, 99, 100, 101, 102, 103, 104, 105, 106, 107, 108, 109, 110, 111, 112, 113, 114, 115, 116] rfl (by decide +kernel)
set_option maxRecDepth 20000 in
theorem gX7_takeWord_X7_keepWord : GoodIn wsX7_takeWord (wsV RX7 166 RX7 yX7_keepWord wsX7_keepWord) := goodIn_app (goodIn_of _ (by decide +kernel)) ggX7_takeWord_X7_keepWord
set_option maxRecDepth 20000 in
theorem ggX7_takeWord_X8_signAt : GoodIn wsX7_takeWord wsX8_signAt := goodIn_r _ [9, 10, 11, 81, 82, 83, 84, 85, 86, 87, 88, 89, 90, 91, 92, 93, 94, 95, 96] rfl (by decide +kernel)
set_option maxRecDepth 20000 in
theorem gX7_takeWord_X8_signAt : GoodIn wsX7_takeWord (wsV RX7 54 RX8 yX8_signAt wsX8_signAt) := goodIn_app (goodIn_of _ (by decide +kernel)) ggX7_takeWord_X8_signAt
set_option maxRecDepth 20000 in
theorem ggX7_takeWord_X7_isOfWord : GoodIn wsX7_takeWord wsX7_isOfWord := goodIn_r _ [15] rfl (by decide +kernel)
set_option maxRecDepth 20000 in
theorem gX7_takeWord_X7_isOfWord : GoodIn wsX7_takeWord (va_wsS RX7 100 yX7_isOfWord wsX7_isOfWord) := goodIn_app (goodIn_of _ (by decide +kernel)) ggX7_takeWord_X7_isOfWord
