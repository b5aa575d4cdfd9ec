theorem dX10_ahead_0 : decode cX10_ahead 0 = .ok (.aload_n 0, 1) := by decide +kernel
theorem dX10_ahead_1 : decode cX10_ahead 1 = .ok (.getfield 65, 3) := by decide +kernel
theorem dX10_ahead_10 : decode cX10_ahead 10 = .ok (.iload_n 2, 1) := by decide +kernel
theorem dX10_ahead_11 : decode cX10_ahead 11 = .ok (.iaload, 1) := by decide +kernel
theorem dX10_ahead_12 : decode cX10_ahead 12 = .ok (.if_icmp .eq 24, 3) := by decide +kernel
theorem dX10_ahead_15 : decode cX10_ahead 15 = .ok (.aload_n 0, 1) := by decide +kernel
theorem dX10_ahead_16 : decode cX10_ahead 16 = .ok (.getfield 65, 3) := by decide +kernel
theorem dX10_ahead_19 : decode cX10_ahead 19 = .ok (.iload_n 1, 1) := by decide +kernel
theorem dX10_ahead_20 : decode cX10_ahead 20 = .ok (.iaload, 1) := by decide +kernel
theorem dX10_ahead_21 : decode cX10_ahead 21 = .ok (.aload_n 0, 1) := by decide +kernel
theorem dX10_ahead_22 : decode cX10_ahead 22 = .ok (.getfield 65, 3) := by decide +kernel
theorem dX10_ahead_25 : decode cX10_ahead 25 = .ok (.iload_n 2, 1) := by decide +kernel
theorem dX10_ahead_26 : decode cX10_ahead 26 = .ok (.iaload, 1) := by decide +kernel
theorem dX10_ahead_27 : decode cX10_ahead 27 = .ok (.if_icmp .le 7, 3) := by decide +kernel
theorem dX10_ahead_30 : decode cX10_ahead 30 = .ok (.iconst 1, 1) := by decide +kernel
theorem dX10_ahead_31 : decode cX10_ahead 31 = .ok (.goto 4, 3) := by decide +kernel
theorem dX10_ahead_34 : decode cX10_ahead 34 = .ok (.iconst 0, 1) := by decide +kernel
theorem dX10_ahead_35 : decode cX10_ahead 35 = .ok (.ireturn, 1) := by decide +kernel
theorem dX10_ahead_36 : decode cX10_ahead 36 = .ok (.aload_n 0, 1) := by decide +kernel
theorem dX10_ahead_37 : decode cX10_ahead 37 = .ok (.getfield 62, 3) := by decide +kernel
theorem dX10_ahead_4 : decode cX10_ahead 4 = .ok (.iload_n 1, 1) := by decide +kernel
theorem dX10_ahead_40 : decode cX10_ahead 40 = .ok (.iload_n 1, 1) := by decide +kernel
theorem dX10_ahead_41 : decode cX10_ahead 41 = .ok (.iaload, 1) := by decide +kernel
theorem dX10_ahead_42 : decode cX10_ahead 42 = .ok (.aload_n 0, 1) := by decide +kernel
theorem dX10_ahead_43 : decode cX10_ahead 43 = .ok (.getfield 62, 3) := by decide +kernel
theorem dX10_ahead_46 : decode cX10_ahead 46 = .ok (.iload_n 2, 1) := by decide +kernel
theorem dX10_ahead_47 : decode cX10_ahead 47 = .ok (.iaload, 1) := by decide +kernel
theorem dX10_ahead_48 : decode cX10_ahead 48 = .ok (.if_icmp .lt 23, 3) := by decide +kernel
theorem dX10_ahead_5 : decode cX10_ahead 5 = .ok (.iaload, 1) := by decide +kernel
theorem dX10_ahead_51 : decode cX10_ahead 51 = .ok (.aload_n 0, 1) := by decide +kernel
theorem dX10_ahead_52 : decode cX10_ahead 52 = .ok (.getfield 62, 3) := by decide +kernel
theorem dX10_ahead_55 : decode cX10_ahead 55 = .ok (.iload_n 1, 1) := by decide +kernel
theorem dX10_ahead_56 : decode cX10_ahead 56 = .ok (.iaload, 1) := by decide +kernel
theorem dX10_ahead_57 : decode cX10_ahead 57 = .ok (.aload_n 0, 1) := by decide +kernel
theorem dX10_ahead_58 : decode cX10_ahead 58 = .ok (.getfield 62, 3) := by decide +kernel
theorem dX10_ahead_6 : decode cX10_ahead 6 = .ok (.aload_n 0, 1) := by decide +kernel
theorem dX10_ahead_61 : decode cX10_ahead 61 = .ok (.iload_n 2, 1) := by decide +kernel
theorem dX10_ahead_62 : decode cX10_ahead 62 = .ok (.iaload, 1) := by decide +kernel
theorem dX10_ahead_63 : decode cX10_ahead 63 = .ok (.if_icmp .ne 12, 3) := by decide +kernel
theorem dX10_ahead_66 : decode cX10_ahead 66 = .ok (.iload_n 1, 1) := by decide +kernel
theorem dX10_ahead_67 : decode cX10_ahead 67 = .ok (.iload_n 2, 1) := by decide +kernel
theorem dX10_ahead_68 : decode cX10_ahead 68 = .ok (.if_icmp .ge 7, 3) := by decide +kernel
theorem dX10_ahead_7 : decode cX10_ahead 7 = .ok (.getfield 65, 3) := by decide +kernel
theorem dX10_ahead_71 : decode cX10_ahead 71 = .ok (.iconst 1, 1) := by decide +kernel
theorem dX10_ahead_72 : decode cX10_ahead 72 = .ok (.goto 4, 3) := by decide +kernel
theorem dX10_ahead_75 : decode cX10_ahead 75 = .ok (.iconst 0, 1) := by decide +kernel
theorem dX10_ahead_76 : decode cX10_ahead 76 = .ok (.ireturn, 1) := by decide +kernel
theorem dX10_best_0 : decode cX10_best 0 = .ok (.aload_n 0, 1) := by decide +kernel
theorem dX10_best_1 : decode cX10_best 1 = .ok (.iconst 0, 1) := by decide +kernel
theorem dX10_best_10 : decode cX10_best 10 = .ok (.ireturn, 1) := by decide +kernel
theorem dX10_best_11 : decode cX10_best 11 = .ok (.iconst (-1), 1) := by decide +kernel
theorem dX10_best_12 : decode cX10_best 12 = .ok (.istore_n 2, 1) := by decide +kernel
theorem dX10_best_13 : decode cX10_best 13 = .ok (.iconst 0, 1) := by decide +kernel
theorem dX10_best_14 : decode cX10_best 14 = .ok (.istore_n 3, 1) := by decide +kernel
theorem dX10_best_15 : decode cX10_best 15 = .ok (.iload_n 3, 1) := by decide +kernel
theorem dX10_best_16 : decode cX10_best 16 = .ok (.iconst 1, 1) := by decide +kernel
theorem dX10_best_17 : decode cX10_best 17 = .ok (.aload_n 0, 1) := by decide +kernel
theorem dX10_best_18 : decode cX10_best 18 = .ok (.getfield 233, 3) := by decide +kernel
theorem dX10_best_2 : decode cX10_best 2 = .ok (.putfield 135, 3) := by decide +kernel
theorem dX10_best_21 : decode cX10_best 21 = .ok (.ishl, 1) := by decide +kernel
theorem dX10_best_22 : decode cX10_best 22 = .ok (.if_icmp .ge 43, 3) := by decide +kernel
theorem dX10_best_25 : decode cX10_best 25 = .ok (.aload_n 0, 1) := by decide +kernel
theorem dX10_best_26 : decode cX10_best 26 = .ok (.getfield 62, 3) := by decide +kernel
theorem dX10_best_29 : decode cX10_best 29 = .ok (.iload_n 3, 1) := by decide +kernel
theorem dX10_best_30 : decode cX10_best 30 = .ok (.iaload, 1) := by decide +kernel
theorem dX10_best_31 : decode cX10_best 31 = .ok (.ifCond .lt 28, 3) := by decide +kernel
theorem dX10_best_34 : decode cX10_best 34 = .ok (.aload_n 0, 1) := by decide +kernel
theorem dX10_best_35 : decode cX10_best 35 = .ok (.getfield 62, 3) := by decide +kernel
theorem dX10_best_38 : decode cX10_best 38 = .ok (.iload_n 3, 1) := by decide +kernel
theorem dX10_best_39 : decode cX10_best 39 = .ok (.iaload, 1) := by decide +kernel
theorem dX10_best_40 : decode cX10_best 40 = .ok (.iload_n 1, 1) := by decide +kernel
theorem dX10_best_41 : decode cX10_best 41 = .ok (.if_icmp .gt 18, 3) := by decide +kernel
theorem dX10_best_44 : decode cX10_best 44 = .ok (.iload_n 2, 1) := by decide +kernel
theorem dX10_best_45 : decode cX10_best 45 = .ok (.ifCond .lt 12, 3) := by decide +kernel
theorem dX10_best_48 : decode cX10_best 48 = .ok (.aload_n 0, 1) := by decide +kernel
theorem dX10_best_49 : decode cX10_best 49 = .ok (.iload_n 3, 1) := by decide +kernel
theorem dX10_best_5 : decode cX10_best 5 = .ok (.iload_n 1, 1) := by decide +kernel
theorem dX10_best_50 : decode cX10_best 50 = .ok (.iload_n 2, 1) := by decide +kernel
theorem dX10_best_51 : decode cX10_best 51 = .ok (.invokevirtual 313, 3) := by decide +kernel
theorem dX10_best_54 : decode cX10_best 54 = .ok (.ifCond .eq 5, 3) := by decide +kernel
theorem dX10_best_57 : decode cX10_best 57 = .ok (.iload_n 3, 1) := by decide +kernel
theorem dX10_best_58 : decode cX10_best 58 = .ok (.istore_n 2, 1) := by decide +kernel
theorem dX10_best_59 : decode cX10_best 59 = .ok (.iinc 3 1, 3) := by decide +kernel
theorem dX10_best_6 : decode cX10_best 6 = .ok (.ifCond .ge 5, 3) := by decide +kernel
theorem dX10_best_62 : decode cX10_best 62 = .ok (.goto (-47), 3) := by decide +kernel
theorem dX10_best_65 : decode cX10_best 65 = .ok (.iload_n 2, 1) := by decide +kernel
theorem dX10_best_66 : decode cX10_best 66 = .ok (.ireturn, 1) := by decide +kernel
theorem dX10_best_9 : decode cX10_best 9 = .ok (.iconst (-1), 1) := by decide +kernel
theorem dX10_bits_0 : decode cX10_bits 0 = .ok (.iconst 0, 1) := by decide +kernel
theorem dX10_bits_1 : decode cX10_bits 1 = .ok (.istore_n 1, 1) := by decide +kernel
theorem dX10_bits_10 : decode cX10_bits 10 = .ok (.iload_n 1, 1) := by decide +kernel
theorem dX10_bits_11 : decode cX10_bits 11 = .ok (.iload_n 0, 1) := by decide +kernel
theorem dX10_bits_12 : decode cX10_bits 12 = .ok (.iload_n 2, 1) := by decide +kernel
theorem dX10_bits_13 : decode cX10_bits 13 = .ok (.ishr, 1) := by decide +kernel
theorem dX10_bits_14 : decode cX10_bits 14 = .ok (.iconst 1, 1) := by decide +kernel
theorem dX10_bits_15 : decode cX10_bits 15 = .ok (.iand, 1) := by decide +kernel
theorem dX10_bits_16 : decode cX10_bits 16 = .ok (.iadd, 1) := by decide +kernel
theorem dX10_bits_17 : decode cX10_bits 17 = .ok (.istore_n 1, 1) := by decide +kernel
theorem dX10_bits_18 : decode cX10_bits 18 = .ok (.iinc 2 1, 3) := by decide +kernel
theorem dX10_bits_2 : decode cX10_bits 2 = .ok (.iconst 0, 1) := by decide +kernel
theorem dX10_bits_21 : decode cX10_bits 21 = .ok (.goto (-17), 3) := by decide +kernel
theorem dX10_bits_24 : decode cX10_bits 24 = .ok (.iload_n 1, 1) := by decide +kernel
theorem dX10_bits_25 : decode cX10_bits 25 = .ok (.ireturn, 1) := by decide +kernel
theorem dX10_bits_3 : decode cX10_bits 3 = .ok (.istore_n 2, 1) := by decide +kernel
theorem dX10_bits_4 : decode cX10_bits 4 = .ok (.iload_n 2, 1) := by decide +kernel
theorem dX10_bits_5 : decode cX10_bits 5 = .ok (.bipush 14, 2) := by decide +kernel
theorem dX10_bits_7 : decode cX10_bits 7 = .ok (.if_icmp .ge 17, 3) := by decide +kernel
theorem dX10_least_0 : decode cX10_least 0 = .ok (.aload_n 0, 1) := by decide +kernel
theorem dX10_least_1 : decode cX10_least 1 = .ok (.iconst 0, 1) := by decide +kernel
theorem dX10_least_10 : decode cX10_least 10 = .ok (.iconst (-1), 1) := by decide +kernel
theorem dX10_least_11 : decode cX10_least 11 = .ok (.ixor, 1) := by decide +kernel
theorem dX10_least_12 : decode cX10_least 12 = .ok (.iand, 1) := by decide +kernel
theorem dX10_least_13 : decode cX10_least 13 = .ok (.ifCond .eq 5, 3) := by decide +kernel
theorem dX10_least_16 : decode cX10_least 16 = .ok (.iconst (-1), 1) := by decide +kernel
theorem dX10_least_17 : decode cX10_least 17 = .ok (.ireturn, 1) := by decide +kernel
theorem dX10_least_18 : decode cX10_least 18 = .ok (.iconst (-1), 1) := by decide +kernel
theorem dX10_least_19 : decode cX10_least 19 = .ok (.istore_n 2, 1) := by decide +kernel
theorem dX10_least_2 : decode cX10_least 2 = .ok (.putfield 135, 3) := by decide +kernel
theorem dX10_least_20 : decode cX10_least 20 = .ok (.iconst 0, 1) := by decide +kernel
theorem dX10_least_21 : decode cX10_least 21 = .ok (.istore_n 3, 1) := by decide +kernel
theorem dX10_least_22 : decode cX10_least 22 = .ok (.iload_n 3, 1) := by decide +kernel
theorem dX10_least_23 : decode cX10_least 23 = .ok (.iconst 1, 1) := by decide +kernel
theorem dX10_least_24 : decode cX10_least 24 = .ok (.aload_n 0, 1) := by decide +kernel
theorem dX10_least_25 : decode cX10_least 25 = .ok (.getfield 233, 3) := by decide +kernel
theorem dX10_least_28 : decode cX10_least 28 = .ok (.ishl, 1) := by decide +kernel
theorem dX10_least_29 : decode cX10_least 29 = .ok (.if_icmp .ge 54, 3) := by decide +kernel
theorem dX10_least_32 : decode cX10_least 32 = .ok (.aload_n 0, 1) := by decide +kernel
theorem dX10_least_33 : decode cX10_least 33 = .ok (.getfield 62, 3) := by decide +kernel
theorem dX10_least_36 : decode cX10_least 36 = .ok (.iload_n 3, 1) := by decide +kernel
theorem dX10_least_37 : decode cX10_least 37 = .ok (.iaload, 1) := by decide +kernel
theorem dX10_least_38 : decode cX10_least 38 = .ok (.ifCond .lt 39, 3) := by decide +kernel
theorem dX10_least_41 : decode cX10_least 41 = .ok (.iload_n 2, 1) := by decide +kernel
theorem dX10_least_42 : decode cX10_least 42 = .ok (.ifCond .lt 13, 3) := by decide +kernel
theorem dX10_least_45 : decode cX10_least 45 = .ok (.aload_n 0, 1) := by decide +kernel
theorem dX10_least_46 : decode cX10_least 46 = .ok (.getfield 62, 3) := by decide +kernel
theorem dX10_least_49 : decode cX10_least 49 = .ok (.iload_n 3, 1) := by decide +kernel
theorem dX10_least_5 : decode cX10_least 5 = .ok (.iload_n 1, 1) := by decide +kernel
theorem dX10_least_50 : decode cX10_least 50 = .ok (.iaload, 1) := by decide +kernel
theorem dX10_least_51 : decode cX10_least 51 = .ok (.iload_n 2, 1) := by decide +kernel
theorem dX10_least_52 : decode cX10_least 52 = .ok (.if_icmp .ge 25, 3) := by decide +kernel
theorem dX10_least_55 : decode cX10_least 55 = .ok (.iload_n 1, 1) := by decide +kernel
theorem dX10_least_56 : decode cX10_least 56 = .ok (.aload_n 0, 1) := by decide +kernel
theorem dX10_least_57 : decode cX10_least 57 = .ok (.iload_n 3, 1) := by decide +kernel
theorem dX10_least_58 : decode cX10_least 58 = .ok (.invokevirtual 274, 3) := by decide +kernel
theorem dX10_least_6 : decode cX10_least 6 = .ok (.aload_n 0, 1) := by decide +kernel
theorem dX10_least_61 : decode cX10_least 61 = .ok (.iconst (-1), 1) := by decide +kernel
theorem dX10_least_62 : decode cX10_least 62 = .ok (.ixor, 1) := by decide +kernel
theorem dX10_least_63 : decode cX10_least 63 = .ok (.iand, 1) := by decide +kernel
theorem dX10_least_64 : decode cX10_least 64 = .ok (.ifCond .eq 6, 3) := by decide +kernel
theorem dX10_least_67 : decode cX10_least 67 = .ok (.goto 10, 3) := by decide +kernel
theorem dX10_least_7 : decode cX10_least 7 = .ok (.getfield 245, 3) := by decide +kernel
theorem dX10_least_70 : decode cX10_least 70 = .ok (.aload_n 0, 1) := by decide +kernel
theorem dX10_least_71 : decode cX10_least 71 = .ok (.getfield 62, 3) := by decide +kernel
theorem dX10_least_74 : decode cX10_least 74 = .ok (.iload_n 3, 1) := by decide +kernel
theorem dX10_least_75 : decode cX10_least 75 = .ok (.iaload, 1) := by decide +kernel
theorem dX10_least_76 : decode cX10_least 76 = .ok (.istore_n 2, 1) := by decide +kernel
theorem dX10_least_77 : decode cX10_least 77 = .ok (.iinc 3 1, 3) := by decide +kernel
theorem dX10_least_80 : decode cX10_least 80 = .ok (.goto (-58), 3) := by decide +kernel
theorem dX10_least_83 : decode cX10_least 83 = .ok (.iload_n 2, 1) := by decide +kernel
theorem dX10_least_84 : decode cX10_least 84 = .ok (.ireturn, 1) := by decide +kernel
theorem dX10_ranked_0 : decode cX10_ranked 0 = .ok (.aload_n 0, 1) := by decide +kernel
theorem dX10_ranked_1 : decode cX10_ranked 1 = .ok (.iconst 0, 1) := by decide +kernel
theorem dX10_ranked_10 : decode cX10_ranked 10 = .ok (.aload_n 0, 1) := by decide +kernel
theorem dX10_ranked_11 : decode cX10_ranked 11 = .ok (.getfield 278, 3) := by decide +kernel
theorem dX10_ranked_14 : decode cX10_ranked 14 = .ok (.if_icmp .lt 5, 3) := by decide +kernel
theorem dX10_ranked_17 : decode cX10_ranked 17 = .ok (.iconst (-1), 1) := by decide +kernel
theorem dX10_ranked_18 : decode cX10_ranked 18 = .ok (.ireturn, 1) := by decide +kernel
theorem dX10_ranked_19 : decode cX10_ranked 19 = .ok (.aload_n 0, 1) := by decide +kernel
theorem dX10_ranked_2 : decode cX10_ranked 2 = .ok (.putfield 135, 3) := by decide +kernel
theorem dX10_ranked_20 : decode cX10_ranked 20 = .ok (.getfield 297, 3) := by decide +kernel
theorem dX10_ranked_23 : decode cX10_ranked 23 = .ok (.ifCond .ne 7, 3) := by decide +kernel
theorem dX10_ranked_26 : decode cX10_ranked 26 = .ok (.aload_n 0, 1) := by decide +kernel
theorem dX10_ranked_27 : decode cX10_ranked 27 = .ok (.invokevirtual 316, 3) := by decide +kernel
theorem dX10_ranked_30 : decode cX10_ranked 30 = .ok (.aload_n 0, 1) := by decide +kernel
theorem dX10_ranked_31 : decode cX10_ranked 31 = .ok (.getfield 129, 3) := by decide +kernel
theorem dX10_ranked_34 : decode cX10_ranked 34 = .ok (.iload_n 1, 1) := by decide +kernel
theorem dX10_ranked_35 : decode cX10_ranked 35 = .ok (.iaload, 1) := by decide +kernel
theorem dX10_ranked_36 : decode cX10_ranked 36 = .ok (.ireturn, 1) := by decide +kernel
theorem dX10_ranked_5 : decode cX10_ranked 5 = .ok (.iload_n 1, 1) := by decide +kernel
theorem dX10_ranked_6 : decode cX10_ranked 6 = .ok (.ifCond .lt 11, 3) := by decide +kernel
theorem dX10_ranked_9 : decode cX10_ranked 9 = .ok (.iload_n 1, 1) := by decide +kernel
theorem dX10_sort_0 : decode cX10_sort 0 = .ok (.iconst 0, 1) := by decide +kernel
theorem dX10_sort_1 : decode cX10_sort 1 = .ok (.istore_n 1, 1) := by decide +kernel
theorem dX10_sort_10 : decode cX10_sort 10 = .ok (.ishl, 1) := by decide +kernel
theorem dX10_sort_102 : decode cX10_sort 102 = .ok (.iload 5, 2) := by decide +kernel
theorem dX10_sort_104 : decode cX10_sort 104 = .ok (.iload_n 2, 1) := by decide +kernel
theorem dX10_sort_105 : decode cX10_sort 105 = .ok (.isub, 1) := by decide +kernel
theorem dX10_sort_106 : decode cX10_sort 106 = .ok (.iaload, 1) := by decide +kernel
theorem dX10_sort_107 : decode cX10_sort 107 = .ok (.iastore, 1) := by decide +kernel
theorem dX10_sort_108 : decode cX10_sort 108 = .ok (.iload 5, 2) := by decide +kernel
theorem dX10_sort_11 : decode cX10_sort 11 = .ok (.if_icmp .ge 31, 3) := by decide +kernel
theorem dX10_sort_110 : decode cX10_sort 110 = .ok (.iload_n 2, 1) := by decide +kernel
theorem dX10_sort_111 : decode cX10_sort 111 = .ok (.isub, 1) := by decide +kernel
theorem dX10_sort_112 : decode cX10_sort 112 = .ok (.istore 5, 2) := by decide +kernel
theorem dX10_sort_114 : decode cX10_sort 114 = .ok (.goto (-46), 3) := by decide +kernel
theorem dX10_sort_117 : decode cX10_sort 117 = .ok (.aload_n 0, 1) := by decide +kernel
theorem dX10_sort_118 : decode cX10_sort 118 = .ok (.getfield 129, 3) := by decide +kernel
theorem dX10_sort_121 : decode cX10_sort 121 = .ok (.iload 5, 2) := by decide +kernel
theorem dX10_sort_123 : decode cX10_sort 123 = .ok (.iload 4, 2) := by decide +kernel
theorem dX10_sort_125 : decode cX10_sort 125 = .ok (.iastore, 1) := by decide +kernel
theorem dX10_sort_126 : decode cX10_sort 126 = .ok (.iinc 3 1, 3) := by decide +kernel
theorem dX10_sort_129 : decode cX10_sort 129 = .ok (.goto (-77), 3) := by decide +kernel
theorem dX10_sort_132 : decode cX10_sort 132 = .ok (.iload_n 2, 1) := by decide +kernel
theorem dX10_sort_133 : decode cX10_sort 133 = .ok (.iconst 2, 1) := by decide +kernel
theorem dX10_sort_134 : decode cX10_sort 134 = .ok (.idiv, 1) := by decide +kernel
theorem dX10_sort_135 : decode cX10_sort 135 = .ok (.istore_n 2, 1) := by decide +kernel
theorem dX10_sort_136 : decode cX10_sort 136 = .ok (.goto (-90), 3) := by decide +kernel
theorem dX10_sort_139 : decode cX10_sort 139 = .ok (.aload_n 0, 1) := by decide +kernel
theorem dX10_sort_14 : decode cX10_sort 14 = .ok (.aload_n 0, 1) := by decide +kernel
theorem dX10_sort_140 : decode cX10_sort 140 = .ok (.iconst 1, 1) := by decide +kernel
theorem dX10_sort_141 : decode cX10_sort 141 = .ok (.putfield 297, 3) := by decide +kernel
theorem dX10_sort_144 : decode cX10_sort 144 = .ok (.return_, 1) := by decide +kernel
theorem dX10_sort_15 : decode cX10_sort 15 = .ok (.getfield 62, 3) := by decide +kernel
theorem dX10_sort_18 : decode cX10_sort 18 = .ok (.iload_n 2, 1) := by decide +kernel
theorem dX10_sort_19 : decode cX10_sort 19 = .ok (.iaload, 1) := by decide +kernel
theorem dX10_sort_2 : decode cX10_sort 2 = .ok (.iconst 0, 1) := by decide +kernel
theorem dX10_sort_20 : decode cX10_sort 20 = .ok (.ifCond .ge 6, 3) := by decide +kernel
theorem dX10_sort_23 : decode cX10_sort 23 = .ok (.goto 13, 3) := by decide +kernel
theorem dX10_sort_26 : decode cX10_sort 26 = .ok (.aload_n 0, 1) := by decide +kernel
theorem dX10_sort_27 : decode cX10_sort 27 = .ok (.getfield 129, 3) := by decide +kernel
theorem dX10_sort_3 : decode cX10_sort 3 = .ok (.istore_n 2, 1) := by decide +kernel
theorem dX10_sort_30 : decode cX10_sort 30 = .ok (.iload_n 1, 1) := by decide +kernel
theorem dX10_sort_31 : decode cX10_sort 31 = .ok (.iload_n 2, 1) := by decide +kernel
theorem dX10_sort_32 : decode cX10_sort 32 = .ok (.iastore, 1) := by decide +kernel
theorem dX10_sort_33 : decode cX10_sort 33 = .ok (.iinc 1 1, 3) := by decide +kernel
theorem dX10_sort_36 : decode cX10_sort 36 = .ok (.iinc 2 1, 3) := by decide +kernel
theorem dX10_sort_39 : decode cX10_sort 39 = .ok (.goto (-35), 3) := by decide +kernel
theorem dX10_sort_4 : decode cX10_sort 4 = .ok (.iload_n 2, 1) := by decide +kernel
theorem dX10_sort_42 : decode cX10_sort 42 = .ok (.sipush 8192, 3) := by decide +kernel
theorem dX10_sort_45 : decode cX10_sort 45 = .ok (.istore_n 2, 1) := by decide +kernel
theorem dX10_sort_46 : decode cX10_sort 46 = .ok (.iload_n 2, 1) := by decide +kernel
theorem dX10_sort_47 : decode cX10_sort 47 = .ok (.ifCond .le 92, 3) := by decide +kernel
theorem dX10_sort_5 : decode cX10_sort 5 = .ok (.iconst 1, 1) := by decide +kernel
theorem dX10_sort_50 : decode cX10_sort 50 = .ok (.iload_n 2, 1) := by decide +kernel
theorem dX10_sort_51 : decode cX10_sort 51 = .ok (.istore_n 3, 1) := by decide +kernel
theorem dX10_sort_52 : decode cX10_sort 52 = .ok (.iload_n 3, 1) := by decide +kernel
theorem dX10_sort_53 : decode cX10_sort 53 = .ok (.iload_n 1, 1) := by decide +kernel
theorem dX10_sort_54 : decode cX10_sort 54 = .ok (.if_icmp .ge 78, 3) := by decide +kernel
theorem dX10_sort_57 : decode cX10_sort 57 = .ok (.aload_n 0, 1) := by decide +kernel
theorem dX10_sort_58 : decode cX10_sort 58 = .ok (.getfield 129, 3) := by decide +kernel
theorem dX10_sort_6 : decode cX10_sort 6 = .ok (.aload_n 0, 1) := by decide +kernel
theorem dX10_sort_61 : decode cX10_sort 61 = .ok (.iload_n 3, 1) := by decide +kernel
theorem dX10_sort_62 : decode cX10_sort 62 = .ok (.iaload, 1) := by decide +kernel
theorem dX10_sort_63 : decode cX10_sort 63 = .ok (.istore 4, 2) := by decide +kernel
theorem dX10_sort_65 : decode cX10_sort 65 = .ok (.iload_n 3, 1) := by decide +kernel
theorem dX10_sort_66 : decode cX10_sort 66 = .ok (.istore 5, 2) := by decide +kernel
theorem dX10_sort_68 : decode cX10_sort 68 = .ok (.iload 5, 2) := by decide +kernel
theorem dX10_sort_7 : decode cX10_sort 7 = .ok (.getfield 233, 3) := by decide +kernel
theorem dX10_sort_70 : decode cX10_sort 70 = .ok (.iload_n 2, 1) := by decide +kernel
theorem dX10_sort_71 : decode cX10_sort 71 = .ok (.if_icmp .lt 46, 3) := by decide +kernel
theorem dX10_sort_74 : decode cX10_sort 74 = .ok (.aload_n 0, 1) := by decide +kernel
theorem dX10_sort_75 : decode cX10_sort 75 = .ok (.iload 4, 2) := by decide +kernel
theorem dX10_sort_77 : decode cX10_sort 77 = .ok (.aload_n 0, 1) := by decide +kernel
theorem dX10_sort_78 : decode cX10_sort 78 = .ok (.getfield 129, 3) := by decide +kernel
theorem dX10_sort_81 : decode cX10_sort 81 = .ok (.iload 5, 2) := by decide +kernel
theorem dX10_sort_83 : decode cX10_sort 83 = .ok (.iload_n 2, 1) := by decide +kernel
theorem dX10_sort_84 : decode cX10_sort 84 = .ok (.isub, 1) := by decide +kernel
theorem dX10_sort_85 : decode cX10_sort 85 = .ok (.iaload, 1) := by decide +kernel
theorem dX10_sort_86 : decode cX10_sort 86 = .ok (.invokevirtual 313, 3) := by decide +kernel
theorem dX10_sort_89 : decode cX10_sort 89 = .ok (.ifCond .eq 28, 3) := by decide +kernel
theorem dX10_sort_92 : decode cX10_sort 92 = .ok (.aload_n 0, 1) := by decide +kernel
theorem dX10_sort_93 : decode cX10_sort 93 = .ok (.getfield 129, 3) := by decide +kernel
theorem dX10_sort_96 : decode cX10_sort 96 = .ok (.iload 5, 2) := by decide +kernel
theorem dX10_sort_98 : decode cX10_sort 98 = .ok (.aload_n 0, 1) := by decide +kernel
theorem dX10_sort_99 : decode cX10_sort 99 = .ok (.getfield 129, 3) := by decide +kernel
theorem dX10_turned_0 : decode cX10_turned 0 = .ok (.aload_n 0, 1) := by decide +kernel
theorem dX10_turned_1 : decode cX10_turned 1 = .ok (.iconst 0, 1) := by decide +kernel
theorem dX10_turned_10 : decode cX10_turned 10 = .ok (.ifCond .eq 15, 3) := by decide +kernel
theorem dX10_turned_101 : decode cX10_turned 101 = .ok (.iload 6, 2) := by decide +kernel
theorem dX10_turned_103 : decode cX10_turned 103 = .ok (.if_icmp .lt 20, 3) := by decide +kernel
theorem dX10_turned_106 : decode cX10_turned 106 = .ok (.iload 5, 2) := by decide +kernel
theorem dX10_turned_108 : decode cX10_turned 108 = .ok (.iload 6, 2) := by decide +kernel
theorem dX10_turned_110 : decode cX10_turned 110 = .ok (.if_icmp .ne 16, 3) := by decide +kernel
theorem dX10_turned_113 : decode cX10_turned 113 = .ok (.aload_n 0, 1) := by decide +kernel
theorem dX10_turned_114 : decode cX10_turned 114 = .ok (.iload 4, 2) := by decide +kernel
theorem dX10_turned_116 : decode cX10_turned 116 = .ok (.iload_n 3, 1) := by decide +kernel
theorem dX10_turned_117 : decode cX10_turned 117 = .ok (.invokevirtual 313, 3) := by decide +kernel
theorem dX10_turned_120 : decode cX10_turned 120 = .ok (.ifCond .eq 6, 3) := by decide +kernel
theorem dX10_turned_123 : decode cX10_turned 123 = .ok (.iload 4, 2) := by decide +kernel
theorem dX10_turned_125 : decode cX10_turned 125 = .ok (.istore_n 3, 1) := by decide +kernel
theorem dX10_turned_126 : decode cX10_turned 126 = .ok (.iinc 4 1, 3) := by decide +kernel
theorem dX10_turned_129 : decode cX10_turned 129 = .ok (.goto (-97), 3) := by decide +kernel
theorem dX10_turned_13 : decode cX10_turned 13 = .ok (.iload_n 2, 1) := by decide +kernel
theorem dX10_turned_132 : decode cX10_turned 132 = .ok (.iload_n 3, 1) := by decide +kernel
theorem dX10_turned_133 : decode cX10_turned 133 = .ok (.ireturn, 1) := by decide +kernel
theorem dX10_turned_14 : decode cX10_turned 14 = .ok (.ifCond .lt 11, 3) := by decide +kernel
theorem dX10_turned_17 : decode cX10_turned 17 = .ok (.iload_n 2, 1) := by decide +kernel
theorem dX10_turned_18 : decode cX10_turned 18 = .ok (.aload_n 0, 1) := by decide +kernel
theorem dX10_turned_19 : decode cX10_turned 19 = .ok (.getfield 233, 3) := by decide +kernel
theorem dX10_turned_2 : decode cX10_turned 2 = .ok (.putfield 135, 3) := by decide +kernel
theorem dX10_turned_22 : decode cX10_turned 22 = .ok (.if_icmp .lt 5, 3) := by decide +kernel
theorem dX10_turned_25 : decode cX10_turned 25 = .ok (.iconst (-1), 1) := by decide +kernel
theorem dX10_turned_26 : decode cX10_turned 26 = .ok (.ireturn, 1) := by decide +kernel
theorem dX10_turned_27 : decode cX10_turned 27 = .ok (.iconst (-1), 1) := by decide +kernel
theorem dX10_turned_28 : decode cX10_turned 28 = .ok (.istore_n 3, 1) := by decide +kernel
theorem dX10_turned_29 : decode cX10_turned 29 = .ok (.iconst 0, 1) := by decide +kernel
theorem dX10_turned_30 : decode cX10_turned 30 = .ok (.istore 4, 2) := by decide +kernel
theorem dX10_turned_32 : decode cX10_turned 32 = .ok (.iload 4, 2) := by decide +kernel
theorem dX10_turned_34 : decode cX10_turned 34 = .ok (.iconst 1, 1) := by decide +kernel
theorem dX10_turned_35 : decode cX10_turned 35 = .ok (.aload_n 0, 1) := by decide +kernel
theorem dX10_turned_36 : decode cX10_turned 36 = .ok (.getfield 233, 3) := by decide +kernel
theorem dX10_turned_39 : decode cX10_turned 39 = .ok (.ishl, 1) := by decide +kernel
theorem dX10_turned_40 : decode cX10_turned 40 = .ok (.if_icmp .ge 92, 3) := by decide +kernel
theorem dX10_turned_43 : decode cX10_turned 43 = .ok (.aload_n 0, 1) := by decide +kernel
theorem dX10_turned_44 : decode cX10_turned 44 = .ok (.getfield 62, 3) := by decide +kernel
theorem dX10_turned_47 : decode cX10_turned 47 = .ok (.iload 4, 2) := by decide +kernel
theorem dX10_turned_49 : decode cX10_turned 49 = .ok (.iaload, 1) := by decide +kernel
theorem dX10_turned_5 : decode cX10_turned 5 = .ok (.aload_n 0, 1) := by decide +kernel
theorem dX10_turned_50 : decode cX10_turned 50 = .ok (.ifCond .lt 76, 3) := by decide +kernel
theorem dX10_turned_53 : decode cX10_turned 53 = .ok (.iload 4, 2) := by decide +kernel
theorem dX10_turned_55 : decode cX10_turned 55 = .ok (.iload_n 2, 1) := by decide +kernel
theorem dX10_turned_56 : decode cX10_turned 56 = .ok (.invokestatic 251, 3) := by decide +kernel
theorem dX10_turned_59 : decode cX10_turned 59 = .ok (.iload_n 1, 1) := by decide +kernel
theorem dX10_turned_6 : decode cX10_turned 6 = .ok (.iload_n 1, 1) := by decide +kernel
theorem dX10_turned_60 : decode cX10_turned 60 = .ok (.iload_n 2, 1) := by decide +kernel
theorem dX10_turned_61 : decode cX10_turned 61 = .ok (.invokestatic 251, 3) := by decide +kernel
theorem dX10_turned_64 : decode cX10_turned 64 = .ok (.if_icmp .ne 6, 3) := by decide +kernel
theorem dX10_turned_67 : decode cX10_turned 67 = .ok (.goto 59, 3) := by decide +kernel
theorem dX10_turned_7 : decode cX10_turned 7 = .ok (.invokevirtual 310, 3) := by decide +kernel
theorem dX10_turned_70 : decode cX10_turned 70 = .ok (.iload 4, 2) := by decide +kernel
theorem dX10_turned_72 : decode cX10_turned 72 = .ok (.iload_n 1, 1) := by decide +kernel
theorem dX10_turned_73 : decode cX10_turned 73 = .ok (.ixor, 1) := by decide +kernel
theorem dX10_turned_74 : decode cX10_turned 74 = .ok (.invokestatic 319, 3) := by decide +kernel
theorem dX10_turned_77 : decode cX10_turned 77 = .ok (.istore 5, 2) := by decide +kernel
theorem dX10_turned_79 : decode cX10_turned 79 = .ok (.iload_n 3, 1) := by decide +kernel
theorem dX10_turned_80 : decode cX10_turned 80 = .ok (.ifCond .ge 7, 3) := by decide +kernel
theorem dX10_turned_83 : decode cX10_turned 83 = .ok (.iconst 0, 1) := by decide +kernel
theorem dX10_turned_84 : decode cX10_turned 84 = .ok (.goto 9, 3) := by decide +kernel
theorem dX10_turned_87 : decode cX10_turned 87 = .ok (.iload_n 3, 1) := by decide +kernel
theorem dX10_turned_88 : decode cX10_turned 88 = .ok (.iload_n 1, 1) := by decide +kernel
theorem dX10_turned_89 : decode cX10_turned 89 = .ok (.ixor, 1) := by decide +kernel
theorem dX10_turned_90 : decode cX10_turned 90 = .ok (.invokestatic 319, 3) := by decide +kernel
theorem dX10_turned_93 : decode cX10_turned 93 = .ok (.istore 6, 2) := by decide +kernel
theorem dX10_turned_95 : decode cX10_turned 95 = .ok (.iload_n 3, 1) := by decide +kernel
theorem dX10_turned_96 : decode cX10_turned 96 = .ok (.ifCond .lt 27, 3) := by decide +kernel
theorem dX10_turned_99 : decode cX10_turned 99 = .ok (.iload 5, 2) := by decide +kernel
set_option maxRecDepth 20000 in
theorem ggX10_best_X10_ahead : GoodIn wsX10_best wsX10_ahead := goodIn_r _ [8, 9, 3, 10, 11, 12, 13, 14, 15, 16, 17, 18, 19, 20, 21, 22, 23, 24, 25, 26, 27, 28, 29, 30, 31, 32, 33, 34, 35, 36, 37, 38, 39, 40, 41, 42, 43, 44, 45, 46, 47, 48, 49, 50, 51, 52, 53, 54, 55, 56, 57, 58, 59, 60, 61, 62, 63, 64, 65, 66, 67, 68, 69, 70, 71, 72, 73, 74, 75] rfl (by decide +kernel)
set_option maxRecDepth 20000 in
theorem gX10_best_X10_ahead : GoodIn wsX10_best (wsV RX10 313 RX10 yX10_ahead wsX10_ahead) := goodIn_app (goodIn_of _ (by decide +kernel)) ggX10_best_X10_ahead
set_option maxRecDepth 20000 in
theorem ggX10_sort_X10_ahead : GoodIn wsX10_sort wsX10_ahead := goodIn_r _ [9, 10, 2, 11, 12, 13, 14, 15, 16, 17, 18, 19, 20, 21, 22, 23, 24, 25, 26, 27, 28, 29, 30, 31, 32, 33, 34, 35, 36, 37, 38, 39, 40, 41, 42, 43, 44, 45, 46, 47, 48, 49, 50, 51, 52, 53, 54, 55, 56, 57, 58, 59, 60, 61, 62, 63, 64, 65, 66, 67, 68, 69, 70, 71, 72, 73, 74, 75, 76] rfl (by decide +kernel)
set_option maxRecDepth 20000 in
theorem gX10_sort_X10_ahead : GoodIn wsX10_sort (wsV RX10 313 RX10 yX10_ahead wsX10_ahead) := goodIn_app (goodIn_of _ (by decide +kernel)) ggX10_sort_X10_ahead
set_option maxRecDepth 20000 in
theorem ggX10_ranked_X10_sort : GoodIn wsX10_ranked wsX10_sort := goodIn_r _ [9, 10, 11, 4, 3, 12, 13, 14, 8, 15, 16, 17, 18, 19, 20, 21, 22, 23, 24, 25, 26, 27, 28, 29, 30, 31, 32, 33, 34, 35, 36, 37, 38, 39, 40, 41, 42, 43, 44, 45, 46, 47, 48, 49, 50, 51, 52, 53, 54, 55, 56, 57, 58, 59, 60, 61, 62, 63, 64, 65, 66, 67, 68, 69, 70, 71, 72, 73, 74, 75, 76, 77, 78, 79, 80, 81, 82] rfl (by decide +kernel)
set_option maxRecDepth 20000 in
theorem gX10_ranked_X10_sort : GoodIn wsX10_ranked (wsV RX10 316 RX10 yX10_sort wsX10_sort) := goodIn_app (goodIn_of _ (by decide +kernel)) ggX10_ranked_X10_sort
set_option maxRecDepth 20000 in
theorem ggX10_least_X10_told : GoodIn wsX10_least wsX10_told := goodIn_r _ [9, 3, 10, 11, 12, 13, 14, 15, 8, 16, 17, 18, 19, 20, 21, 22, 23, 24, 25, 26, 27, 28, 29, 30, 31, 32, 33, 34, 35, 36, 37, 38, 39, 40, 41, 42, 43, 44, 45, 46, 47, 48, 49, 50, 51, 52, 53, 54, 55, 56, 57, 58, 59, 60, 61, 62, 63, 64, 65, 66, 67, 68, 69, 70, 71, 72, 73, 74, 75, 76, 77, 78, 79, 80, 81, 82, 83, 84, 85, 86] rfl (by decide +kernel)
set_option maxRecDepth 20000 in
theorem gX10_least_X10_told : GoodIn wsX10_least (wsV RX10 274 RX10 yX10_told wsX10_told) := goodIn_app (goodIn_of _ (by decide +kernel)) ggX10_least_X10_told
set_option maxRecDepth 20000 in
theorem ggX10_turned_X10_soundOne : GoodIn wsX10_turned wsX10_soundOne := goodIn_r _ [8, 3, 9, 10, 11, 7, 12, 2, 24, 25, 26, 27, 28, 29, 30, 31, 32, 33, 34, 35, 36, 37, 38, 39, 40, 41, 42, 43, 44, 45, 46, 47, 48, 49, 50, 51, 52, 53, 54, 55, 56, 57, 58, 59, 60, 61, 62, 63, 64, 65, 66, 67, 68, 69, 70, 71, 72, 73, 74, 75, 76, 77, 78, 79, 80, 81, 82, 83, 84, 85, 86, 87, 88, 89] rfl (by decide +kernel)
set_option maxRecDepth 20000 in
theorem gX10_turned_X10_soundOne : GoodIn wsX10_turned (wsV RX10 310 RX10 yX10_soundOne wsX10_soundOne) := goodIn_app (goodIn_of _ (by decide +kernel)) ggX10_turned_X10_soundOne
set_option maxRecDepth 20000 in
theorem ggX10_turned_X10_has : GoodIn wsX10_turned wsX10_has := goodIn_r _ [15] rfl (by decide +kernel)
set_option maxRecDepth 20000 in
theorem gX10_turned_X10_has : GoodIn wsX10_turned (va_wsS RX10 251 yX10_has wsX10_has) := goodIn_app (goodIn_of _ (by decide +kernel)) ggX10_turned_X10_has
set_option maxRecDepth 20000 in
theorem ggX10_turned_X10_bits : GoodIn wsX10_turned wsX10_bits := goodIn_r _ [18] rfl (by decide +kernel)
set_option maxRecDepth 20000 in
theorem gX10_turned_X10_bits : GoodIn wsX10_turned (va_wsS RX10 319 yX10_bits wsX10_bits) := goodIn_app (goodIn_of _ (by decide +kernel)) ggX10_turned_X10_bits
set_option maxRecDepth 20000 in
theorem ggX10_turned_X10_ahead : GoodIn wsX10_turned wsX10_ahead := goodIn_r _ [22, 23, 3, 24, 25, 26, 27, 28, 29, 30, 31, 32, 33, 34, 35, 36, 37, 38, 39, 40, 41, 42, 43, 44, 45, 46, 47, 48, 49, 50, 51, 52, 53, 54, 55, 56, 57, 58, 59, 60, 61, 62, 63, 64, 65, 66, 67, 68, 69, 70, 71, 72, 73, 74, 75, 76, 77, 78, 79, 80, 81, 82, 83, 84, 85, 86, 87, 88, 89] rfl (by decide +kernel)
set_option maxRecDepth 20000 in
theorem gX10_turned_X10_ahead : GoodIn wsX10_turned (wsV RX10 313 RX10 yX10_ahead wsX10_ahead) := goodIn_app (goodIn_of _ (by decide +kernel)) ggX10_turned_X10_ahead
set_option maxHeartbeats 4000000 in
set_option maxRecDepth 100000 in
theorem y3_ahead (l : Launch) (D : va_G) (c : Nat → ClassId) (sz : Nat) (y : Nat) (a : Nat → Nat) (v_tapeSize v_thrown v_fault v_faultPlace v_things v_options v_lists v_sentences v_headings v_words v_factBits v_known v_soundMany v_wholeLength v_next v_end v_rThings v_rOptions v_rLists v_rSentences v_rHeadings v_lastName v_inSentence v_open v_written v_named v_sorted : Int32) (f_tape f_kind f_owner f_from f_size f_means f_signs f_oKind f_oIn f_oList f_oWords f_oFacts f_listIn f_sOwner f_hFacts f_weights f_lengths f_values f_rKind f_rOwner f_rFrom f_rSize f_rMeans f_rOKind f_rOIn f_rOList f_rOFacts f_rListIn f_rSOwner f_rHFacts f_rWeights f_opKind f_opFrom f_opWord f_opOwner f_opList f_opItems f_out f_ranks : Nat → Int32) (x_a : Int32) (x_b : Int32) (h0 : 0 ≤ x_a.toInt) (h1 : x_a.toInt < 16384) (h2 : 0 ≤ x_b.toInt) (h3 : x_b.toInt < 16384) : Met l yX10_ahead wsX10_ahead ({ frames := 0, cells := 0, slots := 0, locals := 0 }) (q3_P D c (wM c y a v_tapeSize v_thrown v_fault v_faultPlace v_things v_options v_lists v_sentences v_headings v_words v_factBits v_known v_soundMany v_wholeLength v_next v_end v_rThings v_rOptions v_rLists v_rSentences v_rHeadings v_lastName v_inSentence v_open v_written v_named v_sorted f_tape f_kind f_owner f_from f_size f_means f_signs f_oKind f_oIn f_oList f_oWords f_oFacts f_listIn f_sOwner f_hFacts f_weights f_lengths f_values f_rKind f_rOwner f_rFrom f_rSize f_rMeans f_rOKind f_rOIn f_rOList f_rOFacts f_rListIn f_rSOwner f_rHFacts f_rWeights f_opKind f_opFrom f_opWord f_opOwner f_opList f_opItems f_out f_ranks) sz [.ref y, .int x_a, .int x_b]) (q2_i D (wM c y a v_tapeSize v_thrown v_fault v_faultPlace v_things v_options v_lists v_sentences v_headings v_words v_factBits v_known v_soundMany v_wholeLength v_next v_end v_rThings v_rOptions v_rLists v_rSentences v_rHeadings v_lastName v_inSentence v_open v_written v_named v_sorted f_tape f_kind f_owner f_from f_size f_means f_signs f_oKind f_oIn f_oList f_oWords f_oFacts f_listIn f_sOwner f_hFacts f_weights f_lengths f_values f_rKind f_rOwner f_rFrom f_rSize f_rMeans f_rOKind f_rOIn f_rOList f_rOFacts f_rListIn f_rSOwner f_rHFacts f_rWeights f_opKind f_opFrom f_opWord f_opOwner f_opList f_opItems f_out f_ranks) sz (fun r u => (r.toInt = 0 ∨ r.toInt = 1) ∧ True) (fun u => wM c y a v_tapeSize v_thrown v_fault v_faultPlace v_things v_options v_lists v_sentences v_headings v_words v_factBits v_known v_soundMany v_wholeLength v_next v_end v_rThings v_rOptions v_rLists v_rSentences v_rHeadings v_lastName v_inSentence v_open v_written v_named v_sorted f_tape f_kind f_owner f_from f_size f_means f_signs f_oKind f_oIn f_oList f_oWords f_oFacts f_listIn f_sOwner f_hFacts f_weights f_lengths f_values f_rKind f_rOwner f_rFrom f_rSize f_rMeans f_rOKind f_rOIn f_rOList f_rOFacts f_rListIn f_rSOwner f_rHFacts f_rWeights f_opKind f_opFrom f_opWord f_opOwner f_opList f_opItems f_out f_ranks)) (0) (0) (va_A (wM c y a v_tapeSize v_thrown v_fault v_faultPlace v_things v_options v_lists v_sentences v_headings v_words v_factBits v_known v_soundMany v_wholeLength v_next v_end v_rThings v_rOptions v_rLists v_rSentences v_rHeadings v_lastName v_inSentence v_open v_written v_named v_sorted f_tape f_kind f_owner f_from f_size f_means f_signs f_oKind f_oIn f_oList f_oWords f_oFacts f_listIn f_sOwner f_hFacts f_weights f_lengths f_values f_rKind f_rOwner f_rFrom f_rSize f_rMeans f_rOKind f_rOIn f_rOList f_rOFacts f_rListIn f_rSOwner f_rHFacts f_rWeights f_opKind f_opFrom f_opWord f_opOwner f_opList f_opItems f_out f_ranks) sz) := by
  refine q3_of_i (ty := .boolean) (fun r u h => q3_nb h.1) (cc := cX10_ahead) (maxL := 3) (by decide) rfl (Nat.le_of_ble_eq_true rfl) (fun p e s m args below meth cd A Q ls hx hb hml hown hts hA hS hP hD hK hl hret => ?_)
  have hown : s.vm.findClass RX10 = some m.cls := hown
  obtain ⟨H, eH⟩ : ∃ z, z = s.heap := ⟨_, rfl⟩
  have hP : va_P D vwCl (wM c y a v_tapeSize v_thrown v_fault v_faultPlace v_things v_options v_lists v_sentences v_headings v_words v_factBits v_known v_soundMany v_wholeLength v_next v_end v_rThings v_rOptions v_rLists v_rSentences v_rHeadings v_lastName v_inSentence v_open v_written v_named v_sorted f_tape f_kind f_owner f_from f_size f_means f_signs f_oKind f_oIn f_oList f_oWords f_oFacts f_listIn f_sOwner f_hFacts f_weights f_lengths f_values f_rKind f_rOwner f_rFrom f_rSize f_rMeans f_rOKind f_rOIn f_rOList f_rOFacts f_rListIn f_rSOwner f_rHFacts f_rWeights f_opKind f_opFrom f_opWord f_opOwner f_opList f_opItems f_out f_ranks) H := by rw [eH]; exact hP
  have hS : va_S A s.heap H [] := by rw [eH]; exact hS
  rw [← eH]
  have iX10 : ∀ w ∈ wsX100, w ∈ wsX10_ahead := fun w h => List.mem_cons_of_mem _ (List.mem_append_right _ h)
  have hl : lv_has ls 3 [(0, .ref y), (1, .int x_a), (2, .int x_b)] := hl
  refine lv_aload_n hx hb dX10_ahead_0 rfl (lv_at hl 0 rfl) ?_
  refine va_get (D := D) (ci := 10) (v := .ref (a 17)) (C := RX10) (T := TX10) (N := 66) hx hb hts iX10 hown hK hP 0 rfl rfl 29 (by decide) (hts (.fieldLink RX10 65 "ShortTellerModel" "values" "[I") (List.mem_of_getElem? (i := 1) rfl)) (fun _ h9 => h9) rfl dX10_ahead_1 ?_
  refine lv_iload_n hx hb dX10_ahead_4 rfl (lv_at hl 1 rfl) ?_
  refine q3_iald (c := c) hx hb hK hP 18 rfl (q2_in (by omega) (by omega)) dX10_ahead_5 (fun n1 en1 => ?_)
  have tn1 : n1.toInt = (f_values x_a.toNatClampNeg).toInt := by rw [en1]
  refine lv_aload_n hx hb dX10_ahead_6 rfl (lv_at hl 0 rfl) ?_
  refine va_get (D := D) (ci := 10) (v := .ref (a 17)) (C := RX10) (T := TX10) (N := 66) hx hb hts iX10 hown hK hP 0 rfl rfl 29 (by decide) (hts (.fieldLink RX10 65 "ShortTellerModel" "values" "[I") (List.mem_of_getElem? (i := 1) rfl)) (fun _ h9 => h9) rfl dX10_ahead_7 ?_
  refine lv_iload_n hx hb dX10_ahead_10 rfl (lv_at hl 2 rfl) ?_
  refine q3_iald (c := c) hx hb hK hP 18 rfl (q2_in (by omega) (by omega)) dX10_ahead_11 (fun n2 en2 => ?_)
  have tn2 : n2.toInt = (f_values x_b.toNatClampNeg).toInt := by rw [en2]
  refine lv_icmp_eq (tgt := 36) hx hb dX10_ahead_12 (by decide) (fun g3 => ?_) (fun g3 => ?_)
  · have g3 : n1.toInt = n2.toInt := (q3_eq rfl rfl).mp g3
    refine lv_aload_n hx hb dX10_ahead_36 rfl (lv_at hl 0 rfl) ?_
    refine va_get (D := D) (ci := 10) (v := .ref (a 16)) (C := RX10) (T := TX10) (N := 66) hx hb hts iX10 hown hK hP 0 rfl rfl 28 (by decide) (hts (.fieldLink RX10 62 "ShortTellerModel" "lengths" "[I") (List.mem_of_getElem? (i := 2) rfl)) (fun _ h9 => h9) rfl dX10_ahead_37 ?_
    refine lv_iload_n hx hb dX10_ahead_40 rfl (lv_at hl 1 rfl) ?_
    refine q3_iald (c := c) hx hb hK hP 17 rfl (q2_in (by omega) (by omega)) dX10_ahead_41 (fun n4 en4 => ?_)
    have tn4 : n4.toInt = (f_lengths x_a.toNatClampNeg).toInt := by rw [en4]
    refine lv_aload_n hx hb dX10_ahead_42 rfl (lv_at hl 0 rfl) ?_
    refine va_get (D := D) (ci := 10) (v := .ref (a 16)) (C := RX10) (T := TX10) (N := 66) hx hb hts iX10 hown hK hP 0 rfl rfl 28 (by decide) (hts (.fieldLink RX10 62 "ShortTellerModel" "lengths" "[I") (List.mem_of_getElem? (i := 2) rfl)) (fun _ h9 => h9) rfl dX10_ahead_43 ?_
    refine lv_iload_n hx hb dX10_ahead_46 rfl (lv_at hl 2 rfl) ?_
    refine q3_iald (c := c) hx hb hK hP 17 rfl (q2_in (by omega) (by omega)) dX10_ahead_47 (fun n5 en5 => ?_)
    have tn5 : n5.toInt = (f_lengths x_b.toNatClampNeg).toInt := by rw [en5]
    refine lv_icmp_lt (tgt := 71) hx hb dX10_ahead_48 (by decide) (fun g6 => ?_) (fun g6 => ?_)
    · have g6 : n4.toInt < n5.toInt := (q3_lt rfl rfl).mp g6
      refine lv_iconst (v := 1) hx hb dX10_ahead_71 (by decide) ?_
      refine lv_goto (tgt := 76) hx hb dX10_ahead_72 (by decide) ?_
      exact hret (1) (q2_u [] [] []) _ _ _ _ ⟨(show (1 : Int) = 0 ∨ (1 : Int) = 1 by omega), trivial⟩ dX10_ahead_76 hP hD hS
    · have g6 : ¬ n4.toInt < n5.toInt := (not_congr (q3_lt rfl rfl)).mp g6
      refine lv_aload_n hx hb dX10_ahead_51 rfl (lv_at hl 0 rfl) ?_
      refine va_get (D := D) (ci := 10) (v := .ref (a 16)) (C := RX10) (T := TX10) (N := 66) hx hb hts iX10 hown hK hP 0 rfl rfl 28 (by decide) (hts (.fieldLink RX10 62 "ShortTellerModel" "lengths" "[I") (List.mem_of_getElem? (i := 2) rfl)) (fun _ h9 => h9) rfl dX10_ahead_52 ?_
      refine lv_iload_n hx hb dX10_ahead_55 rfl (lv_at hl 1 rfl) ?_
      refine q3_iald (c := c) hx hb hK hP 17 rfl (q2_in (by omega) (by omega)) dX10_ahead_56 (fun n7 en7 => ?_)
      have tn7 : n7.toInt = (f_lengths x_a.toNatClampNeg).toInt := by rw [en7]
      refine lv_aload_n hx hb dX10_ahead_57 rfl (lv_at hl 0 rfl) ?_
      refine va_get (D := D) (ci := 10) (v := .ref (a 16)) (C := RX10) (T := TX10) (N := 66) hx hb hts iX10 hown hK hP 0 rfl rfl 28 (by decide) (hts (.fieldLink RX10 62 "ShortTellerModel" "lengths" "[I") (List.mem_of_getElem? (i := 2) rfl)) (fun _ h9 => h9) rfl dX10_ahead_58 ?_
      refine lv_iload_n hx hb dX10_ahead_61 rfl (lv_at hl 2 rfl) ?_
      refine q3_iald (c := c) hx hb hK hP 17 rfl (q2_in (by omega) (by omega)) dX10_ahead_62 (fun n8 en8 => ?_)
      have tn8 : n8.toInt = (f_lengths x_b.toNatClampNeg).toInt := by rw [en8]
      refine lv_icmp_ne (tgt := 75) hx hb dX10_ahead_63 (by decide) (fun g9 => ?_) (fun g9 => ?_)
      · have g9 : ¬ n7.toInt = n8.toInt := (not_congr (q3_eq rfl rfl)).mp g9
        refine lv_iconst (v := 0) hx hb dX10_ahead_75 (by decide) ?_
        exact hret (0) (q2_u [] [] []) _ _ _ _ ⟨(show (0 : Int) = 0 ∨ (0 : Int) = 1 by omega), trivial⟩ dX10_ahead_76 hP hD hS
      · have g9 : n7.toInt = n8.toInt := (q3_eq rfl rfl).mp g9
        refine lv_iload_n hx hb dX10_ahead_66 rfl (lv_at hl 1 rfl) ?_
        refine lv_iload_n hx hb dX10_ahead_67 rfl (lv_at hl 2 rfl) ?_
        refine lv_icmp_ge (tgt := 75) hx hb dX10_ahead_68 (by decide) (fun g10 => ?_) (fun g10 => ?_)
        · have g10 : x_b.toInt ≤ x_a.toInt := (q3_le rfl rfl).mp g10
          refine lv_iconst (v := 0) hx hb dX10_ahead_75 (by decide) ?_
          exact hret (0) (q2_u [] [] []) _ _ _ _ ⟨(show (0 : Int) = 0 ∨ (0 : Int) = 1 by omega), trivial⟩ dX10_ahead_76 hP hD hS
        · have g10 : ¬ x_b.toInt ≤ x_a.toInt := (not_congr (q3_le rfl rfl)).mp g10
          refine lv_iconst (v := 1) hx hb dX10_ahead_71 (by decide) ?_
          refine lv_goto (tgt := 76) hx hb dX10_ahead_72 (by decide) ?_
          exact hret (1) (q2_u [] [] []) _ _ _ _ ⟨(show (1 : Int) = 0 ∨ (1 : Int) = 1 by omega), trivial⟩ dX10_ahead_76 hP hD hS
  · have g3 : ¬ n1.toInt = n2.toInt := (not_congr (q3_eq rfl rfl)).mp g3
    refine lv_aload_n hx hb dX10_ahead_15 rfl (lv_at hl 0 rfl) ?_
    refine va_get (D := D) (ci := 10) (v := .ref (a 17)) (C := RX10) (T := TX10) (N := 66) hx hb hts iX10 hown hK hP 0 rfl rfl 29 (by decide) (hts (.fieldLink RX10 65 "ShortTellerModel" "values" "[I") (List.mem_of_getElem? (i := 1) rfl)) (fun _ h9 => h9) rfl dX10_ahead_16 ?_
    refine lv_iload_n hx hb dX10_ahead_19 rfl (lv_at hl 1 rfl) ?_
    refine q3_iald (c := c) hx hb hK hP 18 rfl (q2_in (by omega) (by omega)) dX10_ahead_20 (fun n11 en11 => ?_)
    have tn11 : n11.toInt = (f_values x_a.toNatClampNeg).toInt := by rw [en11]
    refine lv_aload_n hx hb dX10_ahead_21 rfl (lv_at hl 0 rfl) ?_
    refine va_get (D := D) (ci := 10) (v := .ref (a 17)) (C := RX10) (T := TX10) (N := 66) hx hb hts iX10 hown hK hP 0 rfl rfl 29 (by decide) (hts (.fieldLink RX10 65 "ShortTellerModel" "values" "[I") (List.mem_of_getElem? (i := 1) rfl)) (fun _ h9 => h9) rfl dX10_ahead_22 ?_
    refine lv_iload_n hx hb dX10_ahead_25 rfl (lv_at hl 2 rfl) ?_
    refine q3_iald (c := c) hx hb hK hP 18 rfl (q2_in (by omega) (by omega)) dX10_ahead_26 (fun n12 en12 => ?_)
    have tn12 : n12.toInt = (f_values x_b.toNatClampNeg).toInt := by rw [en12]
    refine lv_icmp_le (tgt := 34) hx hb dX10_ahead_27 (by decide) (fun g13 => ?_) (fun g13 => ?_)
    · have g13 : n11.toInt ≤ n12.toInt := (q3_le rfl rfl).mp g13
      refine lv_iconst (v := 0) hx hb dX10_ahead_34 (by decide) ?_
      exact hret (0) (q2_u [] [] []) _ _ _ _ ⟨(show (0 : Int) = 0 ∨ (0 : Int) = 1 by omega), trivial⟩ dX10_ahead_35 hP hD hS
    · have g13 : ¬ n11.toInt ≤ n12.toInt := (not_congr (q3_le rfl rfl)).mp g13
      refine lv_iconst (v := 1) hx hb dX10_ahead_30 (by decide) ?_
      refine lv_goto (tgt := 35) hx hb dX10_ahead_31 (by decide) ?_
      exact hret (1) (q2_u [] [] []) _ _ _ _ ⟨(show (1 : Int) = 0 ∨ (1 : Int) = 1 by omega), trivial⟩ dX10_ahead_35 hP hD hS
set_option maxHeartbeats 4000000 in
set_option maxRecDepth 100000 in
theorem y3_best (l : Launch) (D : va_G) (c : Nat → ClassId) (sz : Nat) (y : Nat) (a : Nat → Nat) (v_tapeSize v_thrown v_fault v_faultPlace v_things v_options v_lists v_sentences v_headings v_words v_factBits v_known v_soundMany v_wholeLength v_next v_end v_rThings v_rOptions v_rLists v_rSentences v_rHeadings v_lastName v_inSentence v_open v_written v_named v_sorted : Int32) (f_tape f_kind f_owner f_from f_size f_means f_signs f_oKind f_oIn f_oList f_oWords f_oFacts f_listIn f_sOwner f_hFacts f_weights f_lengths f_values f_rKind f_rOwner f_rFrom f_rSize f_rMeans f_rOKind f_rOIn f_rOList f_rOFacts f_rListIn f_rSOwner f_rHFacts f_rWeights f_opKind f_opFrom f_opWord f_opOwner f_opList f_opItems f_out f_ranks : Nat → Int32) (x_room : Int32) (h0 : 0 ≤ v_options.toInt) (h1 : v_options.toInt ≤ 14) : Met l yX10_best wsX10_best ({ frames := 1, cells := 0, slots := 0, locals := 22 }) (q3_P D c (wM c y a v_tapeSize v_thrown v_fault v_faultPlace v_things v_options v_lists v_sentences v_headings v_words v_factBits v_known v_soundMany v_wholeLength v_next v_end v_rThings v_rOptions v_rLists v_rSentences v_rHeadings v_lastName v_inSentence v_open v_written v_named v_sorted f_tape f_kind f_owner f_from f_size f_means f_signs f_oKind f_oIn f_oList f_oWords f_oFacts f_listIn f_sOwner f_hFacts f_weights f_lengths f_values f_rKind f_rOwner f_rFrom f_rSize f_rMeans f_rOKind f_rOIn f_rOList f_rOFacts f_rListIn f_rSOwner f_rHFacts f_rWeights f_opKind f_opFrom f_opWord f_opOwner f_opList f_opItems f_out f_ranks) sz [.ref y, .int x_room]) (q2_i D (wM c y a v_tapeSize v_thrown v_fault v_faultPlace v_things v_options v_lists v_sentences v_headings v_words v_factBits v_known v_soundMany v_wholeLength v_next v_end v_rThings v_rOptions v_rLists v_rSentences v_rHeadings v_lastName v_inSentence v_open v_written v_named v_sorted f_tape f_kind f_owner f_from f_size f_means f_signs f_oKind f_oIn f_oList f_oWords f_oFacts f_listIn f_sOwner f_hFacts f_weights f_lengths f_values f_rKind f_rOwner f_rFrom f_rSize f_rMeans f_rOKind f_rOIn f_rOList f_rOFacts f_rListIn f_rSOwner f_rHFacts f_rWeights f_opKind f_opFrom f_opWord f_opOwner f_opList f_opItems f_out f_ranks) sz (fun r u => True) (fun u => wM c y a v_tapeSize (u.2.1 0) v_fault v_faultPlace v_things v_options v_lists v_sentences v_headings v_words v_factBits v_known v_soundMany v_wholeLength v_next v_end v_rThings v_rOptions v_rLists v_rSentences v_rHeadings v_lastName v_inSentence v_open v_written v_named v_sorted f_tape f_kind f_owner f_from f_size f_means f_signs f_oKind f_oIn f_oList f_oWords f_oFacts f_listIn f_sOwner f_hFacts f_weights f_lengths f_values f_rKind f_rOwner f_rFrom f_rSize f_rMeans f_rOKind f_rOIn f_rOList f_rOFacts f_rListIn f_rSOwner f_rHFacts f_rWeights f_opKind f_opFrom f_opWord f_opOwner f_opList f_opItems f_out f_ranks)) (0) (0) (va_A (wM c y a v_tapeSize v_thrown v_fault v_faultPlace v_things v_options v_lists v_sentences v_headings v_words v_factBits v_known v_soundMany v_wholeLength v_next v_end v_rThings v_rOptions v_rLists v_rSentences v_rHeadings v_lastName v_inSentence v_open v_written v_named v_sorted f_tape f_kind f_owner f_from f_size f_means f_signs f_oKind f_oIn f_oList f_oWords f_oFacts f_listIn f_sOwner f_hFacts f_weights f_lengths f_values f_rKind f_rOwner f_rFrom f_rSize f_rMeans f_rOKind f_rOIn f_rOList f_rOFacts f_rListIn f_rSOwner f_rHFacts f_rWeights f_opKind f_opFrom f_opWord f_opOwner f_opList f_opItems f_out f_ranks) sz) := by
  refine q3_of_i (ty := .int) (fun _ _ _ => rfl) (cc := cX10_best) (maxL := 4) (by decide) rfl (Nat.le_of_ble_eq_true rfl) (fun p e s m args below meth cd A Q ls hx hb hml hown hts hA hS hP hD hK hl hret => ?_)
  have hown : s.vm.findClass RX10 = some m.cls := hown
  obtain ⟨H, eH⟩ : ∃ z, z = s.heap := ⟨_, rfl⟩
  have hP : va_P D vwCl (wM c y a v_tapeSize v_thrown v_fault v_faultPlace v_things v_options v_lists v_sentences v_headings v_words v_factBits v_known v_soundMany v_wholeLength v_next v_end v_rThings v_rOptions v_rLists v_rSentences v_rHeadings v_lastName v_inSentence v_open v_written v_named v_sorted f_tape f_kind f_owner f_from f_size f_means f_signs f_oKind f_oIn f_oList f_oWords f_oFacts f_listIn f_sOwner f_hFacts f_weights f_lengths f_values f_rKind f_rOwner f_rFrom f_rSize f_rMeans f_rOKind f_rOIn f_rOList f_rOFacts f_rListIn f_rSOwner f_rHFacts f_rWeights f_opKind f_opFrom f_opWord f_opOwner f_opList f_opItems f_out f_ranks) H := by rw [eH]; exact hP
  have hS : va_S A s.heap H [] := by rw [eH]; exact hS
  rw [← eH]
  have iX10 : ∀ w ∈ wsX100, w ∈ wsX10_best := fun w h => List.mem_cons_of_mem _ (List.mem_append_right _ h)
  have hl : lv_has ls 4 [(0, .ref y), (1, .int x_room)] := hl
  refine lv_aload_n hx hb dX10_best_0 rfl (lv_at hl 0 rfl) ?_
  refine lv_iconst (v := 0) hx hb dX10_best_1 (by decide) ?_
  refine va_put (D := D) (ci := 10) (v := .int 0) (ty := .int) (C := RX10) (T := TX10) (N := 66) hx hb hts iX10 tyX10 tyX10_ok nmX10 hown hK hP hD hS 0 rfl rfl 2 (by decide) (hts (.fieldLink RX10 135 "ShortTellerModel" "thrown" "I") (List.mem_of_getElem? (i := 1) rfl)) (fun _ h9 => h9) rfl (by decide +kernel) rfl rfl (Nat.le_of_ble_eq_true rfl) dX10_best_2 (fun H locs hP hD hS => ?_)
  have hP : va_P D vwCl (wM c y a v_tapeSize (0) v_fault v_faultPlace v_things v_options v_lists v_sentences v_headings v_words v_factBits v_known v_soundMany v_wholeLength v_next v_end v_rThings v_rOptions v_rLists v_rSentences v_rHeadings v_lastName v_inSentence v_open v_written v_named v_sorted f_tape f_kind f_owner f_from f_size f_means f_signs f_oKind f_oIn f_oList f_oWords f_oFacts f_listIn f_sOwner f_hFacts f_weights f_lengths f_values f_rKind f_rOwner f_rFrom f_rSize f_rMeans f_rOKind f_rOIn f_rOList f_rOFacts f_rListIn f_rSOwner f_rHFacts f_rWeights f_opKind f_opFrom f_opWord f_opOwner f_opList f_opItems f_out f_ranks) H := hP
  have hD : va_D A (wM c y a v_tapeSize (0) v_fault v_faultPlace v_things v_options v_lists v_sentences v_headings v_words v_factBits v_known v_soundMany v_wholeLength v_next v_end v_rThings v_rOptions v_rLists v_rSentences v_rHeadings v_lastName v_inSentence v_open v_written v_named v_sorted f_tape f_kind f_owner f_from f_size f_means f_signs f_oKind f_oIn f_oList f_oWords f_oFacts f_listIn f_sOwner f_hFacts f_weights f_lengths f_values f_rKind f_rOwner f_rFrom f_rSize f_rMeans f_rOKind f_rOIn f_rOList f_rOFacts f_rListIn f_rSOwner f_rHFacts f_rWeights f_opKind f_opFrom f_opWord f_opOwner f_opList f_opItems f_out f_ranks) := hD
  refine lv_iload_n hx hb dX10_best_5 rfl (lv_at hl 1 rfl) ?_
  refine lv_if_ge (tgt := 11) hx hb dX10_best_6 (by decide) (fun g1 => ?_) (fun g1 => ?_)
  · have g1 : (0 : Int) ≤ x_room.toInt := (q3_le (by decide) rfl).mp g1
    refine lv_iconst (v := -1) hx hb dX10_best_11 (by decide) ?_
    refine lv_istore_n (lv' := [(2, .int (-1)), (0, .ref y), (1, .int x_room)]) hx hb dX10_best_12 rfl hl (by decide) rfl (fun ls hl => ?_)
    refine lv_iconst (v := 0) hx hb dX10_best_13 (by decide) ?_
    refine lv_istore_n (lv' := [(3, .int 0), (2, .int (-1)), (0, .ref y), (1, .int x_room)]) hx hb dX10_best_14 rfl hl (by decide) rfl (fun ls hl => ?_)
    have lp15 : ∀ (k : Nat) (s2_15 : Int32) (s3_15 : Int32), (-1 ≤ s2_15.toInt) → (s2_15.toInt < 16384) → (0 ≤ s3_15.toInt) → (s3_15.toInt ≤ 16384) → 16385 - s3_15.toInt < (k : Int) → ∀ (H : Heap) (locs : List Loc) (ls : Array Slot), va_P D vwCl (wM c y a v_tapeSize (0) v_fault v_faultPlace v_things v_options v_lists v_sentences v_headings v_words v_factBits v_known v_soundMany v_wholeLength v_next v_end v_rThings v_rOptions v_rLists v_rSentences v_rHeadings v_lastName v_inSentence v_open v_written v_named v_sorted f_tape f_kind f_owner f_from f_size f_means f_signs f_oKind f_oIn f_oList f_oWords f_oFacts f_listIn f_sOwner f_hFacts f_weights f_lengths f_values f_rKind f_rOwner f_rFrom f_rSize f_rMeans f_rOKind f_rOIn f_rOList f_rOFacts f_rListIn f_rSOwner f_rHFacts f_rWeights f_opKind f_opFrom f_opWord f_opOwner f_opList f_opItems f_out f_ranks) H → va_D A (wM c y a v_tapeSize (0) v_fault v_faultPlace v_things v_options v_lists v_sentences v_headings v_words v_factBits v_known v_soundMany v_wholeLength v_next v_end v_rThings v_rOptions v_rLists v_rSentences v_rHeadings v_lastName v_inSentence v_open v_written v_named v_sorted f_tape f_kind f_owner f_from f_size f_means f_signs f_oKind f_oIn f_oList f_oWords f_oFacts f_listIn f_sOwner f_hFacts f_weights f_lengths f_values f_rKind f_rOwner f_rFrom f_rSize f_rMeans f_rOKind f_rOIn f_rOList f_rOFacts f_rListIn f_rSOwner f_rHFacts f_rWeights f_opKind f_opFrom f_opWord f_opOwner f_opList f_opItems f_out f_ranks) → va_S A s.heap H locs → lv_has ls 4 [(3, .int s3_15), (2, .int s2_15), (0, .ref y), (1, .int x_room)] → W p l e ({ frames := 1, cells := 0, slots := 0, locals := 22 }) s m args below meth cd H locs 0 0 Q (F0 m 15 ls []) := by
      intro k
      induction k with
      | zero => intro s2_15 s3_15 j0_15 j1_15 j2_15 j3_15 hm; exfalso; omega
      | succ k ih_15 =>
        intro s2_15 s3_15 j0_15 j1_15 j2_15 j3_15 hm_15 H locs ls hP hD hS hl
        refine lv_iload_n hx hb dX10_best_15 rfl (lv_at hl 0 rfl) ?_
        refine lv_iconst (v := 1) hx hb dX10_best_16 (by decide) ?_
        refine lv_aload_n hx hb dX10_best_17 rfl (lv_at hl 2 rfl) ?_
        refine va_get (D := D) (ci := 10) (v := .int v_options) (C := RX10) (T := TX10) (N := 66) hx hb hts iX10 hown hK hP 0 rfl rfl 12 (by decide) (hts (.fieldLink RX10 233 "ShortTellerModel" "options" "I") (List.mem_of_getElem? (i := 2) rfl)) (fun _ h9 => h9) rfl dX10_best_18 ?_
        refine lv_ishl hx hb dX10_best_21 ?_
        refine lv_topi (fun n2 en2 => ?_)
        have tn2 := q3_sh en2 (by omega) (by omega)
        refine lv_icmp_ge (tgt := 65) hx hb dX10_best_22 (by decide) (fun g3 => ?_) (fun g3 => ?_)
        · have g3 : n2.toInt ≤ s3_15.toInt := (q3_le rfl rfl).mp g3
          refine lv_iload_n hx hb dX10_best_65 rfl (lv_at hl 1 rfl) ?_
          exact hret (s2_15) (q2_u [] [0] []) _ _ _ _ trivial dX10_best_66 hP hD hS
        · have g3 : ¬ n2.toInt ≤ s3_15.toInt := (not_congr (q3_le rfl rfl)).mp g3
          refine lv_aload_n hx hb dX10_best_25 rfl (lv_at hl 2 rfl) ?_
          refine va_get (D := D) (ci := 10) (v := .ref (a 16)) (C := RX10) (T := TX10) (N := 66) hx hb hts iX10 hown hK hP 0 rfl rfl 28 (by decide) (hts (.fieldLink RX10 62 "ShortTellerModel" "lengths" "[I") (List.mem_of_getElem? (i := 3) rfl)) (fun _ h9 => h9) rfl dX10_best_26 ?_
          refine lv_iload_n hx hb dX10_best_29 rfl (lv_at hl 0 rfl) ?_
          refine q3_iald (c := c) hx hb hK hP 17 rfl (q2_in (by omega) (by omega)) dX10_best_30 (fun n4 en4 => ?_)
          have tn4 : n4.toInt = (f_lengths s3_15.toNatClampNeg).toInt := by rw [en4]
          refine lv_if_lt (tgt := 59) hx hb dX10_best_31 (by decide) (fun g5 => ?_) (fun g5 => ?_)
          · have g5 : n4.toInt < (0 : Int) := (q3_lt rfl (by decide)).mp g5
            obtain ⟨n6, en6⟩ : ∃ z : Int32, z = s3_15 + (1) := ⟨_, rfl⟩
            have tn6 : n6.toInt = s3_15.toInt + (1 : Int) := q3_add en6 rfl (by decide) (by omega) (by omega)
            refine lv_iinc (v := n6) (lv' := [(3, .int n6), (2, .int s2_15), (0, .ref y), (1, .int x_room)]) hx hb dX10_best_59 hl (k := 0) rfl (by rw [en6]; rfl) (by decide) rfl (fun ls hl => ?_)
            refine lv_goto (tgt := 15) hx hb dX10_best_62 (by decide) ?_
            exact ih_15 s2_15 n6 j0_15 j1_15 (show 0 ≤ n6.toInt by omega) (show n6.toInt ≤ 16384 by omega) (show 16385 - n6.toInt < _ by omega) _ _ _ hP hD hS hl
          · have g5 : ¬ n4.toInt < (0 : Int) := (not_congr (q3_lt rfl (by decide))).mp g5
            refine lv_aload_n hx hb dX10_best_34 rfl (lv_at hl 2 rfl) ?_
            refine va_get (D := D) (ci := 10) (v := .ref (a 16)) (C := RX10) (T := TX10) (N := 66) hx hb hts iX10 hown hK hP 0 rfl rfl 28 (by decide) (hts (.fieldLink RX10 62 "ShortTellerModel" "lengths" "[I") (List.mem_of_getElem? (i := 3) rfl)) (fun _ h9 => h9) rfl dX10_best_35 ?_
            refine lv_iload_n hx hb dX10_best_38 rfl (lv_at hl 0 rfl) ?_
            refine q3_iald (c := c) hx hb hK hP 17 rfl (q2_in (by omega) (by omega)) dX10_best_39 (fun n7 en7 => ?_)
            have tn7 : n7.toInt = (f_lengths s3_15.toNatClampNeg).toInt := by rw [en7]
            refine lv_iload_n hx hb dX10_best_40 rfl (lv_at hl 3 rfl) ?_
            refine lv_icmp_gt (tgt := 59) hx hb dX10_best_41 (by decide) (fun g8 => ?_) (fun g8 => ?_)
            · have g8 : x_room.toInt < n7.toInt := (q3_lt rfl rfl).mp g8
              obtain ⟨n9, en9⟩ : ∃ z : Int32, z = s3_15 + (1) := ⟨_, rfl⟩
              have tn9 : n9.toInt = s3_15.toInt + (1 : Int) := q3_add en9 rfl (by decide) (by omega) (by omega)
              refine lv_iinc (v := n9) (lv' := [(3, .int n9), (2, .int s2_15), (0, .ref y), (1, .int x_room)]) hx hb dX10_best_59 hl (k := 0) rfl (by rw [en9]; rfl) (by decide) rfl (fun ls hl => ?_)
              refine lv_goto (tgt := 15) hx hb dX10_best_62 (by decide) ?_
              exact ih_15 s2_15 n9 j0_15 j1_15 (show 0 ≤ n9.toInt by omega) (show n9.toInt ≤ 16384 by omega) (show 16385 - n9.toInt < _ by omega) _ _ _ hP hD hS hl
            · have g8 : ¬ x_room.toInt < n7.toInt := (not_congr (q3_lt rfl rfl)).mp g8
              refine lv_iload_n hx hb dX10_best_44 rfl (lv_at hl 1 rfl) ?_
              refine lv_if_lt (tgt := 57) hx hb dX10_best_45 (by decide) (fun g10 => ?_) (fun g10 => ?_)
              · have g10 : s2_15.toInt < (0 : Int) := (q3_lt rfl (by decide)).mp g10
                refine lv_iload_n hx hb dX10_best_57 rfl (lv_at hl 0 rfl) ?_
                refine lv_istore_n (lv' := [(2, .int s3_15), (3, .int s3_15), (0, .ref y), (1, .int x_room)]) hx hb dX10_best_58 rfl hl (by decide) rfl (fun ls hl => ?_)
                obtain ⟨n11, en11⟩ : ∃ z : Int32, z = s3_15 + (1) := ⟨_, rfl⟩
                have tn11 : n11.toInt = s3_15.toInt + (1 : Int) := q3_add en11 rfl (by decide) (by omega) (by omega)
                refine lv_iinc (v := n11) (lv' := [(3, .int n11), (2, .int s3_15), (0, .ref y), (1, .int x_room)]) hx hb dX10_best_59 hl (k := 1) rfl (by rw [en11]; rfl) (by decide) rfl (fun ls hl => ?_)
                refine lv_goto (tgt := 15) hx hb dX10_best_62 (by decide) ?_
                exact ih_15 s3_15 n11 (show -1 ≤ s3_15.toInt by omega) (show s3_15.toInt < 16384 by omega) (show 0 ≤ n11.toInt by omega) (show n11.toInt ≤ 16384 by omega) (show 16385 - n11.toInt < _ by omega) _ _ _ hP hD hS hl
              · have g10 : ¬ s2_15.toInt < (0 : Int) := (not_congr (q3_lt rfl (by decide))).mp g10
                refine lv_aload_n hx hb dX10_best_48 rfl (lv_at hl 2 rfl) ?_
                refine lv_iload_n hx hb dX10_best_49 rfl (lv_at hl 0 rfl) ?_
                refine lv_iload_n hx hb dX10_best_50 rfl (lv_at hl 1 rfl) ?_
                refine q3_ci (va_runV (As := [.int s3_15, .int s2_15]) (rest := []) ⟨hx, hb, hml, hown, hts⟩ (y3_ahead l D c H.size y a v_tapeSize (0) v_fault v_faultPlace v_things v_options v_lists v_sentences v_headings v_words v_factBits v_known v_soundMany v_wholeLength v_next v_end v_rThings v_rOptions v_rLists v_rSentences v_rHeadings v_lastName v_inSentence v_open v_written v_named v_sorted f_tape f_kind f_owner f_from f_size f_means f_signs f_oKind f_oIn f_oList f_oWords f_oFacts f_listIn f_sOwner f_hFacts f_weights f_lengths f_values f_rKind f_rOwner f_rFrom f_rSize f_rMeans f_rOKind f_rOIn f_rOList f_rOFacts f_rListIn f_rSOwner f_rHFacts f_rWeights f_opKind f_opFrom f_opWord f_opOwner f_opList f_opItems f_out f_ranks s3_15 s2_15 j2_15 (show s3_15.toInt < 16384 by omega) (show 0 ≤ s2_15.toInt by omega) j1_15) (cwV 2 hts gX10_best_X10_ahead rfl rfl rfl (by decide +kernel) ⟨Nat.le_of_ble_eq_true rfl, Nat.le_of_ble_eq_true rfl⟩) (q3_preV (c := c) (ci := 10) (q0 := 0) hP hK hD rfl rfl) rfl rfl hl.1 rfl (lv_room (Nat.le_of_ble_eq_true rfl)) dX10_best_51 ⟨Nat.le_of_ble_eq_true rfl, Nat.le_of_ble_eq_true rfl⟩) hD hS hA (fun n12 un12 H locs pn12 hP hD hS => ?_)
                have pn12 : (n12.toInt = 0 ∨ n12.toInt = 1) ∧ True := pn12
                obtain ⟨pn12_0, -⟩ := pn12
                have hP : va_P D vwCl (wM c y a v_tapeSize (0) v_fault v_faultPlace v_things v_options v_lists v_sentences v_headings v_words v_factBits v_known v_soundMany v_wholeLength v_next v_end v_rThings v_rOptions v_rLists v_rSentences v_rHeadings v_lastName v_inSentence v_open v_written v_named v_sorted f_tape f_kind f_owner f_from f_size f_means f_signs f_oKind f_oIn f_oList f_oWords f_oFacts f_listIn f_sOwner f_hFacts f_weights f_lengths f_values f_rKind f_rOwner f_rFrom f_rSize f_rMeans f_rOKind f_rOIn f_rOList f_rOFacts f_rListIn f_rSOwner f_rHFacts f_rWeights f_opKind f_opFrom f_opWord f_opOwner f_opList f_opItems f_out f_ranks) H := hP
                have hD : va_D A (wM c y a v_tapeSize (0) v_fault v_faultPlace v_things v_options v_lists v_sentences v_headings v_words v_factBits v_known v_soundMany v_wholeLength v_next v_end v_rThings v_rOptions v_rLists v_rSentences v_rHeadings v_lastName v_inSentence v_open v_written v_named v_sorted f_tape f_kind f_owner f_from f_size f_means f_signs f_oKind f_oIn f_oList f_oWords f_oFacts f_listIn f_sOwner f_hFacts f_weights f_lengths f_values f_rKind f_rOwner f_rFrom f_rSize f_rMeans f_rOKind f_rOIn f_rOList f_rOFacts f_rListIn f_rSOwner f_rHFacts f_rWeights f_opKind f_opFrom f_opWord f_opOwner f_opList f_opItems f_out f_ranks) := hD
                refine lv_if_eq (tgt := 59) hx hb dX10_best_54 (by decide) (fun g13 => ?_) (fun g13 => ?_)
                · have g13 : n12.toInt = (0 : Int) := (q3_eq rfl (by decide)).mp g13
                  obtain ⟨n14, en14⟩ : ∃ z : Int32, z = s3_15 + (1) := ⟨_, rfl⟩
                  have tn14 : n14.toInt = s3_15.toInt + (1 : Int) := q3_add en14 rfl (by decide) (by omega) (by omega)
                  refine lv_iinc (v := n14) (lv' := [(3, .int n14), (2, .int s2_15), (0, .ref y), (1, .int x_room)]) hx hb dX10_best_59 hl (k := 0) rfl (by rw [en14]; rfl) (by decide) rfl (fun ls hl => ?_)
                  refine lv_goto (tgt := 15) hx hb dX10_best_62 (by decide) ?_
                  exact ih_15 s2_15 n14 j0_15 j1_15 (show 0 ≤ n14.toInt by omega) (show n14.toInt ≤ 16384 by omega) (show 16385 - n14.toInt < _ by omega) _ _ _ hP hD hS hl
                · have g13 : ¬ n12.toInt = (0 : Int) := (not_congr (q3_eq rfl (by decide))).mp g13
                  refine lv_iload_n hx hb dX10_best_57 rfl (lv_at hl 0 rfl) ?_
                  refine lv_istore_n (lv' := [(2, .int s3_15), (3, .int s3_15), (0, .ref y), (1, .int x_room)]) hx hb dX10_best_58 rfl hl (by decide) rfl (fun ls hl => ?_)
                  obtain ⟨n15, en15⟩ : ∃ z : Int32, z = s3_15 + (1) := ⟨_, rfl⟩
                  have tn15 : n15.toInt = s3_15.toInt + (1 : Int) := q3_add en15 rfl (by decide) (by omega) (by omega)
                  refine lv_iinc (v := n15) (lv' := [(3, .int n15), (2, .int s3_15), (0, .ref y), (1, .int x_room)]) hx hb dX10_best_59 hl (k := 1) rfl (by rw [en15]; rfl) (by decide) rfl (fun ls hl => ?_)
                  refine lv_goto (tgt := 15) hx hb dX10_best_62 (by decide) ?_
                  exact ih_15 s3_15 n15 (show -1 ≤ s3_15.toInt by omega) (show s3_15.toInt < 16384 by omega) (show 0 ≤ n15.toInt by omega) (show n15.toInt ≤ 16384 by omega) (show 16385 - n15.toInt < _ by omega) _ _ _ hP hD hS hl
    exact lp15 (Int.toNat (16385 - (0 : Int)) + 1) (-1) (0) (show -1 ≤ (-1 : Int) by omega) (show (-1 : Int) < 16384 by omega) (show 0 ≤ (0 : Int) by omega) (show (0 : Int) ≤ 16384 by omega) (show 16385 - (0 : Int) < ((Int.toNat (16385 - (0 : Int)) + 1 : Nat) : Int) by omega) _ _ _ hP hD hS hl
  · have g1 : ¬ (0 : Int) ≤ x_room.toInt := (not_congr (q3_le (by decide) rfl)).mp g1
    refine lv_iconst (v := -1) hx hb dX10_best_9 (by decide) ?_
    exact hret (-1) (q2_u [] [0] []) _ _ _ _ trivial dX10_best_10 hP hD hS
set_option maxHeartbeats 4000000 in
set_option maxRecDepth 100000 in
theorem y3_sort (l : Launch) (D : va_G) (c : Nat → ClassId) (sz : Nat) (y : Nat) (a : Nat → Nat) (v_tapeSize v_thrown v_fault v_faultPlace v_things v_options v_lists v_sentences v_headings v_words v_factBits v_known v_soundMany v_wholeLength v_next v_end v_rThings v_rOptions v_rLists v_rSentences v_rHeadings v_lastName v_inSentence v_open v_written v_named v_sorted : Int32) (f_tape f_kind f_owner f_from f_size f_means f_signs f_oKind f_oIn f_oList f_oWords f_oFacts f_listIn f_sOwner f_hFacts f_weights f_lengths f_values f_rKind f_rOwner f_rFrom f_rSize f_rMeans f_rOKind f_rOIn f_rOList f_rOFacts f_rListIn f_rSOwner f_rHFacts f_rWeights f_opKind f_opFrom f_opWord f_opOwner f_opList f_opItems f_out f_ranks : Nat → Int32) (h0 : 0 ≤ v_options.toInt) (h1 : v_options.toInt ≤ 14) (h2 : ∀ j : Nat, 0 ≤ (f_ranks j).toInt ∧ (f_ranks j).toInt < 16384) : Met l yX10_sort wsX10_sort ({ frames := 1, cells := 0, slots := 0, locals := 22 }) (q3_P D c (wM c y a v_tapeSize v_thrown v_fault v_faultPlace v_things v_options v_lists v_sentences v_headings v_words v_factBits v_known v_soundMany v_wholeLength v_next v_end v_rThings v_rOptions v_rLists v_rSentences v_rHeadings v_lastName v_inSentence v_open v_written v_named v_sorted f_tape f_kind f_owner f_from f_size f_means f_signs f_oKind f_oIn f_oList f_oWords f_oFacts f_listIn f_sOwner f_hFacts f_weights f_lengths f_values f_rKind f_rOwner f_rFrom f_rSize f_rMeans f_rOKind f_rOIn f_rOList f_rOFacts f_rListIn f_rSOwner f_rHFacts f_rWeights f_opKind f_opFrom f_opWord f_opOwner f_opList f_opItems f_out f_ranks) sz [.ref y]) (q2_v D (wM c y a v_tapeSize v_thrown v_fault v_faultPlace v_things v_options v_lists v_sentences v_headings v_words v_factBits v_known v_soundMany v_wholeLength v_next v_end v_rThings v_rOptions v_rLists v_rSentences v_rHeadings v_lastName v_inSentence v_open v_written v_named v_sorted f_tape f_kind f_owner f_from f_size f_means f_signs f_oKind f_oIn f_oList f_oWords f_oFacts f_listIn f_sOwner f_hFacts f_weights f_lengths f_values f_rKind f_rOwner f_rFrom f_rSize f_rMeans f_rOKind f_rOIn f_rOList f_rOFacts f_rListIn f_rSOwner f_rHFacts f_rWeights f_opKind f_opFrom f_opWord f_opOwner f_opList f_opItems f_out f_ranks) sz (fun u => (∀ j : Nat, 0 ≤ ((u.2.2 0) j).toInt ∧ ((u.2.2 0) j).toInt < 16384) ∧ True) (fun u => wM c y a v_tapeSize v_thrown v_fault v_faultPlace v_things v_options v_lists v_sentences v_headings v_words v_factBits v_known v_soundMany v_wholeLength v_next v_end v_rThings v_rOptions v_rLists v_rSentences v_rHeadings v_lastName v_inSentence v_open v_written v_named (u.2.1 0) f_tape f_kind f_owner f_from f_size f_means f_signs f_oKind f_oIn f_oList f_oWords f_oFacts f_listIn f_sOwner f_hFacts f_weights f_lengths f_values f_rKind f_rOwner f_rFrom f_rSize f_rMeans f_rOKind f_rOIn f_rOList f_rOFacts f_rListIn f_rSOwner f_rHFacts f_rWeights f_opKind f_opFrom f_opWord f_opOwner f_opList f_opItems f_out (u.2.2 0))) (0) (0) (va_A (wM c y a v_tapeSize v_thrown v_fault v_faultPlace v_things v_options v_lists v_sentences v_headings v_words v_factBits v_known v_soundMany v_wholeLength v_next v_end v_rThings v_rOptions v_rLists v_rSentences v_rHeadings v_lastName v_inSentence v_open v_written v_named v_sorted f_tape f_kind f_owner f_from f_size f_means f_signs f_oKind f_oIn f_oList f_oWords f_oFacts f_listIn f_sOwner f_hFacts f_weights f_lengths f_values f_rKind f_rOwner f_rFrom f_rSize f_rMeans f_rOKind f_rOIn f_rOList f_rOFacts f_rListIn f_rSOwner f_rHFacts f_rWeights f_opKind f_opFrom f_opWord f_opOwner f_opList f_opItems f_out f_ranks) sz) := by
  refine q3_of_v (cc := cX10_sort) (maxL := 6) (by decide) rfl (Nat.le_of_ble_eq_true rfl) (fun p e s m args below meth cd A Q ls hx hb hml hown hts hA hS hP hD hK hl hret => ?_)
  have hown : s.vm.findClass RX10 = some m.cls := hown
  obtain ⟨H, eH⟩ : ∃ z, z = s.heap := ⟨_, rfl⟩
  have hP : va_P D vwCl (wM c y a v_tapeSize v_thrown v_fault v_faultPlace v_things v_options v_lists v_sentences v_headings v_words v_factBits v_known v_soundMany v_wholeLength v_next v_end v_rThings v_rOptions v_rLists v_rSentences v_rHeadings v_lastName v_inSentence v_open v_written v_named v_sorted f_tape f_kind f_owner f_from f_size f_means f_signs f_oKind f_oIn f_oList f_oWords f_oFacts f_listIn f_sOwner f_hFacts f_weights f_lengths f_values f_rKind f_rOwner f_rFrom f_rSize f_rMeans f_rOKind f_rOIn f_rOList f_rOFacts f_rListIn f_rSOwner f_rHFacts f_rWeights f_opKind f_opFrom f_opWord f_opOwner f_opList f_opItems f_out f_ranks) H := by rw [eH]; exact hP
  have hS : va_S A s.heap H [] := by rw [eH]; exact hS
  rw [← eH]
  have iX10 : ∀ w ∈ wsX100, w ∈ wsX10_sort := fun w h => List.mem_cons_of_mem _ (List.mem_append_right _ h)
  have hl : lv_has ls 6 [(0, .ref y)] := hl
  refine lv_iconst (v := 0) hx hb dX10_sort_0 (by decide) ?_
  refine lv_istore_n (lv' := [(1, .int 0), (0, .ref y)]) hx hb dX10_sort_1 rfl hl (by decide) rfl (fun ls hl => ?_)
  refine lv_iconst (v := 0) hx hb dX10_sort_2 (by decide) ?_
  refine lv_istore_n (lv' := [(2, .int 0), (1, .int 0), (0, .ref y)]) hx hb dX10_sort_3 rfl hl (by decide) rfl (fun ls hl => ?_)
  have lp4 : ∀ (k : Nat) (s1_4 : Int32) (s2_4 : Int32) (y_ranks_4 : Nat → Int32), (0 ≤ s1_4.toInt) → (s1_4.toInt ≤ s2_4.toInt) → (s2_4.toInt ≤ 16384) → (s1_4.toInt ≤ 16384) → (∀ j : Nat, 0 ≤ (y_ranks_4 j).toInt ∧ (y_ranks_4 j).toInt < 16384) → 16385 - s2_4.toInt < (k : Int) → ∀ (H : Heap) (locs : List Loc) (ls : Array Slot), va_P D vwCl (wM c y a v_tapeSize v_thrown v_fault v_faultPlace v_things v_options v_lists v_sentences v_headings v_words v_factBits v_known v_soundMany v_wholeLength v_next v_end v_rThings v_rOptions v_rLists v_rSentences v_rHeadings v_lastName v_inSentence v_open v_written v_named v_sorted f_tape f_kind f_owner f_from f_size f_means f_signs f_oKind f_oIn f_oList f_oWords f_oFacts f_listIn f_sOwner f_hFacts f_weights f_lengths f_values f_rKind f_rOwner f_rFrom f_rSize f_rMeans f_rOKind f_rOIn f_rOList f_rOFacts f_rListIn f_rSOwner f_rHFacts f_rWeights f_opKind f_opFrom f_opWord f_opOwner f_opList f_opItems f_out y_ranks_4) H → va_D A (wM c y a v_tapeSize v_thrown v_fault v_faultPlace v_things v_options v_lists v_sentences v_headings v_words v_factBits v_known v_soundMany v_wholeLength v_next v_end v_rThings v_rOptions v_rLists v_rSentences v_rHeadings v_lastName v_inSentence v_open v_written v_named v_sorted f_tape f_kind f_owner f_from f_size f_means f_signs f_oKind f_oIn f_oList f_oWords f_oFacts f_listIn f_sOwner f_hFacts f_weights f_lengths f_values f_rKind f_rOwner f_rFrom f_rSize f_rMeans f_rOKind f_rOIn f_rOList f_rOFacts f_rListIn f_rSOwner f_rHFacts f_rWeights f_opKind f_opFrom f_opWord f_opOwner f_opList f_opItems f_out y_ranks_4) → va_S A s.heap H locs → lv_has ls 6 [(2, .int s2_4), (1, .int s1_4), (0, .ref y)] → W p l e ({ frames := 1, cells := 0, slots := 0, locals := 22 }) s m args below meth cd H locs 0 0 Q (F0 m 4 ls []) := by
    intro k
    induction k with
    | zero => intro s1_4 s2_4 y_ranks_4 j0_4 j1_4 j2_4 j3_4 j4_4 hm; exfalso; omega
    | succ k ih_4 =>
      intro s1_4 s2_4 y_ranks_4 j0_4 j1_4 j2_4 j3_4 j4_4 hm_4 H locs ls hP hD hS hl
      refine lv_iload_n hx hb dX10_sort_4 rfl (lv_at hl 0 rfl) ?_
      refine lv_iconst (v := 1) hx hb dX10_sort_5 (by decide) ?_
      refine lv_aload_n hx hb dX10_sort_6 rfl (lv_at hl 2 rfl) ?_
      refine va_get (D := D) (ci := 10) (v := .int v_options) (C := RX10) (T := TX10) (N := 66) hx hb hts iX10 hown hK hP 0 rfl rfl 12 (by decide) (hts (.fieldLink RX10 233 "ShortTellerModel" "options" "I") (List.mem_of_getElem? (i := 1) rfl)) (fun _ h9 => h9) rfl dX10_sort_7 ?_
      refine lv_ishl hx hb dX10_sort_10 ?_
      refine lv_topi (fun n1 en1 => ?_)
      have tn1 := q3_sh en1 (by omega) (by omega)
      refine lv_icmp_ge (tgt := 42) hx hb dX10_sort_11 (by decide) (fun g2 => ?_) (fun g2 => ?_)
      · have g2 : n1.toInt ≤ s2_4.toInt := (q3_le rfl rfl).mp g2
        refine lv_sipush (v := 8192) hx hb dX10_sort_42 (by decide) ?_
        refine lv_istore_n (lv' := [(2, .int 8192), (1, .int s1_4), (0, .ref y)]) hx hb dX10_sort_45 rfl hl (by decide) rfl (fun ls hl => ?_)
        have lp46 : ∀ (k : Nat) (s2_46 : Int32) (y_ranks_46 : Nat → Int32), (0 ≤ s2_46.toInt) → (s2_46.toInt ≤ 8192) → (∀ j : Nat, 0 ≤ (y_ranks_46 j).toInt ∧ (y_ranks_46 j).toInt < 16384) → s2_46.toInt < (k : Int) → ∀ (H : Heap) (locs : List Loc) (ls : Array Slot), va_P D vwCl (wM c y a v_tapeSize v_thrown v_fault v_faultPlace v_things v_options v_lists v_sentences v_headings v_words v_factBits v_known v_soundMany v_wholeLength v_next v_end v_rThings v_rOptions v_rLists v_rSentences v_rHeadings v_lastName v_inSentence v_open v_written v_named v_sorted f_tape f_kind f_owner f_from f_size f_means f_signs f_oKind f_oIn f_oList f_oWords f_oFacts f_listIn f_sOwner f_hFacts f_weights f_lengths f_values f_rKind f_rOwner f_rFrom f_rSize f_rMeans f_rOKind f_rOIn f_rOList f_rOFacts f_rListIn f_rSOwner f_rHFacts f_rWeights f_opKind f_opFrom f_opWord f_opOwner f_opList f_opItems f_out y_ranks_46) H → va_D A (wM c y a v_tapeSize v_thrown v_fault v_faultPlace v_things v_options v_lists v_sentences v_headings v_words v_factBits v_known v_soundMany v_wholeLength v_next v_end v_rThings v_rOptions v_rLists v_rSentences v_rHeadings v_lastName v_inSentence v_open v_written v_named v_sorted f_tape f_kind f_owner f_from f_size f_means f_signs f_oKind f_oIn f_oList f_oWords f_oFacts f_listIn f_sOwner f_hFacts f_weights f_lengths f_values f_rKind f_rOwner f_rFrom f_rSize f_rMeans f_rOKind f_rOIn f_rOList f_rOFacts f_rListIn f_rSOwner f_rHFacts f_rWeights f_opKind f_opFrom f_opWord f_opOwner f_opList f_opItems f_out y_ranks_46) → va_S A s.heap H locs → lv_has ls 6 [(2, .int s2_46), (1, .int s1_4), (0, .ref y)] → W p l e ({ frames := 1, cells := 0, slots := 0, locals := 22 }) s m args below meth cd H locs 0 0 Q (F0 m 46 ls []) := by
          intro k
          induction k with
          | zero => intro s2_46 y_ranks_46 j0_46 j1_46 j2_46 hm; exfalso; omega
          | succ k ih_46 =>
            intro s2_46 y_ranks_46 j0_46 j1_46 j2_46 hm_46 H locs ls hP hD hS hl
            clear j1_4 j2_4 hm_4 g2
            refine lv_iload_n hx hb dX10_sort_46 rfl (lv_at hl 0 rfl) ?_
            refine lv_if_le (tgt := 139) hx hb dX10_sort_47 (by decide) (fun g3 => ?_) (fun g3 => ?_)
            · have g3 : s2_46.toInt ≤ (0 : Int) := (q3_le rfl (by decide)).mp g3
              refine lv_aload_n hx hb dX10_sort_139 rfl (lv_at hl 2 rfl) ?_
              refine lv_iconst (v := 1) hx hb dX10_sort_140 (by decide) ?_
              refine va_put (D := D) (ci := 10) (v := .int 1) (ty := .boolean) (C := RX10) (T := TX10) (N := 66) hx hb hts iX10 tyX10 tyX10_ok nmX10 hown hK hP hD hS 0 rfl rfl 64 (by decide) (hts (.fieldLink RX10 297 "ShortTellerModel" "sorted" "Z") (List.mem_of_getElem? (i := 4) rfl)) (fun _ h9 => h9) rfl (by decide +kernel) rfl rfl (Nat.le_of_ble_eq_true rfl) dX10_sort_141 (fun H locs hP hD hS => ?_)
              have hP : va_P D vwCl (wM c y a v_tapeSize v_thrown v_fault v_faultPlace v_things v_options v_lists v_sentences v_headings v_words v_factBits v_known v_soundMany v_wholeLength v_next v_end v_rThings v_rOptions v_rLists v_rSentences v_rHeadings v_lastName v_inSentence v_open v_written v_named (1) f_tape f_kind f_owner f_from f_size f_means f_signs f_oKind f_oIn f_oList f_oWords f_oFacts f_listIn f_sOwner f_hFacts f_weights f_lengths f_values f_rKind f_rOwner f_rFrom f_rSize f_rMeans f_rOKind f_rOIn f_rOList f_rOFacts f_rListIn f_rSOwner f_rHFacts f_rWeights f_opKind f_opFrom f_opWord f_opOwner f_opList f_opItems f_out y_ranks_46) H := hP
              have hD : va_D A (wM c y a v_tapeSize v_thrown v_fault v_faultPlace v_things v_options v_lists v_sentences v_headings v_words v_factBits v_known v_soundMany v_wholeLength v_next v_end v_rThings v_rOptions v_rLists v_rSentences v_rHeadings v_lastName v_inSentence v_open v_written v_named (1) f_tape f_kind f_owner f_from f_size f_means f_signs f_oKind f_oIn f_oList f_oWords f_oFacts f_listIn f_sOwner f_hFacts f_weights f_lengths f_values f_rKind f_rOwner f_rFrom f_rSize f_rMeans f_rOKind f_rOIn f_rOList f_rOFacts f_rListIn f_rSOwner f_rHFacts f_rWeights f_opKind f_opFrom f_opWord f_opOwner f_opList f_opItems f_out y_ranks_46) := hD
              exact hret (q2_u [] [1] [y_ranks_46]) _ _ _ _ ⟨j2_46, trivial⟩ dX10_sort_144 hP hD hS
            · have g3 : ¬ s2_46.toInt ≤ (0 : Int) := (not_congr (q3_le rfl (by decide))).mp g3
              refine lv_iload_n hx hb dX10_sort_50 rfl (lv_at hl 0 rfl) ?_
              refine lv_istore_n (lv' := [(3, .int s2_46), (2, .int s2_46), (1, .int s1_4), (0, .ref y)]) hx hb dX10_sort_51 rfl hl (by decide) rfl (fun ls hl => ?_)
              have lp52 : ∀ (k : Nat) (s3_52 : Int32) (y_ranks_52 : Nat → Int32), (s2_46.toInt ≤ s3_52.toInt) → (s3_52.toInt ≤ 16384) → (∀ j : Nat, 0 ≤ (y_ranks_52 j).toInt ∧ (y_ranks_52 j).toInt < 16384) → 16385 - s3_52.toInt < (k : Int) → ∀ (H : Heap) (locs : List Loc) (ls : Array Slot), va_P D vwCl (wM c y a v_tapeSize v_thrown v_fault v_faultPlace v_things v_options v_lists v_sentences v_headings v_words v_factBits v_known v_soundMany v_wholeLength v_next v_end v_rThings v_rOptions v_rLists v_rSentences v_rHeadings v_lastName v_inSentence v_open v_written v_named v_sorted f_tape f_kind f_owner f_from f_size f_means f_signs f_oKind f_oIn f_oList f_oWords f_oFacts f_listIn f_sOwner f_hFacts f_weights f_lengths f_values f_rKind f_rOwner f_rFrom f_rSize f_rMeans f_rOKind f_rOIn f_rOList f_rOFacts f_rListIn f_rSOwner f_rHFacts f_rWeights f_opKind f_opFrom f_opWord f_opOwner f_opList f_opItems f_out y_ranks_52) H → va_D A (wM c y a v_tapeSize v_thrown v_fault v_faultPlace v_things v_options v_lists v_sentences v_headings v_words v_factBits v_known v_soundMany v_wholeLength v_next v_end v_rThings v_rOptions v_rLists v_rSentences v_rHeadings v_lastName v_inSentence v_open v_written v_named v_sorted f_tape f_kind f_owner f_from f_size f_means f_signs f_oKind f_oIn f_oList f_oWords f_oFacts f_listIn f_sOwner f_hFacts f_weights f_lengths f_values f_rKind f_rOwner f_rFrom f_rSize f_rMeans f_rOKind f_rOIn f_rOList f_rOFacts f_rListIn f_rSOwner f_rHFacts f_rWeights f_opKind f_opFrom f_opWord f_opOwner f_opList f_opItems f_out y_ranks_52) → va_S A s.heap H locs → lv_has ls 6 [(3, .int s3_52), (2, .int s2_46), (1, .int s1_4), (0, .ref y)] → W p l e ({ frames := 1, cells := 0, slots := 0, locals := 22 }) s m args below meth cd H locs 0 0 Q (F0 m 52 ls []) := by
                intro k
                induction k with
                | zero => intro s3_52 y_ranks_52 j0_52 j1_52 j2_52 hm; exfalso; omega
                | succ k ih_52 =>
                  intro s3_52 y_ranks_52 j0_52 j1_52 j2_52 hm_52 H locs ls hP hD hS hl
                  refine lv_iload_n hx hb dX10_sort_52 rfl (lv_at hl 0 rfl) ?_
                  refine lv_iload_n hx hb dX10_sort_53 rfl (lv_at hl 2 rfl) ?_
                  refine lv_icmp_ge (tgt := 132) hx hb dX10_sort_54 (by decide) (fun g4 => ?_) (fun g4 => ?_)
                  · have g4 : s1_4.toInt ≤ s3_52.toInt := (q3_le rfl rfl).mp g4
                    refine lv_iload_n hx hb dX10_sort_132 rfl (lv_at hl 1 rfl) ?_
                    refine lv_iconst (v := 2) hx hb dX10_sort_133 (by decide) ?_
                    refine lv_idiv hx hb dX10_sort_134 (by decide) ?_
                    refine lv_topi (fun n5 en5 => ?_)
                    have tn5 := q3_div2 en5 (by omega)
                    refine lv_istore_n (lv' := [(2, .int n5), (3, .int s3_52), (1, .int s1_4), (0, .ref y)]) hx hb dX10_sort_135 rfl hl (by decide) rfl (fun ls hl => ?_)
                    refine lv_goto (tgt := 46) hx hb dX10_sort_136 (by decide) ?_
                    exact ih_46 n5 y_ranks_52 (show 0 ≤ n5.toInt by omega) (show n5.toInt ≤ 8192 by omega) j2_52 (show n5.toInt < _ by omega) _ _ _ hP hD hS (lv_sub hl [0, 2, 3] rfl)
                  · have g4 : ¬ s1_4.toInt ≤ s3_52.toInt := (not_congr (q3_le rfl rfl)).mp g4
                    refine lv_aload_n hx hb dX10_sort_57 rfl (lv_at hl 3 rfl) ?_
                    refine va_get (D := D) (ci := 10) (v := .ref (a 38)) (C := RX10) (T := TX10) (N := 66) hx hb hts iX10 hown hK hP 0 rfl rfl 65 (by decide) (hts (.fieldLink RX10 129 "ShortTellerModel" "ranks" "[I") (List.mem_of_getElem? (i := 3) rfl)) (fun _ h9 => h9) rfl dX10_sort_58 ?_
                    refine lv_iload_n hx hb dX10_sort_61 rfl (lv_at hl 0 rfl) ?_
                    refine q3_iald (c := c) hx hb hK hP 39 rfl (q2_in (by omega) (by omega)) dX10_sort_62 (fun n6 en6 => ?_)
                    have tn6 : n6.toInt = (y_ranks_52 s3_52.toNatClampNeg).toInt := by rw [en6]
                    have rn6 : 0 ≤ n6.toInt ∧ n6.toInt < 16384 := by rw [en6]; exact j2_52 _
                    refine lv_istore (lv' := [(4, .int n6), (3, .int s3_52), (2, .int s2_46), (1, .int s1_4), (0, .ref y)]) hx hb dX10_sort_63 hl (by decide) rfl (fun ls hl => ?_)
                    refine lv_iload_n hx hb dX10_sort_65 rfl (lv_at hl 1 rfl) ?_
                    refine lv_istore (lv' := [(5, .int s3_52), (4, .int n6), (3, .int s3_52), (2, .int s2_46), (1, .int s1_4), (0, .ref y)]) hx hb dX10_sort_66 hl (by decide) rfl (fun ls hl => ?_)
                    have lp68 : ∀ (k : Nat) (s5_68 : Int32) (y_ranks_68 : Nat → Int32), (0 ≤ s5_68.toInt) → (s5_68.toInt ≤ s3_52.toInt) → (∀ j : Nat, 0 ≤ (y_ranks_68 j).toInt ∧ (y_ranks_68 j).toInt < 16384) → s5_68.toInt < (k : Int) → ∀ (H : Heap) (locs : List Loc) (ls : Array Slot), va_P D vwCl (wM c y a v_tapeSize v_thrown v_fault v_faultPlace v_things v_options v_lists v_sentences v_headings v_words v_factBits v_known v_soundMany v_wholeLength v_next v_end v_rThings v_rOptions v_rLists v_rSentences v_rHeadings v_lastName v_inSentence v_open v_written v_named v_sorted f_tape f_kind f_owner f_from f_size f_means f_signs f_oKind f_oIn f_oList f_oWords f_oFacts f_listIn f_sOwner f_hFacts f_weights f_lengths f_values f_rKind f_rOwner f_rFrom f_rSize f_rMeans f_rOKind f_rOIn f_rOList f_rOFacts f_rListIn f_rSOwner f_rHFacts f_rWeights f_opKind f_opFrom f_opWord f_opOwner f_opList f_opItems f_out y_ranks_68) H → va_D A (wM c y a v_tapeSize v_thrown v_fault v_faultPlace v_things v_options v_lists v_sentences v_headings v_words v_factBits v_known v_soundMany v_wholeLength v_next v_end v_rThings v_rOptions v_rLists v_rSentences v_rHeadings v_lastName v_inSentence v_open v_written v_named v_sorted f_tape f_kind f_owner f_from f_size f_means f_signs f_oKind f_oIn f_oList f_oWords f_oFacts f_listIn f_sOwner f_hFacts f_weights f_lengths f_values f_rKind f_rOwner f_rFrom f_rSize f_rMeans f_rOKind f_rOIn f_rOList f_rOFacts f_rListIn f_rSOwner f_rHFacts f_rWeights f_opKind f_opFrom f_opWord f_opOwner f_opList f_opItems f_out y_ranks_68) → va_S A s.heap H locs → lv_has ls 6 [(5, .int s5_68), (4, .int n6), (3, .int s3_52), (2, .int s2_46), (1, .int s1_4), (0, .ref y)] → W p l e ({ frames := 1, cells := 0, slots := 0, locals := 22 }) s m args below meth cd H locs 0 0 Q (F0 m 68 ls []) := by
                      intro k
                      induction k with
                      | zero => intro s5_68 y_ranks_68 j0_68 j1_68 j2_68 hm; exfalso; omega
                      | succ k ih_68 =>
                        intro s5_68 y_ranks_68 j0_68 j1_68 j2_68 hm_68 H locs ls hP hD hS hl
                        refine lv_iload hx hb dX10_sort_68 (lv_at hl 0 rfl) ?_
                        refine lv_iload_n hx hb dX10_sort_70 rfl (lv_at hl 3 rfl) ?_
                        refine lv_icmp_lt (tgt := 117) hx hb dX10_sort_71 (by decide) (fun g7 => ?_) (fun g7 => ?_)
                        · have g7 : s5_68.toInt < s2_46.toInt := (q3_lt rfl rfl).mp g7
                          refine lv_aload_n hx hb dX10_sort_117 rfl (lv_at hl 5 rfl) ?_
                          refine va_get (D := D) (ci := 10) (v := .ref (a 38)) (C := RX10) (T := TX10) (N := 66) hx hb hts iX10 hown hK hP 0 rfl rfl 65 (by decide) (hts (.fieldLink RX10 129 "ShortTellerModel" "ranks" "[I") (List.mem_of_getElem? (i := 3) rfl)) (fun _ h9 => h9) rfl dX10_sort_118 ?_
                          refine lv_iload hx hb dX10_sort_121 (lv_at hl 0 rfl) ?_
                          refine lv_iload hx hb dX10_sort_123 (lv_at hl 1 rfl) ?_
                          refine q3_iast (c := c) hx hb hK hP hD hS 39 rfl (q2_in (by omega) (by omega)) dX10_sort_125 (fun F8 eF8 H locs hP hD hS => ?_)
                          have hP : va_P D vwCl (wM c y a v_tapeSize v_thrown v_fault v_faultPlace v_things v_options v_lists v_sentences v_headings v_words v_factBits v_known v_soundMany v_wholeLength v_next v_end v_rThings v_rOptions v_rLists v_rSentences v_rHeadings v_lastName v_inSentence v_open v_written v_named v_sorted f_tape f_kind f_owner f_from f_size f_means f_signs f_oKind f_oIn f_oList f_oWords f_oFacts f_listIn f_sOwner f_hFacts f_weights f_lengths f_values f_rKind f_rOwner f_rFrom f_rSize f_rMeans f_rOKind f_rOIn f_rOList f_rOFacts f_rListIn f_rSOwner f_rHFacts f_rWeights f_opKind f_opFrom f_opWord f_opOwner f_opList f_opItems f_out F8) H := hP
                          have hD : va_D A (wM c y a v_tapeSize v_thrown v_fault v_faultPlace v_things v_options v_lists v_sentences v_headings v_words v_factBits v_known v_soundMany v_wholeLength v_next v_end v_rThings v_rOptions v_rLists v_rSentences v_rHeadings v_lastName v_inSentence v_open v_written v_named v_sorted f_tape f_kind f_owner f_from f_size f_means f_signs f_oKind f_oIn f_oList f_oWords f_oFacts f_listIn f_sOwner f_hFacts f_weights f_lengths f_values f_rKind f_rOwner f_rFrom f_rSize f_rMeans f_rOKind f_rOIn f_rOList f_rOFacts f_rListIn f_rSOwner f_rHFacts f_rWeights f_opKind f_opFrom f_opWord f_opOwner f_opList f_opItems f_out F8) := hD
                          have hF8_0 : ∀ j : Nat, 0 ≤ (F8 j).toInt ∧ (F8 j).toInt < 16384 := q3_up (P := fun z => 0 ≤ z.toInt ∧ z.toInt < 16384) eF8 j2_68 (show 0 ≤ n6.toInt ∧ n6.toInt < 16384 by omega)
                          obtain ⟨n9, en9⟩ : ∃ z : Int32, z = s3_52 + (1) := ⟨_, rfl⟩
                          have tn9 : n9.toInt = s3_52.toInt + (1 : Int) := q3_add en9 rfl (by decide) (by omega) (by omega)
                          refine lv_iinc (v := n9) (lv' := [(3, .int n9), (5, .int s5_68), (4, .int n6), (2, .int s2_46), (1, .int s1_4), (0, .ref y)]) hx hb dX10_sort_126 hl (k := 2) rfl (by rw [en9]; rfl) (by decide) rfl (fun ls hl => ?_)
                          refine lv_goto (tgt := 52) hx hb dX10_sort_129 (by decide) ?_
                          exact ih_52 n9 F8 (show s2_46.toInt ≤ n9.toInt by omega) (show n9.toInt ≤ 16384 by omega) hF8_0 (show 16385 - n9.toInt < _ by omega) _ _ _ hP hD hS (lv_sub hl [0, 3, 4, 5] rfl)
                        · have g7 : ¬ s5_68.toInt < s2_46.toInt := (not_congr (q3_lt rfl rfl)).mp g7
                          refine lv_aload_n hx hb dX10_sort_74 rfl (lv_at hl 5 rfl) ?_
                          refine lv_iload hx hb dX10_sort_75 (lv_at hl 1 rfl) ?_
                          refine lv_aload_n hx hb dX10_sort_77 rfl (lv_at hl 5 rfl) ?_
                          refine va_get (D := D) (ci := 10) (v := .ref (a 38)) (C := RX10) (T := TX10) (N := 66) hx hb hts iX10 hown hK hP 0 rfl rfl 65 (by decide) (hts (.fieldLink RX10 129 "ShortTellerModel" "ranks" "[I") (List.mem_of_getElem? (i := 3) rfl)) (fun _ h9 => h9) rfl dX10_sort_78 ?_
                          refine lv_iload hx hb dX10_sort_81 (lv_at hl 0 rfl) ?_
                          refine lv_iload_n hx hb dX10_sort_83 rfl (lv_at hl 3 rfl) ?_
                          refine lv_isub hx hb dX10_sort_84 ?_
                          refine lv_topi (fun n10 en10 => ?_)
                          have tn10 : n10.toInt = s5_68.toInt - s2_46.toInt := q3_sub en10 rfl rfl (by omega) (by omega)
                          refine q3_iald (c := c) hx hb hK hP 39 rfl (q2_in (by omega) (by omega)) dX10_sort_85 (fun n11 en11 => ?_)
                          have tn11 : n11.toInt = (y_ranks_68 n10.toNatClampNeg).toInt := by rw [en11]
                          have rn11 : 0 ≤ n11.toInt ∧ n11.toInt < 16384 := by rw [en11]; exact j2_68 _
                          refine q3_ci (va_runV (As := [.int n6, .int n11]) (rest := []) ⟨hx, hb, hml, hown, hts⟩ (y3_ahead l D c H.size y a v_tapeSize v_thrown v_fault v_faultPlace v_things v_options v_lists v_sentences v_headings v_words v_factBits v_known v_soundMany v_wholeLength v_next v_end v_rThings v_rOptions v_rLists v_rSentences v_rHeadings v_lastName v_inSentence v_open v_written v_named v_sorted f_tape f_kind f_owner f_from f_size f_means f_signs f_oKind f_oIn f_oList f_oWords f_oFacts f_listIn f_sOwner f_hFacts f_weights f_lengths f_values f_rKind f_rOwner f_rFrom f_rSize f_rMeans f_rOKind f_rOIn f_rOList f_rOFacts f_rListIn f_rSOwner f_rHFacts f_rWeights f_opKind f_opFrom f_opWord f_opOwner f_opList f_opItems f_out y_ranks_68 n6 n11 (show 0 ≤ n6.toInt by omega) (show n6.toInt < 16384 by omega) (show 0 ≤ n11.toInt by omega) (show n11.toInt < 16384 by omega)) (cwV 2 hts gX10_sort_X10_ahead rfl rfl rfl (by decide +kernel) ⟨Nat.le_of_ble_eq_true rfl, Nat.le_of_ble_eq_true rfl⟩) (q3_preV (c := c) (ci := 10) (q0 := 0) hP hK hD rfl rfl) rfl rfl hl.1 rfl (lv_room (Nat.le_of_ble_eq_true rfl)) dX10_sort_86 ⟨Nat.le_of_ble_eq_true rfl, Nat.le_of_ble_eq_true rfl⟩) hD hS hA (fun n12 un12 H locs pn12 hP hD hS => ?_)
                          have pn12 : (n12.toInt = 0 ∨ n12.toInt = 1) ∧ True := pn12
                          obtain ⟨pn12_0, -⟩ := pn12
                          have hP : va_P D vwCl (wM c y a v_tapeSize v_thrown v_fault v_faultPlace v_things v_options v_lists v_sentences v_headings v_words v_factBits v_known v_soundMany v_wholeLength v_next v_end v_rThings v_rOptions v_rLists v_rSentences v_rHeadings v_lastName v_inSentence v_open v_written v_named v_sorted f_tape f_kind f_owner f_from f_size f_means f_signs f_oKind f_oIn f_oList f_oWords f_oFacts f_listIn f_sOwner f_hFacts f_weights f_lengths f_values f_rKind f_rOwner f_rFrom f_rSize f_rMeans f_rOKind f_rOIn f_rOList f_rOFacts f_rListIn f_rSOwner f_rHFacts f_rWeights f_opKind f_opFrom f_opWord f_opOwner f_opList f_opItems f_out y_ranks_68) H := hP
                          have hD : va_D A (wM c y a v_tapeSize v_thrown v_fault v_faultPlace v_things v_options v_lists v_sentences v_headings v_words v_factBits v_known v_soundMany v_wholeLength v_next v_end v_rThings v_rOptions v_rLists v_rSentences v_rHeadings v_lastName v_inSentence v_open v_written v_named v_sorted f_tape f_kind f_owner f_from f_size f_means f_signs f_oKind f_oIn f_oList f_oWords f_oFacts f_listIn f_sOwner f_hFacts f_weights f_lengths f_values f_rKind f_rOwner f_rFrom f_rSize f_rMeans f_rOKind f_rOIn f_rOList f_rOFacts f_rListIn f_rSOwner f_rHFacts f_rWeights f_opKind f_opFrom f_opWord f_opOwner f_opList f_opItems f_out y_ranks_68) := hD
                          refine lv_if_eq (tgt := 117) hx hb dX10_sort_89 (by decide) (fun g13 => ?_) (fun g13 => ?_)
                          · have g13 : n12.toInt = (0 : Int) := (q3_eq rfl (by decide)).mp g13
                            refine lv_aload_n hx hb dX10_sort_117 rfl (lv_at hl 5 rfl) ?_
                            refine va_get (D := D) (ci := 10) (v := .ref (a 38)) (C := RX10) (T := TX10) (N := 66) hx hb hts iX10 hown hK hP 0 rfl rfl 65 (by decide) (hts (.fieldLink RX10 129 "ShortTellerModel" "ranks" "[I") (List.mem_of_getElem? (i := 3) rfl)) (fun _ h9 => h9) rfl dX10_sort_118 ?_
                            refine lv_iload hx hb dX10_sort_121 (lv_at hl 0 rfl) ?_
                            refine lv_iload hx hb dX10_sort_123 (lv_at hl 1 rfl) ?_
                            refine q3_iast (c := c) hx hb hK hP hD hS 39 rfl (q2_in (by omega) (by omega)) dX10_sort_125 (fun F14 eF14 H locs hP hD hS => ?_)
                            have hP : va_P D vwCl (wM c y a v_tapeSize v_thrown v_fault v_faultPlace v_things v_options v_lists v_sentences v_headings v_words v_factBits v_known v_soundMany v_wholeLength v_next v_end v_rThings v_rOptions v_rLists v_rSentences v_rHeadings v_lastName v_inSentence v_open v_written v_named v_sorted f_tape f_kind f_owner f_from f_size f_means f_signs f_oKind f_oIn f_oList f_oWords f_oFacts f_listIn f_sOwner f_hFacts f_weights f_lengths f_values f_rKind f_rOwner f_rFrom f_rSize f_rMeans f_rOKind f_rOIn f_rOList f_rOFacts f_rListIn f_rSOwner f_rHFacts f_rWeights f_opKind f_opFrom f_opWord f_opOwner f_opList f_opItems f_out F14) H := hP
                            have hD : va_D A (wM c y a v_tapeSize v_thrown v_fault v_faultPlace v_things v_options v_lists v_sentences v_headings v_words v_factBits v_known v_soundMany v_wholeLength v_next v_end v_rThings v_rOptions v_rLists v_rSentences v_rHeadings v_lastName v_inSentence v_open v_written v_named v_sorted f_tape f_kind f_owner f_from f_size f_means f_signs f_oKind f_oIn f_oList f_oWords f_oFacts f_listIn f_sOwner f_hFacts f_weights f_lengths f_values f_rKind f_rOwner f_rFrom f_rSize f_rMeans f_rOKind f_rOIn f_rOList f_rOFacts f_rListIn f_rSOwner f_rHFacts f_rWeights f_opKind f_opFrom f_opWord f_opOwner f_opList f_opItems f_out F14) := hD
                            have hF14_0 : ∀ j : Nat, 0 ≤ (F14 j).toInt ∧ (F14 j).toInt < 16384 := q3_up (P := fun z => 0 ≤ z.toInt ∧ z.toInt < 16384) eF14 j2_68 (show 0 ≤ n6.toInt ∧ n6.toInt < 16384 by omega)
                            obtain ⟨n15, en15⟩ : ∃ z : Int32, z = s3_52 + (1) := ⟨_, rfl⟩
                            have tn15 : n15.toInt = s3_52.toInt + (1 : Int) := q3_add en15 rfl (by decide) (by omega) (by omega)
                            refine lv_iinc (v := n15) (lv' := [(3, .int n15), (5, .int s5_68), (4, .int n6), (2, .int s2_46), (1, .int s1_4), (0, .ref y)]) hx hb dX10_sort_126 hl (k := 2) rfl (by rw [en15]; rfl) (by decide) rfl (fun ls hl => ?_)
                            refine lv_goto (tgt := 52) hx hb dX10_sort_129 (by decide) ?_
                            exact ih_52 n15 F14 (show s2_46.toInt ≤ n15.toInt by omega) (show n15.toInt ≤ 16384 by omega) hF14_0 (show 16385 - n15.toInt < _ by omega) _ _ _ hP hD hS (lv_sub hl [0, 3, 4, 5] rfl)
                          · have g13 : ¬ n12.toInt = (0 : Int) := (not_congr (q3_eq rfl (by decide))).mp g13
                            refine lv_aload_n hx hb dX10_sort_92 rfl (lv_at hl 5 rfl) ?_
                            refine va_get (D := D) (ci := 10) (v := .ref (a 38)) (C := RX10) (T := TX10) (N := 66) hx hb hts iX10 hown hK hP 0 rfl rfl 65 (by decide) (hts (.fieldLink RX10 129 "ShortTellerModel" "ranks" "[I") (List.mem_of_getElem? (i := 3) rfl)) (fun _ h9 => h9) rfl dX10_sort_93 ?_
                            refine lv_iload hx hb dX10_sort_96 (lv_at hl 0 rfl) ?_
                            refine lv_aload_n hx hb dX10_sort_98 rfl (lv_at hl 5 rfl) ?_
                            refine va_get (D := D) (ci := 10) (v := .ref (a 38)) (C := RX10) (T := TX10) (N := 66) hx hb hts iX10 hown hK hP 0 rfl rfl 65 (by decide) (hts (.fieldLink RX10 129 "ShortTellerModel" "ranks" "[I") (List.mem_of_getElem? (i := 3) rfl)) (fun _ h9 => h9) rfl dX10_sort_99 ?_
                            refine lv_iload hx hb dX10_sort_102 (lv_at hl 0 rfl) ?_
                            refine lv_iload_n hx hb dX10_sort_104 rfl (lv_at hl 3 rfl) ?_
                            refine lv_isub hx hb dX10_sort_105 ?_
                            refine lv_topi (fun n16 en16 => ?_)
                            have tn16 : n16.toInt = s5_68.toInt - s2_46.toInt := q3_sub en16 rfl rfl (by omega) (by omega)
                            refine q3_iald (c := c) hx hb hK hP 39 rfl (q2_in (by omega) (by omega)) dX10_sort_106 (fun n17 en17 => ?_)
                            have tn17 : n17.toInt = (y_ranks_68 n16.toNatClampNeg).toInt := by rw [en17]
                            have rn17 : 0 ≤ n17.toInt ∧ n17.toInt < 16384 := by rw [en17]; exact j2_68 _
                            refine q3_iast (c := c) hx hb hK hP hD hS 39 rfl (q2_in (by omega) (by omega)) dX10_sort_107 (fun F18 eF18 H locs hP hD hS => ?_)
                            have hP : va_P D vwCl (wM c y a v_tapeSize v_thrown v_fault v_faultPlace v_things v_options v_lists v_sentences v_headings v_words v_factBits v_known v_soundMany v_wholeLength v_next v_end v_rThings v_rOptions v_rLists v_rSentences v_rHeadings v_lastName v_inSentence v_open v_written v_named v_sorted f_tape f_kind f_owner f_from f_size f_means f_signs f_oKind f_oIn f_oList f_oWords f_oFacts f_listIn f_sOwner f_hFacts f_weights f_lengths f_values f_rKind f_rOwner f_rFrom f_rSize f_rMeans f_rOKind f_rOIn f_rOList f_rOFacts f_rListIn f_rSOwner f_rHFacts f_rWeights f_opKind f_opFrom f_opWord f_opOwner f_opList f_opItems f_out F18) H := hP
                            have hD : va_D A (wM c y a v_tapeSize v_thrown v_fault v_faultPlace v_things v_options v_lists v_sentences v_headings v_words v_factBits v_known v_soundMany v_wholeLength v_next v_end v_rThings v_rOptions v_rLists v_rSentences v_rHeadings v_lastName v_inSentence v_open v_written v_named v_sorted f_tape f_kind f_owner f_from f_size f_means f_signs f_oKind f_oIn f_oList f_oWords f_oFacts f_listIn f_sOwner f_hFacts f_weights f_lengths f_values f_rKind f_rOwner f_rFrom f_rSize f_rMeans f_rOKind f_rOIn f_rOList f_rOFacts f_rListIn f_rSOwner f_rHFacts f_rWeights f_opKind f_opFrom f_opWord f_opOwner f_opList f_opItems f_out F18) := hD
                            have hF18_0 : ∀ j : Nat, 0 ≤ (F18 j).toInt ∧ (F18 j).toInt < 16384 := q3_up (P := fun z => 0 ≤ z.toInt ∧ z.toInt < 16384) eF18 j2_68 (show 0 ≤ n17.toInt ∧ n17.toInt < 16384 by omega)
                            refine lv_iload hx hb dX10_sort_108 (lv_at hl 0 rfl) ?_
                            refine lv_iload_n hx hb dX10_sort_110 rfl (lv_at hl 3 rfl) ?_
                            refine lv_isub hx hb dX10_sort_111 ?_
                            refine lv_topi (fun n19 en19 => ?_)
                            have tn19 : n19.toInt = s5_68.toInt - s2_46.toInt := q3_sub en19 rfl rfl (by omega) (by omega)
                            refine lv_istore (lv' := [(5, .int n19), (4, .int n6), (3, .int s3_52), (2, .int s2_46), (1, .int s1_4), (0, .ref y)]) hx hb dX10_sort_112 hl (by decide) rfl (fun ls hl => ?_)
                            refine lv_goto (tgt := 68) hx hb dX10_sort_114 (by decide) ?_
                            exact ih_68 n19 F18 (show 0 ≤ n19.toInt by omega) (show n19.toInt ≤ s3_52.toInt by omega) hF18_0 (show n19.toInt < _ by omega) _ _ _ hP hD hS hl
                    exact lp68 (Int.toNat (s3_52.toInt) + 1) s3_52 y_ranks_52 (show 0 ≤ s3_52.toInt by omega) (show s3_52.toInt ≤ s3_52.toInt by omega) j2_52 (show s3_52.toInt < ((Int.toNat (s3_52.toInt) + 1 : Nat) : Int) by omega) _ _ _ hP hD hS hl
              exact lp52 (Int.toNat (16385 - s2_46.toInt) + 1) s2_46 y_ranks_46 (show s2_46.toInt ≤ s2_46.toInt by omega) (show s2_46.toInt ≤ 16384 by omega) j2_46 (show 16385 - s2_46.toInt < ((Int.toNat (16385 - s2_46.toInt) + 1 : Nat) : Int) by omega) _ _ _ hP hD hS hl
        exact lp46 (Int.toNat ((8192 : Int)) + 1) (8192) y_ranks_4 (show 0 ≤ (8192 : Int) by omega) (show (8192 : Int) ≤ 8192 by omega) j4_4 (show (8192 : Int) < ((Int.toNat ((8192 : Int)) + 1 : Nat) : Int) by omega) _ _ _ hP hD hS hl
      · have g2 : ¬ n1.toInt ≤ s2_4.toInt := (not_congr (q3_le rfl rfl)).mp g2
        refine lv_aload_n hx hb dX10_sort_14 rfl (lv_at hl 2 rfl) ?_
        refine va_get (D := D) (ci := 10) (v := .ref (a 16)) (C := RX10) (T := TX10) (N := 66) hx hb hts iX10 hown hK hP 0 rfl rfl 28 (by decide) (hts (.fieldLink RX10 62 "ShortTellerModel" "lengths" "[I") (List.mem_of_getElem? (i := 2) rfl)) (fun _ h9 => h9) rfl dX10_sort_15 ?_
        refine lv_iload_n hx hb dX10_sort_18 rfl (lv_at hl 0 rfl) ?_
        refine q3_iald (c := c) hx hb hK hP 17 rfl (q2_in (by omega) (by omega)) dX10_sort_19 (fun n20 en20 => ?_)
        have tn20 : n20.toInt = (f_lengths s2_4.toNatClampNeg).toInt := by rw [en20]
        refine lv_if_ge (tgt := 26) hx hb dX10_sort_20 (by decide) (fun g21 => ?_) (fun g21 => ?_)
        · have g21 : (0 : Int) ≤ n20.toInt := (q3_le (by decide) rfl).mp g21
          refine lv_aload_n hx hb dX10_sort_26 rfl (lv_at hl 2 rfl) ?_
          refine va_get (D := D) (ci := 10) (v := .ref (a 38)) (C := RX10) (T := TX10) (N := 66) hx hb hts iX10 hown hK hP 0 rfl rfl 65 (by decide) (hts (.fieldLink RX10 129 "ShortTellerModel" "ranks" "[I") (List.mem_of_getElem? (i := 3) rfl)) (fun _ h9 => h9) rfl dX10_sort_27 ?_
          refine lv_iload_n hx hb dX10_sort_30 rfl (lv_at hl 1 rfl) ?_
          refine lv_iload_n hx hb dX10_sort_31 rfl (lv_at hl 0 rfl) ?_
          refine q3_iast (c := c) hx hb hK hP hD hS 39 rfl (q2_in (by omega) (by omega)) dX10_sort_32 (fun F22 eF22 H locs hP hD hS => ?_)
          have hP : va_P D vwCl (wM c y a v_tapeSize v_thrown v_fault v_faultPlace v_things v_options v_lists v_sentences v_headings v_words v_factBits v_known v_soundMany v_wholeLength v_next v_end v_rThings v_rOptions v_rLists v_rSentences v_rHeadings v_lastName v_inSentence v_open v_written v_named v_sorted f_tape f_kind f_owner f_from f_size f_means f_signs f_oKind f_oIn f_oList f_oWords f_oFacts f_listIn f_sOwner f_hFacts f_weights f_lengths f_values f_rKind f_rOwner f_rFrom f_rSize f_rMeans f_rOKind f_rOIn f_rOList f_rOFacts f_rListIn f_rSOwner f_rHFacts f_rWeights f_opKind f_opFrom f_opWord f_opOwner f_opList f_opItems f_out F22) H := hP
          have hD : va_D A (wM c y a v_tapeSize v_thrown v_fault v_faultPlace v_things v_options v_lists v_sentences v_headings v_words v_factBits v_known v_soundMany v_wholeLength v_next v_end v_rThings v_rOptions v_rLists v_rSentences v_rHeadings v_lastName v_inSentence v_open v_written v_named v_sorted f_tape f_kind f_owner f_from f_size f_means f_signs f_oKind f_oIn f_oList f_oWords f_oFacts f_listIn f_sOwner f_hFacts f_weights f_lengths f_values f_rKind f_rOwner f_rFrom f_rSize f_rMeans f_rOKind f_rOIn f_rOList f_rOFacts f_rListIn f_rSOwner f_rHFacts f_rWeights f_opKind f_opFrom f_opWord f_opOwner f_opList f_opItems f_out F22) := hD
          have hF22_0 : ∀ j : Nat, 0 ≤ (F22 j).toInt ∧ (F22 j).toInt < 16384 := q3_up (P := fun z => 0 ≤ z.toInt ∧ z.toInt < 16384) eF22 j4_4 (show 0 ≤ s2_4.toInt ∧ s2_4.toInt < 16384 by omega)
          obtain ⟨n23, en23⟩ : ∃ z : Int32, z = s1_4 + (1) := ⟨_, rfl⟩
          have tn23 : n23.toInt = s1_4.toInt + (1 : Int) := q3_add en23 rfl (by decide) (by omega) (by omega)
          refine lv_iinc (v := n23) (lv' := [(1, .int n23), (2, .int s2_4), (0, .ref y)]) hx hb dX10_sort_33 hl (k := 1) rfl (by rw [en23]; rfl) (by decide) rfl (fun ls hl => ?_)
          obtain ⟨n24, en24⟩ : ∃ z : Int32, z = s2_4 + (1) := ⟨_, rfl⟩
          have tn24 : n24.toInt = s2_4.toInt + (1 : Int) := q3_add en24 rfl (by decide) (by omega) (by omega)
          refine lv_iinc (v := n24) (lv' := [(2, .int n24), (1, .int n23), (0, .ref y)]) hx hb dX10_sort_36 hl (k := 1) rfl (by rw [en24]; rfl) (by decide) rfl (fun ls hl => ?_)
          refine lv_goto (tgt := 4) hx hb dX10_sort_39 (by decide) ?_
          exact ih_4 n23 n24 F22 (show 0 ≤ n23.toInt by omega) (show n23.toInt ≤ n24.toInt by omega) (show n24.toInt ≤ 16384 by omega) (show n23.toInt ≤ 16384 by omega) hF22_0 (show 16385 - n24.toInt < _ by omega) _ _ _ hP hD hS hl
        · have g21 : ¬ (0 : Int) ≤ n20.toInt := (not_congr (q3_le (by decide) rfl)).mp g21
          refine lv_goto (tgt := 36) hx hb dX10_sort_23 (by decide) ?_
          obtain ⟨n25, en25⟩ : ∃ z : Int32, z = s2_4 + (1) := ⟨_, rfl⟩
          have tn25 : n25.toInt = s2_4.toInt + (1 : Int) := q3_add en25 rfl (by decide) (by omega) (by omega)
          refine lv_iinc (v := n25) (lv' := [(2, .int n25), (1, .int s1_4), (0, .ref y)]) hx hb dX10_sort_36 hl (k := 0) rfl (by rw [en25]; rfl) (by decide) rfl (fun ls hl => ?_)
          refine lv_goto (tgt := 4) hx hb dX10_sort_39 (by decide) ?_
          exact ih_4 s1_4 n25 y_ranks_4 j0_4 (show s1_4.toInt ≤ n25.toInt by omega) (show n25.toInt ≤ 16384 by omega) j3_4 j4_4 (show 16385 - n25.toInt < _ by omega) _ _ _ hP hD hS hl
  exact lp4 (Int.toNat (16385 - (0 : Int)) + 1) (0) (0) f_ranks (show 0 ≤ (0 : Int) by omega) (show (0 : Int) ≤ (0 : Int) by omega) (show (0 : Int) ≤ 16384 by omega) (show (0 : Int) ≤ 16384 by omega) h2 (show 16385 - (0 : Int) < ((Int.toNat (16385 - (0 : Int)) + 1 : Nat) : Int) by omega) _ _ _ hP hD hS hl
set_option maxHeartbeats 4000000 in
set_option maxRecDepth 100000 in
theorem y3_ranked (l : Launch) (D : va_G) (c : Nat → ClassId) (sz : Nat) (y : Nat) (a : Nat → Nat) (v_tapeSize v_thrown v_fault v_faultPlace v_things v_options v_lists v_sentences v_headings v_words v_factBits v_known v_soundMany v_wholeLength v_next v_end v_rThings v_rOptions v_rLists v_rSentences v_rHeadings v_lastName v_inSentence v_open v_written v_named v_sorted : Int32) (f_tape f_kind f_owner f_from f_size f_means f_signs f_oKind f_oIn f_oList f_oWords f_oFacts f_listIn f_sOwner f_hFacts f_weights f_lengths f_values f_rKind f_rOwner f_rFrom f_rSize f_rMeans f_rOKind f_rOIn f_rOList f_rOFacts f_rListIn f_rSOwner f_rHFacts f_rWeights f_opKind f_opFrom f_opWord f_opOwner f_opList f_opItems f_out f_ranks : Nat → Int32) (x_rank : Int32) (h0 : 0 ≤ v_options.toInt) (h1 : v_options.toInt ≤ 14) (h2 : 0 ≤ v_soundMany.toInt) (h3 : v_soundMany.toInt ≤ 16384) (h4 : ∀ j : Nat, 0 ≤ (f_ranks j).toInt ∧ (f_ranks j).toInt < 16384) : Met l yX10_ranked wsX10_ranked ({ frames := 2, cells := 0, slots := 0, locals := 47 }) (q3_P D c (wM c y a v_tapeSize v_thrown v_fault v_faultPlace v_things v_options v_lists v_sentences v_headings v_words v_factBits v_known v_soundMany v_wholeLength v_next v_end v_rThings v_rOptions v_rLists v_rSentences v_rHeadings v_lastName v_inSentence v_open v_written v_named v_sorted f_tape f_kind f_owner f_from f_size f_means f_signs f_oKind f_oIn f_oList f_oWords f_oFacts f_listIn f_sOwner f_hFacts f_weights f_lengths f_values f_rKind f_rOwner f_rFrom f_rSize f_rMeans f_rOKind f_rOIn f_rOList f_rOFacts f_rListIn f_rSOwner f_rHFacts f_rWeights f_opKind f_opFrom f_opWord f_opOwner f_opList f_opItems f_out f_ranks) sz [.ref y, .int x_rank]) (q2_i D (wM c y a v_tapeSize v_thrown v_fault v_faultPlace v_things v_options v_lists v_sentences v_headings v_words v_factBits v_known v_soundMany v_wholeLength v_next v_end v_rThings v_rOptions v_rLists v_rSentences v_rHeadings v_lastName v_inSentence v_open v_written v_named v_sorted f_tape f_kind f_owner f_from f_size f_means f_signs f_oKind f_oIn f_oList f_oWords f_oFacts f_listIn f_sOwner f_hFacts f_weights f_lengths f_values f_rKind f_rOwner f_rFrom f_rSize f_rMeans f_rOKind f_rOIn f_rOList f_rOFacts f_rListIn f_rSOwner f_rHFacts f_rWeights f_opKind f_opFrom f_opWord f_opOwner f_opList f_opItems f_out f_ranks) sz (fun r u => (∀ j : Nat, 0 ≤ ((u.2.2 0) j).toInt ∧ ((u.2.2 0) j).toInt < 16384) ∧ True) (fun u => wM c y a v_tapeSize (u.2.1 0) v_fault v_faultPlace v_things v_options v_lists v_sentences v_headings v_words v_factBits v_known v_soundMany v_wholeLength v_next v_end v_rThings v_rOptions v_rLists v_rSentences v_rHeadings v_lastName v_inSentence v_open v_written v_named (u.2.1 1) f_tape f_kind f_owner f_from f_size f_means f_signs f_oKind f_oIn f_oList f_oWords f_oFacts f_listIn f_sOwner f_hFacts f_weights f_lengths f_values f_rKind f_rOwner f_rFrom f_rSize f_rMeans f_rOKind f_rOIn f_rOList f_rOFacts f_rListIn f_rSOwner f_rHFacts f_rWeights f_opKind f_opFrom f_opWord f_opOwner f_opList f_opItems f_out (u.2.2 0))) (0) (0) (va_A (wM c y a v_tapeSize v_thrown v_fault v_faultPlace v_things v_options v_lists v_sentences v_headings v_words v_factBits v_known v_soundMany v_wholeLength v_next v_end v_rThings v_rOptions v_rLists v_rSentences v_rHeadings v_lastName v_inSentence v_open v_written v_named v_sorted f_tape f_kind f_owner f_from f_size f_means f_signs f_oKind f_oIn f_oList f_oWords f_oFacts f_listIn f_sOwner f_hFacts f_weights f_lengths f_values f_rKind f_rOwner f_rFrom f_rSize f_rMeans f_rOKind f_rOIn f_rOList f_rOFacts f_rListIn f_rSOwner f_rHFacts f_rWeights f_opKind f_opFrom f_opWord f_opOwner f_opList f_opItems f_out f_ranks) sz) := by
  refine q3_of_i (ty := .int) (fun _ _ _ => rfl) (cc := cX10_ranked) (maxL := 2) (by decide) rfl (Nat.le_of_ble_eq_true rfl) (fun p e s m args below meth cd A Q ls hx hb hml hown hts hA hS hP hD hK hl hret => ?_)
  have hown : s.vm.findClass RX10 = some m.cls := hown
  obtain ⟨H, eH⟩ : ∃ z, z = s.heap := ⟨_, rfl⟩
  have hP : va_P D vwCl (wM c y a v_tapeSize v_thrown v_fault v_faultPlace v_things v_options v_lists v_sentences v_headings v_words v_factBits v_known v_soundMany v_wholeLength v_next v_end v_rThings v_rOptions v_rLists v_rSentences v_rHeadings v_lastName v_inSentence v_open v_written v_named v_sorted f_tape f_kind f_owner f_from f_size f_means f_signs f_oKind f_oIn f_oList f_oWords f_oFacts f_listIn f_sOwner f_hFacts f_weights f_lengths f_values f_rKind f_rOwner f_rFrom f_rSize f_rMeans f_rOKind f_rOIn f_rOList f_rOFacts f_rListIn f_rSOwner f_rHFacts f_rWeights f_opKind f_opFrom f_opWord f_opOwner f_opList f_opItems f_out f_ranks) H := by rw [eH]; exact hP
  have hS : va_S A s.heap H [] := by rw [eH]; exact hS
  rw [← eH]
  have iX10 : ∀ w ∈ wsX100, w ∈ wsX10_ranked := fun w h => List.mem_cons_of_mem _ (List.mem_append_right _ h)
  have hl : lv_has ls 2 [(0, .ref y), (1, .int x_rank)] := hl
  refine lv_aload_n hx hb dX10_ranked_0 rfl (lv_at hl 0 rfl) ?_
  refine lv_iconst (v := 0) hx hb dX10_ranked_1 (by decide) ?_
  refine va_put (D := D) (ci := 10) (v := .int 0) (ty := .int) (C := RX10) (T := TX10) (N := 66) hx hb hts iX10 tyX10 tyX10_ok nmX10 hown hK hP hD hS 0 rfl rfl 2 (by decide) (hts (.fieldLink RX10 135 "ShortTellerModel" "thrown" "I") (List.mem_of_getElem? (i := 1) rfl)) (fun _ h9 => h9) rfl (by decide +kernel) rfl rfl (Nat.le_of_ble_eq_true rfl) dX10_ranked_2 (fun H locs hP hD hS => ?_)
  have hP : va_P D vwCl (wM c y a v_tapeSize (0) v_fault v_faultPlace v_things v_options v_lists v_sentences v_headings v_words v_factBits v_known v_soundMany v_wholeLength v_next v_end v_rThings v_rOptions v_rLists v_rSentences v_rHeadings v_lastName v_inSentence v_open v_written v_named v_sorted f_tape f_kind f_owner f_from f_size f_means f_signs f_oKind f_oIn f_oList f_oWords f_oFacts f_listIn f_sOwner f_hFacts f_weights f_lengths f_values f_rKind f_rOwner f_rFrom f_rSize f_rMeans f_rOKind f_rOIn f_rOList f_rOFacts f_rListIn f_rSOwner f_rHFacts f_rWeights f_opKind f_opFrom f_opWord f_opOwner f_opList f_opItems f_out f_ranks) H := hP
  have hD : va_D A (wM c y a v_tapeSize (0) v_fault v_faultPlace v_things v_options v_lists v_sentences v_headings v_words v_factBits v_known v_soundMany v_wholeLength v_next v_end v_rThings v_rOptions v_rLists v_rSentences v_rHeadings v_lastName v_inSentence v_open v_written v_named v_sorted f_tape f_kind f_owner f_from f_size f_means f_signs f_oKind f_oIn f_oList f_oWords f_oFacts f_listIn f_sOwner f_hFacts f_weights f_lengths f_values f_rKind f_rOwner f_rFrom f_rSize f_rMeans f_rOKind f_rOIn f_rOList f_rOFacts f_rListIn f_rSOwner f_rHFacts f_rWeights f_opKind f_opFrom f_opWord f_opOwner f_opList f_opItems f_out f_ranks) := hD
  refine lv_iload_n hx hb dX10_ranked_5 rfl (lv_at hl 1 rfl) ?_
  refine lv_if_lt (tgt := 17) hx hb dX10_ranked_6 (by decide) (fun g1 => ?_) (fun g1 => ?_)
  · have g1 : x_rank.toInt < (0 : Int) := (q3_lt rfl (by decide)).mp g1
    refine lv_iconst (v := -1) hx hb dX10_ranked_17 (by decide) ?_
    exact hret (-1) (q2_u [] [0, v_sorted] [f_ranks]) _ _ _ _ ⟨h4, trivial⟩ dX10_ranked_18 hP hD hS
  · have g1 : ¬ x_rank.toInt < (0 : Int) := (not_congr (q3_lt rfl (by decide))).mp g1
    refine lv_iload_n hx hb dX10_ranked_9 rfl (lv_at hl 1 rfl) ?_
    refine lv_aload_n hx hb dX10_ranked_10 rfl (lv_at hl 0 rfl) ?_
    refine va_get (D := D) (ci := 10) (v := .int v_soundMany) (C := RX10) (T := TX10) (N := 66) hx hb hts iX10 hown hK hP 0 rfl rfl 30 (by decide) (hts (.fieldLink RX10 278 "ShortTellerModel" "soundMany" "I") (List.mem_of_getElem? (i := 2) rfl)) (fun _ h9 => h9) rfl dX10_ranked_11 ?_
    refine lv_icmp_lt (tgt := 19) hx hb dX10_ranked_14 (by decide) (fun g2 => ?_) (fun g2 => ?_)
    · have g2 : x_rank.toInt < v_soundMany.toInt := (q3_lt rfl rfl).mp g2
      refine lv_aload_n hx hb dX10_ranked_19 rfl (lv_at hl 0 rfl) ?_
      refine va_get (D := D) (ci := 10) (v := .int v_sorted) (C := RX10) (T := TX10) (N := 66) hx hb hts iX10 hown hK hP 0 rfl rfl 64 (by decide) (hts (.fieldLink RX10 297 "ShortTellerModel" "sorted" "Z") (List.mem_of_getElem? (i := 3) rfl)) (fun _ h9 => h9) rfl dX10_ranked_20 ?_
      refine lv_if_ne (tgt := 30) hx hb dX10_ranked_23 (by decide) (fun g3 => ?_) (fun g3 => ?_)
      · have g3 : ¬ v_sorted.toInt = (0 : Int) := (not_congr (q3_eq rfl (by decide))).mp g3
        refine lv_aload_n hx hb dX10_ranked_30 rfl (lv_at hl 0 rfl) ?_
        refine va_get (D := D) (ci := 10) (v := .ref (a 38)) (C := RX10) (T := TX10) (N := 66) hx hb hts iX10 hown hK hP 0 rfl rfl 65 (by decide) (hts (.fieldLink RX10 129 "ShortTellerModel" "ranks" "[I") (List.mem_of_getElem? (i := 4) rfl)) (fun _ h9 => h9) rfl dX10_ranked_31 ?_
        refine lv_iload_n hx hb dX10_ranked_34 rfl (lv_at hl 1 rfl) ?_
        refine q3_iald (c := c) hx hb hK hP 39 rfl (q2_in (by omega) (by omega)) dX10_ranked_35 (fun n4 en4 => ?_)
        have tn4 : n4.toInt = (f_ranks x_rank.toNatClampNeg).toInt := by rw [en4]
        have rn4 : 0 ≤ n4.toInt ∧ n4.toInt < 16384 := by rw [en4]; exact h4 _
        exact hret (n4) (q2_u [] [0, v_sorted] [f_ranks]) _ _ _ _ ⟨h4, trivial⟩ dX10_ranked_36 hP hD hS
      · have g3 : v_sorted.toInt = (0 : Int) := (q3_eq rfl (by decide)).mp g3
        refine lv_aload_n hx hb dX10_ranked_26 rfl (lv_at hl 0 rfl) ?_
        refine q3_cv (va_runV (As := []) (rest := []) ⟨hx, hb, hml, hown, hts⟩ (y3_sort l D c H.size y a v_tapeSize (0) v_fault v_faultPlace v_things v_options v_lists v_sentences v_headings v_words v_factBits v_known v_soundMany v_wholeLength v_next v_end v_rThings v_rOptions v_rLists v_rSentences v_rHeadings v_lastName v_inSentence v_open v_written v_named v_sorted f_tape f_kind f_owner f_from f_size f_means f_signs f_oKind f_oIn f_oList f_oWords f_oFacts f_listIn f_sOwner f_hFacts f_weights f_lengths f_values f_rKind f_rOwner f_rFrom f_rSize f_rMeans f_rOKind f_rOIn f_rOList f_rOFacts f_rListIn f_rSOwner f_rHFacts f_rWeights f_opKind f_opFrom f_opWord f_opOwner f_opList f_opItems f_out f_ranks h0 h1 h4) (cwV 0 hts gX10_ranked_X10_sort rfl rfl rfl (by decide +kernel) ⟨Nat.le_of_ble_eq_true rfl, Nat.le_of_ble_eq_true rfl⟩) (q3_preV (c := c) (ci := 10) (q0 := 0) hP hK hD rfl rfl) rfl rfl hl.1 rfl (lv_room (Nat.le_of_ble_eq_true rfl)) dX10_ranked_27 ⟨Nat.le_of_ble_eq_true rfl, Nat.le_of_ble_eq_true rfl⟩) hD hS hA (fun un5 H locs pn5 hP hD hS => ?_)
        have pn5 : (∀ j : Nat, 0 ≤ ((un5.2.2 0) j).toInt ∧ ((un5.2.2 0) j).toInt < 16384) ∧ True := pn5
        obtain ⟨pn5_0, -⟩ := pn5
        have hP : va_P D vwCl (wM c y a v_tapeSize (0) v_fault v_faultPlace v_things v_options v_lists v_sentences v_headings v_words v_factBits v_known v_soundMany v_wholeLength v_next v_end v_rThings v_rOptions v_rLists v_rSentences v_rHeadings v_lastName v_inSentence v_open v_written v_named (un5.2.1 0) f_tape f_kind f_owner f_from f_size f_means f_signs f_oKind f_oIn f_oList f_oWords f_oFacts f_listIn f_sOwner f_hFacts f_weights f_lengths f_values f_rKind f_rOwner f_rFrom f_rSize f_rMeans f_rOKind f_rOIn f_rOList f_rOFacts f_rListIn f_rSOwner f_rHFacts f_rWeights f_opKind f_opFrom f_opWord f_opOwner f_opList f_opItems f_out (un5.2.2 0)) H := hP
        have hD : va_D A (wM c y a v_tapeSize (0) v_fault v_faultPlace v_things v_options v_lists v_sentences v_headings v_words v_factBits v_known v_soundMany v_wholeLength v_next v_end v_rThings v_rOptions v_rLists v_rSentences v_rHeadings v_lastName v_inSentence v_open v_written v_named (un5.2.1 0) f_tape f_kind f_owner f_from f_size f_means f_signs f_oKind f_oIn f_oList f_oWords f_oFacts f_listIn f_sOwner f_hFacts f_weights f_lengths f_values f_rKind f_rOwner f_rFrom f_rSize f_rMeans f_rOKind f_rOIn f_rOList f_rOFacts f_rListIn f_rSOwner f_rHFacts f_rWeights f_opKind f_opFrom f_opWord f_opOwner f_opList f_opItems f_out (un5.2.2 0)) := hD
        refine lv_aload_n hx hb dX10_ranked_30 rfl (lv_at hl 0 rfl) ?_
        refine va_get (D := D) (ci := 10) (v := .ref (a 38)) (C := RX10) (T := TX10) (N := 66) hx hb hts iX10 hown hK hP 0 rfl rfl 65 (by decide) (hts (.fieldLink RX10 129 "ShortTellerModel" "ranks" "[I") (List.mem_of_getElem? (i := 4) rfl)) (fun _ h9 => h9) rfl dX10_ranked_31 ?_
        refine lv_iload_n hx hb dX10_ranked_34 rfl (lv_at hl 1 rfl) ?_
        refine q3_iald (c := c) hx hb hK hP 39 rfl (q2_in (by omega) (by omega)) dX10_ranked_35 (fun n6 en6 => ?_)
        have tn6 : n6.toInt = ((un5.2.2 0) x_rank.toNatClampNeg).toInt := by rw [en6]
        have rn6 : 0 ≤ n6.toInt ∧ n6.toInt < 16384 := by rw [en6]; exact pn5_0 _
        exact hret (n6) (q2_u [] [0, un5.2.1 0] [un5.2.2 0]) _ _ _ _ ⟨pn5_0, trivial⟩ dX10_ranked_36 hP hD hS
    · have g2 : ¬ x_rank.toInt < v_soundMany.toInt := (not_congr (q3_lt rfl rfl)).mp g2
      refine lv_iconst (v := -1) hx hb dX10_ranked_17 (by decide) ?_
      exact hret (-1) (q2_u [] [0, v_sorted] [f_ranks]) _ _ _ _ ⟨h4, trivial⟩ dX10_ranked_18 hP hD hS
set_option maxHeartbeats 4000000 in
set_option maxRecDepth 100000 in
theorem y3_least (l : Launch) (D : va_G) (c : Nat → ClassId) (sz : Nat) (y : Nat) (a : Nat → Nat) (v_tapeSize v_thrown v_fault v_faultPlace v_things v_options v_lists v_sentences v_headings v_words v_factBits v_known v_soundMany v_wholeLength v_next v_end v_rThings v_rOptions v_rLists v_rSentences v_rHeadings v_lastName v_inSentence v_open v_written v_named v_sorted : Int32) (f_tape f_kind f_owner f_from f_size f_means f_signs f_oKind f_oIn f_oList f_oWords f_oFacts f_listIn f_sOwner f_hFacts f_weights f_lengths f_values f_rKind f_rOwner f_rFrom f_rSize f_rMeans f_rOKind f_rOIn f_rOList f_rOFacts f_rListIn f_rSOwner f_rHFacts f_rWeights f_opKind f_opFrom f_opWord f_opOwner f_opList f_opItems f_out f_ranks : Nat → Int32) (x_facts : Int32) (h0 : 0 ≤ v_options.toInt) (h1 : v_options.toInt ≤ 14) (h2 : 0 ≤ v_sentences.toInt) (h3 : v_sentences.toInt ≤ 414) (h4 : ∀ j : Nat, -422 < (f_sOwner j).toInt ∧ (f_sOwner j).toInt < 14 ∧ (f_sOwner j).toInt ≠ -1) : Met l yX10_least wsX10_least ({ frames := 3, cells := 0, slots := 0, locals := 67 }) (q3_P D c (wM c y a v_tapeSize v_thrown v_fault v_faultPlace v_things v_options v_lists v_sentences v_headings v_words v_factBits v_known v_soundMany v_wholeLength v_next v_end v_rThings v_rOptions v_rLists v_rSentences v_rHeadings v_lastName v_inSentence v_open v_written v_named v_sorted f_tape f_kind f_owner f_from f_size f_means f_signs f_oKind f_oIn f_oList f_oWords f_oFacts f_listIn f_sOwner f_hFacts f_weights f_lengths f_values f_rKind f_rOwner f_rFrom f_rSize f_rMeans f_rOKind f_rOIn f_rOList f_rOFacts f_rListIn f_rSOwner f_rHFacts f_rWeights f_opKind f_opFrom f_opWord f_opOwner f_opList f_opItems f_out f_ranks) sz [.ref y, .int x_facts]) (q2_i D (wM c y a v_tapeSize v_thrown v_fault v_faultPlace v_things v_options v_lists v_sentences v_headings v_words v_factBits v_known v_soundMany v_wholeLength v_next v_end v_rThings v_rOptions v_rLists v_rSentences v_rHeadings v_lastName v_inSentence v_open v_written v_named v_sorted f_tape f_kind f_owner f_from f_size f_means f_signs f_oKind f_oIn f_oList f_oWords f_oFacts f_listIn f_sOwner f_hFacts f_weights f_lengths f_values f_rKind f_rOwner f_rFrom f_rSize f_rMeans f_rOKind f_rOIn f_rOList f_rOFacts f_rListIn f_rSOwner f_rHFacts f_rWeights f_opKind f_opFrom f_opWord f_opOwner f_opList f_opItems f_out f_ranks) sz (fun r u => True) (fun u => wM c y a v_tapeSize (u.2.1 0) v_fault v_faultPlace v_things v_options v_lists v_sentences v_headings v_words v_factBits v_known v_soundMany v_wholeLength v_next v_end v_rThings v_rOptions v_rLists v_rSentences v_rHeadings v_lastName v_inSentence v_open v_written v_named v_sorted f_tape f_kind f_owner f_from f_size f_means f_signs f_oKind f_oIn f_oList f_oWords f_oFacts f_listIn f_sOwner f_hFacts f_weights f_lengths f_values f_rKind f_rOwner f_rFrom f_rSize f_rMeans f_rOKind f_rOIn f_rOList f_rOFacts f_rListIn f_rSOwner f_rHFacts f_rWeights f_opKind f_opFrom f_opWord f_opOwner f_opList f_opItems f_out f_ranks)) (0) (0) (va_A (wM c y a v_tapeSize v_thrown v_fault v_faultPlace v_things v_options v_lists v_sentences v_headings v_words v_factBits v_known v_soundMany v_wholeLength v_next v_end v_rThings v_rOptions v_rLists v_rSentences v_rHeadings v_lastName v_inSentence v_open v_written v_named v_sorted f_tape f_kind f_owner f_from f_size f_means f_signs f_oKind f_oIn f_oList f_oWords f_oFacts f_listIn f_sOwner f_hFacts f_weights f_lengths f_values f_rKind f_rOwner f_rFrom f_rSize f_rMeans f_rOKind f_rOIn f_rOList f_rOFacts f_rListIn f_rSOwner f_rHFacts f_rWeights f_opKind f_opFrom f_opWord f_opOwner f_opList f_opItems f_out f_ranks) sz) := by
  refine q3_of_i (ty := .int) (fun _ _ _ => rfl) (cc := cX10_least) (maxL := 4) (by decide) rfl (Nat.le_of_ble_eq_true rfl) (fun p e s m args below meth cd A Q ls hx hb hml hown hts hA hS hP hD hK hl hret => ?_)
  have hown : s.vm.findClass RX10 = some m.cls := hown
  obtain ⟨H, eH⟩ : ∃ z, z = s.heap := ⟨_, rfl⟩
  have hP : va_P D vwCl (wM c y a v_tapeSize v_thrown v_fault v_faultPlace v_things v_options v_lists v_sentences v_headings v_words v_factBits v_known v_soundMany v_wholeLength v_next v_end v_rThings v_rOptions v_rLists v_rSentences v_rHeadings v_lastName v_inSentence v_open v_written v_named v_sorted f_tape f_kind f_owner f_from f_size f_means f_signs f_oKind f_oIn f_oList f_oWords f_oFacts f_listIn f_sOwner f_hFacts f_weights f_lengths f_values f_rKind f_rOwner f_rFrom f_rSize f_rMeans f_rOKind f_rOIn f_rOList f_rOFacts f_rListIn f_rSOwner f_rHFacts f_rWeights f_opKind f_opFrom f_opWord f_opOwner f_opList f_opItems f_out f_ranks) H := by rw [eH]; exact hP
  have hS : va_S A s.heap H [] := by rw [eH]; exact hS
  rw [← eH]
  have iX10 : ∀ w ∈ wsX100, w ∈ wsX10_least := fun w h => List.mem_cons_of_mem _ (List.mem_append_right _ h)
  have hl : lv_has ls 4 [(0, .ref y), (1, .int x_facts)] := hl
  refine lv_aload_n hx hb dX10_least_0 rfl (lv_at hl 0 rfl) ?_
  refine lv_iconst (v := 0) hx hb dX10_least_1 (by decide) ?_
  refine va_put (D := D) (ci := 10) (v := .int 0) (ty := .int) (C := RX10) (T := TX10) (N := 66) hx hb hts iX10 tyX10 tyX10_ok nmX10 hown hK hP hD hS 0 rfl rfl 2 (by decide) (hts (.fieldLink RX10 135 "ShortTellerModel" "thrown" "I") (List.mem_of_getElem? (i := 1) rfl)) (fun _ h9 => h9) rfl (by decide +kernel) rfl rfl (Nat.le_of_ble_eq_true rfl) dX10_least_2 (fun H locs hP hD hS => ?_)
  have hP : va_P D vwCl (wM c y a v_tapeSize (0) v_fault v_faultPlace v_things v_options v_lists v_sentences v_headings v_words v_factBits v_known v_soundMany v_wholeLength v_next v_end v_rThings v_rOptions v_rLists v_rSentences v_rHeadings v_lastName v_inSentence v_open v_written v_named v_sorted f_tape f_kind f_owner f_from f_size f_means f_signs f_oKind f_oIn f_oList f_oWords f_oFacts f_listIn f_sOwner f_hFacts f_weights f_lengths f_values f_rKind f_rOwner f_rFrom f_rSize f_rMeans f_rOKind f_rOIn f_rOList f_rOFacts f_rListIn f_rSOwner f_rHFacts f_rWeights f_opKind f_opFrom f_opWord f_opOwner f_opList f_opItems f_out f_ranks) H := hP
  have hD : va_D A (wM c y a v_tapeSize (0) v_fault v_faultPlace v_things v_options v_lists v_sentences v_headings v_words v_factBits v_known v_soundMany v_wholeLength v_next v_end v_rThings v_rOptions v_rLists v_rSentences v_rHeadings v_lastName v_inSentence v_open v_written v_named v_sorted f_tape f_kind f_owner f_from f_size f_means f_signs f_oKind f_oIn f_oList f_oWords f_oFacts f_listIn f_sOwner f_hFacts f_weights f_lengths f_values f_rKind f_rOwner f_rFrom f_rSize f_rMeans f_rOKind f_rOIn f_rOList f_rOFacts f_rListIn f_rSOwner f_rHFacts f_rWeights f_opKind f_opFrom f_opWord f_opOwner f_opList f_opItems f_out f_ranks) := hD
  refine lv_iload_n hx hb dX10_least_5 rfl (lv_at hl 1 rfl) ?_
  refine lv_aload_n hx hb dX10_least_6 rfl (lv_at hl 0 rfl) ?_
  refine va_get (D := D) (ci := 10) (v := .int v_factBits) (C := RX10) (T := TX10) (N := 66) hx hb hts iX10 hown hK hP 0 rfl rfl 26 (by decide) (hts (.fieldLink RX10 245 "ShortTellerModel" "factBits" "I") (List.mem_of_getElem? (i := 2) rfl)) (fun _ h9 => h9) rfl dX10_least_7 ?_
  refine lv_iconst (v := -1) hx hb dX10_least_10 (by decide) ?_
  refine lv_ixor hx hb dX10_least_11 ?_
  refine lv_topi (fun n1 en1 => ?_)
  refine lv_iand hx hb dX10_least_12 ?_
  refine lv_topi (fun n2 en2 => ?_)
  refine lv_if_eq (tgt := 18) hx hb dX10_least_13 (by decide) (fun g3 => ?_) (fun g3 => ?_)
  · have g3 : n2.toInt = (0 : Int) := (q3_eq rfl (by decide)).mp g3
    refine lv_iconst (v := -1) hx hb dX10_least_18 (by decide) ?_
    refine lv_istore_n (lv' := [(2, .int (-1)), (0, .ref y), (1, .int x_facts)]) hx hb dX10_least_19 rfl hl (by decide) rfl (fun ls hl => ?_)
    refine lv_iconst (v := 0) hx hb dX10_least_20 (by decide) ?_
    refine lv_istore_n (lv' := [(3, .int 0), (2, .int (-1)), (0, .ref y), (1, .int x_facts)]) hx hb dX10_least_21 rfl hl (by decide) rfl (fun ls hl => ?_)
    have lp22 : ∀ (k : Nat) (s2_22 : Int32) (s3_22 : Int32), (0 ≤ s3_22.toInt) → (s3_22.toInt ≤ 16384) → 16385 - s3_22.toInt < (k : Int) → ∀ (H : Heap) (locs : List Loc) (ls : Array Slot), va_P D vwCl (wM c y a v_tapeSize (0) v_fault v_faultPlace v_things v_options v_lists v_sentences v_headings v_words v_factBits v_known v_soundMany v_wholeLength v_next v_end v_rThings v_rOptions v_rLists v_rSentences v_rHeadings v_lastName v_inSentence v_open v_written v_named v_sorted f_tape f_kind f_owner f_from f_size f_means f_signs f_oKind f_oIn f_oList f_oWords f_oFacts f_listIn f_sOwner f_hFacts f_weights f_lengths f_values f_rKind f_rOwner f_rFrom f_rSize f_rMeans f_rOKind f_rOIn f_rOList f_rOFacts f_rListIn f_rSOwner f_rHFacts f_rWeights f_opKind f_opFrom f_opWord f_opOwner f_opList f_opItems f_out f_ranks) H → va_D A (wM c y a v_tapeSize (0) v_fault v_faultPlace v_things v_options v_lists v_sentences v_headings v_words v_factBits v_known v_soundMany v_wholeLength v_next v_end v_rThings v_rOptions v_rLists v_rSentences v_rHeadings v_lastName v_inSentence v_open v_written v_named v_sorted f_tape f_kind f_owner f_from f_size f_means f_signs f_oKind f_oIn f_oList f_oWords f_oFacts f_listIn f_sOwner f_hFacts f_weights f_lengths f_values f_rKind f_rOwner f_rFrom f_rSize f_rMeans f_rOKind f_rOIn f_rOList f_rOFacts f_rListIn f_rSOwner f_rHFacts f_rWeights f_opKind f_opFrom f_opWord f_opOwner f_opList f_opItems f_out f_ranks) → va_S A s.heap H locs → lv_has ls 4 [(3, .int s3_22), (2, .int s2_22), (0, .ref y), (1, .int x_facts)] → W p l e ({ frames := 3, cells := 0, slots := 0, locals := 67 }) s m args below meth cd H locs 0 0 Q (F0 m 22 ls []) := by
      intro k
      induction k with
      | zero => intro s2_22 s3_22 j0_22 j1_22 hm; exfalso; omega
      | succ k ih_22 =>
        intro s2_22 s3_22 j0_22 j1_22 hm_22 H locs ls hP hD hS hl
        clear g3
        refine lv_iload_n hx hb dX10_least_22 rfl (lv_at hl 0 rfl) ?_
        refine lv_iconst (v := 1) hx hb dX10_least_23 (by decide) ?_
        refine lv_aload_n hx hb dX10_least_24 rfl (lv_at hl 2 rfl) ?_
        refine va_get (D := D) (ci := 10) (v := .int v_options) (C := RX10) (T := TX10) (N := 66) hx hb hts iX10 hown hK hP 0 rfl rfl 12 (by decide) (hts (.fieldLink RX10 233 "ShortTellerModel" "options" "I") (List.mem_of_getElem? (i := 3) rfl)) (fun _ h9 => h9) rfl dX10_least_25 ?_
        refine lv_ishl hx hb dX10_least_28 ?_
        refine lv_topi (fun n4 en4 => ?_)
        have tn4 := q3_sh en4 (by omega) (by omega)
        refine lv_icmp_ge (tgt := 83) hx hb dX10_least_29 (by decide) (fun g5 => ?_) (fun g5 => ?_)
        · have g5 : n4.toInt ≤ s3_22.toInt := (q3_le rfl rfl).mp g5
          refine lv_iload_n hx hb dX10_least_83 rfl (lv_at hl 1 rfl) ?_
          exact hret (s2_22) (q2_u [] [0] []) _ _ _ _ trivial dX10_least_84 hP hD hS
        · have g5 : ¬ n4.toInt ≤ s3_22.toInt := (not_congr (q3_le rfl rfl)).mp g5
          refine lv_aload_n hx hb dX10_least_32 rfl (lv_at hl 2 rfl) ?_
          refine va_get (D := D) (ci := 10) (v := .ref (a 16)) (C := RX10) (T := TX10) (N := 66) hx hb hts iX10 hown hK hP 0 rfl rfl 28 (by decide) (hts (.fieldLink RX10 62 "ShortTellerModel" "lengths" "[I") (List.mem_of_getElem? (i := 4) rfl)) (fun _ h9 => h9) rfl dX10_least_33 ?_
          refine lv_iload_n hx hb dX10_least_36 rfl (lv_at hl 0 rfl) ?_
          refine q3_iald (c := c) hx hb hK hP 17 rfl (q2_in (by omega) (by omega)) dX10_least_37 (fun n6 en6 => ?_)
          have tn6 : n6.toInt = (f_lengths s3_22.toNatClampNeg).toInt := by rw [en6]
          refine lv_if_lt (tgt := 77) hx hb dX10_least_38 (by decide) (fun g7 => ?_) (fun g7 => ?_)
          · have g7 : n6.toInt < (0 : Int) := (q3_lt rfl (by decide)).mp g7
            obtain ⟨n8, en8⟩ : ∃ z : Int32, z = s3_22 + (1) := ⟨_, rfl⟩
            have tn8 : n8.toInt = s3_22.toInt + (1 : Int) := q3_add en8 rfl (by decide) (by omega) (by omega)
            refine lv_iinc (v := n8) (lv' := [(3, .int n8), (2, .int s2_22), (0, .ref y), (1, .int x_facts)]) hx hb dX10_least_77 hl (k := 0) rfl (by rw [en8]; rfl) (by decide) rfl (fun ls hl => ?_)
            refine lv_goto (tgt := 22) hx hb dX10_least_80 (by decide) ?_
            exact ih_22 s2_22 n8 (show 0 ≤ n8.toInt by omega) (show n8.toInt ≤ 16384 by omega) (show 16385 - n8.toInt < _ by omega) _ _ _ hP hD hS hl
          · have g7 : ¬ n6.toInt < (0 : Int) := (not_congr (q3_lt rfl (by decide))).mp g7
            refine lv_iload_n hx hb dX10_least_41 rfl (lv_at hl 1 rfl) ?_
            refine lv_if_lt (tgt := 55) hx hb dX10_least_42 (by decide) (fun g9 => ?_) (fun g9 => ?_)
            · have g9 : s2_22.toInt < (0 : Int) := (q3_lt rfl (by decide)).mp g9
              refine lv_iload_n hx hb dX10_least_55 rfl (lv_at hl 3 rfl) ?_
              refine lv_aload_n hx hb dX10_least_56 rfl (lv_at hl 2 rfl) ?_
              refine lv_iload_n hx hb dX10_least_57 rfl (lv_at hl 0 rfl) ?_
              refine q3_ci (va_runV (As := [.int s3_22]) (rest := [.int x_facts]) ⟨hx, hb, hml, hown, hts⟩ (y3_told l D c H.size y a v_tapeSize (0) v_fault v_faultPlace v_things v_options v_lists v_sentences v_headings v_words v_factBits v_known v_soundMany v_wholeLength v_next v_end v_rThings v_rOptions v_rLists v_rSentences v_rHeadings v_lastName v_inSentence v_open v_written v_named v_sorted f_tape f_kind f_owner f_from f_size f_means f_signs f_oKind f_oIn f_oList f_oWords f_oFacts f_listIn f_sOwner f_hFacts f_weights f_lengths f_values f_rKind f_rOwner f_rFrom f_rSize f_rMeans f_rOKind f_rOIn f_rOList f_rOFacts f_rListIn f_rSOwner f_rHFacts f_rWeights f_opKind f_opFrom f_opWord f_opOwner f_opList f_opItems f_out f_ranks s3_22 h0 h1 h2 h3 h4) (cwV 1 hts gX10_least_X10_told rfl rfl rfl (by decide +kernel) ⟨Nat.le_of_ble_eq_true rfl, Nat.le_of_ble_eq_true rfl⟩) (q3_preV (c := c) (ci := 10) (q0 := 0) hP hK hD rfl rfl) rfl rfl hl.1 rfl (lv_room (Nat.le_of_ble_eq_true rfl)) dX10_least_58 ⟨Nat.le_of_ble_eq_true rfl, Nat.le_of_ble_eq_true rfl⟩) hD hS hA (fun n10 un10 H locs pn10 hP hD hS => ?_)
              clear pn10
              have hP : va_P D vwCl (wM c y a v_tapeSize (0) v_fault v_faultPlace v_things v_options v_lists v_sentences v_headings v_words v_factBits v_known v_soundMany v_wholeLength v_next v_end v_rThings v_rOptions v_rLists v_rSentences v_rHeadings v_lastName v_inSentence v_open v_written v_named v_sorted f_tape f_kind f_owner f_from f_size f_means f_signs f_oKind f_oIn f_oList f_oWords f_oFacts f_listIn f_sOwner f_hFacts f_weights f_lengths f_values f_rKind f_rOwner f_rFrom f_rSize f_rMeans f_rOKind f_rOIn f_rOList f_rOFacts f_rListIn f_rSOwner f_rHFacts f_rWeights f_opKind f_opFrom f_opWord f_opOwner f_opList f_opItems f_out f_ranks) H := hP
              have hD : va_D A (wM c y a v_tapeSize (0) v_fault v_faultPlace v_things v_options v_lists v_sentences v_headings v_words v_factBits v_known v_soundMany v_wholeLength v_next v_end v_rThings v_rOptions v_rLists v_rSentences v_rHeadings v_lastName v_inSentence v_open v_written v_named v_sorted f_tape f_kind f_owner f_from f_size f_means f_signs f_oKind f_oIn f_oList f_oWords f_oFacts f_listIn f_sOwner f_hFacts f_weights f_lengths f_values f_rKind f_rOwner f_rFrom f_rSize f_rMeans f_rOKind f_rOIn f_rOList f_rOFacts f_rListIn f_rSOwner f_rHFacts f_rWeights f_opKind f_opFrom f_opWord f_opOwner f_opList f_opItems f_out f_ranks) := hD
              refine lv_iconst (v := -1) hx hb dX10_least_61 (by decide) ?_
              refine lv_ixor hx hb dX10_least_62 ?_
              refine lv_topi (fun n11 en11 => ?_)
              refine lv_iand hx hb dX10_least_63 ?_
              refine lv_topi (fun n12 en12 => ?_)
              refine lv_if_eq (tgt := 70) hx hb dX10_least_64 (by decide) (fun g13 => ?_) (fun g13 => ?_)
              · have g13 : n12.toInt = (0 : Int) := (q3_eq rfl (by decide)).mp g13
                refine lv_aload_n hx hb dX10_least_70 rfl (lv_at hl 2 rfl) ?_
                refine va_get (D := D) (ci := 10) (v := .ref (a 16)) (C := RX10) (T := TX10) (N := 66) hx hb hts iX10 hown hK hP 0 rfl rfl 28 (by decide) (hts (.fieldLink RX10 62 "ShortTellerModel" "lengths" "[I") (List.mem_of_getElem? (i := 4) rfl)) (fun _ h9 => h9) rfl dX10_least_71 ?_
                refine lv_iload_n hx hb dX10_least_74 rfl (lv_at hl 0 rfl) ?_
                refine q3_iald (c := c) hx hb hK hP 17 rfl (q2_in (by omega) (by omega)) dX10_least_75 (fun n14 en14 => ?_)
                have tn14 : n14.toInt = (f_lengths s3_22.toNatClampNeg).toInt := by rw [en14]
                refine lv_istore_n (lv' := [(2, .int n14), (3, .int s3_22), (0, .ref y), (1, .int x_facts)]) hx hb dX10_least_76 rfl hl (by decide) rfl (fun ls hl => ?_)
                obtain ⟨n15, en15⟩ : ∃ z : Int32, z = s3_22 + (1) := ⟨_, rfl⟩
                have tn15 : n15.toInt = s3_22.toInt + (1 : Int) := q3_add en15 rfl (by decide) (by omega) (by omega)
                refine lv_iinc (v := n15) (lv' := [(3, .int n15), (2, .int n14), (0, .ref y), (1, .int x_facts)]) hx hb dX10_least_77 hl (k := 1) rfl (by rw [en15]; rfl) (by decide) rfl (fun ls hl => ?_)
                refine lv_goto (tgt := 22) hx hb dX10_least_80 (by decide) ?_
                exact ih_22 n14 n15 (show 0 ≤ n15.toInt by omega) (show n15.toInt ≤ 16384 by omega) (show 16385 - n15.toInt < _ by omega) _ _ _ hP hD hS hl
              · have g13 : ¬ n12.toInt = (0 : Int) := (not_congr (q3_eq rfl (by decide))).mp g13
                refine lv_goto (tgt := 77) hx hb dX10_least_67 (by decide) ?_
                obtain ⟨n16, en16⟩ : ∃ z : Int32, z = s3_22 + (1) := ⟨_, rfl⟩
                have tn16 : n16.toInt = s3_22.toInt + (1 : Int) := q3_add en16 rfl (by decide) (by omega) (by omega)
                refine lv_iinc (v := n16) (lv' := [(3, .int n16), (2, .int s2_22), (0, .ref y), (1, .int x_facts)]) hx hb dX10_least_77 hl (k := 0) rfl (by rw [en16]; rfl) (by decide) rfl (fun ls hl => ?_)
                refine lv_goto (tgt := 22) hx hb dX10_least_80 (by decide) ?_
                exact ih_22 s2_22 n16 (show 0 ≤ n16.toInt by omega) (show n16.toInt ≤ 16384 by omega) (show 16385 - n16.toInt < _ by omega) _ _ _ hP hD hS hl
            · have g9 : ¬ s2_22.toInt < (0 : Int) := (not_congr (q3_lt rfl (by decide))).mp g9
              refine lv_aload_n hx hb dX10_least_45 rfl (lv_at hl 2 rfl) ?_
              refine va_get (D := D) (ci := 10) (v := .ref (a 16)) (C := RX10) (T := TX10) (N := 66) hx hb hts iX10 hown hK hP 0 rfl rfl 28 (by decide) (hts (.fieldLink RX10 62 "ShortTellerModel" "lengths" "[I") (List.mem_of_getElem? (i := 4) rfl)) (fun _ h9 => h9) rfl dX10_least_46 ?_
              refine lv_iload_n hx hb dX10_least_49 rfl (lv_at hl 0 rfl) ?_
              refine q3_iald (c := c) hx hb hK hP 17 rfl (q2_in (by omega) (by omega)) dX10_least_50 (fun n17 en17 => ?_)
              have tn17 : n17.toInt = (f_lengths s3_22.toNatClampNeg).toInt := by rw [en17]
              refine lv_iload_n hx hb dX10_least_51 rfl (lv_at hl 1 rfl) ?_
              refine lv_icmp_ge (tgt := 77) hx hb dX10_least_52 (by decide) (fun g18 => ?_) (fun g18 => ?_)
              · have g18 : s2_22.toInt ≤ n17.toInt := (q3_le rfl rfl).mp g18
                obtain ⟨n19, en19⟩ : ∃ z : Int32, z = s3_22 + (1) := ⟨_, rfl⟩
                have tn19 : n19.toInt = s3_22.toInt + (1 : Int) := q3_add en19 rfl (by decide) (by omega) (by omega)
                refine lv_iinc (v := n19) (lv' := [(3, .int n19), (2, .int s2_22), (0, .ref y), (1, .int x_facts)]) hx hb dX10_least_77 hl (k := 0) rfl (by rw [en19]; rfl) (by decide) rfl (fun ls hl => ?_)
                refine lv_goto (tgt := 22) hx hb dX10_least_80 (by decide) ?_
                exact ih_22 s2_22 n19 (show 0 ≤ n19.toInt by omega) (show n19.toInt ≤ 16384 by omega) (show 16385 - n19.toInt < _ by omega) _ _ _ hP hD hS hl
              · have g18 : ¬ s2_22.toInt ≤ n17.toInt := (not_congr (q3_le rfl rfl)).mp g18
                refine lv_iload_n hx hb dX10_least_55 rfl (lv_at hl 3 rfl) ?_
                refine lv_aload_n hx hb dX10_least_56 rfl (lv_at hl 2 rfl) ?_
                refine lv_iload_n hx hb dX10_least_57 rfl (lv_at hl 0 rfl) ?_
                refine q3_ci (va_runV (As := [.int s3_22]) (rest := [.int x_facts]) ⟨hx, hb, hml, hown, hts⟩ (y3_told l D c H.size y a v_tapeSize (0) v_fault v_faultPlace v_things v_options v_lists v_sentences v_headings v_words v_factBits v_known v_soundMany v_wholeLength v_next v_end v_rThings v_rOptions v_rLists v_rSentences v_rHeadings v_lastName v_inSentence v_open v_written v_named v_sorted f_tape f_kind f_owner f_from f_size f_means f_signs f_oKind f_oIn f_oList f_oWords f_oFacts f_listIn f_sOwner f_hFacts f_weights f_lengths f_values f_rKind f_rOwner f_rFrom f_rSize f_rMeans f_rOKind f_rOIn f_rOList f_rOFacts f_rListIn f_rSOwner f_rHFacts f_rWeights f_opKind f_opFrom f_opWord f_opOwner f_opList f_opItems f_out f_ranks s3_22 h0 h1 h2 h3 h4) (cwV 1 hts gX10_least_X10_told rfl rfl rfl (by decide +kernel) ⟨Nat.le_of_ble_eq_true rfl, Nat.le_of_ble_eq_true rfl⟩) (q3_preV (c := c) (ci := 10) (q0 := 0) hP hK hD rfl rfl) rfl rfl hl.1 rfl (lv_room (Nat.le_of_ble_eq_true rfl)) dX10_least_58 ⟨Nat.le_of_ble_eq_true rfl, Nat.le_of_ble_eq_true rfl⟩) hD hS hA (fun n20 un20 H locs pn20 hP hD hS => ?_)
                clear pn20
                have hP : va_P D vwCl (wM c y a v_tapeSize (0) v_fault v_faultPlace v_things v_options v_lists v_sentences v_headings v_words v_factBits v_known v_soundMany v_wholeLength v_next v_end v_rThings v_rOptions v_rLists v_rSentences v_rHeadings v_lastName v_inSentence v_open v_written v_named v_sorted f_tape f_kind f_owner f_from f_size f_means f_signs f_oKind f_oIn f_oList f_oWords f_oFacts f_listIn f_sOwner f_hFacts f_weights f_lengths f_values f_rKind f_rOwner f_rFrom f_rSize f_rMeans f_rOKind f_rOIn f_rOList f_rOFacts f_rListIn f_rSOwner f_rHFacts f_rWeights f_opKind f_opFrom f_opWord f_opOwner f_opList f_opItems f_out f_ranks) H := hP
                have hD : va_D A (wM c y a v_tapeSize (0) v_fault v_faultPlace v_things v_options v_lists v_sentences v_headings v_words v_factBits v_known v_soundMany v_wholeLength v_next v_end v_rThings v_rOptions v_rLists v_rSentences v_rHeadings v_lastName v_inSentence v_open v_written v_named v_sorted f_tape f_kind f_owner f_from f_size f_means f_signs f_oKind f_oIn f_oList f_oWords f_oFacts f_listIn f_sOwner f_hFacts f_weights f_lengths f_values f_rKind f_rOwner f_rFrom f_rSize f_rMeans f_rOKind f_rOIn f_rOList f_rOFacts f_rListIn f_rSOwner f_rHFacts f_rWeights f_opKind f_opFrom f_opWord f_opOwner f_opList f_opItems f_out f_ranks) := hD
                refine lv_iconst (v := -1) hx hb dX10_least_61 (by decide) ?_
                refine lv_ixor hx hb dX10_least_62 ?_
                refine lv_topi (fun n21 en21 => ?_)
                refine lv_iand hx hb dX10_least_63 ?_
                refine lv_topi (fun n22 en22 => ?_)
                refine lv_if_eq (tgt := 70) hx hb dX10_least_64 (by decide) (fun g23 => ?_) (fun g23 => ?_)
                · have g23 : n22.toInt = (0 : Int) := (q3_eq rfl (by decide)).mp g23
                  refine lv_aload_n hx hb dX10_least_70 rfl (lv_at hl 2 rfl) ?_
                  refine va_get (D := D) (ci := 10) (v := .ref (a 16)) (C := RX10) (T := TX10) (N := 66) hx hb hts iX10 hown hK hP 0 rfl rfl 28 (by decide) (hts (.fieldLink RX10 62 "ShortTellerModel" "lengths" "[I") (List.mem_of_getElem? (i := 4) rfl)) (fun _ h9 => h9) rfl dX10_least_71 ?_
                  refine lv_iload_n hx hb dX10_least_74 rfl (lv_at hl 0 rfl) ?_
                  refine q3_iald (c := c) hx hb hK hP 17 rfl (q2_in (by omega) (by omega)) dX10_least_75 (fun n24 en24 => ?_)
                  have tn24 : n24.toInt = (f_lengths s3_22.toNatClampNeg).toInt := by rw [en24]
                  refine lv_istore_n (lv' := [(2, .int n24), (3, .int s3_22), (0, .ref y), (1, .int x_facts)]) hx hb dX10_least_76 rfl hl (by decide) rfl (fun ls hl => ?_)
                  obtain ⟨n25, en25⟩ : ∃ z : Int32, z = s3_22 + (1) := ⟨_, rfl⟩
                  have tn25 : n25.toInt = s3_22.toInt + (1 : Int) := q3_add en25 rfl (by decide) (by omega) (by omega)
                  refine lv_iinc (v := n25) (lv' := [(3, .int n25), (2, .int n24), (0, .ref y), (1, .int x_facts)]) hx hb dX10_least_77 hl (k := 1) rfl (by rw [en25]; rfl) (by decide) rfl (fun ls hl => ?_)
                  refine lv_goto (tgt := 22) hx hb dX10_least_80 (by decide) ?_
                  exact ih_22 n24 n25 (show 0 ≤ n25.toInt by omega) (show n25.toInt ≤ 16384 by omega) (show 16385 - n25.toInt < _ by omega) _ _ _ hP hD hS hl
                · have g23 : ¬ n22.toInt = (0 : Int) := (not_congr (q3_eq rfl (by decide))).mp g23
                  refine lv_goto (tgt := 77) hx hb dX10_least_67 (by decide) ?_
                  obtain ⟨n26, en26⟩ : ∃ z : Int32, z = s3_22 + (1) := ⟨_, rfl⟩
                  have tn26 : n26.toInt = s3_22.toInt + (1 : Int) := q3_add en26 rfl (by decide) (by omega) (by omega)
                  refine lv_iinc (v := n26) (lv' := [(3, .int n26), (2, .int s2_22), (0, .ref y), (1, .int x_facts)]) hx hb dX10_least_77 hl (k := 0) rfl (by rw [en26]; rfl) (by decide) rfl (fun ls hl => ?_)
                  refine lv_goto (tgt := 22) hx hb dX10_least_80 (by decide) ?_
                  exact ih_22 s2_22 n26 (show 0 ≤ n26.toInt by omega) (show n26.toInt ≤ 16384 by omega) (show 16385 - n26.toInt < _ by omega) _ _ _ hP hD hS hl
    exact lp22 (Int.toNat (16385 - (0 : Int)) + 1) (-1) (0) (show 0 ≤ (0 : Int) by omega) (show (0 : Int) ≤ 16384 by omega) (show 16385 - (0 : Int) < ((Int.toNat (16385 - (0 : Int)) + 1 : Nat) : Int) by omega) _ _ _ hP hD hS hl
  · have g3 : ¬ n2.toInt = (0 : Int) := (not_congr (q3_eq rfl (by decide))).mp g3
    refine lv_iconst (v := -1) hx hb dX10_least_16 (by decide) ?_
    exact hret (-1) (q2_u [] [0] []) _ _ _ _ trivial dX10_least_17 hP hD hS
set_option maxHeartbeats 4000000 in
set_option maxRecDepth 100000 in
theorem y3_bits (l : Launch) (D : va_G) (c : Nat → ClassId) (sz : Nat) (y : Nat) (a : Nat → Nat) (v_tapeSize v_thrown v_fault v_faultPlace v_things v_options v_lists v_sentences v_headings v_words v_factBits v_known v_soundMany v_wholeLength v_next v_end v_rThings v_rOptions v_rLists v_rSentences v_rHeadings v_lastName v_inSentence v_open v_written v_named v_sorted : Int32) (f_tape f_kind f_owner f_from f_size f_means f_signs f_oKind f_oIn f_oList f_oWords f_oFacts f_listIn f_sOwner f_hFacts f_weights f_lengths f_values f_rKind f_rOwner f_rFrom f_rSize f_rMeans f_rOKind f_rOIn f_rOList f_rOFacts f_rListIn f_rSOwner f_rHFacts f_rWeights f_opKind f_opFrom f_opWord f_opOwner f_opList f_opItems f_out f_ranks : Nat → Int32) (x_v : Int32) : Met l yX10_bits wsX10_bits ({ frames := 0, cells := 0, slots := 0, locals := 0 }) (q3_P D c (wM c y a v_tapeSize v_thrown v_fault v_faultPlace v_things v_options v_lists v_sentences v_headings v_words v_factBits v_known v_soundMany v_wholeLength v_next v_end v_rThings v_rOptions v_rLists v_rSentences v_rHeadings v_lastName v_inSentence v_open v_written v_named v_sorted f_tape f_kind f_owner f_from f_size f_means f_signs f_oKind f_oIn f_oList f_oWords f_oFacts f_listIn f_sOwner f_hFacts f_weights f_lengths f_values f_rKind f_rOwner f_rFrom f_rSize f_rMeans f_rOKind f_rOIn f_rOList f_rOFacts f_rListIn f_rSOwner f_rHFacts f_rWeights f_opKind f_opFrom f_opWord f_opOwner f_opList f_opItems f_out f_ranks) sz [.int x_v]) (q2_i D (wM c y a v_tapeSize v_thrown v_fault v_faultPlace v_things v_options v_lists v_sentences v_headings v_words v_factBits v_known v_soundMany v_wholeLength v_next v_end v_rThings v_rOptions v_rLists v_rSentences v_rHeadings v_lastName v_inSentence v_open v_written v_named v_sorted f_tape f_kind f_owner f_from f_size f_means f_signs f_oKind f_oIn f_oList f_oWords f_oFacts f_listIn f_sOwner f_hFacts f_weights f_lengths f_values f_rKind f_rOwner f_rFrom f_rSize f_rMeans f_rOKind f_rOIn f_rOList f_rOFacts f_rListIn f_rSOwner f_rHFacts f_rWeights f_opKind f_opFrom f_opWord f_opOwner f_opList f_opItems f_out f_ranks) sz (fun r u => True) (fun u => wM c y a v_tapeSize v_thrown v_fault v_faultPlace v_things v_options v_lists v_sentences v_headings v_words v_factBits v_known v_soundMany v_wholeLength v_next v_end v_rThings v_rOptions v_rLists v_rSentences v_rHeadings v_lastName v_inSentence v_open v_written v_named v_sorted f_tape f_kind f_owner f_from f_size f_means f_signs f_oKind f_oIn f_oList f_oWords f_oFacts f_listIn f_sOwner f_hFacts f_weights f_lengths f_values f_rKind f_rOwner f_rFrom f_rSize f_rMeans f_rOKind f_rOIn f_rOList f_rOFacts f_rListIn f_rSOwner f_rHFacts f_rWeights f_opKind f_opFrom f_opWord f_opOwner f_opList f_opItems f_out f_ranks)) (0) (0) (va_A (wM c y a v_tapeSize v_thrown v_fault v_faultPlace v_things v_options v_lists v_sentences v_headings v_words v_factBits v_known v_soundMany v_wholeLength v_next v_end v_rThings v_rOptions v_rLists v_rSentences v_rHeadings v_lastName v_inSentence v_open v_written v_named v_sorted f_tape f_kind f_owner f_from f_size f_means f_signs f_oKind f_oIn f_oList f_oWords f_oFacts f_listIn f_sOwner f_hFacts f_weights f_lengths f_values f_rKind f_rOwner f_rFrom f_rSize f_rMeans f_rOKind f_rOIn f_rOList f_rOFacts f_rListIn f_rSOwner f_rHFacts f_rWeights f_opKind f_opFrom f_opWord f_opOwner f_opList f_opItems f_out f_ranks) sz) := by
  refine q3_of_i (ty := .int) (fun _ _ _ => rfl) (cc := cX10_bits) (maxL := 3) (by decide) rfl (Nat.le_of_ble_eq_true rfl) (fun p e s m args below meth cd A Q ls hx hb hml hown hts hA hS hP hD hK hl hret => ?_)
  have hown : s.vm.findClass RX10 = some m.cls := hown
  obtain ⟨H, eH⟩ : ∃ z, z = s.heap := ⟨_, rfl⟩
  have hP : va_P D vwCl (wM c y a v_tapeSize v_thrown v_fault v_faultPlace v_things v_options v_lists v_sentences v_headings v_words v_factBits v_known v_soundMany v_wholeLength v_next v_end v_rThings v_rOptions v_rLists v_rSentences v_rHeadings v_lastName v_inSentence v_open v_written v_named v_sorted f_tape f_kind f_owner f_from f_size f_means f_signs f_oKind f_oIn f_oList f_oWords f_oFacts f_listIn f_sOwner f_hFacts f_weights f_lengths f_values f_rKind f_rOwner f_rFrom f_rSize f_rMeans f_rOKind f_rOIn f_rOList f_rOFacts f_rListIn f_rSOwner f_rHFacts f_rWeights f_opKind f_opFrom f_opWord f_opOwner f_opList f_opItems f_out f_ranks) H := by rw [eH]; exact hP
  have hS : va_S A s.heap H [] := by rw [eH]; exact hS
  rw [← eH]
  have hl : lv_has ls 3 [(0, .int x_v)] := hl
  refine lv_iconst (v := 0) hx hb dX10_bits_0 (by decide) ?_
  refine lv_istore_n (lv' := [(1, .int 0), (0, .int x_v)]) hx hb dX10_bits_1 rfl hl (by decide) rfl (fun ls hl => ?_)
  refine lv_iconst (v := 0) hx hb dX10_bits_2 (by decide) ?_
  refine lv_istore_n (lv' := [(2, .int 0), (1, .int 0), (0, .int x_v)]) hx hb dX10_bits_3 rfl hl (by decide) rfl (fun ls hl => ?_)
  have lp4 : ∀ (k : Nat) (s1_4 : Int32) (s2_4 : Int32), (0 ≤ s2_4.toInt) → (s2_4.toInt ≤ 14) → 15 - s2_4.toInt < (k : Int) → ∀ (H : Heap) (locs : List Loc) (ls : Array Slot), va_P D vwCl (wM c y a v_tapeSize v_thrown v_fault v_faultPlace v_things v_options v_lists v_sentences v_headings v_words v_factBits v_known v_soundMany v_wholeLength v_next v_end v_rThings v_rOptions v_rLists v_rSentences v_rHeadings v_lastName v_inSentence v_open v_written v_named v_sorted f_tape f_kind f_owner f_from f_size f_means f_signs f_oKind f_oIn f_oList f_oWords f_oFacts f_listIn f_sOwner f_hFacts f_weights f_lengths f_values f_rKind f_rOwner f_rFrom f_rSize f_rMeans f_rOKind f_rOIn f_rOList f_rOFacts f_rListIn f_rSOwner f_rHFacts f_rWeights f_opKind f_opFrom f_opWord f_opOwner f_opList f_opItems f_out f_ranks) H → va_D A (wM c y a v_tapeSize v_thrown v_fault v_faultPlace v_things v_options v_lists v_sentences v_headings v_words v_factBits v_known v_soundMany v_wholeLength v_next v_end v_rThings v_rOptions v_rLists v_rSentences v_rHeadings v_lastName v_inSentence v_open v_written v_named v_sorted f_tape f_kind f_owner f_from f_size f_means f_signs f_oKind f_oIn f_oList f_oWords f_oFacts f_listIn f_sOwner f_hFacts f_weights f_lengths f_values f_rKind f_rOwner f_rFrom f_rSize f_rMeans f_rOKind f_rOIn f_rOList f_rOFacts f_rListIn f_rSOwner f_rHFacts f_rWeights f_opKind f_opFrom f_opWord f_opOwner f_opList f_opItems f_out f_ranks) → va_S A s.heap H locs → lv_has ls 3 [(2, .int s2_4), (1, .int s1_4), (0, .int x_v)] → W p l e ({ frames := 0, cells := 0, slots := 0, locals := 0 }) s m args below meth cd H locs 0 0 Q (F0 m 4 ls []) := by
    intro k
    induction k with
    | zero => intro s1_4 s2_4 j0_4 j1_4 hm; exfalso; omega
    | succ k ih_4 =>
      intro s1_4 s2_4 j0_4 j1_4 hm_4 H locs ls hP hD hS hl
      refine lv_iload_n hx hb dX10_bits_4 rfl (lv_at hl 0 rfl) ?_
      refine lv_bipush (v := 14) hx hb dX10_bits_5 (by decide) ?_
      refine lv_icmp_ge (tgt := 24) hx hb dX10_bits_7 (by decide) (fun g1 => ?_) (fun g1 => ?_)
      · have g1 : (14 : Int) ≤ s2_4.toInt := (q3_le (by decide) rfl).mp g1
        refine lv_iload_n hx hb dX10_bits_24 rfl (lv_at hl 1 rfl) ?_
        exact hret (s1_4) (q2_u [] [] []) _ _ _ _ trivial dX10_bits_25 hP hD hS
      · have g1 : ¬ (14 : Int) ≤ s2_4.toInt := (not_congr (q3_le (by decide) rfl)).mp g1
        refine lv_iload_n hx hb dX10_bits_10 rfl (lv_at hl 1 rfl) ?_
        refine lv_iload_n hx hb dX10_bits_11 rfl (lv_at hl 2 rfl) ?_
        refine lv_iload_n hx hb dX10_bits_12 rfl (lv_at hl 0 rfl) ?_
        refine lv_ishr hx hb dX10_bits_13 ?_
        refine lv_topi (fun n2 en2 => ?_)
        refine lv_iconst (v := 1) hx hb dX10_bits_14 (by decide) ?_
        refine lv_iand hx hb dX10_bits_15 ?_
        refine lv_topi (fun n3 en3 => ?_)
        have tn3 := q3_and1 en3
        refine lv_iadd hx hb dX10_bits_16 ?_
        refine lv_topi (fun n4 en4 => ?_)
        refine lv_istore_n (lv' := [(1, .int n4), (2, .int s2_4), (0, .int x_v)]) hx hb dX10_bits_17 rfl hl (by decide) rfl (fun ls hl => ?_)
        obtain ⟨n5, en5⟩ : ∃ z : Int32, z = s2_4 + (1) := ⟨_, rfl⟩
        have tn5 : n5.toInt = s2_4.toInt + (1 : Int) := q3_add en5 rfl (by decide) (by omega) (by omega)
        refine lv_iinc (v := n5) (lv' := [(2, .int n5), (1, .int n4), (0, .int x_v)]) hx hb dX10_bits_18 hl (k := 1) rfl (by rw [en5]; rfl) (by decide) rfl (fun ls hl => ?_)
        refine lv_goto (tgt := 4) hx hb dX10_bits_21 (by decide) ?_
        exact ih_4 n4 n5 (show 0 ≤ n5.toInt by omega) (show n5.toInt ≤ 14 by omega) (show 15 - n5.toInt < _ by omega) _ _ _ hP hD hS hl
  exact lp4 (Int.toNat (15 - (0 : Int)) + 1) (0) (0) (show 0 ≤ (0 : Int) by omega) (show (0 : Int) ≤ 14 by omega) (show 15 - (0 : Int) < ((Int.toNat (15 - (0 : Int)) + 1 : Nat) : Int) by omega) _ _ _ hP hD hS hl
set_option maxHeartbeats 4000000 in
set_option maxRecDepth 100000 in
theorem y3_turned (l : Launch) (D : va_G) (c : Nat → ClassId) (sz : Nat) (y : Nat) (a : Nat → Nat) (v_tapeSize v_thrown v_fault v_faultPlace v_things v_options v_lists v_sentences v_headings v_words v_factBits v_known v_soundMany v_wholeLength v_next v_end v_rThings v_rOptions v_rLists v_rSentences v_rHeadings v_lastName v_inSentence v_open v_written v_named v_sorted : Int32) (f_tape f_kind f_owner f_from f_size f_means f_signs f_oKind f_oIn f_oList f_oWords f_oFacts f_listIn f_sOwner f_hFacts f_weights f_lengths f_values f_rKind f_rOwner f_rFrom f_rSize f_rMeans f_rOKind f_rOIn f_rOList f_rOFacts f_rListIn f_rSOwner f_rHFacts f_rWeights f_opKind f_opFrom f_opWord f_opOwner f_opList f_opItems f_out f_ranks : Nat → Int32) (x_q : Int32) (x_o : Int32) (h0 : 0 ≤ v_options.toInt) (h1 : v_options.toInt ≤ 14) : Met l yX10_turned wsX10_turned ({ frames := 2, cells := 0, slots := 0, locals := 42 }) (q3_P D c (wM c y a v_tapeSize v_thrown v_fault v_faultPlace v_things v_options v_lists v_sentences v_headings v_words v_factBits v_known v_soundMany v_wholeLength v_next v_end v_rThings v_rOptions v_rLists v_rSentences v_rHeadings v_lastName v_inSentence v_open v_written v_named v_sorted f_tape f_kind f_owner f_from f_size f_means f_signs f_oKind f_oIn f_oList f_oWords f_oFacts f_listIn f_sOwner f_hFacts f_weights f_lengths f_values f_rKind f_rOwner f_rFrom f_rSize f_rMeans f_rOKind f_rOIn f_rOList f_rOFacts f_rListIn f_rSOwner f_rHFacts f_rWeights f_opKind f_opFrom f_opWord f_opOwner f_opList f_opItems f_out f_ranks) sz [.ref y, .int x_q, .int x_o]) (q2_i D (wM c y a v_tapeSize v_thrown v_fault v_faultPlace v_things v_options v_lists v_sentences v_headings v_words v_factBits v_known v_soundMany v_wholeLength v_next v_end v_rThings v_rOptions v_rLists v_rSentences v_rHeadings v_lastName v_inSentence v_open v_written v_named v_sorted f_tape f_kind f_owner f_from f_size f_means f_signs f_oKind f_oIn f_oList f_oWords f_oFacts f_listIn f_sOwner f_hFacts f_weights f_lengths f_values f_rKind f_rOwner f_rFrom f_rSize f_rMeans f_rOKind f_rOIn f_rOList f_rOFacts f_rListIn f_rSOwner f_rHFacts f_rWeights f_opKind f_opFrom f_opWord f_opOwner f_opList f_opItems f_out f_ranks) sz (fun r u => True) (fun u => wM c y a v_tapeSize (u.2.1 0) v_fault v_faultPlace v_things v_options v_lists v_sentences v_headings v_words v_factBits v_known v_soundMany v_wholeLength v_next v_end v_rThings v_rOptions v_rLists v_rSentences v_rHeadings v_lastName v_inSentence v_open v_written v_named v_sorted f_tape f_kind f_owner f_from f_size f_means f_signs f_oKind f_oIn f_oList f_oWords f_oFacts f_listIn f_sOwner f_hFacts f_weights f_lengths f_values f_rKind f_rOwner f_rFrom f_rSize f_rMeans f_rOKind f_rOIn f_rOList f_rOFacts f_rListIn f_rSOwner f_rHFacts f_rWeights f_opKind f_opFrom f_opWord f_opOwner f_opList f_opItems f_out f_ranks)) (0) (0) (va_A (wM c y a v_tapeSize v_thrown v_fault v_faultPlace v_things v_options v_lists v_sentences v_headings v_words v_factBits v_known v_soundMany v_wholeLength v_next v_end v_rThings v_rOptions v_rLists v_rSentences v_rHeadings v_lastName v_inSentence v_open v_written v_named v_sorted f_tape f_kind f_owner f_from f_size f_means f_signs f_oKind f_oIn f_oList f_oWords f_oFacts f_listIn f_sOwner f_hFacts f_weights f_lengths f_values f_rKind f_rOwner f_rFrom f_rSize f_rMeans f_rOKind f_rOIn f_rOList f_rOFacts f_rListIn f_rSOwner f_rHFacts f_rWeights f_opKind f_opFrom f_opWord f_opOwner f_opList f_opItems f_out f_ranks) sz) := by
  refine q3_of_i (ty := .int) (fun _ _ _ => rfl) (cc := cX10_turned) (maxL := 7) (by decide) rfl (Nat.le_of_ble_eq_true rfl) (fun p e s m args below meth cd A Q ls hx hb hml hown hts hA hS hP hD hK hl hret => ?_)
  have hown : s.vm.findClass RX10 = some m.cls := hown
  obtain ⟨H, eH⟩ : ∃ z, z = s.heap := ⟨_, rfl⟩
  have hP : va_P D vwCl (wM c y a v_tapeSize v_thrown v_fault v_faultPlace v_things v_options v_lists v_sentences v_headings v_words v_factBits v_known v_soundMany v_wholeLength v_next v_end v_rThings v_rOptions v_rLists v_rSentences v_rHeadings v_lastName v_inSentence v_open v_written v_named v_sorted f_tape f_kind f_owner f_from f_size f_means f_signs f_oKind f_oIn f_oList f_oWords f_oFacts f_listIn f_sOwner f_hFacts f_weights f_lengths f_values f_rKind f_rOwner f_rFrom f_rSize f_rMeans f_rOKind f_rOIn f_rOList f_rOFacts f_rListIn f_rSOwner f_rHFacts f_rWeights f_opKind f_opFrom f_opWord f_opOwner f_opList f_opItems f_out f_ranks) H := by rw [eH]; exact hP
  have hS : va_S A s.heap H [] := by rw [eH]; exact hS
  rw [← eH]
  have iX10 : ∀ w ∈ wsX100, w ∈ wsX10_turned := fun w h => List.mem_cons_of_mem _ (List.mem_append_right _ h)
  have hl : lv_has ls 7 [(0, .ref y), (1, .int x_q), (2, .int x_o)] := hl
  refine lv_aload_n hx hb dX10_turned_0 rfl (lv_at hl 0 rfl) ?_
  refine lv_iconst (v := 0) hx hb dX10_turned_1 (by decide) ?_
  refine va_put (D := D) (ci := 10) (v := .int 0) (ty := .int) (C := RX10) (T := TX10) (N := 66) hx hb hts iX10 tyX10 tyX10_ok nmX10 hown hK hP hD hS 0 rfl rfl 2 (by decide) (hts (.fieldLink RX10 135 "ShortTellerModel" "thrown" "I") (List.mem_of_getElem? (i := 1) rfl)) (fun _ h9 => h9) rfl (by decide +kernel) rfl rfl (Nat.le_of_ble_eq_true rfl) dX10_turned_2 (fun H locs hP hD hS => ?_)
  have hP : va_P D vwCl (wM c y a v_tapeSize (0) v_fault v_faultPlace v_things v_options v_lists v_sentences v_headings v_words v_factBits v_known v_soundMany v_wholeLength v_next v_end v_rThings v_rOptions v_rLists v_rSentences v_rHeadings v_lastName v_inSentence v_open v_written v_named v_sorted f_tape f_kind f_owner f_from f_size f_means f_signs f_oKind f_oIn f_oList f_oWords f_oFacts f_listIn f_sOwner f_hFacts f_weights f_lengths f_values f_rKind f_rOwner f_rFrom f_rSize f_rMeans f_rOKind f_rOIn f_rOList f_rOFacts f_rListIn f_rSOwner f_rHFacts f_rWeights f_opKind f_opFrom f_opWord f_opOwner f_opList f_opItems f_out f_ranks) H := hP
  have hD : va_D A (wM c y a v_tapeSize (0) v_fault v_faultPlace v_things v_options v_lists v_sentences v_headings v_words v_factBits v_known v_soundMany v_wholeLength v_next v_end v_rThings v_rOptions v_rLists v_rSentences v_rHeadings v_lastName v_inSentence v_open v_written v_named v_sorted f_tape f_kind f_owner f_from f_size f_means f_signs f_oKind f_oIn f_oList f_oWords f_oFacts f_listIn f_sOwner f_hFacts f_weights f_lengths f_values f_rKind f_rOwner f_rFrom f_rSize f_rMeans f_rOKind f_rOIn f_rOList f_rOFacts f_rListIn f_rSOwner f_rHFacts f_rWeights f_opKind f_opFrom f_opWord f_opOwner f_opList f_opItems f_out f_ranks) := hD
  refine lv_aload_n hx hb dX10_turned_5 rfl (lv_at hl 0 rfl) ?_
  refine lv_iload_n hx hb dX10_turned_6 rfl (lv_at hl 1 rfl) ?_
  refine q3_ci (va_runV (As := [.int x_q]) (rest := []) ⟨hx, hb, hml, hown, hts⟩ (y3_soundOne l D c H.size y a v_tapeSize (0) v_fault v_faultPlace v_things v_options v_lists v_sentences v_headings v_words v_factBits v_known v_soundMany v_wholeLength v_next v_end v_rThings v_rOptions v_rLists v_rSentences v_rHeadings v_lastName v_inSentence v_open v_written v_named v_sorted f_tape f_kind f_owner f_from f_size f_means f_signs f_oKind f_oIn f_oList f_oWords f_oFacts f_listIn f_sOwner f_hFacts f_weights f_lengths f_values f_rKind f_rOwner f_rFrom f_rSize f_rMeans f_rOKind f_rOIn f_rOList f_rOFacts f_rListIn f_rSOwner f_rHFacts f_rWeights f_opKind f_opFrom f_opWord f_opOwner f_opList f_opItems f_out f_ranks x_q h0 h1) (cwV 1 hts gX10_turned_X10_soundOne rfl rfl rfl (by decide +kernel) ⟨Nat.le_of_ble_eq_true rfl, Nat.le_of_ble_eq_true rfl⟩) (q3_preV (c := c) (ci := 10) (q0 := 0) hP hK hD rfl rfl) rfl rfl hl.1 rfl (lv_room (Nat.le_of_ble_eq_true rfl)) dX10_turned_7 ⟨Nat.le_of_ble_eq_true rfl, Nat.le_of_ble_eq_true rfl⟩) hD hS hA (fun n1 un1 H locs pn1 hP hD hS => ?_)
  have pn1 : (n1.toInt = 0 ∨ n1.toInt = 1) ∧ (n1.toInt = 0 ∨ (0 ≤ x_q.toInt ∧ x_q.toInt < 16384)) ∧ True := pn1
  obtain ⟨pn1_0, pn1_1, -⟩ := pn1
  have hP : va_P D vwCl (wM c y a v_tapeSize (0) v_fault v_faultPlace v_things v_options v_lists v_sentences v_headings v_words v_factBits v_known v_soundMany v_wholeLength v_next v_end v_rThings v_rOptions v_rLists v_rSentences v_rHeadings v_lastName v_inSentence v_open v_written v_named v_sorted f_tape f_kind f_owner f_from f_size f_means f_signs f_oKind f_oIn f_oList f_oWords f_oFacts f_listIn f_sOwner f_hFacts f_weights f_lengths f_values f_rKind f_rOwner f_rFrom f_rSize f_rMeans f_rOKind f_rOIn f_rOList f_rOFacts f_rListIn f_rSOwner f_rHFacts f_rWeights f_opKind f_opFrom f_opWord f_opOwner f_opList f_opItems f_out f_ranks) H := hP
  have hD : va_D A (wM c y a v_tapeSize (0) v_fault v_faultPlace v_things v_options v_lists v_sentences v_headings v_words v_factBits v_known v_soundMany v_wholeLength v_next v_end v_rThings v_rOptions v_rLists v_rSentences v_rHeadings v_lastName v_inSentence v_open v_written v_named v_sorted f_tape f_kind f_owner f_from f_size f_means f_signs f_oKind f_oIn f_oList f_oWords f_oFacts f_listIn f_sOwner f_hFacts f_weights f_lengths f_values f_rKind f_rOwner f_rFrom f_rSize f_rMeans f_rOKind f_rOIn f_rOList f_rOFacts f_rListIn f_rSOwner f_rHFacts f_rWeights f_opKind f_opFrom f_opWord f_opOwner f_opList f_opItems f_out f_ranks) := hD
  refine lv_if_eq (tgt := 25) hx hb dX10_turned_10 (by decide) (fun g2 => ?_) (fun g2 => ?_)
  · have g2 : n1.toInt = (0 : Int) := (q3_eq rfl (by decide)).mp g2
    clear pn1_1
    refine lv_iconst (v := -1) hx hb dX10_turned_25 (by decide) ?_
    exact hret (-1) (q2_u [] [0] []) _ _ _ _ trivial dX10_turned_26 hP hD hS
  · have g2 : ¬ n1.toInt = (0 : Int) := (not_congr (q3_eq rfl (by decide))).mp g2
    replace pn1_1 := pn1_1.resolve_left g2
    refine lv_iload_n hx hb dX10_turned_13 rfl (lv_at hl 2 rfl) ?_
    refine lv_if_lt (tgt := 25) hx hb dX10_turned_14 (by decide) (fun g3 => ?_) (fun g3 => ?_)
    · have g3 : x_o.toInt < (0 : Int) := (q3_lt rfl (by decide)).mp g3
      refine lv_iconst (v := -1) hx hb dX10_turned_25 (by decide) ?_
      exact hret (-1) (q2_u [] [0] []) _ _ _ _ trivial dX10_turned_26 hP hD hS
    · have g3 : ¬ x_o.toInt < (0 : Int) := (not_congr (q3_lt rfl (by decide))).mp g3
      refine lv_iload_n hx hb dX10_turned_17 rfl (lv_at hl 2 rfl) ?_
      refine lv_aload_n hx hb dX10_turned_18 rfl (lv_at hl 0 rfl) ?_
      refine va_get (D := D) (ci := 10) (v := .int v_options) (C := RX10) (T := TX10) (N := 66) hx hb hts iX10 hown hK hP 0 rfl rfl 12 (by decide) (hts (.fieldLink RX10 233 "ShortTellerModel" "options" "I") (List.mem_of_getElem? (i := 2) rfl)) (fun _ h9 => h9) rfl dX10_turned_19 ?_
      refine lv_icmp_lt (tgt := 27) hx hb dX10_turned_22 (by decide) (fun g4 => ?_) (fun g4 => ?_)
      · have g4 : x_o.toInt < v_options.toInt := (q3_lt rfl rfl).mp g4
        refine lv_iconst (v := -1) hx hb dX10_turned_27 (by decide) ?_
        refine lv_istore_n (lv' := [(3, .int (-1)), (0, .ref y), (1, .int x_q), (2, .int x_o)]) hx hb dX10_turned_28 rfl hl (by decide) rfl (fun ls hl => ?_)
        refine lv_iconst (v := 0) hx hb dX10_turned_29 (by decide) ?_
        refine lv_istore (lv' := [(4, .int 0), (3, .int (-1)), (0, .ref y), (1, .int x_q), (2, .int x_o)]) hx hb dX10_turned_30 hl (by decide) rfl (fun ls hl => ?_)
        have lp32 : ∀ (k : Nat) (s3_32 : Int32) (s4_32 : Int32), (-1 ≤ s3_32.toInt) → (s3_32.toInt < 16384) → (0 ≤ s4_32.toInt) → (s4_32.toInt ≤ 16384) → 16385 - s4_32.toInt < (k : Int) → ∀ (H : Heap) (locs : List Loc) (ls : Array Slot), va_P D vwCl (wM c y a v_tapeSize (0) v_fault v_faultPlace v_things v_options v_lists v_sentences v_headings v_words v_factBits v_known v_soundMany v_wholeLength v_next v_end v_rThings v_rOptions v_rLists v_rSentences v_rHeadings v_lastName v_inSentence v_open v_written v_named v_sorted f_tape f_kind f_owner f_from f_size f_means f_signs f_oKind f_oIn f_oList f_oWords f_oFacts f_listIn f_sOwner f_hFacts f_weights f_lengths f_values f_rKind f_rOwner f_rFrom f_rSize f_rMeans f_rOKind f_rOIn f_rOList f_rOFacts f_rListIn f_rSOwner f_rHFacts f_rWeights f_opKind f_opFrom f_opWord f_opOwner f_opList f_opItems f_out f_ranks) H → va_D A (wM c y a v_tapeSize (0) v_fault v_faultPlace v_things v_options v_lists v_sentences v_headings v_words v_factBits v_known v_soundMany v_wholeLength v_next v_end v_rThings v_rOptions v_rLists v_rSentences v_rHeadings v_lastName v_inSentence v_open v_written v_named v_sorted f_tape f_kind f_owner f_from f_size f_means f_signs f_oKind f_oIn f_oList f_oWords f_oFacts f_listIn f_sOwner f_hFacts f_weights f_lengths f_values f_rKind f_rOwner f_rFrom f_rSize f_rMeans f_rOKind f_rOIn f_rOList f_rOFacts f_rListIn f_rSOwner f_rHFacts f_rWeights f_opKind f_opFrom f_opWord f_opOwner f_opList f_opItems f_out f_ranks) → va_S A s.heap H locs → lv_has ls 7 [(4, .int s4_32), (3, .int s3_32), (0, .ref y), (1, .int x_q), (2, .int x_o)] → W p l e ({ frames := 2, cells := 0, slots := 0, locals := 42 }) s m args below meth cd H locs 0 0 Q (F0 m 32 ls []) := by
          intro k
          induction k with
          | zero => intro s3_32 s4_32 j0_32 j1_32 j2_32 j3_32 hm; exfalso; omega
          | succ k ih_32 =>
            intro s3_32 s4_32 j0_32 j1_32 j2_32 j3_32 hm_32 H locs ls hP hD hS hl
            clear pn1_0 g2
            refine lv_iload hx hb dX10_turned_32 (lv_at hl 0 rfl) ?_
            refine lv_iconst (v := 1) hx hb dX10_turned_34 (by decide) ?_
            refine lv_aload_n hx hb dX10_turned_35 rfl (lv_at hl 2 rfl) ?_
            refine va_get (D := D) (ci := 10) (v := .int v_options) (C := RX10) (T := TX10) (N := 66) hx hb hts iX10 hown hK hP 0 rfl rfl 12 (by decide) (hts (.fieldLink RX10 233 "ShortTellerModel" "options" "I") (List.mem_of_getElem? (i := 2) rfl)) (fun _ h9 => h9) rfl dX10_turned_36 ?_
            refine lv_ishl hx hb dX10_turned_39 ?_
            refine lv_topi (fun n5 en5 => ?_)
            have tn5 := q3_sh en5 (by omega) (by omega)
            refine lv_icmp_ge (tgt := 132) hx hb dX10_turned_40 (by decide) (fun g6 => ?_) (fun g6 => ?_)
            · have g6 : n5.toInt ≤ s4_32.toInt := (q3_le rfl rfl).mp g6
              refine lv_iload_n hx hb dX10_turned_132 rfl (lv_at hl 1 rfl) ?_
              exact hret (s3_32) (q2_u [] [0] []) _ _ _ _ trivial dX10_turned_133 hP hD hS
            · have g6 : ¬ n5.toInt ≤ s4_32.toInt := (not_congr (q3_le rfl rfl)).mp g6
              refine lv_aload_n hx hb dX10_turned_43 rfl (lv_at hl 2 rfl) ?_
              refine va_get (D := D) (ci := 10) (v := .ref (a 16)) (C := RX10) (T := TX10) (N := 66) hx hb hts iX10 hown hK hP 0 rfl rfl 28 (by decide) (hts (.fieldLink RX10 62 "ShortTellerModel" "lengths" "[I") (List.mem_of_getElem? (i := 3) rfl)) (fun _ h9 => h9) rfl dX10_turned_44 ?_
              refine lv_iload hx hb dX10_turned_47 (lv_at hl 0 rfl) ?_
              refine q3_iald (c := c) hx hb hK hP 17 rfl (q2_in (by omega) (by omega)) dX10_turned_49 (fun n7 en7 => ?_)
              have tn7 : n7.toInt = (f_lengths s4_32.toNatClampNeg).toInt := by rw [en7]
              refine lv_if_lt (tgt := 126) hx hb dX10_turned_50 (by decide) (fun g8 => ?_) (fun g8 => ?_)
              · have g8 : n7.toInt < (0 : Int) := (q3_lt rfl (by decide)).mp g8
                obtain ⟨n9, en9⟩ : ∃ z : Int32, z = s4_32 + (1) := ⟨_, rfl⟩
                have tn9 : n9.toInt = s4_32.toInt + (1 : Int) := q3_add en9 rfl (by decide) (by omega) (by omega)
                refine lv_iinc (v := n9) (lv' := [(4, .int n9), (3, .int s3_32), (0, .ref y), (1, .int x_q), (2, .int x_o)]) hx hb dX10_turned_126 hl (k := 0) rfl (by rw [en9]; rfl) (by decide) rfl (fun ls hl => ?_)
                refine lv_goto (tgt := 32) hx hb dX10_turned_129 (by decide) ?_
                exact ih_32 s3_32 n9 j0_32 j1_32 (show 0 ≤ n9.toInt by omega) (show n9.toInt ≤ 16384 by omega) (show 16385 - n9.toInt < _ by omega) _ _ _ hP hD hS hl
              · have g8 : ¬ n7.toInt < (0 : Int) := (not_congr (q3_lt rfl (by decide))).mp g8
                refine lv_iload hx hb dX10_turned_53 (lv_at hl 0 rfl) ?_
                refine lv_iload_n hx hb dX10_turned_55 rfl (lv_at hl 4 rfl) ?_
                refine q3_ci (va_runS (As := [.int s4_32, .int x_o]) (rest := []) ⟨hx, hb, hml, hown, hts⟩ (y3_has l D c H.size y a v_tapeSize (0) v_fault v_faultPlace v_things v_options v_lists v_sentences v_headings v_words v_factBits v_known v_soundMany v_wholeLength v_next v_end v_rThings v_rOptions v_rLists v_rSentences v_rHeadings v_lastName v_inSentence v_open v_written v_named v_sorted f_tape f_kind f_owner f_from f_size f_means f_signs f_oKind f_oIn f_oList f_oWords f_oFacts f_listIn f_sOwner f_hFacts f_weights f_lengths f_values f_rKind f_rOwner f_rFrom f_rSize f_rMeans f_rOKind f_rOIn f_rOList f_rOFacts f_rListIn f_rSOwner f_rHFacts f_rWeights f_opKind f_opFrom f_opWord f_opOwner f_opList f_opItems f_out f_ranks s4_32 x_o) (va_cwS 2 hts gX10_turned_X10_has rfl rfl rfl (by decide +kernel) ⟨Nat.le_of_ble_eq_true rfl, Nat.le_of_ble_eq_true rfl⟩) (q3_preS (c := c) hP hK hD) rfl rfl hl.1 rfl (lv_room (Nat.le_of_ble_eq_true rfl)) dX10_turned_56 ⟨Nat.le_of_ble_eq_true rfl, Nat.le_of_ble_eq_true rfl⟩) hD hS hA (fun n10 un10 H locs pn10 hP hD hS => ?_)
                have pn10 : (n10.toInt = 0 ∨ n10.toInt = 1) ∧ True := pn10
                obtain ⟨pn10_0, -⟩ := pn10
                have hP : va_P D vwCl (wM c y a v_tapeSize (0) v_fault v_faultPlace v_things v_options v_lists v_sentences v_headings v_words v_factBits v_known v_soundMany v_wholeLength v_next v_end v_rThings v_rOptions v_rLists v_rSentences v_rHeadings v_lastName v_inSentence v_open v_written v_named v_sorted f_tape f_kind f_owner f_from f_size f_means f_signs f_oKind f_oIn f_oList f_oWords f_oFacts f_listIn f_sOwner f_hFacts f_weights f_lengths f_values f_rKind f_rOwner f_rFrom f_rSize f_rMeans f_rOKind f_rOIn f_rOList f_rOFacts f_rListIn f_rSOwner f_rHFacts f_rWeights f_opKind f_opFrom f_opWord f_opOwner f_opList f_opItems f_out f_ranks) H := hP
                have hD : va_D A (wM c y a v_tapeSize (0) v_fault v_faultPlace v_things v_options v_lists v_sentences v_headings v_words v_factBits v_known v_soundMany v_wholeLength v_next v_end v_rThings v_rOptions v_rLists v_rSentences v_rHeadings v_lastName v_inSentence v_open v_written v_named v_sorted f_tape f_kind f_owner f_from f_size f_means f_signs f_oKind f_oIn f_oList f_oWords f_oFacts f_listIn f_sOwner f_hFacts f_weights f_lengths f_values f_rKind f_rOwner f_rFrom f_rSize f_rMeans f_rOKind f_rOIn f_rOList f_rOFacts f_rListIn f_rSOwner f_rHFacts f_rWeights f_opKind f_opFrom f_opWord f_opOwner f_opList f_opItems f_out f_ranks) := hD
                refine lv_iload_n hx hb dX10_turned_59 rfl (lv_at hl 3 rfl) ?_
                refine lv_iload_n hx hb dX10_turned_60 rfl (lv_at hl 4 rfl) ?_
                refine q3_ci (va_runS (As := [.int x_q, .int x_o]) (rest := [.int n10]) ⟨hx, hb, hml, hown, hts⟩ (y3_has l D c H.size y a v_tapeSize (0) v_fault v_faultPlace v_things v_options v_lists v_sentences v_headings v_words v_factBits v_known v_soundMany v_wholeLength v_next v_end v_rThings v_rOptions v_rLists v_rSentences v_rHeadings v_lastName v_inSentence v_open v_written v_named v_sorted f_tape f_kind f_owner f_from f_size f_means f_signs f_oKind f_oIn f_oList f_oWords f_oFacts f_listIn f_sOwner f_hFacts f_weights f_lengths f_values f_rKind f_rOwner f_rFrom f_rSize f_rMeans f_rOKind f_rOIn f_rOList f_rOFacts f_rListIn f_rSOwner f_rHFacts f_rWeights f_opKind f_opFrom f_opWord f_opOwner f_opList f_opItems f_out f_ranks x_q x_o) (va_cwS 2 hts gX10_turned_X10_has rfl rfl rfl (by decide +kernel) ⟨Nat.le_of_ble_eq_true rfl, Nat.le_of_ble_eq_true rfl⟩) (q3_preS (c := c) hP hK hD) rfl rfl hl.1 rfl (lv_room (Nat.le_of_ble_eq_true rfl)) dX10_turned_61 ⟨Nat.le_of_ble_eq_true rfl, Nat.le_of_ble_eq_true rfl⟩) hD hS hA (fun n11 un11 H locs pn11 hP hD hS => ?_)
                have pn11 : (n11.toInt = 0 ∨ n11.toInt = 1) ∧ True := pn11
                obtain ⟨pn11_0, -⟩ := pn11
                have hP : va_P D vwCl (wM c y a v_tapeSize (0) v_fault v_faultPlace v_things v_options v_lists v_sentences v_headings v_words v_factBits v_known v_soundMany v_wholeLength v_next v_end v_rThings v_rOptions v_rLists v_rSentences v_rHeadings v_lastName v_inSentence v_open v_written v_named v_sorted f_tape f_kind f_owner f_from f_size f_means f_signs f_oKind f_oIn f_oList f_oWords f_oFacts f_listIn f_sOwner f_hFacts f_weights f_lengths f_values f_rKind f_rOwner f_rFrom f_rSize f_rMeans f_rOKind f_rOIn f_rOList f_rOFacts f_rListIn f_rSOwner f_rHFacts f_rWeights f_opKind f_opFrom f_opWord f_opOwner f_opList f_opItems f_out f_ranks) H := hP
                have hD : va_D A (wM c y a v_tapeSize (0) v_fault v_faultPlace v_things v_options v_lists v_sentences v_headings v_words v_factBits v_known v_soundMany v_wholeLength v_next v_end v_rThings v_rOptions v_rLists v_rSentences v_rHeadings v_lastName v_inSentence v_open v_written v_named v_sorted f_tape f_kind f_owner f_from f_size f_means f_signs f_oKind f_oIn f_oList f_oWords f_oFacts f_listIn f_sOwner f_hFacts f_weights f_lengths f_values f_rKind f_rOwner f_rFrom f_rSize f_rMeans f_rOKind f_rOIn f_rOList f_rOFacts f_rListIn f_rSOwner f_rHFacts f_rWeights f_opKind f_opFrom f_opWord f_opOwner f_opList f_opItems f_out f_ranks) := hD
                refine lv_icmp_ne (tgt := 70) hx hb dX10_turned_64 (by decide) (fun g12 => ?_) (fun g12 => ?_)
                · have g12 : ¬ n10.toInt = n11.toInt := (not_congr (q3_eq rfl rfl)).mp g12
                  refine lv_iload hx hb dX10_turned_70 (lv_at hl 0 rfl) ?_
                  refine lv_iload_n hx hb dX10_turned_72 rfl (lv_at hl 3 rfl) ?_
                  refine lv_ixor hx hb dX10_turned_73 ?_
                  refine lv_topi (fun n13 en13 => ?_)
                  refine q3_ci (va_runS (As := [.int n13]) (rest := []) ⟨hx, hb, hml, hown, hts⟩ (y3_bits l D c H.size y a v_tapeSize (0) v_fault v_faultPlace v_things v_options v_lists v_sentences v_headings v_words v_factBits v_known v_soundMany v_wholeLength v_next v_end v_rThings v_rOptions v_rLists v_rSentences v_rHeadings v_lastName v_inSentence v_open v_written v_named v_sorted f_tape f_kind f_owner f_from f_size f_means f_signs f_oKind f_oIn f_oList f_oWords f_oFacts f_listIn f_sOwner f_hFacts f_weights f_lengths f_values f_rKind f_rOwner f_rFrom f_rSize f_rMeans f_rOKind f_rOIn f_rOList f_rOFacts f_rListIn f_rSOwner f_rHFacts f_rWeights f_opKind f_opFrom f_opWord f_opOwner f_opList f_opItems f_out f_ranks n13) (va_cwS 1 hts gX10_turned_X10_bits rfl rfl rfl (by decide +kernel) ⟨Nat.le_of_ble_eq_true rfl, Nat.le_of_ble_eq_true rfl⟩) (q3_preS (c := c) hP hK hD) rfl rfl hl.1 rfl (lv_room (Nat.le_of_ble_eq_true rfl)) dX10_turned_74 ⟨Nat.le_of_ble_eq_true rfl, Nat.le_of_ble_eq_true rfl⟩) hD hS hA (fun n14 un14 H locs pn14 hP hD hS => ?_)
                  clear pn14
                  have hP : va_P D vwCl (wM c y a v_tapeSize (0) v_fault v_faultPlace v_things v_options v_lists v_sentences v_headings v_words v_factBits v_known v_soundMany v_wholeLength v_next v_end v_rThings v_rOptions v_rLists v_rSentences v_rHeadings v_lastName v_inSentence v_open v_written v_named v_sorted f_tape f_kind f_owner f_from f_size f_means f_signs f_oKind f_oIn f_oList f_oWords f_oFacts f_listIn f_sOwner f_hFacts f_weights f_lengths f_values f_rKind f_rOwner f_rFrom f_rSize f_rMeans f_rOKind f_rOIn f_rOList f_rOFacts f_rListIn f_rSOwner f_rHFacts f_rWeights f_opKind f_opFrom f_opWord f_opOwner f_opList f_opItems f_out f_ranks) H := hP
                  have hD : va_D A (wM c y a v_tapeSize (0) v_fault v_faultPlace v_things v_options v_lists v_sentences v_headings v_words v_factBits v_known v_soundMany v_wholeLength v_next v_end v_rThings v_rOptions v_rLists v_rSentences v_rHeadings v_lastName v_inSentence v_open v_written v_named v_sorted f_tape f_kind f_owner f_from f_size f_means f_signs f_oKind f_oIn f_oList f_oWords f_oFacts f_listIn f_sOwner f_hFacts f_weights f_lengths f_values f_rKind f_rOwner f_rFrom f_rSize f_rMeans f_rOKind f_rOIn f_rOList f_rOFacts f_rListIn f_rSOwner f_rHFacts f_rWeights f_opKind f_opFrom f_opWord f_opOwner f_opList f_opItems f_out f_ranks) := hD
                  refine lv_istore (lv' := [(5, .int n14), (4, .int s4_32), (3, .int s3_32), (0, .ref y), (1, .int x_q), (2, .int x_o)]) hx hb dX10_turned_77 hl (by decide) rfl (fun ls hl => ?_)
                  refine lv_iload_n hx hb dX10_turned_79 rfl (lv_at hl 2 rfl) ?_
                  refine lv_if_ge (tgt := 87) hx hb dX10_turned_80 (by decide) (fun g15 => ?_) (fun g15 => ?_)
                  · have g15 : (0 : Int) ≤ s3_32.toInt := (q3_le (by decide) rfl).mp g15
                    refine lv_iload_n hx hb dX10_turned_87 rfl (lv_at hl 2 rfl) ?_
                    refine lv_iload_n hx hb dX10_turned_88 rfl (lv_at hl 4 rfl) ?_
                    refine lv_ixor hx hb dX10_turned_89 ?_
                    refine lv_topi (fun n16 en16 => ?_)
                    refine q3_ci (va_runS (As := [.int n16]) (rest := []) ⟨hx, hb, hml, hown, hts⟩ (y3_bits l D c H.size y a v_tapeSize (0) v_fault v_faultPlace v_things v_options v_lists v_sentences v_headings v_words v_factBits v_known v_soundMany v_wholeLength v_next v_end v_rThings v_rOptions v_rLists v_rSentences v_rHeadings v_lastName v_inSentence v_open v_written v_named v_sorted f_tape f_kind f_owner f_from f_size f_means f_signs f_oKind f_oIn f_oList f_oWords f_oFacts f_listIn f_sOwner f_hFacts f_weights f_lengths f_values f_rKind f_rOwner f_rFrom f_rSize f_rMeans f_rOKind f_rOIn f_rOList f_rOFacts f_rListIn f_rSOwner f_rHFacts f_rWeights f_opKind f_opFrom f_opWord f_opOwner f_opList f_opItems f_out f_ranks n16) (va_cwS 1 hts gX10_turned_X10_bits rfl rfl rfl (by decide +kernel) ⟨Nat.le_of_ble_eq_true rfl, Nat.le_of_ble_eq_true rfl⟩) (q3_preS (c := c) hP hK hD) rfl rfl hl.1 rfl (lv_room (Nat.le_of_ble_eq_true rfl)) dX10_turned_90 ⟨Nat.le_of_ble_eq_true rfl, Nat.le_of_ble_eq_true rfl⟩) hD hS hA (fun n17 un17 H locs pn17 hP hD hS => ?_)
                    clear pn17
                    have hP : va_P D vwCl (wM c y a v_tapeSize (0) v_fault v_faultPlace v_things v_options v_lists v_sentences v_headings v_words v_factBits v_known v_soundMany v_wholeLength v_next v_end v_rThings v_rOptions v_rLists v_rSentences v_rHeadings v_lastName v_inSentence v_open v_written v_named v_sorted f_tape f_kind f_owner f_from f_size f_means f_signs f_oKind f_oIn f_oList f_oWords f_oFacts f_listIn f_sOwner f_hFacts f_weights f_lengths f_values f_rKind f_rOwner f_rFrom f_rSize f_rMeans f_rOKind f_rOIn f_rOList f_rOFacts f_rListIn f_rSOwner f_rHFacts f_rWeights f_opKind f_opFrom f_opWord f_opOwner f_opList f_opItems f_out f_ranks) H := hP
                    have hD : va_D A (wM c y a v_tapeSize (0) v_fault v_faultPlace v_things v_options v_lists v_sentences v_headings v_words v_factBits v_known v_soundMany v_wholeLength v_next v_end v_rThings v_rOptions v_rLists v_rSentences v_rHeadings v_lastName v_inSentence v_open v_written v_named v_sorted f_tape f_kind f_owner f_from f_size f_means f_signs f_oKind f_oIn f_oList f_oWords f_oFacts f_listIn f_sOwner f_hFacts f_weights f_lengths f_values f_rKind f_rOwner f_rFrom f_rSize f_rMeans f_rOKind f_rOIn f_rOList f_rOFacts f_rListIn f_rSOwner f_rHFacts f_rWeights f_opKind f_opFrom f_opWord f_opOwner f_opList f_opItems f_out f_ranks) := hD
                    refine lv_istore (lv' := [(6, .int n17), (5, .int n14), (4, .int s4_32), (3, .int s3_32), (0, .ref y), (1, .int x_q), (2, .int x_o)]) hx hb dX10_turned_93 hl (by decide) rfl (fun ls hl => ?_)
                    refine lv_iload_n hx hb dX10_turned_95 rfl (lv_at hl 3 rfl) ?_
                    refine lv_if_lt (tgt := 123) hx hb dX10_turned_96 (by decide) (fun g18 => ?_) (fun g18 => ?_)
                    · have g18 : s3_32.toInt < (0 : Int) := (q3_lt rfl (by decide)).mp g18
                      refine lv_iload hx hb dX10_turned_123 (lv_at hl 2 rfl) ?_
                      refine lv_istore_n (lv' := [(3, .int s4_32), (6, .int n17), (5, .int n14), (4, .int s4_32), (0, .ref y), (1, .int x_q), (2, .int x_o)]) hx hb dX10_turned_125 rfl hl (by decide) rfl (fun ls hl => ?_)
                      obtain ⟨n19, en19⟩ : ∃ z : Int32, z = s4_32 + (1) := ⟨_, rfl⟩
                      have tn19 : n19.toInt = s4_32.toInt + (1 : Int) := q3_add en19 rfl (by decide) (by omega) (by omega)
                      refine lv_iinc (v := n19) (lv' := [(4, .int n19), (3, .int s4_32), (6, .int n17), (5, .int n14), (0, .ref y), (1, .int x_q), (2, .int x_o)]) hx hb dX10_turned_126 hl (k := 3) rfl (by rw [en19]; rfl) (by decide) rfl (fun ls hl => ?_)
                      refine lv_goto (tgt := 32) hx hb dX10_turned_129 (by decide) ?_
                      exact ih_32 s4_32 n19 (show -1 ≤ s4_32.toInt by omega) (show s4_32.toInt < 16384 by omega) (show 0 ≤ n19.toInt by omega) (show n19.toInt ≤ 16384 by omega) (show 16385 - n19.toInt < _ by omega) _ _ _ hP hD hS (lv_sub hl [0, 1, 4, 5, 6] rfl)
                    · have g18 : ¬ s3_32.toInt < (0 : Int) := (not_congr (q3_lt rfl (by decide))).mp g18
                      refine lv_iload hx hb dX10_turned_99 (lv_at hl 1 rfl) ?_
                      refine lv_iload hx hb dX10_turned_101 (lv_at hl 0 rfl) ?_
                      refine lv_icmp_lt (tgt := 123) hx hb dX10_turned_103 (by decide) (fun g20 => ?_) (fun g20 => ?_)
                      · have g20 : n14.toInt < n17.toInt := (q3_lt rfl rfl).mp g20
                        refine lv_iload hx hb dX10_turned_123 (lv_at hl 2 rfl) ?_
                        refine lv_istore_n (lv' := [(3, .int s4_32), (6, .int n17), (5, .int n14), (4, .int s4_32), (0, .ref y), (1, .int x_q), (2, .int x_o)]) hx hb dX10_turned_125 rfl hl (by decide) rfl (fun ls hl => ?_)
                        obtain ⟨n21, en21⟩ : ∃ z : Int32, z = s4_32 + (1) := ⟨_, rfl⟩
                        have tn21 : n21.toInt = s4_32.toInt + (1 : Int) := q3_add en21 rfl (by decide) (by omega) (by omega)
                        refine lv_iinc (v := n21) (lv' := [(4, .int n21), (3, .int s4_32), (6, .int n17), (5, .int n14), (0, .ref y), (1, .int x_q), (2, .int x_o)]) hx hb dX10_turned_126 hl (k := 3) rfl (by rw [en21]; rfl) (by decide) rfl (fun ls hl => ?_)
                        refine lv_goto (tgt := 32) hx hb dX10_turned_129 (by decide) ?_
                        exact ih_32 s4_32 n21 (show -1 ≤ s4_32.toInt by omega) (show s4_32.toInt < 16384 by omega) (show 0 ≤ n21.toInt by omega) (show n21.toInt ≤ 16384 by omega) (show 16385 - n21.toInt < _ by omega) _ _ _ hP hD hS (lv_sub hl [0, 1, 4, 5, 6] rfl)
                      · have g20 : ¬ n14.toInt < n17.toInt := (not_congr (q3_lt rfl rfl)).mp g20
                        refine lv_iload hx hb dX10_turned_106 (lv_at hl 1 rfl) ?_
                        refine lv_iload hx hb dX10_turned_108 (lv_at hl 0 rfl) ?_
                        refine lv_icmp_ne (tgt := 126) hx hb dX10_turned_110 (by decide) (fun g22 => ?_) (fun g22 => ?_)
                        · have g22 : ¬ n14.toInt = n17.toInt := (not_congr (q3_eq rfl rfl)).mp g22
                          obtain ⟨n23, en23⟩ : ∃ z : Int32, z = s4_32 + (1) := ⟨_, rfl⟩
                          have tn23 : n23.toInt = s4_32.toInt + (1 : Int) := q3_add en23 rfl (by decide) (by omega) (by omega)
                          refine lv_iinc (v := n23) (lv' := [(4, .int n23), (6, .int n17), (5, .int n14), (3, .int s3_32), (0, .ref y), (1, .int x_q), (2, .int x_o)]) hx hb dX10_turned_126 hl (k := 2) rfl (by rw [en23]; rfl) (by decide) rfl (fun ls hl => ?_)
                          refine lv_goto (tgt := 32) hx hb dX10_turned_129 (by decide) ?_
                          exact ih_32 s3_32 n23 j0_32 j1_32 (show 0 ≤ n23.toInt by omega) (show n23.toInt ≤ 16384 by omega) (show 16385 - n23.toInt < _ by omega) _ _ _ hP hD hS (lv_sub hl [0, 3, 4, 5, 6] rfl)
                        · have g22 : n14.toInt = n17.toInt := (q3_eq rfl rfl).mp g22
                          refine lv_aload_n hx hb dX10_turned_113 rfl (lv_at hl 4 rfl) ?_
                          refine lv_iload hx hb dX10_turned_114 (lv_at hl 2 rfl) ?_
                          refine lv_iload_n hx hb dX10_turned_116 rfl (lv_at hl 3 rfl) ?_
                          refine q3_ci (va_runV (As := [.int s4_32, .int s3_32]) (rest := []) ⟨hx, hb, hml, hown, hts⟩ (y3_ahead l D c H.size y a v_tapeSize (0) v_fault v_faultPlace v_things v_options v_lists v_sentences v_headings v_words v_factBits v_known v_soundMany v_wholeLength v_next v_end v_rThings v_rOptions v_rLists v_rSentences v_rHeadings v_lastName v_inSentence v_open v_written v_named v_sorted f_tape f_kind f_owner f_from f_size f_means f_signs f_oKind f_oIn f_oList f_oWords f_oFacts f_listIn f_sOwner f_hFacts f_weights f_lengths f_values f_rKind f_rOwner f_rFrom f_rSize f_rMeans f_rOKind f_rOIn f_rOList f_rOFacts f_rListIn f_rSOwner f_rHFacts f_rWeights f_opKind f_opFrom f_opWord f_opOwner f_opList f_opItems f_out f_ranks s4_32 s3_32 j2_32 (show s4_32.toInt < 16384 by omega) (show 0 ≤ s3_32.toInt by omega) j1_32) (cwV 2 hts gX10_turned_X10_ahead rfl rfl rfl (by decide +kernel) ⟨Nat.le_of_ble_eq_true rfl, Nat.le_of_ble_eq_true rfl⟩) (q3_preV (c := c) (ci := 10) (q0 := 0) hP hK hD rfl rfl) rfl rfl hl.1 rfl (lv_room (Nat.le_of_ble_eq_true rfl)) dX10_turned_117 ⟨Nat.le_of_ble_eq_true rfl, Nat.le_of_ble_eq_true rfl⟩) hD hS hA (fun n24 un24 H locs pn24 hP hD hS => ?_)
                          have pn24 : (n24.toInt = 0 ∨ n24.toInt = 1) ∧ True := pn24
                          obtain ⟨pn24_0, -⟩ := pn24
                          have hP : va_P D vwCl (wM c y a v_tapeSize (0) v_fault v_faultPlace v_things v_options v_lists v_sentences v_headings v_words v_factBits v_known v_soundMany v_wholeLength v_next v_end v_rThings v_rOptions v_rLists v_rSentences v_rHeadings v_lastName v_inSentence v_open v_written v_named v_sorted f_tape f_kind f_owner f_from f_size f_means f_signs f_oKind f_oIn f_oList f_oWords f_oFacts f_listIn f_sOwner f_hFacts f_weights f_lengths f_values f_rKind f_rOwner f_rFrom f_rSize f_rMeans f_rOKind f_rOIn f_rOList f_rOFacts f_rListIn f_rSOwner f_rHFacts f_rWeights f_opKind f_opFrom f_opWord f_opOwner f_opList f_opItems f_out f_ranks) H := hP
                          have hD : va_D A (wM c y a v_tapeSize (0) v_fault v_faultPlace v_things v_options v_lists v_sentences v_headings v_words v_factBits v_known v_soundMany v_wholeLength v_next v_end v_rThings v_rOptions v_rLists v_rSentences v_rHeadings v_lastName v_inSentence v_open v_written v_named v_sorted f_tape f_kind f_owner f_from f_size f_means f_signs f_oKind f_oIn f_oList f_oWords f_oFacts f_listIn f_sOwner f_hFacts f_weights f_lengths f_values f_rKind f_rOwner f_rFrom f_rSize f_rMeans f_rOKind f_rOIn f_rOList f_rOFacts f_rListIn f_rSOwner f_rHFacts f_rWeights f_opKind f_opFrom f_opWord f_opOwner f_opList f_opItems f_out f_ranks) := hD
                          refine lv_if_eq (tgt := 126) hx hb dX10_turned_120 (by decide) (fun g25 => ?_) (fun g25 => ?_)
                          · have g25 : n24.toInt = (0 : Int) := (q3_eq rfl (by decide)).mp g25
                            obtain ⟨n26, en26⟩ : ∃ z : Int32, z = s4_32 + (1) := ⟨_, rfl⟩
                            have tn26 : n26.toInt = s4_32.toInt + (1 : Int) := q3_add en26 rfl (by decide) (by omega) (by omega)
                            refine lv_iinc (v := n26) (lv' := [(4, .int n26), (6, .int n17), (5, .int n14), (3, .int s3_32), (0, .ref y), (1, .int x_q), (2, .int x_o)]) hx hb dX10_turned_126 hl (k := 2) rfl (by rw [en26]; rfl) (by decide) rfl (fun ls hl => ?_)
                            refine lv_goto (tgt := 32) hx hb dX10_turned_129 (by decide) ?_
                            exact ih_32 s3_32 n26 j0_32 j1_32 (show 0 ≤ n26.toInt by omega) (show n26.toInt ≤ 16384 by omega) (show 16385 - n26.toInt < _ by omega) _ _ _ hP hD hS (lv_sub hl [0, 3, 4, 5, 6] rfl)
                          · have g25 : ¬ n24.toInt = (0 : Int) := (not_congr (q3_eq rfl (by decide))).mp g25
                            refine lv_iload hx hb dX10_turned_123 (lv_at hl 2 rfl) ?_
                            refine lv_istore_n (lv' := [(3, .int s4_32), (6, .int n17), (5, .int n14), (4, .int s4_32), (0, .ref y), (1, .int x_q), (2, .int x_o)]) hx hb dX10_turned_125 rfl hl (by decide) rfl (fun ls hl => ?_)
                            obtain ⟨n27, en27⟩ : ∃ z : Int32, z = s4_32 + (1) := ⟨_, rfl⟩
                            have tn27 : n27.toInt = s4_32.toInt + (1 : Int) := q3_add en27 rfl (by decide) (by omega) (by omega)
                            refine lv_iinc (v := n27) (lv' := [(4, .int n27), (3, .int s4_32), (6, .int n17), (5, .int n14), (0, .ref y), (1, .int x_q), (2, .int x_o)]) hx hb dX10_turned_126 hl (k := 3) rfl (by rw [en27]; rfl) (by decide) rfl (fun ls hl => ?_)
                            refine lv_goto (tgt := 32) hx hb dX10_turned_129 (by decide) ?_
                            exact ih_32 s4_32 n27 (show -1 ≤ s4_32.toInt by omega) (show s4_32.toInt < 16384 by omega) (show 0 ≤ n27.toInt by omega) (show n27.toInt ≤ 16384 by omega) (show 16385 - n27.toInt < _ by omega) _ _ _ hP hD hS (lv_sub hl [0, 1, 4, 5, 6] rfl)
                  · have g15 : ¬ (0 : Int) ≤ s3_32.toInt := (not_congr (q3_le (by decide) rfl)).mp g15
                    refine lv_iconst (v := 0) hx hb dX10_turned_83 (by decide) ?_
                    refine lv_goto (tgt := 93) hx hb dX10_turned_84 (by decide) ?_
                    refine lv_istore (lv' := [(6, .int 0), (5, .int n14), (4, .int s4_32), (3, .int s3_32), (0, .ref y), (1, .int x_q), (2, .int x_o)]) hx hb dX10_turned_93 hl (by decide) rfl (fun ls hl => ?_)
                    refine lv_iload_n hx hb dX10_turned_95 rfl (lv_at hl 3 rfl) ?_
                    refine lv_if_lt (tgt := 123) hx hb dX10_turned_96 (by decide) (fun g28 => ?_) (fun g28 => ?_)
                    · have g28 : s3_32.toInt < (0 : Int) := (q3_lt rfl (by decide)).mp g28
                      refine lv_iload hx hb dX10_turned_123 (lv_at hl 2 rfl) ?_
                      refine lv_istore_n (lv' := [(3, .int s4_32), (6, .int 0), (5, .int n14), (4, .int s4_32), (0, .ref y), (1, .int x_q), (2, .int x_o)]) hx hb dX10_turned_125 rfl hl (by decide) rfl (fun ls hl => ?_)
                      obtain ⟨n29, en29⟩ : ∃ z : Int32, z = s4_32 + (1) := ⟨_, rfl⟩
                      have tn29 : n29.toInt = s4_32.toInt + (1 : Int) := q3_add en29 rfl (by decide) (by omega) (by omega)
                      refine lv_iinc (v := n29) (lv' := [(4, .int n29), (3, .int s4_32), (6, .int 0), (5, .int n14), (0, .ref y), (1, .int x_q), (2, .int x_o)]) hx hb dX10_turned_126 hl (k := 3) rfl (by rw [en29]; rfl) (by decide) rfl (fun ls hl => ?_)
                      refine lv_goto (tgt := 32) hx hb dX10_turned_129 (by decide) ?_
                      exact ih_32 s4_32 n29 (show -1 ≤ s4_32.toInt by omega) (show s4_32.toInt < 16384 by omega) (show 0 ≤ n29.toInt by omega) (show n29.toInt ≤ 16384 by omega) (show 16385 - n29.toInt < _ by omega) _ _ _ hP hD hS (lv_sub hl [0, 1, 4, 5, 6] rfl)
                    · have g28 : ¬ s3_32.toInt < (0 : Int) := (not_congr (q3_lt rfl (by decide))).mp g28
                      refine lv_iload hx hb dX10_turned_99 (lv_at hl 1 rfl) ?_
                      refine lv_iload hx hb dX10_turned_101 (lv_at hl 0 rfl) ?_
                      refine lv_icmp_lt (tgt := 123) hx hb dX10_turned_103 (by decide) (fun g30 => ?_) (fun g30 => ?_)
                      · have g30 : n14.toInt < (0 : Int) := (q3_lt rfl (by decide)).mp g30
                        refine lv_iload hx hb dX10_turned_123 (lv_at hl 2 rfl) ?_
                        refine lv_istore_n (lv' := [(3, .int s4_32), (6, .int 0), (5, .int n14), (4, .int s4_32), (0, .ref y), (1, .int x_q), (2, .int x_o)]) hx hb dX10_turned_125 rfl hl (by decide) rfl (fun ls hl => ?_)
                        obtain ⟨n31, en31⟩ : ∃ z : Int32, z = s4_32 + (1) := ⟨_, rfl⟩
                        have tn31 : n31.toInt = s4_32.toInt + (1 : Int) := q3_add en31 rfl (by decide) (by omega) (by omega)
                        refine lv_iinc (v := n31) (lv' := [(4, .int n31), (3, .int s4_32), (6, .int 0), (5, .int n14), (0, .ref y), (1, .int x_q), (2, .int x_o)]) hx hb dX10_turned_126 hl (k := 3) rfl (by rw [en31]; rfl) (by decide) rfl (fun ls hl => ?_)
                        refine lv_goto (tgt := 32) hx hb dX10_turned_129 (by decide) ?_
                        exact ih_32 s4_32 n31 (show -1 ≤ s4_32.toInt by omega) (show s4_32.toInt < 16384 by omega) (show 0 ≤ n31.toInt by omega) (show n31.toInt ≤ 16384 by omega) (show 16385 - n31.toInt < _ by omega) _ _ _ hP hD hS (lv_sub hl [0, 1, 4, 5, 6] rfl)
                      · have g30 : ¬ n14.toInt < (0 : Int) := (not_congr (q3_lt rfl (by decide))).mp g30
                        refine lv_iload hx hb dX10_turned_106 (lv_at hl 1 rfl) ?_
                        refine lv_iload hx hb dX10_turned_108 (lv_at hl 0 rfl) ?_
                        refine lv_icmp_ne (tgt := 126) hx hb dX10_turned_110 (by decide) (fun g32 => ?_) (fun g32 => ?_)
                        · have g32 : ¬ n14.toInt = (0 : Int) := (not_congr (q3_eq rfl (by decide))).mp g32
                          obtain ⟨n33, en33⟩ : ∃ z : Int32, z = s4_32 + (1) := ⟨_, rfl⟩
                          have tn33 : n33.toInt = s4_32.toInt + (1 : Int) := q3_add en33 rfl (by decide) (by omega) (by omega)
                          refine lv_iinc (v := n33) (lv' := [(4, .int n33), (6, .int 0), (5, .int n14), (3, .int s3_32), (0, .ref y), (1, .int x_q), (2, .int x_o)]) hx hb dX10_turned_126 hl (k := 2) rfl (by rw [en33]; rfl) (by decide) rfl (fun ls hl => ?_)
                          refine lv_goto (tgt := 32) hx hb dX10_turned_129 (by decide) ?_
                          exact ih_32 s3_32 n33 j0_32 j1_32 (show 0 ≤ n33.toInt by omega) (show n33.toInt ≤ 16384 by omega) (show 16385 - n33.toInt < _ by omega) _ _ _ hP hD hS (lv_sub hl [0, 3, 4, 5, 6] rfl)
                        · have g32 : n14.toInt = (0 : Int) := (q3_eq rfl (by decide)).mp g32
                          refine lv_aload_n hx hb dX10_turned_113 rfl (lv_at hl 4 rfl) ?_
                          refine lv_iload hx hb dX10_turned_114 (lv_at hl 2 rfl) ?_
                          refine lv_iload_n hx hb dX10_turned_116 rfl (lv_at hl 3 rfl) ?_
                          refine q3_ci (va_runV (As := [.int s4_32, .int s3_32]) (rest := []) ⟨hx, hb, hml, hown, hts⟩ (y3_ahead l D c H.size y a v_tapeSize (0) v_fault v_faultPlace v_things v_options v_lists v_sentences v_headings v_words v_factBits v_known v_soundMany v_wholeLength v_next v_end v_rThings v_rOptions v_rLists v_rSentences v_rHeadings v_lastName v_inSentence v_open v_written v_named v_sorted f_tape f_kind f_owner f_from f_size f_means f_signs f_oKind f_oIn f_oList f_oWords f_oFacts f_listIn f_sOwner f_hFacts f_weights f_lengths f_values f_rKind f_rOwner f_rFrom f_rSize f_rMeans f_rOKind f_rOIn f_rOList f_rOFacts f_rListIn f_rSOwner f_rHFacts f_rWeights f_opKind f_opFrom f_opWord f_opOwner f_opList f_opItems f_out f_ranks s4_32 s3_32 j2_32 (show s4_32.toInt < 16384 by omega) (show 0 ≤ s3_32.toInt by omega) j1_32) (cwV 2 hts gX10_turned_X10_ahead rfl rfl rfl (by decide +kernel) ⟨Nat.le_of_ble_eq_true rfl, Nat.le_of_ble_eq_true rfl⟩) (q3_preV (c := c) (ci := 10) (q0 := 0) hP hK hD rfl rfl) rfl rfl hl.1 rfl (lv_room (Nat.le_of_ble_eq_true rfl)) dX10_turned_117 ⟨Nat.le_of_ble_eq_true rfl, Nat.le_of_ble_eq_true rfl⟩) hD hS hA (fun n34 un34 H locs pn34 hP hD hS => ?_)
                          have pn34 : (n34.toInt = 0 ∨ n34.toInt = 1) ∧ True := pn34
                          obtain ⟨pn34_0, -⟩ := pn34
                          have hP : va_P D vwCl (wM c y a v_tapeSize (0) v_fault v_faultPlace v_things v_options v_lists v_sentences v_headings v_words v_factBits v_known v_soundMany v_wholeLength v_next v_end v_rThings v_rOptions v_rLists v_rSentences v_rHeadings v_lastName v_inSentence v_open v_written v_named v_sorted f_tape f_kind f_owner f_from f_size f_means f_signs f_oKind f_oIn f_oList f_oWords f_oFacts f_listIn f_sOwner f_hFacts f_weights f_lengths f_values f_rKind f_rOwner f_rFrom f_rSize f_rMeans f_rOKind f_rOIn f_rOList f_rOFacts f_rListIn f_rSOwner f_rHFacts f_rWeights f_opKind f_opFrom f_opWord f_opOwner f_opList f_opItems f_out f_ranks) H := hP
                          have hD : va_D A (wM c y a v_tapeSize (0) v_fault v_faultPlace v_things v_options v_lists v_sentences v_headings v_words v_factBits v_known v_soundMany v_wholeLength v_next v_end v_rThings v_rOptions v_rLists v_rSentences v_rHeadings v_lastName v_inSentence v_open v_written v_named v_sorted f_tape f_kind f_owner f_from f_size f_means f_signs f_oKind f_oIn f_oList f_oWords f_oFacts f_listIn f_sOwner f_hFacts f_weights f_lengths f_values f_rKind f_rOwner f_rFrom f_rSize f_rMeans f_rOKind f_rOIn f_rOList f_rOFacts f_rListIn f_rSOwner f_rHFacts f_rWeights f_opKind f_opFrom f_opWord f_opOwner f_opList f_opItems f_out f_ranks) := hD
                          refine lv_if_eq (tgt := 126) hx hb dX10_turned_120 (by decide) (fun g35 => ?_) (fun g35 => ?_)
                          · have g35 : n34.toInt = (0 : Int) := (q3_eq rfl (by decide)).mp g35
                            obtain ⟨n36, en36⟩ : ∃ z : Int32, z = s4_32 + (1) := ⟨_, rfl⟩
                            have tn36 : n36.toInt = s4_32.toInt + (1 : Int) := q3_add en36 rfl (by decide) (by omega) (by omega)
                            refine lv_iinc (v := n36) (lv' := [(4, .int n36), (6, .int 0), (5, .int n14), (3, .int s3_32), (0, .ref y), (1, .int x_q), (2, .int x_o)]) hx hb dX10_turned_126 hl (k := 2) rfl (by rw [en36]; rfl) (by decide) rfl (fun ls hl => ?_)
                            refine lv_goto (tgt := 32) hx hb dX10_turned_129 (by decide) ?_
                            exact ih_32 s3_32 n36 j0_32 j1_32 (show 0 ≤ n36.toInt by omega) (show n36.toInt ≤ 16384 by omega) (show 16385 - n36.toInt < _ by omega) _ _ _ hP hD hS (lv_sub hl [0, 3, 4, 5, 6] rfl)
                          · have g35 : ¬ n34.toInt = (0 : Int) := (not_congr (q3_eq rfl (by decide))).mp g35
                            refine lv_iload hx hb dX10_turned_123 (lv_at hl 2 rfl) ?_
                            refine lv_istore_n (lv' := [(3, .int s4_32), (6, .int 0), (5, .int n14), (4, .int s4_32), (0, .ref y), (1, .int x_q), (2, .int x_o)]) hx hb dX10_turned_125 rfl hl (by decide) rfl (fun ls hl => ?_)
                            obtain ⟨n37, en37⟩ : ∃ z : Int32, z = s4_32 + (1) := ⟨_, rfl⟩
                            have tn37 : n37.toInt = s4_32.toInt + (1 : Int) := q3_add en37 rfl (by decide) (by omega) (by omega)
                            refine lv_iinc (v := n37) (lv' := [(4, .int n37), (3, .int s4_32), (6, .int 0), (5, .int n14), (0, .ref y), (1, .int x_q), (2, .int x_o)]) hx hb dX10_turned_126 hl (k := 3) rfl (by rw [en37]; rfl) (by decide) rfl (fun ls hl => ?_)
                            refine lv_goto (tgt := 32) hx hb dX10_turned_129 (by decide) ?_
                            exact ih_32 s4_32 n37 (show -1 ≤ s4_32.toInt by omega) (show s4_32.toInt < 16384 by omega) (show 0 ≤ n37.toInt by omega) (show n37.toInt ≤ 16384 by omega) (show 16385 - n37.toInt < _ by omega) _ _ _ hP hD hS (lv_sub hl [0, 1, 4, 5, 6] rfl)
                · have g12 : n10.toInt = n11.toInt := (q3_eq rfl rfl).mp g12
                  refine lv_goto (tgt := 126) hx hb dX10_turned_67 (by decide) ?_
                  obtain ⟨n38, en38⟩ : ∃ z : Int32, z = s4_32 + (1) := ⟨_, rfl⟩
                  have tn38 : n38.toInt = s4_32.toInt + (1 : Int) := q3_add en38 rfl (by decide) (by omega) (by omega)
                  refine lv_iinc (v := n38) (lv' := [(4, .int n38), (3, .int s3_32), (0, .ref y), (1, .int x_q), (2, .int x_o)]) hx hb dX10_turned_126 hl (k := 0) rfl (by rw [en38]; rfl) (by decide) rfl (fun ls hl => ?_)
                  refine lv_goto (tgt := 32) hx hb dX10_turned_129 (by decide) ?_
                  exact ih_32 s3_32 n38 j0_32 j1_32 (show 0 ≤ n38.toInt by omega) (show n38.toInt ≤ 16384 by omega) (show 16385 - n38.toInt < _ by omega) _ _ _ hP hD hS hl
        exact lp32 (Int.toNat (16385 - (0 : Int)) + 1) (-1) (0) (show -1 ≤ (-1 : Int) by omega) (show (-1 : Int) < 16384 by omega) (show 0 ≤ (0 : Int) by omega) (show (0 : Int) ≤ 16384 by omega) (show 16385 - (0 : Int) < ((Int.toNat (16385 - (0 : Int)) + 1 : Nat) : Int) by omega) _ _ _ hP hD hS hl
      · have g4 : ¬ x_o.toInt < v_options.toInt := (not_congr (q3_lt rfl rfl)).mp g4
        refine lv_iconst (v := -1) hx hb dX10_turned_25 (by decide) ?_
        exact hret (-1) (q2_u [] [0] []) _ _ _ _ trivial dX10_turned_26 hP hD hS
