theorem dX10_best_0 : decode cX10_best 0 = .ok (.aload_n 0, 1) := by decide +kernel
theorem dX10_best_1 : decode cX10_best 1 = .ok (.iconst 0, 1) := by decide +kernel
theorem dX10_best_10 : decode cX10_best 10 = .ok (.ireturn, 1) := by decide +kernel
theorem dX10_best_11 : decode cX10_best 11 = .ok (.iconst (-1), 1) := by decide +kernel
theorem dX10_best_12 : decode cX10_best 12 = .ok (.istore_n 2, 1) := by decide +kernel
theorem dX10_best_13 : decode cX10_best 13 = .ok (.iconst 0, 1) := by decide +kernel
theorem dX10_best_14 : decode cX10_best 14 = .ok (.istore_n 3, 1) := by decide +kernel
theorem dX10_best_15 : decode cX10_best 15 = .ok (.iload_n 3, 1) := by decide +kernel
theorem dX10_best_16 : decode cX10_best 16 = .ok (.iconst 1, 1) := by decide +kernel
theorem dX10_best_17 : decode cX10_best 17 = .ok (.aload_n 0, 1) := by decide +kernel
theorem dX10_best_18 : decode cX10_best 18 = .ok (.getfield 233, 3) := by decide +kernel
theorem dX10_best_2 : decode cX10_best 2 = .ok (.putfield 135, 3) := by decide +kernel
theorem dX10_best_21 : decode cX10_best 21 = .ok (.ishl, 1) := by decide +kernel
theorem dX10_best_22 : decode cX10_best 22 = .ok (.if_icmp .ge 43, 3) := by decide +kernel
theorem dX10_best_25 : decode cX10_best 25 = .ok (.aload_n 0, 1) := by decide +kernel
theorem dX10_best_26 : decode cX10_best 26 = .ok (.getfield 62, 3) := by decide +kernel
theorem dX10_best_29 : decode cX10_best 29 = .ok (.iload_n 3, 1) := by decide +kernel
theorem dX10_best_30 : decode cX10_best 30 = .ok (.iaload, 1) := by decide +kernel
theorem dX10_best_31 : decode cX10_best 31 = .ok (.ifCond .lt 28, 3) := by decide +kernel
theorem dX10_best_34 : decode cX10_best 34 = .ok (.aload_n 0, 1) := by decide +kernel
theorem dX10_best_35 : decode cX10_best 35 = .ok (.getfield 62, 3) := by decide +kernel
theorem dX10_best_38 : decode cX10_best 38 = .ok (.iload_n 3, 1) := by decide +kernel
theorem dX10_best_39 : decode cX10_best 39 = .ok (.iaload, 1) := by decide +kernel
theorem dX10_best_40 : decode cX10_best 40 = .ok (.iload_n 1, 1) := by decide +kernel
theorem dX10_best_41 : decode cX10_best 41 = .ok (.if_icmp .gt 18, 3) := by decide +kernel
theorem dX10_best_44 : decode cX10_best 44 = .ok (.iload_n 2, 1) := by decide +kernel
theorem dX10_best_45 : decode cX10_best 45 = .ok (.ifCond .lt 12, 3) := by decide +kernel
theorem dX10_best_5 : decode cX10_best 5 = .ok (.iload_n 1, 1) := by decide +kernel
theorem dX10_best_57 : decode cX10_best 57 = .ok (.iload_n 3, 1) := by decide +kernel
theorem dX10_best_58 : decode cX10_best 58 = .ok (.istore_n 2, 1) := by decide +kernel
theorem dX10_best_59 : decode cX10_best 59 = .ok (.iinc 3 1, 3) := by decide +kernel
theorem dX10_best_6 : decode cX10_best 6 = .ok (.ifCond .ge 5, 3) := by decide +kernel
theorem dX10_best_62 : decode cX10_best 62 = .ok (.goto (-47), 3) := by decide +kernel
theorem dX10_best_65 : decode cX10_best 65 = .ok (.iload_n 2, 1) := by decide +kernel
theorem dX10_best_66 : decode cX10_best 66 = .ok (.ireturn, 1) := by decide +kernel
theorem dX10_best_9 : decode cX10_best 9 = .ok (.iconst (-1), 1) := by decide +kernel
theorem dX10_blanks_0 : decode cX10_blanks 0 = .ok (.aload_n 0, 1) := by decide +kernel
theorem dX10_blanks_1 : decode cX10_blanks 1 = .ok (.invokevirtual 150, 3) := by decide +kernel
theorem dX10_blanks_10 : decode cX10_blanks 10 = .ok (.invokevirtual 150, 3) := by decide +kernel
theorem dX10_blanks_13 : decode cX10_blanks 13 = .ok (.bipush 32, 2) := by decide +kernel
theorem dX10_blanks_15 : decode cX10_blanks 15 = .ok (.if_icmp .ne 16, 3) := by decide +kernel
theorem dX10_blanks_31 : decode cX10_blanks 31 = .ok (.return_, 1) := by decide +kernel
theorem dX10_blanks_4 : decode cX10_blanks 4 = .ok (.bipush 10, 2) := by decide +kernel
theorem dX10_blanks_6 : decode cX10_blanks 6 = .ok (.if_icmp .eq 12, 3) := by decide +kernel
theorem dX10_blanks_9 : decode cX10_blanks 9 = .ok (.aload_n 0, 1) := by decide +kernel
theorem dX10_count_0 : decode cX10_count 0 = .ok (.aload_n 0, 1) := by decide +kernel
theorem dX10_count_1 : decode cX10_count 1 = .ok (.iconst 0, 1) := by decide +kernel
theorem dX10_count_2 : decode cX10_count 2 = .ok (.putfield 135, 3) := by decide +kernel
theorem dX10_count_5 : decode cX10_count 5 = .ok (.iload_n 1, 1) := by decide +kernel
theorem dX10_count_52 : decode cX10_count 52 = .ok (.aload_n 0, 1) := by decide +kernel
theorem dX10_count_53 : decode cX10_count 53 = .ok (.getfield 233, 3) := by decide +kernel
theorem dX10_count_56 : decode cX10_count 56 = .ok (.ireturn, 1) := by decide +kernel
theorem dX10_count_57 : decode cX10_count 57 = .ok (.aload_n 0, 1) := by decide +kernel
theorem dX10_count_58 : decode cX10_count 58 = .ok (.getfield 239, 3) := by decide +kernel
theorem dX10_count_6 : decode cX10_count 6 = .ok (.tableswitch 91 0 7 #[46, 51, 61, 66, 71, 76, 81, 86], 46) := by decide +kernel
theorem dX10_count_61 : decode cX10_count 61 = .ok (.aload_n 0, 1) := by decide +kernel
theorem dX10_count_62 : decode cX10_count 62 = .ok (.getfield 242, 3) := by decide +kernel
theorem dX10_count_65 : decode cX10_count 65 = .ok (.isub, 1) := by decide +kernel
theorem dX10_count_66 : decode cX10_count 66 = .ok (.ireturn, 1) := by decide +kernel
theorem dX10_count_67 : decode cX10_count 67 = .ok (.aload_n 0, 1) := by decide +kernel
theorem dX10_count_68 : decode cX10_count 68 = .ok (.getfield 242, 3) := by decide +kernel
theorem dX10_count_71 : decode cX10_count 71 = .ok (.ireturn, 1) := by decide +kernel
theorem dX10_count_72 : decode cX10_count 72 = .ok (.aload_n 0, 1) := by decide +kernel
theorem dX10_count_73 : decode cX10_count 73 = .ok (.getfield 230, 3) := by decide +kernel
theorem dX10_count_76 : decode cX10_count 76 = .ok (.ireturn, 1) := by decide +kernel
theorem dX10_count_77 : decode cX10_count 77 = .ok (.aload_n 0, 1) := by decide +kernel
theorem dX10_count_78 : decode cX10_count 78 = .ok (.getfield 278, 3) := by decide +kernel
theorem dX10_count_81 : decode cX10_count 81 = .ok (.ireturn, 1) := by decide +kernel
theorem dX10_count_82 : decode cX10_count 82 = .ok (.aload_n 0, 1) := by decide +kernel
theorem dX10_count_83 : decode cX10_count 83 = .ok (.getfield 245, 3) := by decide +kernel
theorem dX10_count_86 : decode cX10_count 86 = .ok (.ireturn, 1) := by decide +kernel
theorem dX10_count_87 : decode cX10_count 87 = .ok (.aload_n 0, 1) := by decide +kernel
theorem dX10_count_88 : decode cX10_count 88 = .ok (.getfield 248, 3) := by decide +kernel
theorem dX10_count_91 : decode cX10_count 91 = .ok (.ireturn, 1) := by decide +kernel
theorem dX10_count_92 : decode cX10_count 92 = .ok (.aload_n 0, 1) := by decide +kernel
theorem dX10_count_93 : decode cX10_count 93 = .ok (.getfield 288, 3) := by decide +kernel
theorem dX10_count_96 : decode cX10_count 96 = .ok (.ireturn, 1) := by decide +kernel
theorem dX10_count_97 : decode cX10_count 97 = .ok (.iconst (-1), 1) := by decide +kernel
theorem dX10_count_98 : decode cX10_count 98 = .ok (.ireturn, 1) := by decide +kernel
theorem dX10_fails_0 : decode cX10_fails 0 = .ok (.aload_n 0, 1) := by decide +kernel
theorem dX10_fails_1 : decode cX10_fails 1 = .ok (.iload_n 1, 1) := by decide +kernel
theorem dX10_fails_2 : decode cX10_fails 2 = .ok (.putfield 135, 3) := by decide +kernel
theorem dX10_fails_5 : decode cX10_fails 5 = .ok (.iconst 0, 1) := by decide +kernel
theorem dX10_fails_6 : decode cX10_fails 6 = .ok (.ireturn, 1) := by decide +kernel
theorem dX10_fault_0 : decode cX10_fault 0 = .ok (.aload_n 0, 1) := by decide +kernel
theorem dX10_fault_1 : decode cX10_fault 1 = .ok (.iconst 0, 1) := by decide +kernel
theorem dX10_fault_10 : decode cX10_fault 10 = .ok (.getfield 141, 3) := by decide +kernel
theorem dX10_fault_13 : decode cX10_fault 13 = .ok (.goto 16, 3) := by decide +kernel
theorem dX10_fault_16 : decode cX10_fault 16 = .ok (.iload_n 1, 1) := by decide +kernel
theorem dX10_fault_17 : decode cX10_fault 17 = .ok (.iconst 1, 1) := by decide +kernel
theorem dX10_fault_18 : decode cX10_fault 18 = .ok (.if_icmp .ne 10, 3) := by decide +kernel
theorem dX10_fault_2 : decode cX10_fault 2 = .ok (.putfield 135, 3) := by decide +kernel
theorem dX10_fault_21 : decode cX10_fault 21 = .ok (.aload_n 0, 1) := by decide +kernel
theorem dX10_fault_22 : decode cX10_fault 22 = .ok (.getfield 13, 3) := by decide +kernel
theorem dX10_fault_25 : decode cX10_fault 25 = .ok (.goto 4, 3) := by decide +kernel
theorem dX10_fault_28 : decode cX10_fault 28 = .ok (.iconst (-1), 1) := by decide +kernel
theorem dX10_fault_29 : decode cX10_fault 29 = .ok (.ireturn, 1) := by decide +kernel
theorem dX10_fault_5 : decode cX10_fault 5 = .ok (.iload_n 1, 1) := by decide +kernel
theorem dX10_fault_6 : decode cX10_fault 6 = .ok (.ifCond .ne 10, 3) := by decide +kernel
theorem dX10_fault_9 : decode cX10_fault 9 = .ok (.aload_n 0, 1) := by decide +kernel
theorem dX10_feed_0 : decode cX10_feed 0 = .ok (.aload_n 0, 1) := by decide +kernel
theorem dX10_feed_1 : decode cX10_feed 1 = .ok (.iconst 0, 1) := by decide +kernel
theorem dX10_feed_100 : decode cX10_feed 100 = .ok (.isub, 1) := by decide +kernel
theorem dX10_feed_101 : decode cX10_feed 101 = .ok (.ishr, 1) := by decide +kernel
theorem dX10_feed_102 : decode cX10_feed 102 = .ok (.sipush 255, 3) := by decide +kernel
theorem dX10_feed_105 : decode cX10_feed 105 = .ok (.iand, 1) := by decide +kernel
theorem dX10_feed_106 : decode cX10_feed 106 = .ok (.iastore, 1) := by decide +kernel
theorem dX10_feed_107 : decode cX10_feed 107 = .ok (.iinc 6 1, 3) := by decide +kernel
theorem dX10_feed_11 : decode cX10_feed 11 = .ok (.iadd, 1) := by decide +kernel
theorem dX10_feed_110 : decode cX10_feed 110 = .ok (.goto (-87), 3) := by decide +kernel
theorem dX10_feed_113 : decode cX10_feed 113 = .ok (.aload_n 0, 1) := by decide +kernel
theorem dX10_feed_114 : decode cX10_feed 114 = .ok (.dup, 1) := by decide +kernel
theorem dX10_feed_115 : decode cX10_feed 115 = .ok (.getfield 138, 3) := by decide +kernel
theorem dX10_feed_118 : decode cX10_feed 118 = .ok (.bipush 20, 2) := by decide +kernel
theorem dX10_feed_12 : decode cX10_feed 12 = .ok (.sipush 800, 3) := by decide +kernel
theorem dX10_feed_120 : decode cX10_feed 120 = .ok (.iadd, 1) := by decide +kernel
theorem dX10_feed_121 : decode cX10_feed 121 = .ok (.putfield 138, 3) := by decide +kernel
theorem dX10_feed_124 : decode cX10_feed 124 = .ok (.aload_n 0, 1) := by decide +kernel
theorem dX10_feed_125 : decode cX10_feed 125 = .ok (.getfield 138, 3) := by decide +kernel
theorem dX10_feed_128 : decode cX10_feed 128 = .ok (.ireturn, 1) := by decide +kernel
theorem dX10_feed_15 : decode cX10_feed 15 = .ok (.if_icmp .le 5, 3) := by decide +kernel
theorem dX10_feed_2 : decode cX10_feed 2 = .ok (.putfield 135, 3) := by decide +kernel
theorem dX10_feed_20 : decode cX10_feed 20 = .ok (.iconst 0, 1) := by decide +kernel
theorem dX10_feed_21 : decode cX10_feed 21 = .ok (.istore 6, 2) := by decide +kernel
theorem dX10_feed_23 : decode cX10_feed 23 = .ok (.iload 6, 2) := by decide +kernel
theorem dX10_feed_25 : decode cX10_feed 25 = .ok (.bipush 20, 2) := by decide +kernel
theorem dX10_feed_27 : decode cX10_feed 27 = .ok (.if_icmp .ge 86, 3) := by decide +kernel
theorem dX10_feed_30 : decode cX10_feed 30 = .ok (.iload 6, 2) := by decide +kernel
theorem dX10_feed_32 : decode cX10_feed 32 = .ok (.iconst 4, 1) := by decide +kernel
theorem dX10_feed_33 : decode cX10_feed 33 = .ok (.if_icmp .ge 7, 3) := by decide +kernel
theorem dX10_feed_36 : decode cX10_feed 36 = .ok (.iload_n 1, 1) := by decide +kernel
theorem dX10_feed_37 : decode cX10_feed 37 = .ok (.goto 39, 3) := by decide +kernel
theorem dX10_feed_40 : decode cX10_feed 40 = .ok (.iload 6, 2) := by decide +kernel
theorem dX10_feed_42 : decode cX10_feed 42 = .ok (.bipush 8, 2) := by decide +kernel
theorem dX10_feed_44 : decode cX10_feed 44 = .ok (.if_icmp .ge 7, 3) := by decide +kernel
theorem dX10_feed_47 : decode cX10_feed 47 = .ok (.iload_n 2, 1) := by decide +kernel
theorem dX10_feed_48 : decode cX10_feed 48 = .ok (.goto 28, 3) := by decide +kernel
theorem dX10_feed_5 : decode cX10_feed 5 = .ok (.aload_n 0, 1) := by decide +kernel
theorem dX10_feed_51 : decode cX10_feed 51 = .ok (.iload 6, 2) := by decide +kernel
theorem dX10_feed_53 : decode cX10_feed 53 = .ok (.bipush 12, 2) := by decide +kernel
theorem dX10_feed_55 : decode cX10_feed 55 = .ok (.if_icmp .ge 7, 3) := by decide +kernel
theorem dX10_feed_58 : decode cX10_feed 58 = .ok (.iload_n 3, 1) := by decide +kernel
theorem dX10_feed_59 : decode cX10_feed 59 = .ok (.goto 17, 3) := by decide +kernel
theorem dX10_feed_6 : decode cX10_feed 6 = .ok (.getfield 138, 3) := by decide +kernel
theorem dX10_feed_62 : decode cX10_feed 62 = .ok (.iload 6, 2) := by decide +kernel
theorem dX10_feed_64 : decode cX10_feed 64 = .ok (.bipush 16, 2) := by decide +kernel
theorem dX10_feed_66 : decode cX10_feed 66 = .ok (.if_icmp .ge 8, 3) := by decide +kernel
theorem dX10_feed_69 : decode cX10_feed 69 = .ok (.iload 4, 2) := by decide +kernel
theorem dX10_feed_71 : decode cX10_feed 71 = .ok (.goto 5, 3) := by decide +kernel
theorem dX10_feed_74 : decode cX10_feed 74 = .ok (.iload 5, 2) := by decide +kernel
theorem dX10_feed_76 : decode cX10_feed 76 = .ok (.istore 7, 2) := by decide +kernel
theorem dX10_feed_78 : decode cX10_feed 78 = .ok (.aload_n 0, 1) := by decide +kernel
theorem dX10_feed_79 : decode cX10_feed 79 = .ok (.getfield 7, 3) := by decide +kernel
theorem dX10_feed_82 : decode cX10_feed 82 = .ok (.aload_n 0, 1) := by decide +kernel
theorem dX10_feed_83 : decode cX10_feed 83 = .ok (.getfield 138, 3) := by decide +kernel
theorem dX10_feed_86 : decode cX10_feed 86 = .ok (.iload 6, 2) := by decide +kernel
theorem dX10_feed_88 : decode cX10_feed 88 = .ok (.iadd, 1) := by decide +kernel
theorem dX10_feed_89 : decode cX10_feed 89 = .ok (.iload 7, 2) := by decide +kernel
theorem dX10_feed_9 : decode cX10_feed 9 = .ok (.bipush 20, 2) := by decide +kernel
theorem dX10_feed_91 : decode cX10_feed 91 = .ok (.bipush 24, 2) := by decide +kernel
theorem dX10_feed_93 : decode cX10_feed 93 = .ok (.bipush 8, 2) := by decide +kernel
theorem dX10_feed_95 : decode cX10_feed 95 = .ok (.iload 6, 2) := by decide +kernel
theorem dX10_feed_97 : decode cX10_feed 97 = .ok (.iconst 4, 1) := by decide +kernel
theorem dX10_feed_98 : decode cX10_feed 98 = .ok (.irem, 1) := by decide +kernel
theorem dX10_feed_99 : decode cX10_feed 99 = .ok (.imul, 1) := by decide +kernel
theorem dX10_finish_0 : decode cX10_finish 0 = .ok (.aload_n 0, 1) := by decide +kernel
theorem dX10_finish_1 : decode cX10_finish 1 = .ok (.iconst 0, 1) := by decide +kernel
theorem dX10_finish_10 : decode cX10_finish 10 = .ok (.getfield 233, 3) := by decide +kernel
theorem dX10_finish_13 : decode cX10_finish 13 = .ok (.ishl, 1) := by decide +kernel
theorem dX10_finish_14 : decode cX10_finish 14 = .ok (.if_icmp .ge 52, 3) := by decide +kernel
theorem dX10_finish_17 : decode cX10_finish 17 = .ok (.aload_n 0, 1) := by decide +kernel
theorem dX10_finish_18 : decode cX10_finish 18 = .ok (.getfield 62, 3) := by decide +kernel
theorem dX10_finish_2 : decode cX10_finish 2 = .ok (.putfield 278, 3) := by decide +kernel
theorem dX10_finish_21 : decode cX10_finish 21 = .ok (.iload_n 1, 1) := by decide +kernel
theorem dX10_finish_22 : decode cX10_finish 22 = .ok (.iconst (-1), 1) := by decide +kernel
theorem dX10_finish_23 : decode cX10_finish 23 = .ok (.iastore, 1) := by decide +kernel
theorem dX10_finish_24 : decode cX10_finish 24 = .ok (.aload_n 0, 1) := by decide +kernel
theorem dX10_finish_25 : decode cX10_finish 25 = .ok (.iload_n 1, 1) := by decide +kernel
theorem dX10_finish_26 : decode cX10_finish 26 = .ok (.invokevirtual 281, 3) := by decide +kernel
theorem dX10_finish_29 : decode cX10_finish 29 = .ok (.ifCond .ne 6, 3) := by decide +kernel
theorem dX10_finish_35 : decode cX10_finish 35 = .ok (.aload_n 0, 1) := by decide +kernel
theorem dX10_finish_36 : decode cX10_finish 36 = .ok (.dup, 1) := by decide +kernel
theorem dX10_finish_37 : decode cX10_finish 37 = .ok (.getfield 278, 3) := by decide +kernel
theorem dX10_finish_40 : decode cX10_finish 40 = .ok (.iconst 1, 1) := by decide +kernel
theorem dX10_finish_41 : decode cX10_finish 41 = .ok (.iadd, 1) := by decide +kernel
theorem dX10_finish_42 : decode cX10_finish 42 = .ok (.putfield 278, 3) := by decide +kernel
theorem dX10_finish_45 : decode cX10_finish 45 = .ok (.aload_n 0, 1) := by decide +kernel
theorem dX10_finish_46 : decode cX10_finish 46 = .ok (.iload_n 1, 1) := by decide +kernel
theorem dX10_finish_47 : decode cX10_finish 47 = .ok (.invokevirtual 284, 3) := by decide +kernel
theorem dX10_finish_5 : decode cX10_finish 5 = .ok (.iconst 0, 1) := by decide +kernel
theorem dX10_finish_50 : decode cX10_finish 50 = .ok (.aload_n 0, 1) := by decide +kernel
theorem dX10_finish_51 : decode cX10_finish 51 = .ok (.getfield 62, 3) := by decide +kernel
theorem dX10_finish_54 : decode cX10_finish 54 = .ok (.iload_n 1, 1) := by decide +kernel
theorem dX10_finish_55 : decode cX10_finish 55 = .ok (.aload_n 0, 1) := by decide +kernel
theorem dX10_finish_56 : decode cX10_finish 56 = .ok (.getfield 254, 3) := by decide +kernel
theorem dX10_finish_59 : decode cX10_finish 59 = .ok (.iastore, 1) := by decide +kernel
theorem dX10_finish_6 : decode cX10_finish 6 = .ok (.istore_n 1, 1) := by decide +kernel
theorem dX10_finish_60 : decode cX10_finish 60 = .ok (.iinc 1 1, 3) := by decide +kernel
theorem dX10_finish_63 : decode cX10_finish 63 = .ok (.goto (-56), 3) := by decide +kernel
theorem dX10_finish_66 : decode cX10_finish 66 = .ok (.aload_n 0, 1) := by decide +kernel
theorem dX10_finish_67 : decode cX10_finish 67 = .ok (.aload_n 0, 1) := by decide +kernel
theorem dX10_finish_68 : decode cX10_finish 68 = .ok (.getfield 62, 3) := by decide +kernel
theorem dX10_finish_7 : decode cX10_finish 7 = .ok (.iload_n 1, 1) := by decide +kernel
theorem dX10_finish_71 : decode cX10_finish 71 = .ok (.iconst 1, 1) := by decide +kernel
theorem dX10_finish_72 : decode cX10_finish 72 = .ok (.aload_n 0, 1) := by decide +kernel
theorem dX10_finish_73 : decode cX10_finish 73 = .ok (.getfield 233, 3) := by decide +kernel
theorem dX10_finish_76 : decode cX10_finish 76 = .ok (.ishl, 1) := by decide +kernel
theorem dX10_finish_77 : decode cX10_finish 77 = .ok (.iconst 1, 1) := by decide +kernel
theorem dX10_finish_78 : decode cX10_finish 78 = .ok (.isub, 1) := by decide +kernel
theorem dX10_finish_79 : decode cX10_finish 79 = .ok (.iaload, 1) := by decide +kernel
theorem dX10_finish_8 : decode cX10_finish 8 = .ok (.iconst 1, 1) := by decide +kernel
theorem dX10_finish_80 : decode cX10_finish 80 = .ok (.putfield 288, 3) := by decide +kernel
theorem dX10_finish_83 : decode cX10_finish 83 = .ok (.aload_n 0, 1) := by decide +kernel
theorem dX10_finish_84 : decode cX10_finish 84 = .ok (.invokevirtual 291, 3) := by decide +kernel
theorem dX10_finish_87 : decode cX10_finish 87 = .ok (.return_, 1) := by decide +kernel
theorem dX10_finish_9 : decode cX10_finish 9 = .ok (.aload_n 0, 1) := by decide +kernel
theorem dX10_init_0 : decode cX10_init 0 = .ok (.aload_n 0, 1) := by decide +kernel
theorem dX10_init_1 : decode cX10_init 1 = .ok (.invokespecial 1, 3) := by decide +kernel
theorem dX10_init_10 : decode cX10_init 10 = .ok (.putfield 7, 3) := by decide +kernel
theorem dX10_init_101 : decode cX10_init 101 = .ok (.putfield 44, 3) := by decide +kernel
theorem dX10_init_104 : decode cX10_init 104 = .ok (.aload_n 0, 1) := by decide +kernel
theorem dX10_init_105 : decode cX10_init 105 = .ok (.bipush 14, 2) := by decide +kernel
theorem dX10_init_107 : decode cX10_init 107 = .ok (.newarray .int, 2) := by decide +kernel
theorem dX10_init_109 : decode cX10_init 109 = .ok (.putfield 47, 3) := by decide +kernel
theorem dX10_init_112 : decode cX10_init 112 = .ok (.aload_n 0, 1) := by decide +kernel
theorem dX10_init_113 : decode cX10_init 113 = .ok (.bipush 14, 2) := by decide +kernel
theorem dX10_init_115 : decode cX10_init 115 = .ok (.newarray .int, 2) := by decide +kernel
theorem dX10_init_117 : decode cX10_init 117 = .ok (.putfield 50, 3) := by decide +kernel
theorem dX10_init_120 : decode cX10_init 120 = .ok (.aload_n 0, 1) := by decide +kernel
theorem dX10_init_121 : decode cX10_init 121 = .ok (.sipush 420, 3) := by decide +kernel
theorem dX10_init_124 : decode cX10_init 124 = .ok (.newarray .int, 2) := by decide +kernel
theorem dX10_init_126 : decode cX10_init 126 = .ok (.putfield 53, 3) := by decide +kernel
theorem dX10_init_129 : decode cX10_init 129 = .ok (.aload_n 0, 1) := by decide +kernel
theorem dX10_init_13 : decode cX10_init 13 = .ok (.aload_n 0, 1) := by decide +kernel
theorem dX10_init_130 : decode cX10_init 130 = .ok (.sipush 420, 3) := by decide +kernel
theorem dX10_init_133 : decode cX10_init 133 = .ok (.newarray .int, 2) := by decide +kernel
theorem dX10_init_135 : decode cX10_init 135 = .ok (.putfield 56, 3) := by decide +kernel
theorem dX10_init_138 : decode cX10_init 138 = .ok (.aload_n 0, 1) := by decide +kernel
theorem dX10_init_139 : decode cX10_init 139 = .ok (.bipush 31, 2) := by decide +kernel
theorem dX10_init_14 : decode cX10_init 14 = .ok (.iconst (-1), 1) := by decide +kernel
theorem dX10_init_141 : decode cX10_init 141 = .ok (.newarray .int, 2) := by decide +kernel
theorem dX10_init_143 : decode cX10_init 143 = .ok (.putfield 59, 3) := by decide +kernel
theorem dX10_init_146 : decode cX10_init 146 = .ok (.aload_n 0, 1) := by decide +kernel
theorem dX10_init_147 : decode cX10_init 147 = .ok (.sipush 16384, 3) := by decide +kernel
theorem dX10_init_15 : decode cX10_init 15 = .ok (.putfield 13, 3) := by decide +kernel
theorem dX10_init_150 : decode cX10_init 150 = .ok (.newarray .int, 2) := by decide +kernel
theorem dX10_init_152 : decode cX10_init 152 = .ok (.putfield 62, 3) := by decide +kernel
theorem dX10_init_155 : decode cX10_init 155 = .ok (.aload_n 0, 1) := by decide +kernel
theorem dX10_init_156 : decode cX10_init 156 = .ok (.sipush 16384, 3) := by decide +kernel
theorem dX10_init_159 : decode cX10_init 159 = .ok (.newarray .int, 2) := by decide +kernel
theorem dX10_init_161 : decode cX10_init 161 = .ok (.putfield 65, 3) := by decide +kernel
theorem dX10_init_164 : decode cX10_init 164 = .ok (.aload_n 0, 1) := by decide +kernel
theorem dX10_init_165 : decode cX10_init 165 = .ok (.sipush 900, 3) := by decide +kernel
theorem dX10_init_168 : decode cX10_init 168 = .ok (.newarray .int, 2) := by decide +kernel
theorem dX10_init_170 : decode cX10_init 170 = .ok (.putfield 68, 3) := by decide +kernel
theorem dX10_init_173 : decode cX10_init 173 = .ok (.aload_n 0, 1) := by decide +kernel
theorem dX10_init_174 : decode cX10_init 174 = .ok (.sipush 900, 3) := by decide +kernel
theorem dX10_init_177 : decode cX10_init 177 = .ok (.newarray .int, 2) := by decide +kernel
theorem dX10_init_179 : decode cX10_init 179 = .ok (.putfield 71, 3) := by decide +kernel
theorem dX10_init_18 : decode cX10_init 18 = .ok (.aload_n 0, 1) := by decide +kernel
theorem dX10_init_182 : decode cX10_init 182 = .ok (.aload_n 0, 1) := by decide +kernel
theorem dX10_init_183 : decode cX10_init 183 = .ok (.sipush 900, 3) := by decide +kernel
theorem dX10_init_186 : decode cX10_init 186 = .ok (.newarray .int, 2) := by decide +kernel
theorem dX10_init_188 : decode cX10_init 188 = .ok (.putfield 74, 3) := by decide +kernel
theorem dX10_init_19 : decode cX10_init 19 = .ok (.sipush 900, 3) := by decide +kernel
theorem dX10_init_191 : decode cX10_init 191 = .ok (.aload_n 0, 1) := by decide +kernel
theorem dX10_init_192 : decode cX10_init 192 = .ok (.sipush 900, 3) := by decide +kernel
theorem dX10_init_195 : decode cX10_init 195 = .ok (.newarray .int, 2) := by decide +kernel
theorem dX10_init_197 : decode cX10_init 197 = .ok (.putfield 77, 3) := by decide +kernel
theorem dX10_init_200 : decode cX10_init 200 = .ok (.aload_n 0, 1) := by decide +kernel
theorem dX10_init_201 : decode cX10_init 201 = .ok (.sipush 900, 3) := by decide +kernel
theorem dX10_init_204 : decode cX10_init 204 = .ok (.newarray .int, 2) := by decide +kernel
theorem dX10_init_206 : decode cX10_init 206 = .ok (.putfield 80, 3) := by decide +kernel
theorem dX10_init_209 : decode cX10_init 209 = .ok (.aload_n 0, 1) := by decide +kernel
theorem dX10_init_210 : decode cX10_init 210 = .ok (.bipush 14, 2) := by decide +kernel
theorem dX10_init_212 : decode cX10_init 212 = .ok (.newarray .int, 2) := by decide +kernel
theorem dX10_init_214 : decode cX10_init 214 = .ok (.putfield 83, 3) := by decide +kernel
theorem dX10_init_217 : decode cX10_init 217 = .ok (.aload_n 0, 1) := by decide +kernel
theorem dX10_init_218 : decode cX10_init 218 = .ok (.bipush 14, 2) := by decide +kernel
theorem dX10_init_22 : decode cX10_init 22 = .ok (.newarray .int, 2) := by decide +kernel
theorem dX10_init_220 : decode cX10_init 220 = .ok (.newarray .int, 2) := by decide +kernel
theorem dX10_init_222 : decode cX10_init 222 = .ok (.putfield 86, 3) := by decide +kernel
theorem dX10_init_225 : decode cX10_init 225 = .ok (.aload_n 0, 1) := by decide +kernel
theorem dX10_init_226 : decode cX10_init 226 = .ok (.bipush 14, 2) := by decide +kernel
theorem dX10_init_228 : decode cX10_init 228 = .ok (.newarray .int, 2) := by decide +kernel
theorem dX10_init_230 : decode cX10_init 230 = .ok (.putfield 89, 3) := by decide +kernel
theorem dX10_init_233 : decode cX10_init 233 = .ok (.aload_n 0, 1) := by decide +kernel
theorem dX10_init_234 : decode cX10_init 234 = .ok (.bipush 14, 2) := by decide +kernel
theorem dX10_init_236 : decode cX10_init 236 = .ok (.newarray .int, 2) := by decide +kernel
theorem dX10_init_238 : decode cX10_init 238 = .ok (.putfield 92, 3) := by decide +kernel
theorem dX10_init_24 : decode cX10_init 24 = .ok (.putfield 17, 3) := by decide +kernel
theorem dX10_init_241 : decode cX10_init 241 = .ok (.aload_n 0, 1) := by decide +kernel
theorem dX10_init_242 : decode cX10_init 242 = .ok (.bipush 14, 2) := by decide +kernel
theorem dX10_init_244 : decode cX10_init 244 = .ok (.newarray .int, 2) := by decide +kernel
theorem dX10_init_246 : decode cX10_init 246 = .ok (.putfield 95, 3) := by decide +kernel
theorem dX10_init_249 : decode cX10_init 249 = .ok (.aload_n 0, 1) := by decide +kernel
theorem dX10_init_250 : decode cX10_init 250 = .ok (.sipush 420, 3) := by decide +kernel
theorem dX10_init_253 : decode cX10_init 253 = .ok (.newarray .int, 2) := by decide +kernel
theorem dX10_init_255 : decode cX10_init 255 = .ok (.putfield 98, 3) := by decide +kernel
theorem dX10_init_258 : decode cX10_init 258 = .ok (.aload_n 0, 1) := by decide +kernel
theorem dX10_init_259 : decode cX10_init 259 = .ok (.sipush 420, 3) := by decide +kernel
theorem dX10_init_262 : decode cX10_init 262 = .ok (.newarray .int, 2) := by decide +kernel
theorem dX10_init_264 : decode cX10_init 264 = .ok (.putfield 101, 3) := by decide +kernel
theorem dX10_init_267 : decode cX10_init 267 = .ok (.aload_n 0, 1) := by decide +kernel
theorem dX10_init_268 : decode cX10_init 268 = .ok (.bipush 31, 2) := by decide +kernel
theorem dX10_init_27 : decode cX10_init 27 = .ok (.aload_n 0, 1) := by decide +kernel
theorem dX10_init_270 : decode cX10_init 270 = .ok (.newarray .int, 2) := by decide +kernel
theorem dX10_init_272 : decode cX10_init 272 = .ok (.putfield 104, 3) := by decide +kernel
theorem dX10_init_275 : decode cX10_init 275 = .ok (.aload_n 0, 1) := by decide +kernel
theorem dX10_init_276 : decode cX10_init 276 = .ok (.bipush 8, 2) := by decide +kernel
theorem dX10_init_278 : decode cX10_init 278 = .ok (.newarray .int, 2) := by decide +kernel
theorem dX10_init_28 : decode cX10_init 28 = .ok (.sipush 900, 3) := by decide +kernel
theorem dX10_init_280 : decode cX10_init 280 = .ok (.putfield 107, 3) := by decide +kernel
theorem dX10_init_283 : decode cX10_init 283 = .ok (.aload_n 0, 1) := by decide +kernel
theorem dX10_init_284 : decode cX10_init 284 = .ok (.bipush 8, 2) := by decide +kernel
theorem dX10_init_286 : decode cX10_init 286 = .ok (.newarray .int, 2) := by decide +kernel
theorem dX10_init_288 : decode cX10_init 288 = .ok (.putfield 110, 3) := by decide +kernel
theorem dX10_init_291 : decode cX10_init 291 = .ok (.aload_n 0, 1) := by decide +kernel
theorem dX10_init_292 : decode cX10_init 292 = .ok (.bipush 8, 2) := by decide +kernel
theorem dX10_init_294 : decode cX10_init 294 = .ok (.newarray .boolean, 2) := by decide +kernel
theorem dX10_init_296 : decode cX10_init 296 = .ok (.putfield 113, 3) := by decide +kernel
theorem dX10_init_299 : decode cX10_init 299 = .ok (.aload_n 0, 1) := by decide +kernel
theorem dX10_init_300 : decode cX10_init 300 = .ok (.bipush 8, 2) := by decide +kernel
theorem dX10_init_302 : decode cX10_init 302 = .ok (.newarray .int, 2) := by decide +kernel
theorem dX10_init_304 : decode cX10_init 304 = .ok (.putfield 117, 3) := by decide +kernel
theorem dX10_init_307 : decode cX10_init 307 = .ok (.aload_n 0, 1) := by decide +kernel
theorem dX10_init_308 : decode cX10_init 308 = .ok (.bipush 8, 2) := by decide +kernel
theorem dX10_init_31 : decode cX10_init 31 = .ok (.newarray .int, 2) := by decide +kernel
theorem dX10_init_310 : decode cX10_init 310 = .ok (.newarray .int, 2) := by decide +kernel
theorem dX10_init_312 : decode cX10_init 312 = .ok (.putfield 120, 3) := by decide +kernel
theorem dX10_init_315 : decode cX10_init 315 = .ok (.aload_n 0, 1) := by decide +kernel
theorem dX10_init_316 : decode cX10_init 316 = .ok (.bipush 8, 2) := by decide +kernel
theorem dX10_init_318 : decode cX10_init 318 = .ok (.newarray .int, 2) := by decide +kernel
theorem dX10_init_320 : decode cX10_init 320 = .ok (.putfield 123, 3) := by decide +kernel
theorem dX10_init_323 : decode cX10_init 323 = .ok (.aload_n 0, 1) := by decide +kernel
theorem dX10_init_324 : decode cX10_init 324 = .ok (.sipush 10000, 3) := by decide +kernel
theorem dX10_init_327 : decode cX10_init 327 = .ok (.newarray .int, 2) := by decide +kernel
theorem dX10_init_329 : decode cX10_init 329 = .ok (.putfield 126, 3) := by decide +kernel
theorem dX10_init_33 : decode cX10_init 33 = .ok (.putfield 20, 3) := by decide +kernel
theorem dX10_init_332 : decode cX10_init 332 = .ok (.aload_n 0, 1) := by decide +kernel
theorem dX10_init_333 : decode cX10_init 333 = .ok (.sipush 16384, 3) := by decide +kernel
theorem dX10_init_336 : decode cX10_init 336 = .ok (.newarray .int, 2) := by decide +kernel
theorem dX10_init_338 : decode cX10_init 338 = .ok (.putfield 129, 3) := by decide +kernel
theorem dX10_init_341 : decode cX10_init 341 = .ok (.aload_n 0, 1) := by decide +kernel
theorem dX10_init_342 : decode cX10_init 342 = .ok (.invokevirtual 132, 3) := by decide +kernel
theorem dX10_init_345 : decode cX10_init 345 = .ok (.return_, 1) := by decide +kernel
theorem dX10_init_36 : decode cX10_init 36 = .ok (.aload_n 0, 1) := by decide +kernel
theorem dX10_init_37 : decode cX10_init 37 = .ok (.sipush 900, 3) := by decide +kernel
theorem dX10_init_4 : decode cX10_init 4 = .ok (.aload_n 0, 1) := by decide +kernel
theorem dX10_init_40 : decode cX10_init 40 = .ok (.newarray .int, 2) := by decide +kernel
theorem dX10_init_42 : decode cX10_init 42 = .ok (.putfield 23, 3) := by decide +kernel
theorem dX10_init_45 : decode cX10_init 45 = .ok (.aload_n 0, 1) := by decide +kernel
theorem dX10_init_46 : decode cX10_init 46 = .ok (.sipush 900, 3) := by decide +kernel
theorem dX10_init_49 : decode cX10_init 49 = .ok (.newarray .int, 2) := by decide +kernel
theorem dX10_init_5 : decode cX10_init 5 = .ok (.sipush 800, 3) := by decide +kernel
theorem dX10_init_51 : decode cX10_init 51 = .ok (.putfield 26, 3) := by decide +kernel
theorem dX10_init_54 : decode cX10_init 54 = .ok (.aload_n 0, 1) := by decide +kernel
theorem dX10_init_55 : decode cX10_init 55 = .ok (.sipush 900, 3) := by decide +kernel
theorem dX10_init_58 : decode cX10_init 58 = .ok (.newarray .int, 2) := by decide +kernel
theorem dX10_init_60 : decode cX10_init 60 = .ok (.putfield 29, 3) := by decide +kernel
theorem dX10_init_63 : decode cX10_init 63 = .ok (.aload_n 0, 1) := by decide +kernel
theorem dX10_init_64 : decode cX10_init 64 = .ok (.sipush 800, 3) := by decide +kernel
theorem dX10_init_67 : decode cX10_init 67 = .ok (.newarray .int, 2) := by decide +kernel
theorem dX10_init_69 : decode cX10_init 69 = .ok (.putfield 32, 3) := by decide +kernel
theorem dX10_init_72 : decode cX10_init 72 = .ok (.aload_n 0, 1) := by decide +kernel
theorem dX10_init_73 : decode cX10_init 73 = .ok (.bipush 14, 2) := by decide +kernel
theorem dX10_init_75 : decode cX10_init 75 = .ok (.newarray .int, 2) := by decide +kernel
theorem dX10_init_77 : decode cX10_init 77 = .ok (.putfield 35, 3) := by decide +kernel
theorem dX10_init_8 : decode cX10_init 8 = .ok (.newarray .int, 2) := by decide +kernel
theorem dX10_init_80 : decode cX10_init 80 = .ok (.aload_n 0, 1) := by decide +kernel
theorem dX10_init_81 : decode cX10_init 81 = .ok (.bipush 14, 2) := by decide +kernel
theorem dX10_init_83 : decode cX10_init 83 = .ok (.newarray .int, 2) := by decide +kernel
theorem dX10_init_85 : decode cX10_init 85 = .ok (.putfield 38, 3) := by decide +kernel
theorem dX10_init_88 : decode cX10_init 88 = .ok (.aload_n 0, 1) := by decide +kernel
theorem dX10_init_89 : decode cX10_init 89 = .ok (.bipush 14, 2) := by decide +kernel
theorem dX10_init_91 : decode cX10_init 91 = .ok (.newarray .int, 2) := by decide +kernel
theorem dX10_init_93 : decode cX10_init 93 = .ok (.putfield 41, 3) := by decide +kernel
theorem dX10_init_96 : decode cX10_init 96 = .ok (.aload_n 0, 1) := by decide +kernel
theorem dX10_init_97 : decode cX10_init 97 = .ok (.bipush 14, 2) := by decide +kernel
theorem dX10_init_99 : decode cX10_init 99 = .ok (.newarray .int, 2) := by decide +kernel
theorem dX10_isChoice_0 : decode cX10_isChoice 0 = .ok (.iload_n 1, 1) := by decide +kernel
theorem dX10_isChoice_1 : decode cX10_isChoice 1 = .ok (.ifCond .lt 17, 3) := by decide +kernel
theorem dX10_isChoice_10 : decode cX10_isChoice 10 = .ok (.ishl, 1) := by decide +kernel
theorem dX10_isChoice_11 : decode cX10_isChoice 11 = .ok (.if_icmp .ge 7, 3) := by decide +kernel
theorem dX10_isChoice_14 : decode cX10_isChoice 14 = .ok (.iconst 1, 1) := by decide +kernel
theorem dX10_isChoice_15 : decode cX10_isChoice 15 = .ok (.goto 4, 3) := by decide +kernel
theorem dX10_isChoice_18 : decode cX10_isChoice 18 = .ok (.iconst 0, 1) := by decide +kernel
theorem dX10_isChoice_19 : decode cX10_isChoice 19 = .ok (.ireturn, 1) := by decide +kernel
theorem dX10_isChoice_4 : decode cX10_isChoice 4 = .ok (.iload_n 1, 1) := by decide +kernel
theorem dX10_isChoice_5 : decode cX10_isChoice 5 = .ok (.iconst 1, 1) := by decide +kernel
theorem dX10_isChoice_6 : decode cX10_isChoice 6 = .ok (.aload_n 0, 1) := by decide +kernel
theorem dX10_isChoice_7 : decode cX10_isChoice 7 = .ok (.getfield 233, 3) := by decide +kernel
theorem dX10_isFact_0 : decode cX10_isFact 0 = .ok (.iload_n 1, 1) := by decide +kernel
theorem dX10_isFact_1 : decode cX10_isFact 1 = .ok (.ifCond .lt 25, 3) := by decide +kernel
theorem dX10_isFact_10 : decode cX10_isFact 10 = .ok (.aload_n 0, 1) := by decide +kernel
theorem dX10_isFact_11 : decode cX10_isFact 11 = .ok (.getfield 245, 3) := by decide +kernel
theorem dX10_isFact_14 : decode cX10_isFact 14 = .ok (.iload_n 1, 1) := by decide +kernel
theorem dX10_isFact_15 : decode cX10_isFact 15 = .ok (.ishr, 1) := by decide +kernel
theorem dX10_isFact_16 : decode cX10_isFact 16 = .ok (.iconst 1, 1) := by decide +kernel
theorem dX10_isFact_17 : decode cX10_isFact 17 = .ok (.iand, 1) := by decide +kernel
theorem dX10_isFact_18 : decode cX10_isFact 18 = .ok (.iconst 1, 1) := by decide +kernel
theorem dX10_isFact_19 : decode cX10_isFact 19 = .ok (.if_icmp .ne 7, 3) := by decide +kernel
theorem dX10_isFact_26 : decode cX10_isFact 26 = .ok (.iconst 0, 1) := by decide +kernel
theorem dX10_isFact_27 : decode cX10_isFact 27 = .ok (.ireturn, 1) := by decide +kernel
theorem dX10_isFact_4 : decode cX10_isFact 4 = .ok (.iload_n 1, 1) := by decide +kernel
theorem dX10_isFact_5 : decode cX10_isFact 5 = .ok (.bipush 31, 2) := by decide +kernel
theorem dX10_isFact_7 : decode cX10_isFact 7 = .ok (.if_icmp .ge 19, 3) := by decide +kernel
theorem dX10_isSound_0 : decode cX10_isSound 0 = .ok (.iconst 0, 1) := by decide +kernel
theorem dX10_isSound_1 : decode cX10_isSound 1 = .ok (.istore_n 2, 1) := by decide +kernel
theorem dX10_isSound_145 : decode cX10_isSound 145 = .ok (.iconst 1, 1) := by decide +kernel
theorem dX10_isSound_146 : decode cX10_isSound 146 = .ok (.ireturn, 1) := by decide +kernel
theorem dX10_isSound_2 : decode cX10_isSound 2 = .ok (.iload_n 2, 1) := by decide +kernel
theorem dX10_isSound_3 : decode cX10_isSound 3 = .ok (.aload_n 0, 1) := by decide +kernel
theorem dX10_isSound_4 : decode cX10_isSound 4 = .ok (.getfield 233, 3) := by decide +kernel
theorem dX10_isSound_48 : decode cX10_isSound 48 = .ok (.iconst 0, 1) := by decide +kernel
theorem dX10_isSound_49 : decode cX10_isSound 49 = .ok (.istore_n 2, 1) := by decide +kernel
theorem dX10_isSound_50 : decode cX10_isSound 50 = .ok (.iload_n 2, 1) := by decide +kernel
theorem dX10_isSound_51 : decode cX10_isSound 51 = .ok (.aload_n 0, 1) := by decide +kernel
theorem dX10_isSound_52 : decode cX10_isSound 52 = .ok (.getfield 236, 3) := by decide +kernel
theorem dX10_isSound_55 : decode cX10_isSound 55 = .ok (.if_icmp .ge 90, 3) := by decide +kernel
theorem dX10_isSound_7 : decode cX10_isSound 7 = .ok (.if_icmp .ge 41, 3) := by decide +kernel
theorem dX10_knows_0 : decode cX10_knows 0 = .ok (.aload_n 0, 1) := by decide +kernel
theorem dX10_knows_1 : decode cX10_knows 1 = .ok (.iconst 0, 1) := by decide +kernel
theorem dX10_knows_10 : decode cX10_knows 10 = .ok (.ifCond .ne 5, 3) := by decide +kernel
theorem dX10_knows_13 : decode cX10_knows 13 = .ok (.iconst 0, 1) := by decide +kernel
theorem dX10_knows_14 : decode cX10_knows 14 = .ok (.ireturn, 1) := by decide +kernel
theorem dX10_knows_2 : decode cX10_knows 2 = .ok (.putfield 135, 3) := by decide +kernel
theorem dX10_knows_5 : decode cX10_knows 5 = .ok (.aload_n 0, 1) := by decide +kernel
theorem dX10_knows_6 : decode cX10_knows 6 = .ok (.iload_n 1, 1) := by decide +kernel
theorem dX10_knows_7 : decode cX10_knows 7 = .ok (.invokevirtual 304, 3) := by decide +kernel
theorem dX10_least_0 : decode cX10_least 0 = .ok (.aload_n 0, 1) := by decide +kernel
theorem dX10_least_1 : decode cX10_least 1 = .ok (.iconst 0, 1) := by decide +kernel
theorem dX10_least_10 : decode cX10_least 10 = .ok (.iconst (-1), 1) := by decide +kernel
theorem dX10_least_11 : decode cX10_least 11 = .ok (.ixor, 1) := by decide +kernel
theorem dX10_least_12 : decode cX10_least 12 = .ok (.iand, 1) := by decide +kernel
theorem dX10_least_13 : decode cX10_least 13 = .ok (.ifCond .eq 5, 3) := by decide +kernel
theorem dX10_least_16 : decode cX10_least 16 = .ok (.iconst (-1), 1) := by decide +kernel
theorem dX10_least_17 : decode cX10_least 17 = .ok (.ireturn, 1) := by decide +kernel
theorem dX10_least_18 : decode cX10_least 18 = .ok (.iconst (-1), 1) := by decide +kernel
theorem dX10_least_19 : decode cX10_least 19 = .ok (.istore_n 2, 1) := by decide +kernel
theorem dX10_least_2 : decode cX10_least 2 = .ok (.putfield 135, 3) := by decide +kernel
theorem dX10_least_20 : decode cX10_least 20 = .ok (.iconst 0, 1) := by decide +kernel
theorem dX10_least_21 : decode cX10_least 21 = .ok (.istore_n 3, 1) := by decide +kernel
theorem dX10_least_22 : decode cX10_least 22 = .ok (.iload_n 3, 1) := by decide +kernel
theorem dX10_least_23 : decode cX10_least 23 = .ok (.iconst 1, 1) := by decide +kernel
theorem dX10_least_24 : decode cX10_least 24 = .ok (.aload_n 0, 1) := by decide +kernel
theorem dX10_least_25 : decode cX10_least 25 = .ok (.getfield 233, 3) := by decide +kernel
theorem dX10_least_28 : decode cX10_least 28 = .ok (.ishl, 1) := by decide +kernel
theorem dX10_least_29 : decode cX10_least 29 = .ok (.if_icmp .ge 54, 3) := by decide +kernel
theorem dX10_least_32 : decode cX10_least 32 = .ok (.aload_n 0, 1) := by decide +kernel
theorem dX10_least_33 : decode cX10_least 33 = .ok (.getfield 62, 3) := by decide +kernel
theorem dX10_least_36 : decode cX10_least 36 = .ok (.iload_n 3, 1) := by decide +kernel
theorem dX10_least_37 : decode cX10_least 37 = .ok (.iaload, 1) := by decide +kernel
theorem dX10_least_38 : decode cX10_least 38 = .ok (.ifCond .lt 39, 3) := by decide +kernel
theorem dX10_least_41 : decode cX10_least 41 = .ok (.iload_n 2, 1) := by decide +kernel
theorem dX10_least_42 : decode cX10_least 42 = .ok (.ifCond .lt 13, 3) := by decide +kernel
theorem dX10_least_5 : decode cX10_least 5 = .ok (.iload_n 1, 1) := by decide +kernel
theorem dX10_least_55 : decode cX10_least 55 = .ok (.iload_n 1, 1) := by decide +kernel
theorem dX10_least_56 : decode cX10_least 56 = .ok (.aload_n 0, 1) := by decide +kernel
theorem dX10_least_57 : decode cX10_least 57 = .ok (.iload_n 3, 1) := by decide +kernel
theorem dX10_least_58 : decode cX10_least 58 = .ok (.invokevirtual 274, 3) := by decide +kernel
theorem dX10_least_6 : decode cX10_least 6 = .ok (.aload_n 0, 1) := by decide +kernel
theorem dX10_least_61 : decode cX10_least 61 = .ok (.iconst (-1), 1) := by decide +kernel
theorem dX10_least_62 : decode cX10_least 62 = .ok (.ixor, 1) := by decide +kernel
theorem dX10_least_63 : decode cX10_least 63 = .ok (.iand, 1) := by decide +kernel
theorem dX10_least_64 : decode cX10_least 64 = .ok (.ifCond .eq 6, 3) := by decide +kernel
theorem dX10_least_7 : decode cX10_least 7 = .ok (.getfield 245, 3) := by decide +kernel
theorem dX10_least_70 : decode cX10_least 70 = .ok (.aload_n 0, 1) := by decide +kernel
theorem dX10_least_71 : decode cX10_least 71 = .ok (.getfield 62, 3) := by decide +kernel
theorem dX10_least_74 : decode cX10_least 74 = .ok (.iload_n 3, 1) := by decide +kernel
theorem dX10_least_75 : decode cX10_least 75 = .ok (.iaload, 1) := by decide +kernel
theorem dX10_least_76 : decode cX10_least 76 = .ok (.istore_n 2, 1) := by decide +kernel
theorem dX10_least_77 : decode cX10_least 77 = .ok (.iinc 3 1, 3) := by decide +kernel
theorem dX10_least_80 : decode cX10_least 80 = .ok (.goto (-58), 3) := by decide +kernel
theorem dX10_least_83 : decode cX10_least 83 = .ok (.iload_n 2, 1) := by decide +kernel
theorem dX10_least_84 : decode cX10_least 84 = .ok (.ireturn, 1) := by decide +kernel
theorem dX10_length_0 : decode cX10_length 0 = .ok (.aload_n 0, 1) := by decide +kernel
theorem dX10_length_1 : decode cX10_length 1 = .ok (.iconst 0, 1) := by decide +kernel
theorem dX10_length_10 : decode cX10_length 10 = .ok (.ifCond .eq 12, 3) := by decide +kernel
theorem dX10_length_13 : decode cX10_length 13 = .ok (.aload_n 0, 1) := by decide +kernel
theorem dX10_length_14 : decode cX10_length 14 = .ok (.getfield 62, 3) := by decide +kernel
theorem dX10_length_17 : decode cX10_length 17 = .ok (.iload_n 1, 1) := by decide +kernel
theorem dX10_length_18 : decode cX10_length 18 = .ok (.iaload, 1) := by decide +kernel
theorem dX10_length_19 : decode cX10_length 19 = .ok (.goto 4, 3) := by decide +kernel
theorem dX10_length_2 : decode cX10_length 2 = .ok (.putfield 135, 3) := by decide +kernel
theorem dX10_length_22 : decode cX10_length 22 = .ok (.iconst (-1), 1) := by decide +kernel
theorem dX10_length_23 : decode cX10_length 23 = .ok (.ireturn, 1) := by decide +kernel
theorem dX10_length_5 : decode cX10_length 5 = .ok (.aload_n 0, 1) := by decide +kernel
theorem dX10_length_6 : decode cX10_length 6 = .ok (.iload_n 1, 1) := by decide +kernel
theorem dX10_length_7 : decode cX10_length 7 = .ok (.invokevirtual 310, 3) := by decide +kernel
theorem dX10_named_0 : decode cX10_named 0 = .ok (.aload_n 0, 1) := by decide +kernel
theorem dX10_named_1 : decode cX10_named 1 = .ok (.iconst 0, 1) := by decide +kernel
theorem dX10_named_10 : decode cX10_named 10 = .ok (.ifCond .ne 5, 3) := by decide +kernel
theorem dX10_named_13 : decode cX10_named 13 = .ok (.iconst (-1), 1) := by decide +kernel
theorem dX10_named_14 : decode cX10_named 14 = .ok (.ireturn, 1) := by decide +kernel
theorem dX10_named_15 : decode cX10_named 15 = .ok (.aload_n 0, 1) := by decide +kernel
theorem dX10_named_16 : decode cX10_named 16 = .ok (.iload_n 1, 1) := by decide +kernel
theorem dX10_named_17 : decode cX10_named 17 = .ok (.invokevirtual 284, 3) := by decide +kernel
theorem dX10_named_2 : decode cX10_named 2 = .ok (.putfield 135, 3) := by decide +kernel
theorem dX10_named_20 : decode cX10_named 20 = .ok (.aload_n 0, 1) := by decide +kernel
theorem dX10_named_21 : decode cX10_named 21 = .ok (.getfield 257, 3) := by decide +kernel
theorem dX10_named_24 : decode cX10_named 24 = .ok (.ireturn, 1) := by decide +kernel
theorem dX10_named_5 : decode cX10_named 5 = .ok (.aload_n 0, 1) := by decide +kernel
theorem dX10_named_6 : decode cX10_named 6 = .ok (.iload_n 1, 1) := by decide +kernel
theorem dX10_named_7 : decode cX10_named 7 = .ok (.invokevirtual 310, 3) := by decide +kernel
theorem dX10_option_0 : decode cX10_option 0 = .ok (.aload_n 0, 1) := by decide +kernel
theorem dX10_option_1 : decode cX10_option 1 = .ok (.iconst 0, 1) := by decide +kernel
theorem dX10_option_10 : decode cX10_option 10 = .ok (.aload_n 0, 1) := by decide +kernel
theorem dX10_option_11 : decode cX10_option 11 = .ok (.getfield 233, 3) := by decide +kernel
theorem dX10_option_14 : decode cX10_option 14 = .ok (.if_icmp .lt 9, 3) := by decide +kernel
theorem dX10_option_17 : decode cX10_option 17 = .ok (.aload_n 0, 1) := by decide +kernel
theorem dX10_option_18 : decode cX10_option 18 = .ok (.iconst 1, 1) := by decide +kernel
theorem dX10_option_19 : decode cX10_option 19 = .ok (.invokevirtual 301, 3) := by decide +kernel
theorem dX10_option_2 : decode cX10_option 2 = .ok (.putfield 135, 3) := by decide +kernel
theorem dX10_option_22 : decode cX10_option 22 = .ok (.ireturn, 1) := by decide +kernel
theorem dX10_option_5 : decode cX10_option 5 = .ok (.iload_n 1, 1) := by decide +kernel
theorem dX10_option_6 : decode cX10_option 6 = .ok (.ifCond .lt 11, 3) := by decide +kernel
theorem dX10_option_9 : decode cX10_option 9 = .ok (.iload_n 1, 1) := by decide +kernel
theorem dX10_ranked_0 : decode cX10_ranked 0 = .ok (.aload_n 0, 1) := by decide +kernel
theorem dX10_ranked_1 : decode cX10_ranked 1 = .ok (.iconst 0, 1) := by decide +kernel
theorem dX10_ranked_10 : decode cX10_ranked 10 = .ok (.aload_n 0, 1) := by decide +kernel
theorem dX10_ranked_11 : decode cX10_ranked 11 = .ok (.getfield 278, 3) := by decide +kernel
theorem dX10_ranked_14 : decode cX10_ranked 14 = .ok (.if_icmp .lt 5, 3) := by decide +kernel
theorem dX10_ranked_17 : decode cX10_ranked 17 = .ok (.iconst (-1), 1) := by decide +kernel
theorem dX10_ranked_18 : decode cX10_ranked 18 = .ok (.ireturn, 1) := by decide +kernel
theorem dX10_ranked_19 : decode cX10_ranked 19 = .ok (.aload_n 0, 1) := by decide +kernel
theorem dX10_ranked_2 : decode cX10_ranked 2 = .ok (.putfield 135, 3) := by decide +kernel
theorem dX10_ranked_20 : decode cX10_ranked 20 = .ok (.getfield 297, 3) := by decide +kernel
theorem dX10_ranked_23 : decode cX10_ranked 23 = .ok (.ifCond .ne 7, 3) := by decide +kernel
theorem dX10_ranked_26 : decode cX10_ranked 26 = .ok (.aload_n 0, 1) := by decide +kernel
theorem dX10_ranked_27 : decode cX10_ranked 27 = .ok (.invokevirtual 316, 3) := by decide +kernel
theorem dX10_ranked_30 : decode cX10_ranked 30 = .ok (.aload_n 0, 1) := by decide +kernel
theorem dX10_ranked_31 : decode cX10_ranked 31 = .ok (.getfield 129, 3) := by decide +kernel
theorem dX10_ranked_34 : decode cX10_ranked 34 = .ok (.iload_n 1, 1) := by decide +kernel
theorem dX10_ranked_35 : decode cX10_ranked 35 = .ok (.iaload, 1) := by decide +kernel
theorem dX10_ranked_36 : decode cX10_ranked 36 = .ok (.ireturn, 1) := by decide +kernel
theorem dX10_ranked_5 : decode cX10_ranked 5 = .ok (.iload_n 1, 1) := by decide +kernel
theorem dX10_ranked_6 : decode cX10_ranked 6 = .ok (.ifCond .lt 11, 3) := by decide +kernel
theorem dX10_ranked_9 : decode cX10_ranked 9 = .ok (.iload_n 1, 1) := by decide +kernel
theorem dX10_read_0 : decode cX10_read 0 = .ok (.aload_n 0, 1) := by decide +kernel
theorem dX10_read_1 : decode cX10_read 1 = .ok (.iconst 0, 1) := by decide +kernel
theorem dX10_read_10 : decode cX10_read 10 = .ok (.iconst (-1), 1) := by decide +kernel
theorem dX10_read_11 : decode cX10_read 11 = .ok (.istore_n 2, 1) := by decide +kernel
theorem dX10_read_12 : decode cX10_read 12 = .ok (.iconst 0, 1) := by decide +kernel
theorem dX10_read_13 : decode cX10_read 13 = .ok (.istore_n 3, 1) := by decide +kernel
theorem dX10_read_14 : decode cX10_read 14 = .ok (.iconst (-1), 1) := by decide +kernel
theorem dX10_read_15 : decode cX10_read 15 = .ok (.istore 4, 2) := by decide +kernel
theorem dX10_read_17 : decode cX10_read 17 = .ok (.iconst 0, 1) := by decide +kernel
theorem dX10_read_18 : decode cX10_read 18 = .ok (.istore 5, 2) := by decide +kernel
theorem dX10_read_2 : decode cX10_read 2 = .ok (.putfield 254, 3) := by decide +kernel
theorem dX10_read_20 : decode cX10_read 20 = .ok (.iconst 0, 1) := by decide +kernel
theorem dX10_read_21 : decode cX10_read 21 = .ok (.istore 6, 2) := by decide +kernel
theorem dX10_read_23 : decode cX10_read 23 = .ok (.iload 6, 2) := by decide +kernel
theorem dX10_read_25 : decode cX10_read 25 = .ok (.aload_n 0, 1) := by decide +kernel
theorem dX10_read_26 : decode cX10_read 26 = .ok (.getfield 227, 3) := by decide +kernel
theorem dX10_read_29 : decode cX10_read 29 = .ok (.if_icmp .ge 380, 3) := by decide +kernel
theorem dX10_read_409 : decode cX10_read 409 = .ok (.return_, 1) := by decide +kernel
theorem dX10_read_5 : decode cX10_read 5 = .ok (.aload_n 0, 1) := by decide +kernel
theorem dX10_read_6 : decode cX10_read 6 = .ok (.iconst 0, 1) := by decide +kernel
theorem dX10_read_7 : decode cX10_read 7 = .ok (.putfield 257, 3) := by decide +kernel
theorem dX10_reads_0 : decode cX10_reads 0 = .ok (.aload_n 0, 1) := by decide +kernel
theorem dX10_reads_1 : decode cX10_reads 1 = .ok (.iconst 0, 1) := by decide +kernel
theorem dX10_reads_10 : decode cX10_reads 10 = .ok (.aload_n 0, 1) := by decide +kernel
theorem dX10_reads_11 : decode cX10_reads 11 = .ok (.iconst 0, 1) := by decide +kernel
theorem dX10_reads_12 : decode cX10_reads 12 = .ok (.putfield 181, 3) := by decide +kernel
theorem dX10_reads_15 : decode cX10_reads 15 = .ok (.aload_n 0, 1) := by decide +kernel
theorem dX10_reads_16 : decode cX10_reads 16 = .ok (.iconst 0, 1) := by decide +kernel
theorem dX10_reads_17 : decode cX10_reads 17 = .ok (.putfield 200, 3) := by decide +kernel
theorem dX10_reads_2 : decode cX10_reads 2 = .ok (.putfield 144, 3) := by decide +kernel
theorem dX10_reads_20 : decode cX10_reads 20 = .ok (.aload_n 0, 1) := by decide +kernel
theorem dX10_reads_21 : decode cX10_reads 21 = .ok (.iconst 0, 1) := by decide +kernel
theorem dX10_reads_22 : decode cX10_reads 22 = .ok (.putfield 212, 3) := by decide +kernel
theorem dX10_reads_25 : decode cX10_reads 25 = .ok (.aload_n 0, 1) := by decide +kernel
theorem dX10_reads_26 : decode cX10_reads 26 = .ok (.iconst 0, 1) := by decide +kernel
theorem dX10_reads_27 : decode cX10_reads 27 = .ok (.putfield 209, 3) := by decide +kernel
theorem dX10_reads_30 : decode cX10_reads 30 = .ok (.aload_n 0, 1) := by decide +kernel
theorem dX10_reads_31 : decode cX10_reads 31 = .ok (.iconst (-1), 1) := by decide +kernel
theorem dX10_reads_32 : decode cX10_reads 32 = .ok (.putfield 161, 3) := by decide +kernel
theorem dX10_reads_35 : decode cX10_reads 35 = .ok (.iconst 0, 1) := by decide +kernel
theorem dX10_reads_36 : decode cX10_reads 36 = .ok (.istore_n 1, 1) := by decide +kernel
theorem dX10_reads_37 : decode cX10_reads 37 = .ok (.iload_n 1, 1) := by decide +kernel
theorem dX10_reads_38 : decode cX10_reads 38 = .ok (.bipush 31, 2) := by decide +kernel
theorem dX10_reads_40 : decode cX10_reads 40 = .ok (.if_icmp .ge 16, 3) := by decide +kernel
theorem dX10_reads_43 : decode cX10_reads 43 = .ok (.aload_n 0, 1) := by decide +kernel
theorem dX10_reads_44 : decode cX10_reads 44 = .ok (.getfield 104, 3) := by decide +kernel
theorem dX10_reads_47 : decode cX10_reads 47 = .ok (.iload_n 1, 1) := by decide +kernel
theorem dX10_reads_48 : decode cX10_reads 48 = .ok (.iconst 0, 1) := by decide +kernel
theorem dX10_reads_49 : decode cX10_reads 49 = .ok (.iastore, 1) := by decide +kernel
theorem dX10_reads_5 : decode cX10_reads 5 = .ok (.aload_n 0, 1) := by decide +kernel
theorem dX10_reads_50 : decode cX10_reads 50 = .ok (.iinc 1 1, 3) := by decide +kernel
theorem dX10_reads_53 : decode cX10_reads 53 = .ok (.goto (-16), 3) := by decide +kernel
theorem dX10_reads_56 : decode cX10_reads 56 = .ok (.aload_n 0, 1) := by decide +kernel
theorem dX10_reads_57 : decode cX10_reads 57 = .ok (.invokevirtual 184, 3) := by decide +kernel
theorem dX10_reads_6 : decode cX10_reads 6 = .ok (.iconst 0, 1) := by decide +kernel
theorem dX10_reads_60 : decode cX10_reads 60 = .ok (.aload_n 0, 1) := by decide +kernel
theorem dX10_reads_61 : decode cX10_reads 61 = .ok (.getfield 144, 3) := by decide +kernel
theorem dX10_reads_64 : decode cX10_reads 64 = .ok (.aload_n 0, 1) := by decide +kernel
theorem dX10_reads_65 : decode cX10_reads 65 = .ok (.getfield 147, 3) := by decide +kernel
theorem dX10_reads_68 : decode cX10_reads 68 = .ok (.if_icmp .ge 12, 3) := by decide +kernel
theorem dX10_reads_7 : decode cX10_reads 7 = .ok (.putfield 158, 3) := by decide +kernel
theorem dX10_reads_80 : decode cX10_reads 80 = .ok (.iconst 1, 1) := by decide +kernel
theorem dX10_reads_81 : decode cX10_reads 81 = .ok (.ireturn, 1) := by decide +kernel
theorem dX10_see_0 : decode cX10_see 0 = .ok (.aload_n 0, 1) := by decide +kernel
theorem dX10_see_1 : decode cX10_see 1 = .ok (.getfield 144, 3) := by decide +kernel
theorem dX10_see_23 : decode cX10_see 23 = .ok (.iconst (-1), 1) := by decide +kernel
theorem dX10_see_24 : decode cX10_see 24 = .ok (.ireturn, 1) := by decide +kernel
theorem dX10_see_4 : decode cX10_see 4 = .ok (.aload_n 0, 1) := by decide +kernel
theorem dX10_see_5 : decode cX10_see 5 = .ok (.getfield 147, 3) := by decide +kernel
theorem dX10_see_8 : decode cX10_see 8 = .ok (.if_icmp .ge 15, 3) := by decide +kernel
theorem dX10_sign_0 : decode cX10_sign 0 = .ok (.aload_n 0, 1) := by decide +kernel
theorem dX10_sign_1 : decode cX10_sign 1 = .ok (.iconst 0, 1) := by decide +kernel
theorem dX10_sign_10 : decode cX10_sign 10 = .ok (.ifCond .eq 17, 3) := by decide +kernel
theorem dX10_sign_13 : decode cX10_sign 13 = .ok (.iload_n 2, 1) := by decide +kernel
theorem dX10_sign_14 : decode cX10_sign 14 = .ok (.ifCond .lt 13, 3) := by decide +kernel
theorem dX10_sign_17 : decode cX10_sign 17 = .ok (.iload_n 2, 1) := by decide +kernel
theorem dX10_sign_18 : decode cX10_sign 18 = .ok (.aload_n 0, 1) := by decide +kernel
theorem dX10_sign_19 : decode cX10_sign 19 = .ok (.getfield 62, 3) := by decide +kernel
theorem dX10_sign_2 : decode cX10_sign 2 = .ok (.putfield 135, 3) := by decide +kernel
theorem dX10_sign_22 : decode cX10_sign 22 = .ok (.iload_n 1, 1) := by decide +kernel
theorem dX10_sign_23 : decode cX10_sign 23 = .ok (.iaload, 1) := by decide +kernel
theorem dX10_sign_24 : decode cX10_sign 24 = .ok (.if_icmp .lt 5, 3) := by decide +kernel
theorem dX10_sign_27 : decode cX10_sign 27 = .ok (.iconst (-1), 1) := by decide +kernel
theorem dX10_sign_28 : decode cX10_sign 28 = .ok (.ireturn, 1) := by decide +kernel
theorem dX10_sign_5 : decode cX10_sign 5 = .ok (.aload_n 0, 1) := by decide +kernel
theorem dX10_sign_6 : decode cX10_sign 6 = .ok (.iload_n 1, 1) := by decide +kernel
theorem dX10_sign_7 : decode cX10_sign 7 = .ok (.invokevirtual 310, 3) := by decide +kernel
theorem dX10_sort_0 : decode cX10_sort 0 = .ok (.iconst 0, 1) := by decide +kernel
theorem dX10_sort_1 : decode cX10_sort 1 = .ok (.istore_n 1, 1) := by decide +kernel
theorem dX10_sort_10 : decode cX10_sort 10 = .ok (.ishl, 1) := by decide +kernel
theorem dX10_sort_11 : decode cX10_sort 11 = .ok (.if_icmp .ge 31, 3) := by decide +kernel
theorem dX10_sort_132 : decode cX10_sort 132 = .ok (.iload_n 2, 1) := by decide +kernel
theorem dX10_sort_133 : decode cX10_sort 133 = .ok (.iconst 2, 1) := by decide +kernel
theorem dX10_sort_134 : decode cX10_sort 134 = .ok (.idiv, 1) := by decide +kernel
theorem dX10_sort_135 : decode cX10_sort 135 = .ok (.istore_n 2, 1) := by decide +kernel
theorem dX10_sort_136 : decode cX10_sort 136 = .ok (.goto (-90), 3) := by decide +kernel
theorem dX10_sort_139 : decode cX10_sort 139 = .ok (.aload_n 0, 1) := by decide +kernel
theorem dX10_sort_14 : decode cX10_sort 14 = .ok (.aload_n 0, 1) := by decide +kernel
theorem dX10_sort_140 : decode cX10_sort 140 = .ok (.iconst 1, 1) := by decide +kernel
theorem dX10_sort_141 : decode cX10_sort 141 = .ok (.putfield 297, 3) := by decide +kernel
theorem dX10_sort_144 : decode cX10_sort 144 = .ok (.return_, 1) := by decide +kernel
theorem dX10_sort_15 : decode cX10_sort 15 = .ok (.getfield 62, 3) := by decide +kernel
theorem dX10_sort_18 : decode cX10_sort 18 = .ok (.iload_n 2, 1) := by decide +kernel
theorem dX10_sort_19 : decode cX10_sort 19 = .ok (.iaload, 1) := by decide +kernel
theorem dX10_sort_2 : decode cX10_sort 2 = .ok (.iconst 0, 1) := by decide +kernel
theorem dX10_sort_20 : decode cX10_sort 20 = .ok (.ifCond .ge 6, 3) := by decide +kernel
theorem dX10_sort_26 : decode cX10_sort 26 = .ok (.aload_n 0, 1) := by decide +kernel
theorem dX10_sort_27 : decode cX10_sort 27 = .ok (.getfield 129, 3) := by decide +kernel
theorem dX10_sort_3 : decode cX10_sort 3 = .ok (.istore_n 2, 1) := by decide +kernel
theorem dX10_sort_30 : decode cX10_sort 30 = .ok (.iload_n 1, 1) := by decide +kernel
theorem dX10_sort_31 : decode cX10_sort 31 = .ok (.iload_n 2, 1) := by decide +kernel
theorem dX10_sort_32 : decode cX10_sort 32 = .ok (.iastore, 1) := by decide +kernel
theorem dX10_sort_33 : decode cX10_sort 33 = .ok (.iinc 1 1, 3) := by decide +kernel
theorem dX10_sort_36 : decode cX10_sort 36 = .ok (.iinc 2 1, 3) := by decide +kernel
theorem dX10_sort_39 : decode cX10_sort 39 = .ok (.goto (-35), 3) := by decide +kernel
theorem dX10_sort_4 : decode cX10_sort 4 = .ok (.iload_n 2, 1) := by decide +kernel
theorem dX10_sort_42 : decode cX10_sort 42 = .ok (.sipush 8192, 3) := by decide +kernel
theorem dX10_sort_45 : decode cX10_sort 45 = .ok (.istore_n 2, 1) := by decide +kernel
theorem dX10_sort_46 : decode cX10_sort 46 = .ok (.iload_n 2, 1) := by decide +kernel
theorem dX10_sort_47 : decode cX10_sort 47 = .ok (.ifCond .le 92, 3) := by decide +kernel
theorem dX10_sort_5 : decode cX10_sort 5 = .ok (.iconst 1, 1) := by decide +kernel
theorem dX10_sort_50 : decode cX10_sort 50 = .ok (.iload_n 2, 1) := by decide +kernel
theorem dX10_sort_51 : decode cX10_sort 51 = .ok (.istore_n 3, 1) := by decide +kernel
theorem dX10_sort_52 : decode cX10_sort 52 = .ok (.iload_n 3, 1) := by decide +kernel
theorem dX10_sort_53 : decode cX10_sort 53 = .ok (.iload_n 1, 1) := by decide +kernel
theorem dX10_sort_54 : decode cX10_sort 54 = .ok (.if_icmp .ge 78, 3) := by decide +kernel
theorem dX10_sort_6 : decode cX10_sort 6 = .ok (.aload_n 0, 1) := by decide +kernel
theorem dX10_sort_7 : decode cX10_sort 7 = .ok (.getfield 233, 3) := by decide +kernel
theorem dX10_soundOne_0 : decode cX10_soundOne 0 = .ok (.aload_n 0, 1) := by decide +kernel
theorem dX10_soundOne_1 : decode cX10_soundOne 1 = .ok (.iload_n 1, 1) := by decide +kernel
theorem dX10_soundOne_12 : decode cX10_soundOne 12 = .ok (.iload_n 1, 1) := by decide +kernel
theorem dX10_soundOne_13 : decode cX10_soundOne 13 = .ok (.iaload, 1) := by decide +kernel
theorem dX10_soundOne_14 : decode cX10_soundOne 14 = .ok (.ifCond .lt 7, 3) := by decide +kernel
theorem dX10_soundOne_17 : decode cX10_soundOne 17 = .ok (.iconst 1, 1) := by decide +kernel
theorem dX10_soundOne_18 : decode cX10_soundOne 18 = .ok (.goto 4, 3) := by decide +kernel
theorem dX10_soundOne_2 : decode cX10_soundOne 2 = .ok (.invokevirtual 307, 3) := by decide +kernel
theorem dX10_soundOne_21 : decode cX10_soundOne 21 = .ok (.iconst 0, 1) := by decide +kernel
theorem dX10_soundOne_22 : decode cX10_soundOne 22 = .ok (.ireturn, 1) := by decide +kernel
theorem dX10_soundOne_5 : decode cX10_soundOne 5 = .ok (.ifCond .eq 16, 3) := by decide +kernel
theorem dX10_soundOne_8 : decode cX10_soundOne 8 = .ok (.aload_n 0, 1) := by decide +kernel
theorem dX10_soundOne_9 : decode cX10_soundOne 9 = .ok (.getfield 62, 3) := by decide +kernel
theorem dX10_sound_0 : decode cX10_sound 0 = .ok (.aload_n 0, 1) := by decide +kernel
theorem dX10_sound_1 : decode cX10_sound 1 = .ok (.iconst 0, 1) := by decide +kernel
theorem dX10_sound_10 : decode cX10_sound 10 = .ok (.ifCond .ne 7, 3) := by decide +kernel
theorem dX10_sound_13 : decode cX10_sound 13 = .ok (.iconst (-1), 1) := by decide +kernel
theorem dX10_sound_14 : decode cX10_sound 14 = .ok (.goto 17, 3) := by decide +kernel
theorem dX10_sound_17 : decode cX10_sound 17 = .ok (.aload_n 0, 1) := by decide +kernel
theorem dX10_sound_18 : decode cX10_sound 18 = .ok (.getfield 62, 3) := by decide +kernel
theorem dX10_sound_2 : decode cX10_sound 2 = .ok (.putfield 135, 3) := by decide +kernel
theorem dX10_sound_21 : decode cX10_sound 21 = .ok (.iload_n 1, 1) := by decide +kernel
theorem dX10_sound_22 : decode cX10_sound 22 = .ok (.iaload, 1) := by decide +kernel
theorem dX10_sound_23 : decode cX10_sound 23 = .ok (.ifCond .lt 7, 3) := by decide +kernel
theorem dX10_sound_26 : decode cX10_sound 26 = .ok (.iconst 1, 1) := by decide +kernel
theorem dX10_sound_27 : decode cX10_sound 27 = .ok (.goto 4, 3) := by decide +kernel
theorem dX10_sound_31 : decode cX10_sound 31 = .ok (.ireturn, 1) := by decide +kernel
theorem dX10_sound_5 : decode cX10_sound 5 = .ok (.aload_n 0, 1) := by decide +kernel
theorem dX10_sound_6 : decode cX10_sound 6 = .ok (.iload_n 1, 1) := by decide +kernel
theorem dX10_sound_7 : decode cX10_sound 7 = .ok (.invokevirtual 307, 3) := by decide +kernel
theorem dX10_text_0 : decode cX10_text 0 = .ok (.aload_n 0, 1) := by decide +kernel
theorem dX10_text_1 : decode cX10_text 1 = .ok (.iconst 0, 1) := by decide +kernel
theorem dX10_text_10 : decode cX10_text 10 = .ok (.aload_n 0, 1) := by decide +kernel
theorem dX10_text_11 : decode cX10_text 11 = .ok (.getfield 138, 3) := by decide +kernel
theorem dX10_text_14 : decode cX10_text 14 = .ok (.if_icmp .le 6, 3) := by decide +kernel
theorem dX10_text_155 : decode cX10_text 155 = .ok (.iconst 0, 1) := by decide +kernel
theorem dX10_text_156 : decode cX10_text 156 = .ok (.istore_n 2, 1) := by decide +kernel
theorem dX10_text_157 : decode cX10_text 157 = .ok (.iload_n 2, 1) := by decide +kernel
theorem dX10_text_158 : decode cX10_text 158 = .ok (.aload_n 0, 1) := by decide +kernel
theorem dX10_text_159 : decode cX10_text 159 = .ok (.getfield 227, 3) := by decide +kernel
theorem dX10_text_162 : decode cX10_text 162 = .ok (.if_icmp .ge 123, 3) := by decide +kernel
theorem dX10_text_17 : decode cX10_text 17 = .ok (.bipush (-2), 2) := by decide +kernel
theorem dX10_text_19 : decode cX10_text 19 = .ok (.ireturn, 1) := by decide +kernel
theorem dX10_text_2 : decode cX10_text 2 = .ok (.putfield 135, 3) := by decide +kernel
theorem dX10_text_20 : decode cX10_text 20 = .ok (.aload_n 0, 1) := by decide +kernel
theorem dX10_text_21 : decode cX10_text 21 = .ok (.iload_n 1, 1) := by decide +kernel
theorem dX10_text_22 : decode cX10_text 22 = .ok (.putfield 147, 3) := by decide +kernel
theorem dX10_text_25 : decode cX10_text 25 = .ok (.aload_n 0, 1) := by decide +kernel
theorem dX10_text_26 : decode cX10_text 26 = .ok (.iconst 0, 1) := by decide +kernel
theorem dX10_text_27 : decode cX10_text 27 = .ok (.putfield 138, 3) := by decide +kernel
theorem dX10_text_285 : decode cX10_text 285 = .ok (.iconst 0, 1) := by decide +kernel
theorem dX10_text_286 : decode cX10_text 286 = .ok (.istore_n 2, 1) := by decide +kernel
theorem dX10_text_287 : decode cX10_text 287 = .ok (.iload_n 2, 1) := by decide +kernel
theorem dX10_text_288 : decode cX10_text 288 = .ok (.aload_n 0, 1) := by decide +kernel
theorem dX10_text_289 : decode cX10_text 289 = .ok (.getfield 147, 3) := by decide +kernel
theorem dX10_text_292 : decode cX10_text 292 = .ok (.if_icmp .ge 21, 3) := by decide +kernel
theorem dX10_text_30 : decode cX10_text 30 = .ok (.aload_n 0, 1) := by decide +kernel
theorem dX10_text_31 : decode cX10_text 31 = .ok (.iconst 0, 1) := by decide +kernel
theorem dX10_text_313 : decode cX10_text 313 = .ok (.aload_n 0, 1) := by decide +kernel
theorem dX10_text_314 : decode cX10_text 314 = .ok (.aload_n 0, 1) := by decide +kernel
theorem dX10_text_315 : decode cX10_text 315 = .ok (.getfield 200, 3) := by decide +kernel
theorem dX10_text_318 : decode cX10_text 318 = .ok (.putfield 236, 3) := by decide +kernel
theorem dX10_text_32 : decode cX10_text 32 = .ok (.putfield 141, 3) := by decide +kernel
theorem dX10_text_321 : decode cX10_text 321 = .ok (.iconst 0, 1) := by decide +kernel
theorem dX10_text_322 : decode cX10_text 322 = .ok (.istore_n 2, 1) := by decide +kernel
theorem dX10_text_323 : decode cX10_text 323 = .ok (.iload_n 2, 1) := by decide +kernel
theorem dX10_text_324 : decode cX10_text 324 = .ok (.aload_n 0, 1) := by decide +kernel
theorem dX10_text_325 : decode cX10_text 325 = .ok (.getfield 236, 3) := by decide +kernel
theorem dX10_text_328 : decode cX10_text 328 = .ok (.if_icmp .ge 21, 3) := by decide +kernel
theorem dX10_text_349 : decode cX10_text 349 = .ok (.aload_n 0, 1) := by decide +kernel
theorem dX10_text_35 : decode cX10_text 35 = .ok (.aload_n 0, 1) := by decide +kernel
theorem dX10_text_350 : decode cX10_text 350 = .ok (.aload_n 0, 1) := by decide +kernel
theorem dX10_text_351 : decode cX10_text 351 = .ok (.getfield 212, 3) := by decide +kernel
theorem dX10_text_354 : decode cX10_text 354 = .ok (.putfield 239, 3) := by decide +kernel
theorem dX10_text_357 : decode cX10_text 357 = .ok (.iconst 0, 1) := by decide +kernel
theorem dX10_text_358 : decode cX10_text 358 = .ok (.istore_n 2, 1) := by decide +kernel
theorem dX10_text_359 : decode cX10_text 359 = .ok (.iload_n 2, 1) := by decide +kernel
theorem dX10_text_36 : decode cX10_text 36 = .ok (.iconst (-1), 1) := by decide +kernel
theorem dX10_text_360 : decode cX10_text 360 = .ok (.aload_n 0, 1) := by decide +kernel
theorem dX10_text_361 : decode cX10_text 361 = .ok (.getfield 239, 3) := by decide +kernel
theorem dX10_text_364 : decode cX10_text 364 = .ok (.if_icmp .ge 21, 3) := by decide +kernel
theorem dX10_text_37 : decode cX10_text 37 = .ok (.putfield 13, 3) := by decide +kernel
theorem dX10_text_385 : decode cX10_text 385 = .ok (.aload_n 0, 1) := by decide +kernel
theorem dX10_text_386 : decode cX10_text 386 = .ok (.aload_n 0, 1) := by decide +kernel
theorem dX10_text_387 : decode cX10_text 387 = .ok (.getfield 209, 3) := by decide +kernel
theorem dX10_text_390 : decode cX10_text 390 = .ok (.putfield 242, 3) := by decide +kernel
theorem dX10_text_393 : decode cX10_text 393 = .ok (.iconst 0, 1) := by decide +kernel
theorem dX10_text_394 : decode cX10_text 394 = .ok (.istore_n 2, 1) := by decide +kernel
theorem dX10_text_395 : decode cX10_text 395 = .ok (.iload_n 2, 1) := by decide +kernel
theorem dX10_text_396 : decode cX10_text 396 = .ok (.aload_n 0, 1) := by decide +kernel
theorem dX10_text_397 : decode cX10_text 397 = .ok (.getfield 242, 3) := by decide +kernel
theorem dX10_text_40 : decode cX10_text 40 = .ok (.aload_n 0, 1) := by decide +kernel
theorem dX10_text_400 : decode cX10_text 400 = .ok (.if_icmp .ge 21, 3) := by decide +kernel
theorem dX10_text_41 : decode cX10_text 41 = .ok (.invokevirtual 224, 3) := by decide +kernel
theorem dX10_text_421 : decode cX10_text 421 = .ok (.aload_n 0, 1) := by decide +kernel
theorem dX10_text_422 : decode cX10_text 422 = .ok (.iconst 0, 1) := by decide +kernel
theorem dX10_text_423 : decode cX10_text 423 = .ok (.putfield 245, 3) := by decide +kernel
theorem dX10_text_426 : decode cX10_text 426 = .ok (.iconst 0, 1) := by decide +kernel
theorem dX10_text_427 : decode cX10_text 427 = .ok (.istore_n 2, 1) := by decide +kernel
theorem dX10_text_428 : decode cX10_text 428 = .ok (.iload_n 2, 1) := by decide +kernel
theorem dX10_text_429 : decode cX10_text 429 = .ok (.bipush 31, 2) := by decide +kernel
theorem dX10_text_431 : decode cX10_text 431 = .ok (.if_icmp .ge 46, 3) := by decide +kernel
theorem dX10_text_434 : decode cX10_text 434 = .ok (.aload_n 0, 1) := by decide +kernel
theorem dX10_text_435 : decode cX10_text 435 = .ok (.getfield 59, 3) := by decide +kernel
theorem dX10_text_438 : decode cX10_text 438 = .ok (.iload_n 2, 1) := by decide +kernel
theorem dX10_text_439 : decode cX10_text 439 = .ok (.aload_n 0, 1) := by decide +kernel
theorem dX10_text_44 : decode cX10_text 44 = .ok (.ifCond .ne 5, 3) := by decide +kernel
theorem dX10_text_440 : decode cX10_text 440 = .ok (.getfield 104, 3) := by decide +kernel
theorem dX10_text_443 : decode cX10_text 443 = .ok (.iload_n 2, 1) := by decide +kernel
theorem dX10_text_444 : decode cX10_text 444 = .ok (.iaload, 1) := by decide +kernel
theorem dX10_text_445 : decode cX10_text 445 = .ok (.iastore, 1) := by decide +kernel
theorem dX10_text_446 : decode cX10_text 446 = .ok (.aload_n 0, 1) := by decide +kernel
theorem dX10_text_447 : decode cX10_text 447 = .ok (.dup, 1) := by decide +kernel
theorem dX10_text_448 : decode cX10_text 448 = .ok (.getfield 245, 3) := by decide +kernel
theorem dX10_text_451 : decode cX10_text 451 = .ok (.aload_n 0, 1) := by decide +kernel
theorem dX10_text_452 : decode cX10_text 452 = .ok (.getfield 59, 3) := by decide +kernel
theorem dX10_text_455 : decode cX10_text 455 = .ok (.iload_n 2, 1) := by decide +kernel
theorem dX10_text_456 : decode cX10_text 456 = .ok (.iaload, 1) := by decide +kernel
theorem dX10_text_457 : decode cX10_text 457 = .ok (.ifCond .le 9, 3) := by decide +kernel
theorem dX10_text_466 : decode cX10_text 466 = .ok (.iconst 0, 1) := by decide +kernel
theorem dX10_text_467 : decode cX10_text 467 = .ok (.ior, 1) := by decide +kernel
theorem dX10_text_468 : decode cX10_text 468 = .ok (.putfield 245, 3) := by decide +kernel
theorem dX10_text_471 : decode cX10_text 471 = .ok (.iinc 2 1, 3) := by decide +kernel
theorem dX10_text_474 : decode cX10_text 474 = .ok (.goto (-46), 3) := by decide +kernel
theorem dX10_text_477 : decode cX10_text 477 = .ok (.aload_n 0, 1) := by decide +kernel
theorem dX10_text_478 : decode cX10_text 478 = .ok (.iconst 0, 1) := by decide +kernel
theorem dX10_text_479 : decode cX10_text 479 = .ok (.putfield 248, 3) := by decide +kernel
theorem dX10_text_482 : decode cX10_text 482 = .ok (.aload_n 0, 1) := by decide +kernel
theorem dX10_text_483 : decode cX10_text 483 = .ok (.invokevirtual 132, 3) := by decide +kernel
theorem dX10_text_486 : decode cX10_text 486 = .ok (.aload_n 0, 1) := by decide +kernel
theorem dX10_text_487 : decode cX10_text 487 = .ok (.getfield 233, 3) := by decide +kernel
theorem dX10_text_49 : decode cX10_text 49 = .ok (.aload_n 0, 1) := by decide +kernel
theorem dX10_text_490 : decode cX10_text 490 = .ok (.ireturn, 1) := by decide +kernel
theorem dX10_text_5 : decode cX10_text 5 = .ok (.iload_n 1, 1) := by decide +kernel
theorem dX10_text_50 : decode cX10_text 50 = .ok (.aload_n 0, 1) := by decide +kernel
theorem dX10_text_51 : decode cX10_text 51 = .ok (.getfield 158, 3) := by decide +kernel
theorem dX10_text_54 : decode cX10_text 54 = .ok (.putfield 227, 3) := by decide +kernel
theorem dX10_text_57 : decode cX10_text 57 = .ok (.aload_n 0, 1) := by decide +kernel
theorem dX10_text_58 : decode cX10_text 58 = .ok (.iconst 0, 1) := by decide +kernel
theorem dX10_text_59 : decode cX10_text 59 = .ok (.putfield 230, 3) := by decide +kernel
theorem dX10_text_6 : decode cX10_text 6 = .ok (.ifCond .lt 11, 3) := by decide +kernel
theorem dX10_text_62 : decode cX10_text 62 = .ok (.iconst 0, 1) := by decide +kernel
theorem dX10_text_63 : decode cX10_text 63 = .ok (.istore_n 2, 1) := by decide +kernel
theorem dX10_text_64 : decode cX10_text 64 = .ok (.iload_n 2, 1) := by decide +kernel
theorem dX10_text_65 : decode cX10_text 65 = .ok (.bipush 14, 2) := by decide +kernel
theorem dX10_text_67 : decode cX10_text 67 = .ok (.if_icmp .ge 16, 3) := by decide +kernel
theorem dX10_text_70 : decode cX10_text 70 = .ok (.aload_n 0, 1) := by decide +kernel
theorem dX10_text_71 : decode cX10_text 71 = .ok (.getfield 44, 3) := by decide +kernel
theorem dX10_text_74 : decode cX10_text 74 = .ok (.iload_n 2, 1) := by decide +kernel
theorem dX10_text_75 : decode cX10_text 75 = .ok (.iconst 0, 1) := by decide +kernel
theorem dX10_text_76 : decode cX10_text 76 = .ok (.iastore, 1) := by decide +kernel
theorem dX10_text_77 : decode cX10_text 77 = .ok (.iinc 2 1, 3) := by decide +kernel
theorem dX10_text_80 : decode cX10_text 80 = .ok (.goto (-16), 3) := by decide +kernel
theorem dX10_text_83 : decode cX10_text 83 = .ok (.aload_n 0, 1) := by decide +kernel
theorem dX10_text_84 : decode cX10_text 84 = .ok (.aload_n 0, 1) := by decide +kernel
theorem dX10_text_85 : decode cX10_text 85 = .ok (.getfield 181, 3) := by decide +kernel
theorem dX10_text_88 : decode cX10_text 88 = .ok (.putfield 233, 3) := by decide +kernel
theorem dX10_text_9 : decode cX10_text 9 = .ok (.iload_n 1, 1) := by decide +kernel
theorem dX10_text_91 : decode cX10_text 91 = .ok (.iconst 0, 1) := by decide +kernel
theorem dX10_text_92 : decode cX10_text 92 = .ok (.istore_n 2, 1) := by decide +kernel
theorem dX10_text_93 : decode cX10_text 93 = .ok (.iload_n 2, 1) := by decide +kernel
theorem dX10_text_94 : decode cX10_text 94 = .ok (.aload_n 0, 1) := by decide +kernel
theorem dX10_text_95 : decode cX10_text 95 = .ok (.getfield 233, 3) := by decide +kernel
theorem dX10_text_98 : decode cX10_text 98 = .ok (.if_icmp .ge 57, 3) := by decide +kernel
theorem dX10_told_0 : decode cX10_told 0 = .ok (.iconst 0, 1) := by decide +kernel
theorem dX10_told_1 : decode cX10_told 1 = .ok (.istore_n 2, 1) := by decide +kernel
theorem dX10_told_2 : decode cX10_told 2 = .ok (.iconst 0, 1) := by decide +kernel
theorem dX10_told_3 : decode cX10_told 3 = .ok (.istore_n 3, 1) := by decide +kernel
theorem dX10_told_39 : decode cX10_told 39 = .ok (.iconst 0, 1) := by decide +kernel
theorem dX10_told_4 : decode cX10_told 4 = .ok (.iload_n 3, 1) := by decide +kernel
theorem dX10_told_40 : decode cX10_told 40 = .ok (.istore_n 3, 1) := by decide +kernel
theorem dX10_told_41 : decode cX10_told 41 = .ok (.iload_n 3, 1) := by decide +kernel
theorem dX10_told_42 : decode cX10_told 42 = .ok (.aload_n 0, 1) := by decide +kernel
theorem dX10_told_43 : decode cX10_told 43 = .ok (.getfield 239, 3) := by decide +kernel
theorem dX10_told_46 : decode cX10_told 46 = .ok (.if_icmp .ge 48, 3) := by decide +kernel
theorem dX10_told_5 : decode cX10_told 5 = .ok (.aload_n 0, 1) := by decide +kernel
theorem dX10_told_6 : decode cX10_told 6 = .ok (.getfield 233, 3) := by decide +kernel
theorem dX10_told_9 : decode cX10_told 9 = .ok (.if_icmp .ge 30, 3) := by decide +kernel
theorem dX10_told_94 : decode cX10_told 94 = .ok (.iload_n 2, 1) := by decide +kernel
theorem dX10_told_95 : decode cX10_told 95 = .ok (.ireturn, 1) := by decide +kernel
theorem dX10_turned_0 : decode cX10_turned 0 = .ok (.aload_n 0, 1) := by decide +kernel
theorem dX10_turned_1 : decode cX10_turned 1 = .ok (.iconst 0, 1) := by decide +kernel
theorem dX10_turned_10 : decode cX10_turned 10 = .ok (.ifCond .eq 15, 3) := by decide +kernel
theorem dX10_turned_13 : decode cX10_turned 13 = .ok (.iload_n 2, 1) := by decide +kernel
theorem dX10_turned_14 : decode cX10_turned 14 = .ok (.ifCond .lt 11, 3) := by decide +kernel
theorem dX10_turned_17 : decode cX10_turned 17 = .ok (.iload_n 2, 1) := by decide +kernel
theorem dX10_turned_18 : decode cX10_turned 18 = .ok (.aload_n 0, 1) := by decide +kernel
theorem dX10_turned_19 : decode cX10_turned 19 = .ok (.getfield 233, 3) := by decide +kernel
theorem dX10_turned_2 : decode cX10_turned 2 = .ok (.putfield 135, 3) := by decide +kernel
theorem dX10_turned_22 : decode cX10_turned 22 = .ok (.if_icmp .lt 5, 3) := by decide +kernel
theorem dX10_turned_25 : decode cX10_turned 25 = .ok (.iconst (-1), 1) := by decide +kernel
theorem dX10_turned_26 : decode cX10_turned 26 = .ok (.ireturn, 1) := by decide +kernel
theorem dX10_turned_5 : decode cX10_turned 5 = .ok (.aload_n 0, 1) := by decide +kernel
theorem dX10_turned_6 : decode cX10_turned 6 = .ok (.iload_n 1, 1) := by decide +kernel
theorem dX10_turned_7 : decode cX10_turned 7 = .ok (.invokevirtual 310, 3) := by decide +kernel
theorem dX10_valueAll_0 : decode cX10_valueAll 0 = .ok (.iconst 0, 1) := by decide +kernel
theorem dX10_valueAll_1 : decode cX10_valueAll 1 = .ok (.istore_n 1, 1) := by decide +kernel
theorem dX10_valueAll_12 : decode cX10_valueAll 12 = .ok (.aload_n 0, 1) := by decide +kernel
theorem dX10_valueAll_13 : decode cX10_valueAll 13 = .ok (.getfield 65, 3) := by decide +kernel
theorem dX10_valueAll_16 : decode cX10_valueAll 16 = .ok (.iload_n 1, 1) := by decide +kernel
theorem dX10_valueAll_17 : decode cX10_valueAll 17 = .ok (.aload_n 0, 1) := by decide +kernel
theorem dX10_valueAll_18 : decode cX10_valueAll 18 = .ok (.getfield 62, 3) := by decide +kernel
theorem dX10_valueAll_2 : decode cX10_valueAll 2 = .ok (.iload_n 1, 1) := by decide +kernel
theorem dX10_valueAll_21 : decode cX10_valueAll 21 = .ok (.iload_n 1, 1) := by decide +kernel
theorem dX10_valueAll_22 : decode cX10_valueAll 22 = .ok (.iaload, 1) := by decide +kernel
theorem dX10_valueAll_23 : decode cX10_valueAll 23 = .ok (.ifCond .ge 7, 3) := by decide +kernel
theorem dX10_valueAll_3 : decode cX10_valueAll 3 = .ok (.iconst 1, 1) := by decide +kernel
theorem dX10_valueAll_30 : decode cX10_valueAll 30 = .ok (.aload_n 0, 1) := by decide +kernel
theorem dX10_valueAll_31 : decode cX10_valueAll 31 = .ok (.iload_n 1, 1) := by decide +kernel
theorem dX10_valueAll_32 : decode cX10_valueAll 32 = .ok (.invokevirtual 294, 3) := by decide +kernel
theorem dX10_valueAll_35 : decode cX10_valueAll 35 = .ok (.iastore, 1) := by decide +kernel
theorem dX10_valueAll_36 : decode cX10_valueAll 36 = .ok (.iinc 1 1, 3) := by decide +kernel
theorem dX10_valueAll_39 : decode cX10_valueAll 39 = .ok (.goto (-37), 3) := by decide +kernel
theorem dX10_valueAll_4 : decode cX10_valueAll 4 = .ok (.aload_n 0, 1) := by decide +kernel
theorem dX10_valueAll_42 : decode cX10_valueAll 42 = .ok (.aload_n 0, 1) := by decide +kernel
theorem dX10_valueAll_43 : decode cX10_valueAll 43 = .ok (.iconst 0, 1) := by decide +kernel
theorem dX10_valueAll_44 : decode cX10_valueAll 44 = .ok (.putfield 297, 3) := by decide +kernel
theorem dX10_valueAll_47 : decode cX10_valueAll 47 = .ok (.return_, 1) := by decide +kernel
theorem dX10_valueAll_5 : decode cX10_valueAll 5 = .ok (.getfield 233, 3) := by decide +kernel
theorem dX10_valueAll_8 : decode cX10_valueAll 8 = .ok (.ishl, 1) := by decide +kernel
theorem dX10_valueAll_9 : decode cX10_valueAll 9 = .ok (.if_icmp .ge 33, 3) := by decide +kernel
theorem dX10_valueOf_0 : decode cX10_valueOf 0 = .ok (.aload_n 0, 1) := by decide +kernel
theorem dX10_valueOf_1 : decode cX10_valueOf 1 = .ok (.iload_n 1, 1) := by decide +kernel
theorem dX10_valueOf_11 : decode cX10_valueOf 11 = .ok (.iload 4, 2) := by decide +kernel
theorem dX10_valueOf_13 : decode cX10_valueOf 13 = .ok (.bipush 31, 2) := by decide +kernel
theorem dX10_valueOf_15 : decode cX10_valueOf 15 = .ok (.if_icmp .ge 40, 3) := by decide +kernel
theorem dX10_valueOf_18 : decode cX10_valueOf 18 = .ok (.iload_n 3, 1) := by decide +kernel
theorem dX10_valueOf_19 : decode cX10_valueOf 19 = .ok (.iload_n 2, 1) := by decide +kernel
theorem dX10_valueOf_2 : decode cX10_valueOf 2 = .ok (.invokevirtual 274, 3) := by decide +kernel
theorem dX10_valueOf_20 : decode cX10_valueOf 20 = .ok (.aload_n 0, 1) := by decide +kernel
theorem dX10_valueOf_21 : decode cX10_valueOf 21 = .ok (.getfield 248, 3) := by decide +kernel
theorem dX10_valueOf_24 : decode cX10_valueOf 24 = .ok (.iconst (-1), 1) := by decide +kernel
theorem dX10_valueOf_25 : decode cX10_valueOf 25 = .ok (.ixor, 1) := by decide +kernel
theorem dX10_valueOf_26 : decode cX10_valueOf 26 = .ok (.iand, 1) := by decide +kernel
theorem dX10_valueOf_27 : decode cX10_valueOf 27 = .ok (.iload 4, 2) := by decide +kernel
theorem dX10_valueOf_29 : decode cX10_valueOf 29 = .ok (.ishr, 1) := by decide +kernel
theorem dX10_valueOf_30 : decode cX10_valueOf 30 = .ok (.iconst 1, 1) := by decide +kernel
theorem dX10_valueOf_31 : decode cX10_valueOf 31 = .ok (.iand, 1) := by decide +kernel
theorem dX10_valueOf_32 : decode cX10_valueOf 32 = .ok (.iconst 1, 1) := by decide +kernel
theorem dX10_valueOf_33 : decode cX10_valueOf 33 = .ok (.if_icmp .ne 13, 3) := by decide +kernel
theorem dX10_valueOf_46 : decode cX10_valueOf 46 = .ok (.iconst 0, 1) := by decide +kernel
theorem dX10_valueOf_47 : decode cX10_valueOf 47 = .ok (.iadd, 1) := by decide +kernel
theorem dX10_valueOf_48 : decode cX10_valueOf 48 = .ok (.istore_n 3, 1) := by decide +kernel
theorem dX10_valueOf_49 : decode cX10_valueOf 49 = .ok (.iinc 4 1, 3) := by decide +kernel
theorem dX10_valueOf_5 : decode cX10_valueOf 5 = .ok (.istore_n 2, 1) := by decide +kernel
theorem dX10_valueOf_52 : decode cX10_valueOf 52 = .ok (.goto (-41), 3) := by decide +kernel
theorem dX10_valueOf_55 : decode cX10_valueOf 55 = .ok (.iload_n 3, 1) := by decide +kernel
theorem dX10_valueOf_56 : decode cX10_valueOf 56 = .ok (.ireturn, 1) := by decide +kernel
theorem dX10_valueOf_6 : decode cX10_valueOf 6 = .ok (.iconst 0, 1) := by decide +kernel
theorem dX10_valueOf_7 : decode cX10_valueOf 7 = .ok (.istore_n 3, 1) := by decide +kernel
theorem dX10_valueOf_8 : decode cX10_valueOf 8 = .ok (.iconst 0, 1) := by decide +kernel
theorem dX10_valueOf_9 : decode cX10_valueOf 9 = .ok (.istore 4, 2) := by decide +kernel
theorem dX10_value_0 : decode cX10_value 0 = .ok (.aload_n 0, 1) := by decide +kernel
theorem dX10_value_1 : decode cX10_value 1 = .ok (.iconst 0, 1) := by decide +kernel
theorem dX10_value_10 : decode cX10_value 10 = .ok (.ifCond .eq 12, 3) := by decide +kernel
theorem dX10_value_13 : decode cX10_value 13 = .ok (.aload_n 0, 1) := by decide +kernel
theorem dX10_value_14 : decode cX10_value 14 = .ok (.getfield 65, 3) := by decide +kernel
theorem dX10_value_17 : decode cX10_value 17 = .ok (.iload_n 1, 1) := by decide +kernel
theorem dX10_value_18 : decode cX10_value 18 = .ok (.iaload, 1) := by decide +kernel
theorem dX10_value_19 : decode cX10_value 19 = .ok (.goto 4, 3) := by decide +kernel
theorem dX10_value_2 : decode cX10_value 2 = .ok (.putfield 135, 3) := by decide +kernel
theorem dX10_value_22 : decode cX10_value 22 = .ok (.iconst (-1), 1) := by decide +kernel
theorem dX10_value_23 : decode cX10_value 23 = .ok (.ireturn, 1) := by decide +kernel
theorem dX10_value_5 : decode cX10_value 5 = .ok (.aload_n 0, 1) := by decide +kernel
theorem dX10_value_6 : decode cX10_value 6 = .ok (.iload_n 1, 1) := by decide +kernel
theorem dX10_value_7 : decode cX10_value 7 = .ok (.invokevirtual 310, 3) := by decide +kernel
theorem dX10_weight_0 : decode cX10_weight 0 = .ok (.aload_n 0, 1) := by decide +kernel
theorem dX10_weight_1 : decode cX10_weight 1 = .ok (.iconst 0, 1) := by decide +kernel
theorem dX10_weight_10 : decode cX10_weight 10 = .ok (.ifCond .ne 7, 3) := by decide +kernel
theorem dX10_weight_13 : decode cX10_weight 13 = .ok (.iconst (-1), 1) := by decide +kernel
theorem dX10_weight_14 : decode cX10_weight 14 = .ok (.goto 25, 3) := by decide +kernel
theorem dX10_weight_2 : decode cX10_weight 2 = .ok (.putfield 135, 3) := by decide +kernel
theorem dX10_weight_39 : decode cX10_weight 39 = .ok (.ireturn, 1) := by decide +kernel
theorem dX10_weight_5 : decode cX10_weight 5 = .ok (.aload_n 0, 1) := by decide +kernel
theorem dX10_weight_6 : decode cX10_weight 6 = .ok (.iload_n 1, 1) := by decide +kernel
theorem dX10_weight_7 : decode cX10_weight 7 = .ok (.invokevirtual 304, 3) := by decide +kernel
set_option maxRecDepth 20000 in
theorem ggX10_finish_X10_isSound : GoodIn wsX10_finish wsX10_isSound := goodIn_r _ [10, 2, 11, 12, 13, 14, 15, 16, 9, 17, 67, 68, 69, 70, 71, 72, 73, 74, 75, 76, 77, 78, 79, 80, 81, 82, 83, 84, 85, 86, 87, 88, 89, 90, 91, 92, 93, 94, 95, 96, 97, 98, 99, 100, 101, 102, 103, 104, 105, 106, 107, 108, 109, 110, 111, 112, 113, 114, 115, 116, 117, 118, 119, 120, 121, 122, 123, 124, 125, 126, 127, 128, 129, 130, 131, 132] (by decide +kernel) (by decide +kernel)
set_option maxRecDepth 20000 in
theorem gX10_finish_X10_isSound : GoodIn wsX10_finish (wsV RX10 281 RX10 yX10_isSound wsX10_isSound) := goodIn_app (goodIn_of _ (by decide +kernel)) ggX10_finish_X10_isSound
set_option maxRecDepth 20000 in
theorem ggX10_finish_X10_read : GoodIn wsX10_finish wsX10_read := goodIn_r _ [21, 4, 22, 23, 24, 25, 26, 27, 28, 29, 30, 31, 32, 9, 33, 34, 35, 15, 16, 17, 36, 37, 38, 39, 2, 14, 40, 41, 42, 43, 44, 45, 46, 47, 48, 67, 68, 69, 70, 71, 72, 73, 74, 75, 76, 77, 78, 79, 80, 81, 82, 83, 84, 85, 86, 87, 88, 89, 90, 91, 92, 93, 94, 95, 96, 97, 98, 99, 100, 101, 102, 103, 104, 105, 106, 107, 108, 109, 110, 111, 112, 113, 114, 115, 116, 117, 118, 119, 120, 121, 122, 123, 124, 125, 126, 127, 128, 129, 130, 131, 132] (by decide +kernel) (by decide +kernel)
set_option maxRecDepth 20000 in
theorem gX10_finish_X10_read : GoodIn wsX10_finish (wsV RX10 284 RX10 yX10_read wsX10_read) := goodIn_app (goodIn_of _ (by decide +kernel)) ggX10_finish_X10_read
set_option maxRecDepth 20000 in
theorem ggX10_valueOf_X10_told : GoodIn wsX10_valueOf wsX10_told := goodIn_r _ [7, 8, 9, 10, 11, 12, 13, 14, 6, 15, 16, 17, 18, 19, 20, 21, 22, 23, 24, 25, 26, 27, 28, 29, 30, 31, 32, 33, 34, 35, 36, 37, 38, 39, 40, 41, 42, 43, 44, 45, 46, 47, 48, 49, 50, 51, 52, 53, 54, 55, 56, 57, 58, 59, 60, 61, 62, 63, 64, 65, 66, 67, 68, 69, 70, 71, 72, 73, 74, 75, 76, 77, 78, 79, 80, 81, 82, 83, 84, 85] (by decide +kernel) (by decide +kernel)
set_option maxRecDepth 20000 in
theorem gX10_valueOf_X10_told : GoodIn wsX10_valueOf (wsV RX10 274 RX10 yX10_told wsX10_told) := goodIn_app (goodIn_of _ (by decide +kernel)) ggX10_valueOf_X10_told
set_option maxRecDepth 20000 in
theorem ggX10_valueAll_X10_valueOf : GoodIn wsX10_valueAll wsX10_valueOf := goodIn_r _ [9, 10, 11, 12, 13, 14, 8, 15, 1, 16, 17, 18, 19, 20, 21, 22, 23, 24, 25, 26, 27, 28, 29, 30, 31, 32, 33, 34, 35, 36, 37, 38, 39, 40, 41, 42, 43, 44, 45, 46, 47, 48, 49, 50, 51, 52, 53, 54, 55, 56, 57, 58, 59, 60, 61, 62, 63, 64, 65, 66, 67, 68, 69, 70, 71, 72, 73, 74, 75, 76, 77, 78, 79, 80, 81, 82, 83, 84, 85, 86, 87, 88, 89, 90, 91, 92] (by decide +kernel) (by decide +kernel)
set_option maxRecDepth 20000 in
theorem gX10_valueAll_X10_valueOf : GoodIn wsX10_valueAll (wsV RX10 294 RX10 yX10_valueOf wsX10_valueOf) := goodIn_app (goodIn_of _ (by decide +kernel)) ggX10_valueAll_X10_valueOf
set_option maxRecDepth 20000 in
theorem ggX10_finish_X10_valueAll : GoodIn wsX10_finish wsX10_valueAll := goodIn_r _ [52, 2, 53, 3, 54, 55, 56, 57, 9, 58, 59, 60, 61, 62, 63, 64, 65, 35, 34, 66, 15, 16, 17, 30, 31, 32, 33, 67, 68, 69, 70, 71, 72, 73, 74, 75, 76, 77, 78, 79, 80, 81, 82, 83, 84, 85, 86, 87, 88, 89, 90, 91, 92, 93, 94, 95, 96, 97, 98, 99, 100, 101, 102, 103, 104, 105, 106, 107, 108, 109, 110, 111, 112, 113, 114, 115, 116, 117, 118, 119, 120, 121, 122, 123, 124, 125, 126, 127, 128, 129, 130, 131, 132] (by decide +kernel) (by decide +kernel)
set_option maxRecDepth 20000 in
theorem gX10_finish_X10_valueAll : GoodIn wsX10_finish (wsV RX10 291 RX10 yX10_valueAll wsX10_valueAll) := goodIn_app (goodIn_of _ (by decide +kernel)) ggX10_finish_X10_valueAll
set_option maxRecDepth 20000 in
theorem ggX10_init_X10_finish : GoodIn wsX10_init wsX10_finish := goodIn_r _ [50, 51, 52, 22, 53, 54, 55, 56, 57, 49, 58, 14, 59, 18, 15, 60, 61, 62, 63, 64, 65, 66, 67, 68, 7, 8, 44, 11, 9, 10, 69, 70, 71, 72, 19, 73, 74, 75, 76, 77, 78, 79, 80, 81, 12, 82, 83, 84, 85, 86, 87, 88, 89, 23, 90, 91, 92, 93, 94, 95, 21, 96, 97, 98, 99, 17, 20, 100, 101, 102, 103, 104, 105, 106, 107, 108, 109, 110, 111, 112, 113, 114, 115, 116, 117, 118, 119, 120, 121, 122, 123, 124, 125, 126, 127, 128, 129, 130, 131, 132, 133, 134, 135, 136, 137, 138, 139, 140, 141, 142, 143, 144, 145, 146, 147, 148, 149, 150, 151, 152, 153, 154, 155, 156, 157, 158, 159, 160, 161, 162, 163, 164, 165] (by decide +kernel) (by decide +kernel)
set_option maxRecDepth 20000 in
theorem gX10_init_X10_finish : GoodIn wsX10_init (wsV RX10 132 RX10 yX10_finish wsX10_finish) := goodIn_app (goodIn_of _ (by decide +kernel)) ggX10_init_X10_finish
set_option maxRecDepth 20000 in
theorem ggX10_blanks_X10_see : GoodIn wsX10_blanks wsX10_see := goodIn_r _ [6, 1, 7, 8, 9, 10, 11, 12, 13, 14, 15, 16, 17, 18, 19, 20, 21, 22, 23, 24, 25, 26, 27, 28, 29, 30, 31, 32, 33, 34, 35, 36, 37, 38, 39, 40, 41, 42, 43, 44, 45, 46, 47, 48, 49, 50, 51, 52, 53, 54, 55, 56, 57, 58, 59, 60, 61, 62, 63, 64, 65, 66, 67, 68, 69, 70, 71, 72, 73, 74] (by decide +kernel) (by decide +kernel)
set_option maxRecDepth 20000 in
theorem gX10_blanks_X10_see : GoodIn wsX10_blanks (wsV RX10 150 RX10 yX10_see wsX10_see) := goodIn_app (goodIn_of _ (by decide +kernel)) ggX10_blanks_X10_see
set_option maxRecDepth 20000 in
theorem ggX10_reads_X10_blanks : GoodIn wsX10_reads wsX10_blanks := goodIn_r _ [14, 1, 15, 16, 17, 13, 18, 9, 19, 92, 93, 94, 95, 96, 97, 98, 99, 100, 101, 102, 103, 104, 105, 106, 107, 108, 109, 110, 111, 112, 113, 114, 115, 116, 117, 118, 119, 120, 121, 122, 123, 124, 125, 126, 127, 128, 129, 130, 131, 132, 133, 134, 135, 136, 137, 138, 139, 140, 141, 142, 143, 144, 145, 146, 147, 148, 149, 150, 151, 152, 153, 154, 155, 156, 157] (by decide +kernel) (by decide +kernel)
set_option maxRecDepth 20000 in
theorem gX10_reads_X10_blanks : GoodIn wsX10_reads (wsV RX10 184 RX10 yX10_blanks wsX10_blanks) := goodIn_app (goodIn_of _ (by decide +kernel)) ggX10_reads_X10_blanks
set_option maxRecDepth 20000 in
theorem ggX10_text_X10_reads : GoodIn wsX10_text wsX10_reads := goodIn_r _ [52, 53, 6, 10, 32, 36, 40, 54, 46, 3, 55, 56, 57, 51, 58, 59, 60, 61, 62, 31, 63, 64, 65, 66, 67, 68, 69, 43, 39, 70, 71, 72, 73, 74, 75, 76, 77, 78, 79, 80, 81, 82, 83, 84, 85, 86, 87, 88, 89, 90, 91, 92, 4, 5, 93, 94, 95, 96, 13, 15, 17, 19, 97, 98, 99, 100, 21, 23, 25, 27, 29, 101, 102, 103, 104, 35, 105, 106, 107, 108, 109, 110, 111, 112, 113, 114, 115, 116, 117, 118, 119, 120, 172, 173, 174, 175, 176, 177, 178, 179, 180, 181, 182, 183, 184, 185, 186, 187, 188, 189, 190, 191, 192, 193, 194, 195, 196, 197, 198, 199, 200, 201, 202, 203, 204, 205, 206, 207, 208, 209, 210, 211, 212, 213, 214, 215, 216, 217, 218, 219, 220, 221, 222, 223, 224, 225, 226, 227, 228, 229, 230, 231, 232, 233, 234, 235, 236, 237] (by decide +kernel) (by decide +kernel)
set_option maxRecDepth 20000 in
theorem gX10_text_X10_reads : GoodIn wsX10_text (wsV RX10 224 RX10 yX10_reads wsX10_reads) := goodIn_app (goodIn_of _ (by decide +kernel)) ggX10_text_X10_reads
set_option maxRecDepth 20000 in
theorem ggX10_text_X10_finish : GoodIn wsX10_text wsX10_finish := goodIn_r _ [124, 125, 11, 126, 127, 128, 129, 130, 131, 51, 132, 14, 33, 34, 16, 133, 134, 135, 136, 137, 138, 139, 140, 7, 20, 22, 141, 28, 24, 26, 142, 143, 144, 145, 38, 37, 146, 147, 148, 149, 150, 151, 152, 153, 30, 154, 155, 156, 157, 158, 159, 160, 161, 162, 163, 164, 165, 166, 167, 47, 45, 168, 169, 170, 171, 18, 42, 172, 173, 174, 175, 176, 177, 178, 179, 180, 181, 182, 183, 184, 185, 186, 187, 188, 189, 190, 191, 192, 193, 194, 195, 196, 197, 198, 199, 200, 201, 202, 203, 204, 205, 206, 207, 208, 209, 210, 211, 212, 213, 214, 215, 216, 217, 218, 219, 220, 221, 222, 223, 224, 225, 226, 227, 228, 229, 230, 231, 232, 233, 234, 235, 236, 237] (by decide +kernel) (by decide +kernel)
set_option maxRecDepth 20000 in
theorem gX10_text_X10_finish : GoodIn wsX10_text (wsV RX10 132 RX10 yX10_finish wsX10_finish) := goodIn_app (goodIn_of _ (by decide +kernel)) ggX10_text_X10_finish
set_option maxRecDepth 20000 in
theorem ggX10_option_X10_fails : GoodIn wsX10_option wsX10_fails := goodIn_r _ [11, 1, 12, 13, 14, 15, 16, 17, 18, 19, 20, 21, 22, 23, 24, 25, 26, 27, 28, 29, 30, 31, 32, 33, 34, 35, 36, 37, 38, 39, 40, 41, 42, 43, 44, 45, 46, 47, 48, 49, 50, 51, 52, 53, 54, 55, 56, 57, 58, 59, 60, 61, 62, 63, 64, 65, 66, 67, 68, 69, 70, 71, 72, 73, 74, 75, 76, 77] (by decide +kernel) (by decide +kernel)
set_option maxRecDepth 20000 in
theorem gX10_option_X10_fails : GoodIn wsX10_option (wsV RX10 301 RX10 yX10_fails wsX10_fails) := goodIn_app (goodIn_of _ (by decide +kernel)) ggX10_option_X10_fails
set_option maxRecDepth 20000 in
theorem ggX10_knows_X10_isFact : GoodIn wsX10_knows wsX10_isFact := goodIn_r _ [7, 8, 37, 38, 39, 40, 41, 42, 43, 44, 45, 46, 47, 48, 49, 50, 51, 52, 53, 54, 55, 56, 57, 58, 59, 60, 61, 62, 63, 64, 65, 66, 67, 68, 69, 70, 71, 72, 73, 74, 75, 76, 77, 78, 79, 80, 81, 82, 83, 84, 85, 86, 87, 88, 89, 90, 91, 92, 93, 94, 95, 96, 97, 98, 99, 100, 101, 102] (by decide +kernel) (by decide +kernel)
set_option maxRecDepth 20000 in
theorem gX10_knows_X10_isFact : GoodIn wsX10_knows (wsV RX10 304 RX10 yX10_isFact wsX10_isFact) := goodIn_app (goodIn_of _ (by decide +kernel)) ggX10_knows_X10_isFact
set_option maxRecDepth 20000 in
theorem ggX10_weight_X10_isFact : GoodIn wsX10_weight wsX10_isFact := goodIn_r _ [8, 9, 10, 11, 12, 13, 14, 15, 16, 17, 18, 19, 20, 21, 22, 23, 24, 25, 26, 27, 28, 29, 30, 31, 32, 33, 34, 35, 36, 37, 38, 39, 40, 41, 42, 43, 44, 45, 46, 47, 48, 49, 50, 51, 52, 53, 54, 55, 56, 57, 58, 59, 60, 61, 62, 63, 64, 65, 66, 67, 68, 69, 70, 71, 72, 73, 74, 75] (by decide +kernel) (by decide +kernel)
set_option maxRecDepth 20000 in
theorem gX10_weight_X10_isFact : GoodIn wsX10_weight (wsV RX10 304 RX10 yX10_isFact wsX10_isFact) := goodIn_app (goodIn_of _ (by decide +kernel)) ggX10_weight_X10_isFact
set_option maxRecDepth 20000 in
theorem ggX10_sound_X10_isChoice : GoodIn wsX10_sound wsX10_isChoice := goodIn_r _ [7, 8, 9, 10, 11, 12, 13, 14, 15, 16, 17, 18, 19, 20, 21, 22, 23, 24, 25, 26, 27, 28, 29, 30, 31, 32, 33, 34, 35, 36, 37, 38, 39, 40, 41, 42, 43, 44, 45, 46, 47, 48, 49, 50, 51, 52, 53, 54, 55, 56, 57, 58, 59, 60, 61, 62, 63, 64, 65, 66, 67, 68, 69, 70, 71, 72, 73, 74] (by decide +kernel) (by decide +kernel)
set_option maxRecDepth 20000 in
theorem gX10_sound_X10_isChoice : GoodIn wsX10_sound (wsV RX10 307 RX10 yX10_isChoice wsX10_isChoice) := goodIn_app (goodIn_of _ (by decide +kernel)) ggX10_sound_X10_isChoice
set_option maxRecDepth 20000 in
theorem ggX10_soundOne_X10_isChoice : GoodIn wsX10_soundOne wsX10_isChoice := goodIn_r _ [6, 7, 8, 9, 10, 11, 12, 13, 14, 15, 16, 17, 18, 19, 20, 21, 22, 23, 24, 25, 26, 27, 28, 29, 30, 31, 32, 33, 34, 35, 36, 37, 38, 39, 40, 41, 42, 43, 44, 45, 46, 47, 48, 49, 50, 51, 52, 53, 54, 55, 56, 57, 58, 59, 60, 61, 62, 63, 64, 65, 66, 67, 68, 69, 70, 71, 72, 73] (by decide +kernel) (by decide +kernel)
set_option maxRecDepth 20000 in
theorem gX10_soundOne_X10_isChoice : GoodIn wsX10_soundOne (wsV RX10 307 RX10 yX10_isChoice wsX10_isChoice) := goodIn_app (goodIn_of _ (by decide +kernel)) ggX10_soundOne_X10_isChoice
set_option maxRecDepth 20000 in
theorem ggX10_length_X10_soundOne : GoodIn wsX10_length wsX10_soundOne := goodIn_r _ [7, 2, 8, 9, 10, 6, 11, 12, 13, 14, 15, 16, 17, 18, 19, 20, 21, 22, 23, 24, 25, 26, 27, 28, 29, 30, 31, 32, 33, 34, 35, 36, 37, 38, 39, 40, 41, 42, 43, 44, 45, 46, 47, 48, 49, 50, 51, 52, 53, 54, 55, 56, 57, 58, 59, 60, 61, 62, 63, 64, 65, 66, 67, 68, 69, 70, 71, 72, 73, 74, 75, 76, 77, 78] (by decide +kernel) (by decide +kernel)
set_option maxRecDepth 20000 in
theorem gX10_length_X10_soundOne : GoodIn wsX10_length (wsV RX10 310 RX10 yX10_soundOne wsX10_soundOne) := goodIn_app (goodIn_of _ (by decide +kernel)) ggX10_length_X10_soundOne
set_option maxRecDepth 20000 in
theorem ggX10_value_X10_soundOne : GoodIn wsX10_value wsX10_soundOne := goodIn_r _ [7, 8, 9, 10, 11, 6, 12, 13, 14, 15, 16, 17, 18, 19, 20, 21, 22, 23, 24, 25, 26, 27, 28, 29, 30, 31, 32, 33, 34, 35, 36, 37, 38, 39, 40, 41, 42, 43, 44, 45, 46, 47, 48, 49, 50, 51, 52, 53, 54, 55, 56, 57, 58, 59, 60, 61, 62, 63, 64, 65, 66, 67, 68, 69, 70, 71, 72, 73, 74, 75, 76, 77, 78, 79] (by decide +kernel) (by decide +kernel)
set_option maxRecDepth 20000 in
theorem gX10_value_X10_soundOne : GoodIn wsX10_value (wsV RX10 310 RX10 yX10_soundOne wsX10_soundOne) := goodIn_app (goodIn_of _ (by decide +kernel)) ggX10_value_X10_soundOne
set_option maxRecDepth 20000 in
theorem ggX10_named_X10_soundOne : GoodIn wsX10_named wsX10_soundOne := goodIn_r _ [7, 8, 9, 10, 11, 6, 12, 13, 49, 50, 51, 52, 53, 54, 55, 56, 57, 58, 59, 60, 61, 62, 63, 64, 65, 66, 67, 68, 69, 70, 71, 72, 73, 74, 75, 76, 77, 78, 79, 80, 81, 82, 83, 84, 85, 86, 87, 88, 89, 90, 91, 92, 93, 94, 95, 96, 97, 98, 99, 100, 101, 102, 103, 104, 105, 106, 107, 108, 109, 110, 111, 112, 113, 114] (by decide +kernel) (by decide +kernel)
set_option maxRecDepth 20000 in
theorem gX10_named_X10_soundOne : GoodIn wsX10_named (wsV RX10 310 RX10 yX10_soundOne wsX10_soundOne) := goodIn_app (goodIn_of _ (by decide +kernel)) ggX10_named_X10_soundOne
set_option maxRecDepth 20000 in
theorem ggX10_named_X10_read : GoodIn wsX10_named wsX10_read := goodIn_r _ [17, 18, 2, 19, 20, 21, 22, 23, 24, 25, 26, 27, 28, 6, 29, 30, 31, 32, 33, 34, 35, 36, 37, 38, 13, 39, 40, 41, 42, 43, 44, 45, 46, 47, 48, 49, 50, 51, 52, 53, 54, 55, 56, 57, 58, 59, 60, 61, 62, 63, 64, 65, 66, 67, 68, 69, 70, 71, 72, 73, 74, 75, 76, 77, 78, 79, 80, 81, 82, 83, 84, 85, 86, 87, 88, 89, 90, 91, 92, 93, 94, 95, 96, 97, 98, 99, 100, 101, 102, 103, 104, 105, 106, 107, 108, 109, 110, 111, 112, 113, 114] (by decide +kernel) (by decide +kernel)
set_option maxRecDepth 20000 in
theorem gX10_named_X10_read : GoodIn wsX10_named (wsV RX10 284 RX10 yX10_read wsX10_read) := goodIn_app (goodIn_of _ (by decide +kernel)) ggX10_named_X10_read
set_option maxRecDepth 20000 in
theorem ggX10_sign_X10_soundOne : GoodIn wsX10_sign wsX10_soundOne := goodIn_r _ [8, 2, 9, 10, 11, 7, 12, 13, 49, 50, 51, 52, 53, 54, 55, 56, 57, 58, 59, 60, 61, 62, 63, 64, 65, 66, 67, 68, 69, 70, 71, 72, 73, 74, 75, 76, 77, 78, 79, 80, 81, 82, 83, 84, 85, 86, 87, 88, 89, 90, 91, 92, 93, 94, 95, 96, 97, 98, 99, 100, 101, 102, 103, 104, 105, 106, 107, 108, 109, 110, 111, 112, 113, 114] (by decide +kernel) (by decide +kernel)
set_option maxRecDepth 20000 in
theorem gX10_sign_X10_soundOne : GoodIn wsX10_sign (wsV RX10 310 RX10 yX10_soundOne wsX10_soundOne) := goodIn_app (goodIn_of _ (by decide +kernel)) ggX10_sign_X10_soundOne
set_option maxRecDepth 20000 in
theorem ggX10_ranked_X10_sort : GoodIn wsX10_ranked wsX10_sort := goodIn_r _ [9, 10, 11, 4, 3, 12, 13, 14, 8, 15, 16, 17, 18, 19, 20, 21, 22, 23, 24, 25, 26, 27, 28, 29, 30, 31, 32, 33, 34, 35, 36, 37, 38, 39, 40, 41, 42, 43, 44, 45, 46, 47, 48, 49, 50, 51, 52, 53, 54, 55, 56, 57, 58, 59, 60, 61, 62, 63, 64, 65, 66, 67, 68, 69, 70, 71, 72, 73, 74, 75, 76, 77, 78, 79, 80, 81, 82] (by decide +kernel) (by decide +kernel)
set_option maxRecDepth 20000 in
theorem gX10_ranked_X10_sort : GoodIn wsX10_ranked (wsV RX10 316 RX10 yX10_sort wsX10_sort) := goodIn_app (goodIn_of _ (by decide +kernel)) ggX10_ranked_X10_sort
set_option maxRecDepth 20000 in
theorem ggX10_least_X10_told : GoodIn wsX10_least wsX10_told := goodIn_r _ [9, 3, 10, 11, 12, 13, 14, 15, 8, 16, 17, 18, 19, 20, 21, 22, 23, 24, 25, 26, 27, 28, 29, 30, 31, 32, 33, 34, 35, 36, 37, 38, 39, 40, 41, 42, 43, 44, 45, 46, 47, 48, 49, 50, 51, 52, 53, 54, 55, 56, 57, 58, 59, 60, 61, 62, 63, 64, 65, 66, 67, 68, 69, 70, 71, 72, 73, 74, 75, 76, 77, 78, 79, 80, 81, 82, 83, 84, 85, 86] (by decide +kernel) (by decide +kernel)
set_option maxRecDepth 20000 in
theorem gX10_least_X10_told : GoodIn wsX10_least (wsV RX10 274 RX10 yX10_told wsX10_told) := goodIn_app (goodIn_of _ (by decide +kernel)) ggX10_least_X10_told
set_option maxRecDepth 20000 in
theorem ggX10_turned_X10_soundOne : GoodIn wsX10_turned wsX10_soundOne := goodIn_r _ [8, 3, 9, 10, 11, 7, 12, 2, 24, 25, 26, 27, 28, 29, 30, 31, 32, 33, 34, 35, 36, 37, 38, 39, 40, 41, 42, 43, 44, 45, 46, 47, 48, 49, 50, 51, 52, 53, 54, 55, 56, 57, 58, 59, 60, 61, 62, 63, 64, 65, 66, 67, 68, 69, 70, 71, 72, 73, 74, 75, 76, 77, 78, 79, 80, 81, 82, 83, 84, 85, 86, 87, 88, 89] (by decide +kernel) (by decide +kernel)
set_option maxRecDepth 20000 in
theorem gX10_turned_X10_soundOne : GoodIn wsX10_turned (wsV RX10 310 RX10 yX10_soundOne wsX10_soundOne) := goodIn_app (goodIn_of _ (by decide +kernel)) ggX10_turned_X10_soundOne
