theorem dX10_alike_0 : decode cX10_alike 0 = .ok (.aload_n 0, 1) := by decide +kernel
theorem dX10_alike_1 : decode cX10_alike 1 = .ok (.getfield 26, 3) := by decide +kernel
theorem dX10_alike_10 : decode cX10_alike 10 = .ok (.iload_n 2, 1) := by decide +kernel
theorem dX10_alike_11 : decode cX10_alike 11 = .ok (.iaload, 1) := by decide +kernel
theorem dX10_alike_12 : decode cX10_alike 12 = .ok (.if_icmp .ne 7, 3) := by decide +kernel
theorem dX10_alike_15 : decode cX10_alike 15 = .ok (.iconst 1, 1) := by decide +kernel
theorem dX10_alike_16 : decode cX10_alike 16 = .ok (.goto 4, 3) := by decide +kernel
theorem dX10_alike_19 : decode cX10_alike 19 = .ok (.iconst 0, 1) := by decide +kernel
theorem dX10_alike_20 : decode cX10_alike 20 = .ok (.istore_n 3, 1) := by decide +kernel
theorem dX10_alike_21 : decode cX10_alike 21 = .ok (.iconst 0, 1) := by decide +kernel
theorem dX10_alike_22 : decode cX10_alike 22 = .ok (.istore 4, 2) := by decide +kernel
theorem dX10_alike_24 : decode cX10_alike 24 = .ok (.iload 4, 2) := by decide +kernel
theorem dX10_alike_26 : decode cX10_alike 26 = .ok (.aload_n 0, 1) := by decide +kernel
theorem dX10_alike_27 : decode cX10_alike 27 = .ok (.getfield 26, 3) := by decide +kernel
theorem dX10_alike_30 : decode cX10_alike 30 = .ok (.iload_n 1, 1) := by decide +kernel
theorem dX10_alike_31 : decode cX10_alike 31 = .ok (.iaload, 1) := by decide +kernel
theorem dX10_alike_32 : decode cX10_alike 32 = .ok (.if_icmp .ge 50, 3) := by decide +kernel
theorem dX10_alike_35 : decode cX10_alike 35 = .ok (.iload_n 3, 1) := by decide +kernel
theorem dX10_alike_36 : decode cX10_alike 36 = .ok (.ifCond .eq 46, 3) := by decide +kernel
theorem dX10_alike_39 : decode cX10_alike 39 = .ok (.aload_n 0, 1) := by decide +kernel
theorem dX10_alike_4 : decode cX10_alike 4 = .ok (.iload_n 1, 1) := by decide +kernel
theorem dX10_alike_40 : decode cX10_alike 40 = .ok (.getfield 32, 3) := by decide +kernel
theorem dX10_alike_43 : decode cX10_alike 43 = .ok (.aload_n 0, 1) := by decide +kernel
theorem dX10_alike_44 : decode cX10_alike 44 = .ok (.getfield 23, 3) := by decide +kernel
theorem dX10_alike_47 : decode cX10_alike 47 = .ok (.iload_n 1, 1) := by decide +kernel
theorem dX10_alike_48 : decode cX10_alike 48 = .ok (.iaload, 1) := by decide +kernel
theorem dX10_alike_49 : decode cX10_alike 49 = .ok (.iload 4, 2) := by decide +kernel
theorem dX10_alike_5 : decode cX10_alike 5 = .ok (.iaload, 1) := by decide +kernel
theorem dX10_alike_51 : decode cX10_alike 51 = .ok (.iadd, 1) := by decide +kernel
theorem dX10_alike_52 : decode cX10_alike 52 = .ok (.iaload, 1) := by decide +kernel
theorem dX10_alike_53 : decode cX10_alike 53 = .ok (.aload_n 0, 1) := by decide +kernel
theorem dX10_alike_54 : decode cX10_alike 54 = .ok (.getfield 32, 3) := by decide +kernel
theorem dX10_alike_57 : decode cX10_alike 57 = .ok (.aload_n 0, 1) := by decide +kernel
theorem dX10_alike_58 : decode cX10_alike 58 = .ok (.getfield 23, 3) := by decide +kernel
theorem dX10_alike_6 : decode cX10_alike 6 = .ok (.aload_n 0, 1) := by decide +kernel
theorem dX10_alike_61 : decode cX10_alike 61 = .ok (.iload_n 2, 1) := by decide +kernel
theorem dX10_alike_62 : decode cX10_alike 62 = .ok (.iaload, 1) := by decide +kernel
theorem dX10_alike_63 : decode cX10_alike 63 = .ok (.iload 4, 2) := by decide +kernel
theorem dX10_alike_65 : decode cX10_alike 65 = .ok (.iadd, 1) := by decide +kernel
theorem dX10_alike_66 : decode cX10_alike 66 = .ok (.iaload, 1) := by decide +kernel
theorem dX10_alike_67 : decode cX10_alike 67 = .ok (.if_icmp .ne 7, 3) := by decide +kernel
theorem dX10_alike_7 : decode cX10_alike 7 = .ok (.getfield 26, 3) := by decide +kernel
theorem dX10_alike_70 : decode cX10_alike 70 = .ok (.iconst 1, 1) := by decide +kernel
theorem dX10_alike_71 : decode cX10_alike 71 = .ok (.goto 4, 3) := by decide +kernel
theorem dX10_alike_74 : decode cX10_alike 74 = .ok (.iconst 0, 1) := by decide +kernel
theorem dX10_alike_75 : decode cX10_alike 75 = .ok (.istore_n 3, 1) := by decide +kernel
theorem dX10_alike_76 : decode cX10_alike 76 = .ok (.iinc 4 1, 3) := by decide +kernel
theorem dX10_alike_79 : decode cX10_alike 79 = .ok (.goto (-55), 3) := by decide +kernel
theorem dX10_alike_82 : decode cX10_alike 82 = .ok (.iload_n 3, 1) := by decide +kernel
theorem dX10_alike_83 : decode cX10_alike 83 = .ok (.ireturn, 1) := by decide +kernel
theorem dX10_has_0 : decode cX10_has 0 = .ok (.iload_n 0, 1) := by decide +kernel
theorem dX10_has_1 : decode cX10_has 1 = .ok (.iload_n 1, 1) := by decide +kernel
theorem dX10_has_10 : decode cX10_has 10 = .ok (.goto 4, 3) := by decide +kernel
theorem dX10_has_13 : decode cX10_has 13 = .ok (.iconst 0, 1) := by decide +kernel
theorem dX10_has_14 : decode cX10_has 14 = .ok (.ireturn, 1) := by decide +kernel
theorem dX10_has_2 : decode cX10_has 2 = .ok (.ishr, 1) := by decide +kernel
theorem dX10_has_3 : decode cX10_has 3 = .ok (.iconst 1, 1) := by decide +kernel
theorem dX10_has_4 : decode cX10_has 4 = .ok (.iand, 1) := by decide +kernel
theorem dX10_has_5 : decode cX10_has 5 = .ok (.iconst 1, 1) := by decide +kernel
theorem dX10_has_6 : decode cX10_has 6 = .ok (.if_icmp .ne 7, 3) := by decide +kernel
theorem dX10_has_9 : decode cX10_has 9 = .ok (.iconst 1, 1) := by decide +kernel
theorem dX10_isEnd_0 : decode cX10_isEnd 0 = .ok (.iconst 0, 1) := by decide +kernel
theorem dX10_isEnd_1 : decode cX10_isEnd 1 = .ok (.istore 4, 2) := by decide +kernel
theorem dX10_isEnd_12 : decode cX10_isEnd 12 = .ok (.aload_n 0, 1) := by decide +kernel
theorem dX10_isEnd_13 : decode cX10_isEnd 13 = .ok (.getfield 41, 3) := by decide +kernel
theorem dX10_isEnd_16 : decode cX10_isEnd 16 = .ok (.iload 4, 2) := by decide +kernel
theorem dX10_isEnd_18 : decode cX10_isEnd 18 = .ok (.iaload, 1) := by decide +kernel
theorem dX10_isEnd_19 : decode cX10_isEnd 19 = .ok (.aload_n 0, 1) := by decide +kernel
theorem dX10_isEnd_20 : decode cX10_isEnd 20 = .ok (.getfield 41, 3) := by decide +kernel
theorem dX10_isEnd_23 : decode cX10_isEnd 23 = .ok (.iload_n 2, 1) := by decide +kernel
theorem dX10_isEnd_24 : decode cX10_isEnd 24 = .ok (.iaload, 1) := by decide +kernel
theorem dX10_isEnd_25 : decode cX10_isEnd 25 = .ok (.if_icmp .ne 33, 3) := by decide +kernel
theorem dX10_isEnd_28 : decode cX10_isEnd 28 = .ok (.iload_n 1, 1) := by decide +kernel
theorem dX10_isEnd_29 : decode cX10_isEnd 29 = .ok (.iload 4, 2) := by decide +kernel
theorem dX10_isEnd_3 : decode cX10_isEnd 3 = .ok (.iload 4, 2) := by decide +kernel
theorem dX10_isEnd_31 : decode cX10_isEnd 31 = .ok (.invokestatic 251, 3) := by decide +kernel
theorem dX10_isEnd_34 : decode cX10_isEnd 34 = .ok (.ifCond .eq 24, 3) := by decide +kernel
theorem dX10_isEnd_37 : decode cX10_isEnd 37 = .ok (.iload_n 3, 1) := by decide +kernel
theorem dX10_isEnd_38 : decode cX10_isEnd 38 = .ok (.ifCond .eq 12, 3) := by decide +kernel
theorem dX10_isEnd_41 : decode cX10_isEnd 41 = .ok (.iload 4, 2) := by decide +kernel
theorem dX10_isEnd_43 : decode cX10_isEnd 43 = .ok (.iload_n 2, 1) := by decide +kernel
theorem dX10_isEnd_44 : decode cX10_isEnd 44 = .ok (.if_icmp .le 14, 3) := by decide +kernel
theorem dX10_isEnd_47 : decode cX10_isEnd 47 = .ok (.goto 9, 3) := by decide +kernel
theorem dX10_isEnd_5 : decode cX10_isEnd 5 = .ok (.aload_n 0, 1) := by decide +kernel
theorem dX10_isEnd_50 : decode cX10_isEnd 50 = .ok (.iload 4, 2) := by decide +kernel
theorem dX10_isEnd_52 : decode cX10_isEnd 52 = .ok (.iload_n 2, 1) := by decide +kernel
theorem dX10_isEnd_53 : decode cX10_isEnd 53 = .ok (.if_icmp .ge 5, 3) := by decide +kernel
theorem dX10_isEnd_56 : decode cX10_isEnd 56 = .ok (.iconst 0, 1) := by decide +kernel
theorem dX10_isEnd_57 : decode cX10_isEnd 57 = .ok (.ireturn, 1) := by decide +kernel
theorem dX10_isEnd_58 : decode cX10_isEnd 58 = .ok (.iinc 4 1, 3) := by decide +kernel
theorem dX10_isEnd_6 : decode cX10_isEnd 6 = .ok (.getfield 233, 3) := by decide +kernel
theorem dX10_isEnd_61 : decode cX10_isEnd 61 = .ok (.goto (-58), 3) := by decide +kernel
theorem dX10_isEnd_64 : decode cX10_isEnd 64 = .ok (.iconst 1, 1) := by decide +kernel
theorem dX10_isEnd_65 : decode cX10_isEnd 65 = .ok (.ireturn, 1) := by decide +kernel
theorem dX10_isEnd_9 : decode cX10_isEnd 9 = .ok (.if_icmp .ge 55, 3) := by decide +kernel
theorem dX10_isSound_0 : decode cX10_isSound 0 = .ok (.iconst 0, 1) := by decide +kernel
theorem dX10_isSound_1 : decode cX10_isSound 1 = .ok (.istore_n 2, 1) := by decide +kernel
theorem dX10_isSound_10 : decode cX10_isSound 10 = .ok (.iload_n 1, 1) := by decide +kernel
theorem dX10_isSound_101 : decode cX10_isSound 101 = .ok (.aload_n 0, 1) := by decide +kernel
theorem dX10_isSound_102 : decode cX10_isSound 102 = .ok (.getfield 41, 3) := by decide +kernel
theorem dX10_isSound_105 : decode cX10_isSound 105 = .ok (.iload 4, 2) := by decide +kernel
theorem dX10_isSound_107 : decode cX10_isSound 107 = .ok (.iaload, 1) := by decide +kernel
theorem dX10_isSound_108 : decode cX10_isSound 108 = .ok (.iload_n 2, 1) := by decide +kernel
theorem dX10_isSound_109 : decode cX10_isSound 109 = .ok (.if_icmp .ne 16, 3) := by decide +kernel
theorem dX10_isSound_11 : decode cX10_isSound 11 = .ok (.iload_n 2, 1) := by decide +kernel
theorem dX10_isSound_112 : decode cX10_isSound 112 = .ok (.iload_n 1, 1) := by decide +kernel
theorem dX10_isSound_113 : decode cX10_isSound 113 = .ok (.iload 4, 2) := by decide +kernel
theorem dX10_isSound_115 : decode cX10_isSound 115 = .ok (.invokestatic 251, 3) := by decide +kernel
theorem dX10_isSound_118 : decode cX10_isSound 118 = .ok (.ifCond .eq 7, 3) := by decide +kernel
theorem dX10_isSound_12 : decode cX10_isSound 12 = .ok (.invokestatic 251, 3) := by decide +kernel
theorem dX10_isSound_121 : decode cX10_isSound 121 = .ok (.iconst 1, 1) := by decide +kernel
theorem dX10_isSound_122 : decode cX10_isSound 122 = .ok (.goto 4, 3) := by decide +kernel
theorem dX10_isSound_125 : decode cX10_isSound 125 = .ok (.iconst 0, 1) := by decide +kernel
theorem dX10_isSound_126 : decode cX10_isSound 126 = .ok (.istore_n 3, 1) := by decide +kernel
theorem dX10_isSound_127 : decode cX10_isSound 127 = .ok (.iinc 4 1, 3) := by decide +kernel
theorem dX10_isSound_130 : decode cX10_isSound 130 = .ok (.goto (-42), 3) := by decide +kernel
theorem dX10_isSound_133 : decode cX10_isSound 133 = .ok (.iload_n 3, 1) := by decide +kernel
theorem dX10_isSound_134 : decode cX10_isSound 134 = .ok (.ifCond .ne 5, 3) := by decide +kernel
theorem dX10_isSound_137 : decode cX10_isSound 137 = .ok (.iconst 0, 1) := by decide +kernel
theorem dX10_isSound_138 : decode cX10_isSound 138 = .ok (.ireturn, 1) := by decide +kernel
theorem dX10_isSound_139 : decode cX10_isSound 139 = .ok (.iinc 2 1, 3) := by decide +kernel
theorem dX10_isSound_142 : decode cX10_isSound 142 = .ok (.goto (-92), 3) := by decide +kernel
theorem dX10_isSound_145 : decode cX10_isSound 145 = .ok (.iconst 1, 1) := by decide +kernel
theorem dX10_isSound_146 : decode cX10_isSound 146 = .ok (.ireturn, 1) := by decide +kernel
theorem dX10_isSound_15 : decode cX10_isSound 15 = .ok (.ifCond .eq 27, 3) := by decide +kernel
theorem dX10_isSound_18 : decode cX10_isSound 18 = .ok (.aload_n 0, 1) := by decide +kernel
theorem dX10_isSound_19 : decode cX10_isSound 19 = .ok (.getfield 38, 3) := by decide +kernel
theorem dX10_isSound_2 : decode cX10_isSound 2 = .ok (.iload_n 2, 1) := by decide +kernel
theorem dX10_isSound_22 : decode cX10_isSound 22 = .ok (.iload_n 2, 1) := by decide +kernel
theorem dX10_isSound_23 : decode cX10_isSound 23 = .ok (.iaload, 1) := by decide +kernel
theorem dX10_isSound_24 : decode cX10_isSound 24 = .ok (.ifCond .lt 18, 3) := by decide +kernel
theorem dX10_isSound_27 : decode cX10_isSound 27 = .ok (.iload_n 1, 1) := by decide +kernel
theorem dX10_isSound_28 : decode cX10_isSound 28 = .ok (.aload_n 0, 1) := by decide +kernel
theorem dX10_isSound_29 : decode cX10_isSound 29 = .ok (.getfield 38, 3) := by decide +kernel
theorem dX10_isSound_3 : decode cX10_isSound 3 = .ok (.aload_n 0, 1) := by decide +kernel
theorem dX10_isSound_32 : decode cX10_isSound 32 = .ok (.iload_n 2, 1) := by decide +kernel
theorem dX10_isSound_33 : decode cX10_isSound 33 = .ok (.iaload, 1) := by decide +kernel
theorem dX10_isSound_34 : decode cX10_isSound 34 = .ok (.invokestatic 251, 3) := by decide +kernel
theorem dX10_isSound_37 : decode cX10_isSound 37 = .ok (.ifCond .ne 5, 3) := by decide +kernel
theorem dX10_isSound_4 : decode cX10_isSound 4 = .ok (.getfield 233, 3) := by decide +kernel
theorem dX10_isSound_40 : decode cX10_isSound 40 = .ok (.iconst 0, 1) := by decide +kernel
theorem dX10_isSound_41 : decode cX10_isSound 41 = .ok (.ireturn, 1) := by decide +kernel
theorem dX10_isSound_42 : decode cX10_isSound 42 = .ok (.iinc 2 1, 3) := by decide +kernel
theorem dX10_isSound_45 : decode cX10_isSound 45 = .ok (.goto (-43), 3) := by decide +kernel
theorem dX10_isSound_48 : decode cX10_isSound 48 = .ok (.iconst 0, 1) := by decide +kernel
theorem dX10_isSound_49 : decode cX10_isSound 49 = .ok (.istore_n 2, 1) := by decide +kernel
theorem dX10_isSound_50 : decode cX10_isSound 50 = .ok (.iload_n 2, 1) := by decide +kernel
theorem dX10_isSound_51 : decode cX10_isSound 51 = .ok (.aload_n 0, 1) := by decide +kernel
theorem dX10_isSound_52 : decode cX10_isSound 52 = .ok (.getfield 236, 3) := by decide +kernel
theorem dX10_isSound_55 : decode cX10_isSound 55 = .ok (.if_icmp .ge 90, 3) := by decide +kernel
theorem dX10_isSound_58 : decode cX10_isSound 58 = .ok (.aload_n 0, 1) := by decide +kernel
theorem dX10_isSound_59 : decode cX10_isSound 59 = .ok (.getfield 50, 3) := by decide +kernel
theorem dX10_isSound_62 : decode cX10_isSound 62 = .ok (.iload_n 2, 1) := by decide +kernel
theorem dX10_isSound_63 : decode cX10_isSound 63 = .ok (.iaload, 1) := by decide +kernel
theorem dX10_isSound_64 : decode cX10_isSound 64 = .ok (.ifCond .lt 19, 3) := by decide +kernel
theorem dX10_isSound_67 : decode cX10_isSound 67 = .ok (.iload_n 1, 1) := by decide +kernel
theorem dX10_isSound_68 : decode cX10_isSound 68 = .ok (.aload_n 0, 1) := by decide +kernel
theorem dX10_isSound_69 : decode cX10_isSound 69 = .ok (.getfield 50, 3) := by decide +kernel
theorem dX10_isSound_7 : decode cX10_isSound 7 = .ok (.if_icmp .ge 41, 3) := by decide +kernel
theorem dX10_isSound_72 : decode cX10_isSound 72 = .ok (.iload_n 2, 1) := by decide +kernel
theorem dX10_isSound_73 : decode cX10_isSound 73 = .ok (.iaload, 1) := by decide +kernel
theorem dX10_isSound_74 : decode cX10_isSound 74 = .ok (.invokestatic 251, 3) := by decide +kernel
theorem dX10_isSound_77 : decode cX10_isSound 77 = .ok (.ifCond .ne 6, 3) := by decide +kernel
theorem dX10_isSound_80 : decode cX10_isSound 80 = .ok (.goto 59, 3) := by decide +kernel
theorem dX10_isSound_83 : decode cX10_isSound 83 = .ok (.iconst 0, 1) := by decide +kernel
theorem dX10_isSound_84 : decode cX10_isSound 84 = .ok (.istore_n 3, 1) := by decide +kernel
theorem dX10_isSound_85 : decode cX10_isSound 85 = .ok (.iconst 0, 1) := by decide +kernel
theorem dX10_isSound_86 : decode cX10_isSound 86 = .ok (.istore 4, 2) := by decide +kernel
theorem dX10_isSound_88 : decode cX10_isSound 88 = .ok (.iload 4, 2) := by decide +kernel
theorem dX10_isSound_90 : decode cX10_isSound 90 = .ok (.aload_n 0, 1) := by decide +kernel
theorem dX10_isSound_91 : decode cX10_isSound 91 = .ok (.getfield 233, 3) := by decide +kernel
theorem dX10_isSound_94 : decode cX10_isSound 94 = .ok (.if_icmp .ge 39, 3) := by decide +kernel
theorem dX10_isSound_97 : decode cX10_isSound 97 = .ok (.iload_n 3, 1) := by decide +kernel
theorem dX10_isSound_98 : decode cX10_isSound 98 = .ok (.ifCond .ne 23, 3) := by decide +kernel
theorem dX10_stays_0 : decode cX10_stays 0 = .ok (.aload_n 0, 1) := by decide +kernel
theorem dX10_stays_1 : decode cX10_stays 1 = .ok (.getfield 53, 3) := by decide +kernel
theorem dX10_stays_10 : decode cX10_stays 10 = .ok (.aload_n 0, 1) := by decide +kernel
theorem dX10_stays_11 : decode cX10_stays 11 = .ok (.getfield 53, 3) := by decide +kernel
theorem dX10_stays_14 : decode cX10_stays 14 = .ok (.iload_n 2, 1) := by decide +kernel
theorem dX10_stays_15 : decode cX10_stays 15 = .ok (.iaload, 1) := by decide +kernel
theorem dX10_stays_16 : decode cX10_stays 16 = .ok (.invokestatic 251, 3) := by decide +kernel
theorem dX10_stays_19 : decode cX10_stays 19 = .ok (.ireturn, 1) := by decide +kernel
theorem dX10_stays_20 : decode cX10_stays 20 = .ok (.iload_n 2, 1) := by decide +kernel
theorem dX10_stays_21 : decode cX10_stays 21 = .ok (.iconst 1, 1) := by decide +kernel
theorem dX10_stays_22 : decode cX10_stays 22 = .ok (.iadd, 1) := by decide +kernel
theorem dX10_stays_23 : decode cX10_stays 23 = .ok (.istore_n 3, 1) := by decide +kernel
theorem dX10_stays_24 : decode cX10_stays 24 = .ok (.iload_n 3, 1) := by decide +kernel
theorem dX10_stays_25 : decode cX10_stays 25 = .ok (.aload_n 0, 1) := by decide +kernel
theorem dX10_stays_26 : decode cX10_stays 26 = .ok (.getfield 239, 3) := by decide +kernel
theorem dX10_stays_29 : decode cX10_stays 29 = .ok (.if_icmp .ge 33, 3) := by decide +kernel
theorem dX10_stays_32 : decode cX10_stays 32 = .ok (.aload_n 0, 1) := by decide +kernel
theorem dX10_stays_33 : decode cX10_stays 33 = .ok (.getfield 53, 3) := by decide +kernel
theorem dX10_stays_36 : decode cX10_stays 36 = .ok (.iload_n 3, 1) := by decide +kernel
theorem dX10_stays_37 : decode cX10_stays 37 = .ok (.iaload, 1) := by decide +kernel
theorem dX10_stays_38 : decode cX10_stays 38 = .ok (.ifCond .lt 24, 3) := by decide +kernel
theorem dX10_stays_4 : decode cX10_stays 4 = .ok (.iload_n 2, 1) := by decide +kernel
theorem dX10_stays_41 : decode cX10_stays 41 = .ok (.iload_n 1, 1) := by decide +kernel
theorem dX10_stays_42 : decode cX10_stays 42 = .ok (.aload_n 0, 1) := by decide +kernel
theorem dX10_stays_43 : decode cX10_stays 43 = .ok (.getfield 53, 3) := by decide +kernel
theorem dX10_stays_46 : decode cX10_stays 46 = .ok (.iload_n 3, 1) := by decide +kernel
theorem dX10_stays_47 : decode cX10_stays 47 = .ok (.iaload, 1) := by decide +kernel
theorem dX10_stays_48 : decode cX10_stays 48 = .ok (.invokestatic 251, 3) := by decide +kernel
theorem dX10_stays_5 : decode cX10_stays 5 = .ok (.iaload, 1) := by decide +kernel
theorem dX10_stays_51 : decode cX10_stays 51 = .ok (.ifCond .eq 5, 3) := by decide +kernel
theorem dX10_stays_54 : decode cX10_stays 54 = .ok (.iconst 1, 1) := by decide +kernel
theorem dX10_stays_55 : decode cX10_stays 55 = .ok (.ireturn, 1) := by decide +kernel
theorem dX10_stays_56 : decode cX10_stays 56 = .ok (.iinc 3 1, 3) := by decide +kernel
theorem dX10_stays_59 : decode cX10_stays 59 = .ok (.goto (-35), 3) := by decide +kernel
theorem dX10_stays_6 : decode cX10_stays 6 = .ok (.ifCond .lt 14, 3) := by decide +kernel
theorem dX10_stays_62 : decode cX10_stays 62 = .ok (.iconst 0, 1) := by decide +kernel
theorem dX10_stays_63 : decode cX10_stays 63 = .ok (.ireturn, 1) := by decide +kernel
theorem dX10_stays_9 : decode cX10_stays 9 = .ok (.iload_n 1, 1) := by decide +kernel
theorem dX10_write_0 : decode cX10_write 0 = .ok (.iconst 0, 1) := by decide +kernel
theorem dX10_write_1 : decode cX10_write 1 = .ok (.istore_n 3, 1) := by decide +kernel
theorem dX10_write_11 : decode cX10_write 11 = .ok (.aload_n 0, 1) := by decide +kernel
theorem dX10_write_12 : decode cX10_write 12 = .ok (.getfield 254, 3) := by decide +kernel
theorem dX10_write_15 : decode cX10_write 15 = .ok (.iload_n 3, 1) := by decide +kernel
theorem dX10_write_16 : decode cX10_write 16 = .ok (.iadd, 1) := by decide +kernel
theorem dX10_write_17 : decode cX10_write 17 = .ok (.aload_n 0, 1) := by decide +kernel
theorem dX10_write_18 : decode cX10_write 18 = .ok (.getfield 32, 3) := by decide +kernel
theorem dX10_write_2 : decode cX10_write 2 = .ok (.iload_n 3, 1) := by decide +kernel
theorem dX10_write_21 : decode cX10_write 21 = .ok (.iload_n 1, 1) := by decide +kernel
theorem dX10_write_22 : decode cX10_write 22 = .ok (.iload_n 3, 1) := by decide +kernel
theorem dX10_write_23 : decode cX10_write 23 = .ok (.iadd, 1) := by decide +kernel
theorem dX10_write_24 : decode cX10_write 24 = .ok (.iaload, 1) := by decide +kernel
theorem dX10_write_25 : decode cX10_write 25 = .ok (.iastore, 1) := by decide +kernel
theorem dX10_write_26 : decode cX10_write 26 = .ok (.iinc 3 1, 3) := by decide +kernel
theorem dX10_write_29 : decode cX10_write 29 = .ok (.goto (-27), 3) := by decide +kernel
theorem dX10_write_3 : decode cX10_write 3 = .ok (.iload_n 2, 1) := by decide +kernel
theorem dX10_write_32 : decode cX10_write 32 = .ok (.aload_n 0, 1) := by decide +kernel
theorem dX10_write_33 : decode cX10_write 33 = .ok (.dup, 1) := by decide +kernel
theorem dX10_write_34 : decode cX10_write 34 = .ok (.getfield 254, 3) := by decide +kernel
theorem dX10_write_37 : decode cX10_write 37 = .ok (.iload_n 2, 1) := by decide +kernel
theorem dX10_write_38 : decode cX10_write 38 = .ok (.iadd, 1) := by decide +kernel
theorem dX10_write_39 : decode cX10_write 39 = .ok (.putfield 254, 3) := by decide +kernel
theorem dX10_write_4 : decode cX10_write 4 = .ok (.if_icmp .ge 28, 3) := by decide +kernel
theorem dX10_write_42 : decode cX10_write 42 = .ok (.return_, 1) := by decide +kernel
theorem dX10_write_7 : decode cX10_write 7 = .ok (.aload_n 0, 1) := by decide +kernel
theorem dX10_write_8 : decode cX10_write 8 = .ok (.getfield 126, 3) := by decide +kernel
set_option maxRecDepth 20000 in
theorem ggX10_isSound_X10_has : GoodIn wsX10_isSound wsX10_has := goodIn_r _ [9] rfl (by decide +kernel)
set_option maxRecDepth 20000 in
theorem gX10_isSound_X10_has : GoodIn wsX10_isSound (va_wsS RX10 251 yX10_has wsX10_has) := goodIn_app (goodIn_of _ (by decide +kernel)) ggX10_isSound_X10_has
set_option maxRecDepth 20000 in
theorem ggX10_stays_X10_has : GoodIn wsX10_stays wsX10_has := goodIn_r _ [6] rfl (by decide +kernel)
set_option maxRecDepth 20000 in
theorem gX10_stays_X10_has : GoodIn wsX10_stays (va_wsS RX10 251 yX10_has wsX10_has) := goodIn_app (goodIn_of _ (by decide +kernel)) ggX10_stays_X10_has
set_option maxRecDepth 20000 in
theorem ggX10_isEnd_X10_has : GoodIn wsX10_isEnd wsX10_has := goodIn_r _ [6] rfl (by decide +kernel)
set_option maxRecDepth 20000 in
theorem gX10_isEnd_X10_has : GoodIn wsX10_isEnd (va_wsS RX10 251 yX10_has wsX10_has) := goodIn_app (goodIn_of _ (by decide +kernel)) ggX10_isEnd_X10_has
set_option maxHeartbeats 4000000 in
set_option maxRecDepth 100000 in
theorem y3_has (l : Launch) (D : va_G) (c : Nat → ClassId) (sz : Nat) (y : Nat) (a : Nat → Nat) (v_tapeSize v_thrown v_fault v_faultPlace v_things v_options v_lists v_sentences v_headings v_words v_factBits v_known v_soundMany v_wholeLength v_next v_end v_rThings v_rOptions v_rLists v_rSentences v_rHeadings v_lastName v_inSentence v_open v_written v_named v_sorted : Int32) (f_tape f_kind f_owner f_from f_size f_means f_signs f_oKind f_oIn f_oList f_oWords f_oFacts f_listIn f_sOwner f_hFacts f_weights f_lengths f_values f_rKind f_rOwner f_rFrom f_rSize f_rMeans f_rOKind f_rOIn f_rOList f_rOFacts f_rListIn f_rSOwner f_rHFacts f_rWeights f_opKind f_opFrom f_opWord f_opOwner f_opList f_opItems f_out f_ranks : Nat → Int32) (x_q : Int32) (x_o : Int32) : Met l yX10_has wsX10_has ({ frames := 0, cells := 0, slots := 0, locals := 0 }) (q3_P D c (wM c y a v_tapeSize v_thrown v_fault v_faultPlace v_things v_options v_lists v_sentences v_headings v_words v_factBits v_known v_soundMany v_wholeLength v_next v_end v_rThings v_rOptions v_rLists v_rSentences v_rHeadings v_lastName v_inSentence v_open v_written v_named v_sorted f_tape f_kind f_owner f_from f_size f_means f_signs f_oKind f_oIn f_oList f_oWords f_oFacts f_listIn f_sOwner f_hFacts f_weights f_lengths f_values f_rKind f_rOwner f_rFrom f_rSize f_rMeans f_rOKind f_rOIn f_rOList f_rOFacts f_rListIn f_rSOwner f_rHFacts f_rWeights f_opKind f_opFrom f_opWord f_opOwner f_opList f_opItems f_out f_ranks) sz [.int x_q, .int x_o]) (q2_i D (wM c y a v_tapeSize v_thrown v_fault v_faultPlace v_things v_options v_lists v_sentences v_headings v_words v_factBits v_known v_soundMany v_wholeLength v_next v_end v_rThings v_rOptions v_rLists v_rSentences v_rHeadings v_lastName v_inSentence v_open v_written v_named v_sorted f_tape f_kind f_owner f_from f_size f_means f_signs f_oKind f_oIn f_oList f_oWords f_oFacts f_listIn f_sOwner f_hFacts f_weights f_lengths f_values f_rKind f_rOwner f_rFrom f_rSize f_rMeans f_rOKind f_rOIn f_rOList f_rOFacts f_rListIn f_rSOwner f_rHFacts f_rWeights f_opKind f_opFrom f_opWord f_opOwner f_opList f_opItems f_out f_ranks) sz (fun r u => (r.toInt = 0 ∨ r.toInt = 1) ∧ True) (fun u => wM c y a v_tapeSize v_thrown v_fault v_faultPlace v_things v_options v_lists v_sentences v_headings v_words v_factBits v_known v_soundMany v_wholeLength v_next v_end v_rThings v_rOptions v_rLists v_rSentences v_rHeadings v_lastName v_inSentence v_open v_written v_named v_sorted f_tape f_kind f_owner f_from f_size f_means f_signs f_oKind f_oIn f_oList f_oWords f_oFacts f_listIn f_sOwner f_hFacts f_weights f_lengths f_values f_rKind f_rOwner f_rFrom f_rSize f_rMeans f_rOKind f_rOIn f_rOList f_rOFacts f_rListIn f_rSOwner f_rHFacts f_rWeights f_opKind f_opFrom f_opWord f_opOwner f_opList f_opItems f_out f_ranks)) (0) (0) (va_A (wM c y a v_tapeSize v_thrown v_fault v_faultPlace v_things v_options v_lists v_sentences v_headings v_words v_factBits v_known v_soundMany v_wholeLength v_next v_end v_rThings v_rOptions v_rLists v_rSentences v_rHeadings v_lastName v_inSentence v_open v_written v_named v_sorted f_tape f_kind f_owner f_from f_size f_means f_signs f_oKind f_oIn f_oList f_oWords f_oFacts f_listIn f_sOwner f_hFacts f_weights f_lengths f_values f_rKind f_rOwner f_rFrom f_rSize f_rMeans f_rOKind f_rOIn f_rOList f_rOFacts f_rListIn f_rSOwner f_rHFacts f_rWeights f_opKind f_opFrom f_opWord f_opOwner f_opList f_opItems f_out f_ranks) sz) := by
  refine q3_of_i (ty := .boolean) (fun r u h => q3_nb h.1) (cc := cX10_has) (maxL := 2) (by decide) rfl (Nat.le_of_ble_eq_true rfl) (fun p e s m args below meth cd A Q ls hx hb hml hown hts hA hS hP hD hK hl hret => ?_)
  have hown : s.vm.findClass RX10 = some m.cls := hown
  obtain ⟨H, eH⟩ : ∃ z, z = s.heap := ⟨_, rfl⟩
  have hP : va_P D vwCl (wM c y a v_tapeSize v_thrown v_fault v_faultPlace v_things v_options v_lists v_sentences v_headings v_words v_factBits v_known v_soundMany v_wholeLength v_next v_end v_rThings v_rOptions v_rLists v_rSentences v_rHeadings v_lastName v_inSentence v_open v_written v_named v_sorted f_tape f_kind f_owner f_from f_size f_means f_signs f_oKind f_oIn f_oList f_oWords f_oFacts f_listIn f_sOwner f_hFacts f_weights f_lengths f_values f_rKind f_rOwner f_rFrom f_rSize f_rMeans f_rOKind f_rOIn f_rOList f_rOFacts f_rListIn f_rSOwner f_rHFacts f_rWeights f_opKind f_opFrom f_opWord f_opOwner f_opList f_opItems f_out f_ranks) H := by rw [eH]; exact hP
  have hS : va_S A s.heap H [] := by rw [eH]; exact hS
  rw [← eH]
  have hl : lv_has ls 2 [(0, .int x_q), (1, .int x_o)] := hl
  refine lv_iload_n hx hb dX10_has_0 rfl (lv_at hl 0 rfl) ?_
  refine lv_iload_n hx hb dX10_has_1 rfl (lv_at hl 1 rfl) ?_
  refine lv_ishr hx hb dX10_has_2 ?_
  refine lv_topi (fun n1 en1 => ?_)
  refine lv_iconst (v := 1) hx hb dX10_has_3 (by decide) ?_
  refine lv_iand hx hb dX10_has_4 ?_
  refine lv_topi (fun n2 en2 => ?_)
  have tn2 := q3_and1 en2
  refine lv_iconst (v := 1) hx hb dX10_has_5 (by decide) ?_
  refine lv_icmp_ne (tgt := 13) hx hb dX10_has_6 (by decide) (fun g3 => ?_) (fun g3 => ?_)
  · have g3 : ¬ n2.toInt = (1 : Int) := (not_congr (q3_eq rfl (by decide))).mp g3
    refine lv_iconst (v := 0) hx hb dX10_has_13 (by decide) ?_
    exact hret (0) (q2_u [] [] []) _ _ _ _ ⟨(show (0 : Int) = 0 ∨ (0 : Int) = 1 by omega), trivial⟩ dX10_has_14 hP hD hS
  · have g3 : n2.toInt = (1 : Int) := (q3_eq rfl (by decide)).mp g3
    refine lv_iconst (v := 1) hx hb dX10_has_9 (by decide) ?_
    refine lv_goto (tgt := 14) hx hb dX10_has_10 (by decide) ?_
    exact hret (1) (q2_u [] [] []) _ _ _ _ ⟨(show (1 : Int) = 0 ∨ (1 : Int) = 1 by omega), trivial⟩ dX10_has_14 hP hD hS
set_option maxHeartbeats 4000000 in
set_option maxRecDepth 100000 in
theorem y3_isSound (l : Launch) (D : va_G) (c : Nat → ClassId) (sz : Nat) (y : Nat) (a : Nat → Nat) (v_tapeSize v_thrown v_fault v_faultPlace v_things v_options v_lists v_sentences v_headings v_words v_factBits v_known v_soundMany v_wholeLength v_next v_end v_rThings v_rOptions v_rLists v_rSentences v_rHeadings v_lastName v_inSentence v_open v_written v_named v_sorted : Int32) (f_tape f_kind f_owner f_from f_size f_means f_signs f_oKind f_oIn f_oList f_oWords f_oFacts f_listIn f_sOwner f_hFacts f_weights f_lengths f_values f_rKind f_rOwner f_rFrom f_rSize f_rMeans f_rOKind f_rOIn f_rOList f_rOFacts f_rListIn f_rSOwner f_rHFacts f_rWeights f_opKind f_opFrom f_opWord f_opOwner f_opList f_opItems f_out f_ranks : Nat → Int32) (x_q : Int32) (h0 : 0 ≤ v_options.toInt) (h1 : v_options.toInt ≤ 14) (h2 : 0 ≤ v_lists.toInt) (h3 : v_lists.toInt ≤ 14) : Met l yX10_isSound wsX10_isSound ({ frames := 1, cells := 0, slots := 0, locals := 21 }) (q3_P D c (wM c y a v_tapeSize v_thrown v_fault v_faultPlace v_things v_options v_lists v_sentences v_headings v_words v_factBits v_known v_soundMany v_wholeLength v_next v_end v_rThings v_rOptions v_rLists v_rSentences v_rHeadings v_lastName v_inSentence v_open v_written v_named v_sorted f_tape f_kind f_owner f_from f_size f_means f_signs f_oKind f_oIn f_oList f_oWords f_oFacts f_listIn f_sOwner f_hFacts f_weights f_lengths f_values f_rKind f_rOwner f_rFrom f_rSize f_rMeans f_rOKind f_rOIn f_rOList f_rOFacts f_rListIn f_rSOwner f_rHFacts f_rWeights f_opKind f_opFrom f_opWord f_opOwner f_opList f_opItems f_out f_ranks) sz [.ref y, .int x_q]) (q2_i D (wM c y a v_tapeSize v_thrown v_fault v_faultPlace v_things v_options v_lists v_sentences v_headings v_words v_factBits v_known v_soundMany v_wholeLength v_next v_end v_rThings v_rOptions v_rLists v_rSentences v_rHeadings v_lastName v_inSentence v_open v_written v_named v_sorted f_tape f_kind f_owner f_from f_size f_means f_signs f_oKind f_oIn f_oList f_oWords f_oFacts f_listIn f_sOwner f_hFacts f_weights f_lengths f_values f_rKind f_rOwner f_rFrom f_rSize f_rMeans f_rOKind f_rOIn f_rOList f_rOFacts f_rListIn f_rSOwner f_rHFacts f_rWeights f_opKind f_opFrom f_opWord f_opOwner f_opList f_opItems f_out f_ranks) sz (fun r u => (r.toInt = 0 ∨ r.toInt = 1) ∧ True) (fun u => wM c y a v_tapeSize v_thrown v_fault v_faultPlace v_things v_options v_lists v_sentences v_headings v_words v_factBits v_known v_soundMany v_wholeLength v_next v_end v_rThings v_rOptions v_rLists v_rSentences v_rHeadings v_lastName v_inSentence v_open v_written v_named v_sorted f_tape f_kind f_owner f_from f_size f_means f_signs f_oKind f_oIn f_oList f_oWords f_oFacts f_listIn f_sOwner f_hFacts f_weights f_lengths f_values f_rKind f_rOwner f_rFrom f_rSize f_rMeans f_rOKind f_rOIn f_rOList f_rOFacts f_rListIn f_rSOwner f_rHFacts f_rWeights f_opKind f_opFrom f_opWord f_opOwner f_opList f_opItems f_out f_ranks)) (0) (0) (va_A (wM c y a v_tapeSize v_thrown v_fault v_faultPlace v_things v_options v_lists v_sentences v_headings v_words v_factBits v_known v_soundMany v_wholeLength v_next v_end v_rThings v_rOptions v_rLists v_rSentences v_rHeadings v_lastName v_inSentence v_open v_written v_named v_sorted f_tape f_kind f_owner f_from f_size f_means f_signs f_oKind f_oIn f_oList f_oWords f_oFacts f_listIn f_sOwner f_hFacts f_weights f_lengths f_values f_rKind f_rOwner f_rFrom f_rSize f_rMeans f_rOKind f_rOIn f_rOList f_rOFacts f_rListIn f_rSOwner f_rHFacts f_rWeights f_opKind f_opFrom f_opWord f_opOwner f_opList f_opItems f_out f_ranks) sz) := by
  refine q3_of_i (ty := .boolean) (fun r u h => q3_nb h.1) (cc := cX10_isSound) (maxL := 5) (by decide) rfl (Nat.le_of_ble_eq_true rfl) (fun p e s m args below meth cd A Q ls hx hb hml hown hts hA hS hP hD hK hl hret => ?_)
  have hown : s.vm.findClass RX10 = some m.cls := hown
  obtain ⟨H, eH⟩ : ∃ z, z = s.heap := ⟨_, rfl⟩
  have hP : va_P D vwCl (wM c y a v_tapeSize v_thrown v_fault v_faultPlace v_things v_options v_lists v_sentences v_headings v_words v_factBits v_known v_soundMany v_wholeLength v_next v_end v_rThings v_rOptions v_rLists v_rSentences v_rHeadings v_lastName v_inSentence v_open v_written v_named v_sorted f_tape f_kind f_owner f_from f_size f_means f_signs f_oKind f_oIn f_oList f_oWords f_oFacts f_listIn f_sOwner f_hFacts f_weights f_lengths f_values f_rKind f_rOwner f_rFrom f_rSize f_rMeans f_rOKind f_rOIn f_rOList f_rOFacts f_rListIn f_rSOwner f_rHFacts f_rWeights f_opKind f_opFrom f_opWord f_opOwner f_opList f_opItems f_out f_ranks) H := by rw [eH]; exact hP
  have hS : va_S A s.heap H [] := by rw [eH]; exact hS
  rw [← eH]
  have iX10 : ∀ w ∈ wsX100, w ∈ wsX10_isSound := fun w h => List.mem_cons_of_mem _ (List.mem_append_right _ h)
  have hl : lv_has ls 5 [(0, .ref y), (1, .int x_q)] := hl
  refine lv_iconst (v := 0) hx hb dX10_isSound_0 (by decide) ?_
  refine lv_istore_n (lv' := [(2, .int 0), (0, .ref y), (1, .int x_q)]) hx hb dX10_isSound_1 rfl hl (by decide) rfl (fun ls hl => ?_)
  have lp2 : ∀ (k : Nat) (s2_2 : Int32), (0 ≤ s2_2.toInt) → (s2_2.toInt ≤ 14) → 15 - s2_2.toInt < (k : Int) → ∀ (H : Heap) (locs : List Loc) (ls : Array Slot), va_P D vwCl (wM c y a v_tapeSize v_thrown v_fault v_faultPlace v_things v_options v_lists v_sentences v_headings v_words v_factBits v_known v_soundMany v_wholeLength v_next v_end v_rThings v_rOptions v_rLists v_rSentences v_rHeadings v_lastName v_inSentence v_open v_written v_named v_sorted f_tape f_kind f_owner f_from f_size f_means f_signs f_oKind f_oIn f_oList f_oWords f_oFacts f_listIn f_sOwner f_hFacts f_weights f_lengths f_values f_rKind f_rOwner f_rFrom f_rSize f_rMeans f_rOKind f_rOIn f_rOList f_rOFacts f_rListIn f_rSOwner f_rHFacts f_rWeights f_opKind f_opFrom f_opWord f_opOwner f_opList f_opItems f_out f_ranks) H → va_D A (wM c y a v_tapeSize v_thrown v_fault v_faultPlace v_things v_options v_lists v_sentences v_headings v_words v_factBits v_known v_soundMany v_wholeLength v_next v_end v_rThings v_rOptions v_rLists v_rSentences v_rHeadings v_lastName v_inSentence v_open v_written v_named v_sorted f_tape f_kind f_owner f_from f_size f_means f_signs f_oKind f_oIn f_oList f_oWords f_oFacts f_listIn f_sOwner f_hFacts f_weights f_lengths f_values f_rKind f_rOwner f_rFrom f_rSize f_rMeans f_rOKind f_rOIn f_rOList f_rOFacts f_rListIn f_rSOwner f_rHFacts f_rWeights f_opKind f_opFrom f_opWord f_opOwner f_opList f_opItems f_out f_ranks) → va_S A s.heap H locs → lv_has ls 5 [(2, .int s2_2), (0, .ref y), (1, .int x_q)] → W p l e ({ frames := 1, cells := 0, slots := 0, locals := 21 }) s m args below meth cd H locs 0 0 Q (F0 m 2 ls []) := by
    intro k
    induction k with
    | zero => intro s2_2 j0_2 j1_2 hm; exfalso; omega
    | succ k ih_2 =>
      intro s2_2 j0_2 j1_2 hm_2 H locs ls hP hD hS hl
      refine lv_iload_n hx hb dX10_isSound_2 rfl (lv_at hl 0 rfl) ?_
      refine lv_aload_n hx hb dX10_isSound_3 rfl (lv_at hl 1 rfl) ?_
      refine va_get (D := D) (ci := 10) (v := .int v_options) (C := RX10) (T := TX10) (N := 66) hx hb hts iX10 hown hK hP 0 rfl rfl 12 (by decide) (hts (.fieldLink RX10 233 "ShortTellerModel" "options" "I") (List.mem_of_getElem? (i := 1) rfl)) (fun _ h9 => h9) rfl dX10_isSound_4 ?_
      refine lv_icmp_ge (tgt := 48) hx hb dX10_isSound_7 (by decide) (fun g1 => ?_) (fun g1 => ?_)
      · have g1 : v_options.toInt ≤ s2_2.toInt := (q3_le rfl rfl).mp g1
        refine lv_iconst (v := 0) hx hb dX10_isSound_48 (by decide) ?_
        refine lv_istore_n (lv' := [(2, .int 0), (0, .ref y), (1, .int x_q)]) hx hb dX10_isSound_49 rfl hl (by decide) rfl (fun ls hl => ?_)
        have lp50 : ∀ (k : Nat) (s2_50 : Int32), (0 ≤ s2_50.toInt) → (s2_50.toInt ≤ 14) → 15 - s2_50.toInt < (k : Int) → ∀ (H : Heap) (locs : List Loc) (ls : Array Slot), va_P D vwCl (wM c y a v_tapeSize v_thrown v_fault v_faultPlace v_things v_options v_lists v_sentences v_headings v_words v_factBits v_known v_soundMany v_wholeLength v_next v_end v_rThings v_rOptions v_rLists v_rSentences v_rHeadings v_lastName v_inSentence v_open v_written v_named v_sorted f_tape f_kind f_owner f_from f_size f_means f_signs f_oKind f_oIn f_oList f_oWords f_oFacts f_listIn f_sOwner f_hFacts f_weights f_lengths f_values f_rKind f_rOwner f_rFrom f_rSize f_rMeans f_rOKind f_rOIn f_rOList f_rOFacts f_rListIn f_rSOwner f_rHFacts f_rWeights f_opKind f_opFrom f_opWord f_opOwner f_opList f_opItems f_out f_ranks) H → va_D A (wM c y a v_tapeSize v_thrown v_fault v_faultPlace v_things v_options v_lists v_sentences v_headings v_words v_factBits v_known v_soundMany v_wholeLength v_next v_end v_rThings v_rOptions v_rLists v_rSentences v_rHeadings v_lastName v_inSentence v_open v_written v_named v_sorted f_tape f_kind f_owner f_from f_size f_means f_signs f_oKind f_oIn f_oList f_oWords f_oFacts f_listIn f_sOwner f_hFacts f_weights f_lengths f_values f_rKind f_rOwner f_rFrom f_rSize f_rMeans f_rOKind f_rOIn f_rOList f_rOFacts f_rListIn f_rSOwner f_rHFacts f_rWeights f_opKind f_opFrom f_opWord f_opOwner f_opList f_opItems f_out f_ranks) → va_S A s.heap H locs → lv_has ls 5 [(2, .int s2_50), (0, .ref y), (1, .int x_q)] → W p l e ({ frames := 1, cells := 0, slots := 0, locals := 21 }) s m args below meth cd H locs 0 0 Q (F0 m 50 ls []) := by
          intro k
          induction k with
          | zero => intro s2_50 j0_50 j1_50 hm; exfalso; omega
          | succ k ih_50 =>
            intro s2_50 j0_50 j1_50 hm_50 H locs ls hP hD hS hl
            clear j0_2 j1_2 hm_2 g1
            refine lv_iload_n hx hb dX10_isSound_50 rfl (lv_at hl 0 rfl) ?_
            refine lv_aload_n hx hb dX10_isSound_51 rfl (lv_at hl 1 rfl) ?_
            refine va_get (D := D) (ci := 10) (v := .int v_lists) (C := RX10) (T := TX10) (N := 66) hx hb hts iX10 hown hK hP 0 rfl rfl 18 (by decide) (hts (.fieldLink RX10 236 "ShortTellerModel" "lists" "I") (List.mem_of_getElem? (i := 3) rfl)) (fun _ h9 => h9) rfl dX10_isSound_52 ?_
            refine lv_icmp_ge (tgt := 145) hx hb dX10_isSound_55 (by decide) (fun g2 => ?_) (fun g2 => ?_)
            · have g2 : v_lists.toInt ≤ s2_50.toInt := (q3_le rfl rfl).mp g2
              refine lv_iconst (v := 1) hx hb dX10_isSound_145 (by decide) ?_
              exact hret (1) (q2_u [] [] []) _ _ _ _ ⟨(show (1 : Int) = 0 ∨ (1 : Int) = 1 by omega), trivial⟩ dX10_isSound_146 hP hD hS
            · have g2 : ¬ v_lists.toInt ≤ s2_50.toInt := (not_congr (q3_le rfl rfl)).mp g2
              refine lv_aload_n hx hb dX10_isSound_58 rfl (lv_at hl 1 rfl) ?_
              refine va_get (D := D) (ci := 10) (v := .ref (a 12)) (C := RX10) (T := TX10) (N := 66) hx hb hts iX10 hown hK hP 0 rfl rfl 19 (by decide) (hts (.fieldLink RX10 50 "ShortTellerModel" "listIn" "[I") (List.mem_of_getElem? (i := 4) rfl)) (fun _ h9 => h9) rfl dX10_isSound_59 ?_
              refine lv_iload_n hx hb dX10_isSound_62 rfl (lv_at hl 0 rfl) ?_
              refine q3_iald (c := c) hx hb hK hP 13 rfl (q2_in (by omega) (by omega)) dX10_isSound_63 (fun n3 en3 => ?_)
              have tn3 : n3.toInt = (f_listIn s2_50.toNatClampNeg).toInt := by rw [en3]
              refine lv_if_lt (tgt := 83) hx hb dX10_isSound_64 (by decide) (fun g4 => ?_) (fun g4 => ?_)
              · have g4 : n3.toInt < (0 : Int) := (q3_lt rfl (by decide)).mp g4
                refine lv_iconst (v := 0) hx hb dX10_isSound_83 (by decide) ?_
                refine lv_istore_n (lv' := [(3, .int 0), (2, .int s2_50), (0, .ref y), (1, .int x_q)]) hx hb dX10_isSound_84 rfl hl (by decide) rfl (fun ls hl => ?_)
                refine lv_iconst (v := 0) hx hb dX10_isSound_85 (by decide) ?_
                refine lv_istore (lv' := [(4, .int 0), (3, .int 0), (2, .int s2_50), (0, .ref y), (1, .int x_q)]) hx hb dX10_isSound_86 hl (by decide) rfl (fun ls hl => ?_)
                have lp88 : ∀ (k : Nat) (s3_88 : Int32) (s4_88 : Int32), (0 ≤ s4_88.toInt) → (s4_88.toInt ≤ 14) → 15 - s4_88.toInt < (k : Int) → ∀ (H : Heap) (locs : List Loc) (ls : Array Slot), va_P D vwCl (wM c y a v_tapeSize v_thrown v_fault v_faultPlace v_things v_options v_lists v_sentences v_headings v_words v_factBits v_known v_soundMany v_wholeLength v_next v_end v_rThings v_rOptions v_rLists v_rSentences v_rHeadings v_lastName v_inSentence v_open v_written v_named v_sorted f_tape f_kind f_owner f_from f_size f_means f_signs f_oKind f_oIn f_oList f_oWords f_oFacts f_listIn f_sOwner f_hFacts f_weights f_lengths f_values f_rKind f_rOwner f_rFrom f_rSize f_rMeans f_rOKind f_rOIn f_rOList f_rOFacts f_rListIn f_rSOwner f_rHFacts f_rWeights f_opKind f_opFrom f_opWord f_opOwner f_opList f_opItems f_out f_ranks) H → va_D A (wM c y a v_tapeSize v_thrown v_fault v_faultPlace v_things v_options v_lists v_sentences v_headings v_words v_factBits v_known v_soundMany v_wholeLength v_next v_end v_rThings v_rOptions v_rLists v_rSentences v_rHeadings v_lastName v_inSentence v_open v_written v_named v_sorted f_tape f_kind f_owner f_from f_size f_means f_signs f_oKind f_oIn f_oList f_oWords f_oFacts f_listIn f_sOwner f_hFacts f_weights f_lengths f_values f_rKind f_rOwner f_rFrom f_rSize f_rMeans f_rOKind f_rOIn f_rOList f_rOFacts f_rListIn f_rSOwner f_rHFacts f_rWeights f_opKind f_opFrom f_opWord f_opOwner f_opList f_opItems f_out f_ranks) → va_S A s.heap H locs → lv_has ls 5 [(4, .int s4_88), (3, .int s3_88), (2, .int s2_50), (0, .ref y), (1, .int x_q)] → W p l e ({ frames := 1, cells := 0, slots := 0, locals := 21 }) s m args below meth cd H locs 0 0 Q (F0 m 88 ls []) := by
                  intro k
                  induction k with
                  | zero => intro s3_88 s4_88 j0_88 j1_88 hm; exfalso; omega
                  | succ k ih_88 =>
                    intro s3_88 s4_88 j0_88 j1_88 hm_88 H locs ls hP hD hS hl
                    clear tn3 g4
                    refine lv_iload hx hb dX10_isSound_88 (lv_at hl 0 rfl) ?_
                    refine lv_aload_n hx hb dX10_isSound_90 rfl (lv_at hl 3 rfl) ?_
                    refine va_get (D := D) (ci := 10) (v := .int v_options) (C := RX10) (T := TX10) (N := 66) hx hb hts iX10 hown hK hP 0 rfl rfl 12 (by decide) (hts (.fieldLink RX10 233 "ShortTellerModel" "options" "I") (List.mem_of_getElem? (i := 1) rfl)) (fun _ h9 => h9) rfl dX10_isSound_91 ?_
                    refine lv_icmp_ge (tgt := 133) hx hb dX10_isSound_94 (by decide) (fun g5 => ?_) (fun g5 => ?_)
                    · have g5 : v_options.toInt ≤ s4_88.toInt := (q3_le rfl rfl).mp g5
                      refine lv_iload_n hx hb dX10_isSound_133 rfl (lv_at hl 1 rfl) ?_
                      refine lv_if_ne (tgt := 139) hx hb dX10_isSound_134 (by decide) (fun g6 => ?_) (fun g6 => ?_)
                      · have g6 : ¬ s3_88.toInt = (0 : Int) := (not_congr (q3_eq rfl (by decide))).mp g6
                        obtain ⟨n7, en7⟩ : ∃ z : Int32, z = s2_50 + (1) := ⟨_, rfl⟩
                        have tn7 : n7.toInt = s2_50.toInt + (1 : Int) := q3_add en7 rfl (by decide) (by omega) (by omega)
                        refine lv_iinc (v := n7) (lv' := [(2, .int n7), (4, .int s4_88), (3, .int s3_88), (0, .ref y), (1, .int x_q)]) hx hb dX10_isSound_139 hl (k := 2) rfl (by rw [en7]; rfl) (by decide) rfl (fun ls hl => ?_)
                        refine lv_goto (tgt := 50) hx hb dX10_isSound_142 (by decide) ?_
                        exact ih_50 n7 (show 0 ≤ n7.toInt by omega) (show n7.toInt ≤ 14 by omega) (show 15 - n7.toInt < _ by omega) _ _ _ hP hD hS (lv_sub hl [0, 3, 4] rfl)
                      · have g6 : s3_88.toInt = (0 : Int) := (q3_eq rfl (by decide)).mp g6
                        refine lv_iconst (v := 0) hx hb dX10_isSound_137 (by decide) ?_
                        exact hret (0) (q2_u [] [] []) _ _ _ _ ⟨(show (0 : Int) = 0 ∨ (0 : Int) = 1 by omega), trivial⟩ dX10_isSound_138 hP hD hS
                    · have g5 : ¬ v_options.toInt ≤ s4_88.toInt := (not_congr (q3_le rfl rfl)).mp g5
                      refine lv_iload_n hx hb dX10_isSound_97 rfl (lv_at hl 1 rfl) ?_
                      refine lv_if_ne (tgt := 121) hx hb dX10_isSound_98 (by decide) (fun g8 => ?_) (fun g8 => ?_)
                      · have g8 : ¬ s3_88.toInt = (0 : Int) := (not_congr (q3_eq rfl (by decide))).mp g8
                        refine lv_iconst (v := 1) hx hb dX10_isSound_121 (by decide) ?_
                        refine lv_goto (tgt := 126) hx hb dX10_isSound_122 (by decide) ?_
                        refine lv_istore_n (lv' := [(3, .int 1), (4, .int s4_88), (2, .int s2_50), (0, .ref y), (1, .int x_q)]) hx hb dX10_isSound_126 rfl hl (by decide) rfl (fun ls hl => ?_)
                        obtain ⟨n9, en9⟩ : ∃ z : Int32, z = s4_88 + (1) := ⟨_, rfl⟩
                        have tn9 : n9.toInt = s4_88.toInt + (1 : Int) := q3_add en9 rfl (by decide) (by omega) (by omega)
                        refine lv_iinc (v := n9) (lv' := [(4, .int n9), (3, .int 1), (2, .int s2_50), (0, .ref y), (1, .int x_q)]) hx hb dX10_isSound_127 hl (k := 1) rfl (by rw [en9]; rfl) (by decide) rfl (fun ls hl => ?_)
                        refine lv_goto (tgt := 88) hx hb dX10_isSound_130 (by decide) ?_
                        exact ih_88 (1) n9 (show 0 ≤ n9.toInt by omega) (show n9.toInt ≤ 14 by omega) (show 15 - n9.toInt < _ by omega) _ _ _ hP hD hS hl
                      · have g8 : s3_88.toInt = (0 : Int) := (q3_eq rfl (by decide)).mp g8
                        refine lv_aload_n hx hb dX10_isSound_101 rfl (lv_at hl 3 rfl) ?_
                        refine va_get (D := D) (ci := 10) (v := .ref (a 9)) (C := RX10) (T := TX10) (N := 66) hx hb hts iX10 hown hK hP 0 rfl rfl 15 (by decide) (hts (.fieldLink RX10 41 "ShortTellerModel" "oList" "[I") (List.mem_of_getElem? (i := 5) rfl)) (fun _ h9 => h9) rfl dX10_isSound_102 ?_
                        refine lv_iload hx hb dX10_isSound_105 (lv_at hl 0 rfl) ?_
                        refine q3_iald (c := c) hx hb hK hP 10 rfl (q2_in (by omega) (by omega)) dX10_isSound_107 (fun n10 en10 => ?_)
                        have tn10 : n10.toInt = (f_oList s4_88.toNatClampNeg).toInt := by rw [en10]
                        refine lv_iload_n hx hb dX10_isSound_108 rfl (lv_at hl 2 rfl) ?_
                        refine lv_icmp_ne (tgt := 125) hx hb dX10_isSound_109 (by decide) (fun g11 => ?_) (fun g11 => ?_)
                        · have g11 : ¬ n10.toInt = s2_50.toInt := (not_congr (q3_eq rfl rfl)).mp g11
                          refine lv_iconst (v := 0) hx hb dX10_isSound_125 (by decide) ?_
                          refine lv_istore_n (lv' := [(3, .int 0), (4, .int s4_88), (2, .int s2_50), (0, .ref y), (1, .int x_q)]) hx hb dX10_isSound_126 rfl hl (by decide) rfl (fun ls hl => ?_)
                          obtain ⟨n12, en12⟩ : ∃ z : Int32, z = s4_88 + (1) := ⟨_, rfl⟩
                          have tn12 : n12.toInt = s4_88.toInt + (1 : Int) := q3_add en12 rfl (by decide) (by omega) (by omega)
                          refine lv_iinc (v := n12) (lv' := [(4, .int n12), (3, .int 0), (2, .int s2_50), (0, .ref y), (1, .int x_q)]) hx hb dX10_isSound_127 hl (k := 1) rfl (by rw [en12]; rfl) (by decide) rfl (fun ls hl => ?_)
                          refine lv_goto (tgt := 88) hx hb dX10_isSound_130 (by decide) ?_
                          exact ih_88 (0) n12 (show 0 ≤ n12.toInt by omega) (show n12.toInt ≤ 14 by omega) (show 15 - n12.toInt < _ by omega) _ _ _ hP hD hS hl
                        · have g11 : n10.toInt = s2_50.toInt := (q3_eq rfl rfl).mp g11
                          refine lv_iload_n hx hb dX10_isSound_112 rfl (lv_at hl 4 rfl) ?_
                          refine lv_iload hx hb dX10_isSound_113 (lv_at hl 0 rfl) ?_
                          refine q3_ci (va_runS (As := [.int x_q, .int s4_88]) (rest := []) ⟨hx, hb, hml, hown, hts⟩ (y3_has l D c H.size y a v_tapeSize v_thrown v_fault v_faultPlace v_things v_options v_lists v_sentences v_headings v_words v_factBits v_known v_soundMany v_wholeLength v_next v_end v_rThings v_rOptions v_rLists v_rSentences v_rHeadings v_lastName v_inSentence v_open v_written v_named v_sorted f_tape f_kind f_owner f_from f_size f_means f_signs f_oKind f_oIn f_oList f_oWords f_oFacts f_listIn f_sOwner f_hFacts f_weights f_lengths f_values f_rKind f_rOwner f_rFrom f_rSize f_rMeans f_rOKind f_rOIn f_rOList f_rOFacts f_rListIn f_rSOwner f_rHFacts f_rWeights f_opKind f_opFrom f_opWord f_opOwner f_opList f_opItems f_out f_ranks x_q s4_88) (va_cwS 2 hts gX10_isSound_X10_has rfl rfl rfl (by decide +kernel) ⟨Nat.le_of_ble_eq_true rfl, Nat.le_of_ble_eq_true rfl⟩) (q3_preS (c := c) hP hK hD) rfl rfl hl.1 rfl (lv_room (Nat.le_of_ble_eq_true rfl)) dX10_isSound_115 ⟨Nat.le_of_ble_eq_true rfl, Nat.le_of_ble_eq_true rfl⟩) hD hS hA (fun n13 un13 H locs pn13 hP hD hS => ?_)
                          have pn13 : (n13.toInt = 0 ∨ n13.toInt = 1) ∧ True := pn13
                          obtain ⟨pn13_0, -⟩ := pn13
                          have hP : va_P D vwCl (wM c y a v_tapeSize v_thrown v_fault v_faultPlace v_things v_options v_lists v_sentences v_headings v_words v_factBits v_known v_soundMany v_wholeLength v_next v_end v_rThings v_rOptions v_rLists v_rSentences v_rHeadings v_lastName v_inSentence v_open v_written v_named v_sorted f_tape f_kind f_owner f_from f_size f_means f_signs f_oKind f_oIn f_oList f_oWords f_oFacts f_listIn f_sOwner f_hFacts f_weights f_lengths f_values f_rKind f_rOwner f_rFrom f_rSize f_rMeans f_rOKind f_rOIn f_rOList f_rOFacts f_rListIn f_rSOwner f_rHFacts f_rWeights f_opKind f_opFrom f_opWord f_opOwner f_opList f_opItems f_out f_ranks) H := hP
                          have hD : va_D A (wM c y a v_tapeSize v_thrown v_fault v_faultPlace v_things v_options v_lists v_sentences v_headings v_words v_factBits v_known v_soundMany v_wholeLength v_next v_end v_rThings v_rOptions v_rLists v_rSentences v_rHeadings v_lastName v_inSentence v_open v_written v_named v_sorted f_tape f_kind f_owner f_from f_size f_means f_signs f_oKind f_oIn f_oList f_oWords f_oFacts f_listIn f_sOwner f_hFacts f_weights f_lengths f_values f_rKind f_rOwner f_rFrom f_rSize f_rMeans f_rOKind f_rOIn f_rOList f_rOFacts f_rListIn f_rSOwner f_rHFacts f_rWeights f_opKind f_opFrom f_opWord f_opOwner f_opList f_opItems f_out f_ranks) := hD
                          refine lv_if_eq (tgt := 125) hx hb dX10_isSound_118 (by decide) (fun g14 => ?_) (fun g14 => ?_)
                          · have g14 : n13.toInt = (0 : Int) := (q3_eq rfl (by decide)).mp g14
                            refine lv_iconst (v := 0) hx hb dX10_isSound_125 (by decide) ?_
                            refine lv_istore_n (lv' := [(3, .int 0), (4, .int s4_88), (2, .int s2_50), (0, .ref y), (1, .int x_q)]) hx hb dX10_isSound_126 rfl hl (by decide) rfl (fun ls hl => ?_)
                            obtain ⟨n15, en15⟩ : ∃ z : Int32, z = s4_88 + (1) := ⟨_, rfl⟩
                            have tn15 : n15.toInt = s4_88.toInt + (1 : Int) := q3_add en15 rfl (by decide) (by omega) (by omega)
                            refine lv_iinc (v := n15) (lv' := [(4, .int n15), (3, .int 0), (2, .int s2_50), (0, .ref y), (1, .int x_q)]) hx hb dX10_isSound_127 hl (k := 1) rfl (by rw [en15]; rfl) (by decide) rfl (fun ls hl => ?_)
                            refine lv_goto (tgt := 88) hx hb dX10_isSound_130 (by decide) ?_
                            exact ih_88 (0) n15 (show 0 ≤ n15.toInt by omega) (show n15.toInt ≤ 14 by omega) (show 15 - n15.toInt < _ by omega) _ _ _ hP hD hS hl
                          · have g14 : ¬ n13.toInt = (0 : Int) := (not_congr (q3_eq rfl (by decide))).mp g14
                            refine lv_iconst (v := 1) hx hb dX10_isSound_121 (by decide) ?_
                            refine lv_goto (tgt := 126) hx hb dX10_isSound_122 (by decide) ?_
                            refine lv_istore_n (lv' := [(3, .int 1), (4, .int s4_88), (2, .int s2_50), (0, .ref y), (1, .int x_q)]) hx hb dX10_isSound_126 rfl hl (by decide) rfl (fun ls hl => ?_)
                            obtain ⟨n16, en16⟩ : ∃ z : Int32, z = s4_88 + (1) := ⟨_, rfl⟩
                            have tn16 : n16.toInt = s4_88.toInt + (1 : Int) := q3_add en16 rfl (by decide) (by omega) (by omega)
                            refine lv_iinc (v := n16) (lv' := [(4, .int n16), (3, .int 1), (2, .int s2_50), (0, .ref y), (1, .int x_q)]) hx hb dX10_isSound_127 hl (k := 1) rfl (by rw [en16]; rfl) (by decide) rfl (fun ls hl => ?_)
                            refine lv_goto (tgt := 88) hx hb dX10_isSound_130 (by decide) ?_
                            exact ih_88 (1) n16 (show 0 ≤ n16.toInt by omega) (show n16.toInt ≤ 14 by omega) (show 15 - n16.toInt < _ by omega) _ _ _ hP hD hS hl
                exact lp88 (Int.toNat (15 - (0 : Int)) + 1) (0) (0) (show 0 ≤ (0 : Int) by omega) (show (0 : Int) ≤ 14 by omega) (show 15 - (0 : Int) < ((Int.toNat (15 - (0 : Int)) + 1 : Nat) : Int) by omega) _ _ _ hP hD hS hl
              · have g4 : ¬ n3.toInt < (0 : Int) := (not_congr (q3_lt rfl (by decide))).mp g4
                refine lv_iload_n hx hb dX10_isSound_67 rfl (lv_at hl 2 rfl) ?_
                refine lv_aload_n hx hb dX10_isSound_68 rfl (lv_at hl 1 rfl) ?_
                refine va_get (D := D) (ci := 10) (v := .ref (a 12)) (C := RX10) (T := TX10) (N := 66) hx hb hts iX10 hown hK hP 0 rfl rfl 19 (by decide) (hts (.fieldLink RX10 50 "ShortTellerModel" "listIn" "[I") (List.mem_of_getElem? (i := 4) rfl)) (fun _ h9 => h9) rfl dX10_isSound_69 ?_
                refine lv_iload_n hx hb dX10_isSound_72 rfl (lv_at hl 0 rfl) ?_
                refine q3_iald (c := c) hx hb hK hP 13 rfl (q2_in (by omega) (by omega)) dX10_isSound_73 (fun n17 en17 => ?_)
                have tn17 : n17.toInt = (f_listIn s2_50.toNatClampNeg).toInt := by rw [en17]
                refine q3_ci (va_runS (As := [.int x_q, .int n17]) (rest := []) ⟨hx, hb, hml, hown, hts⟩ (y3_has l D c H.size y a v_tapeSize v_thrown v_fault v_faultPlace v_things v_options v_lists v_sentences v_headings v_words v_factBits v_known v_soundMany v_wholeLength v_next v_end v_rThings v_rOptions v_rLists v_rSentences v_rHeadings v_lastName v_inSentence v_open v_written v_named v_sorted f_tape f_kind f_owner f_from f_size f_means f_signs f_oKind f_oIn f_oList f_oWords f_oFacts f_listIn f_sOwner f_hFacts f_weights f_lengths f_values f_rKind f_rOwner f_rFrom f_rSize f_rMeans f_rOKind f_rOIn f_rOList f_rOFacts f_rListIn f_rSOwner f_rHFacts f_rWeights f_opKind f_opFrom f_opWord f_opOwner f_opList f_opItems f_out f_ranks x_q n17) (va_cwS 2 hts gX10_isSound_X10_has rfl rfl rfl (by decide +kernel) ⟨Nat.le_of_ble_eq_true rfl, Nat.le_of_ble_eq_true rfl⟩) (q3_preS (c := c) hP hK hD) rfl rfl hl.1 rfl (lv_room (Nat.le_of_ble_eq_true rfl)) dX10_isSound_74 ⟨Nat.le_of_ble_eq_true rfl, Nat.le_of_ble_eq_true rfl⟩) hD hS hA (fun n18 un18 H locs pn18 hP hD hS => ?_)
                have pn18 : (n18.toInt = 0 ∨ n18.toInt = 1) ∧ True := pn18
                obtain ⟨pn18_0, -⟩ := pn18
                have hP : va_P D vwCl (wM c y a v_tapeSize v_thrown v_fault v_faultPlace v_things v_options v_lists v_sentences v_headings v_words v_factBits v_known v_soundMany v_wholeLength v_next v_end v_rThings v_rOptions v_rLists v_rSentences v_rHeadings v_lastName v_inSentence v_open v_written v_named v_sorted f_tape f_kind f_owner f_from f_size f_means f_signs f_oKind f_oIn f_oList f_oWords f_oFacts f_listIn f_sOwner f_hFacts f_weights f_lengths f_values f_rKind f_rOwner f_rFrom f_rSize f_rMeans f_rOKind f_rOIn f_rOList f_rOFacts f_rListIn f_rSOwner f_rHFacts f_rWeights f_opKind f_opFrom f_opWord f_opOwner f_opList f_opItems f_out f_ranks) H := hP
                have hD : va_D A (wM c y a v_tapeSize v_thrown v_fault v_faultPlace v_things v_options v_lists v_sentences v_headings v_words v_factBits v_known v_soundMany v_wholeLength v_next v_end v_rThings v_rOptions v_rLists v_rSentences v_rHeadings v_lastName v_inSentence v_open v_written v_named v_sorted f_tape f_kind f_owner f_from f_size f_means f_signs f_oKind f_oIn f_oList f_oWords f_oFacts f_listIn f_sOwner f_hFacts f_weights f_lengths f_values f_rKind f_rOwner f_rFrom f_rSize f_rMeans f_rOKind f_rOIn f_rOList f_rOFacts f_rListIn f_rSOwner f_rHFacts f_rWeights f_opKind f_opFrom f_opWord f_opOwner f_opList f_opItems f_out f_ranks) := hD
                refine lv_if_ne (tgt := 83) hx hb dX10_isSound_77 (by decide) (fun g19 => ?_) (fun g19 => ?_)
                · have g19 : ¬ n18.toInt = (0 : Int) := (not_congr (q3_eq rfl (by decide))).mp g19
                  refine lv_iconst (v := 0) hx hb dX10_isSound_83 (by decide) ?_
                  refine lv_istore_n (lv' := [(3, .int 0), (2, .int s2_50), (0, .ref y), (1, .int x_q)]) hx hb dX10_isSound_84 rfl hl (by decide) rfl (fun ls hl => ?_)
                  refine lv_iconst (v := 0) hx hb dX10_isSound_85 (by decide) ?_
                  refine lv_istore (lv' := [(4, .int 0), (3, .int 0), (2, .int s2_50), (0, .ref y), (1, .int x_q)]) hx hb dX10_isSound_86 hl (by decide) rfl (fun ls hl => ?_)
                  have lp88 : ∀ (k : Nat) (s3_88 : Int32) (s4_88 : Int32), (0 ≤ s4_88.toInt) → (s4_88.toInt ≤ 14) → 15 - s4_88.toInt < (k : Int) → ∀ (H : Heap) (locs : List Loc) (ls : Array Slot), va_P D vwCl (wM c y a v_tapeSize v_thrown v_fault v_faultPlace v_things v_options v_lists v_sentences v_headings v_words v_factBits v_known v_soundMany v_wholeLength v_next v_end v_rThings v_rOptions v_rLists v_rSentences v_rHeadings v_lastName v_inSentence v_open v_written v_named v_sorted f_tape f_kind f_owner f_from f_size f_means f_signs f_oKind f_oIn f_oList f_oWords f_oFacts f_listIn f_sOwner f_hFacts f_weights f_lengths f_values f_rKind f_rOwner f_rFrom f_rSize f_rMeans f_rOKind f_rOIn f_rOList f_rOFacts f_rListIn f_rSOwner f_rHFacts f_rWeights f_opKind f_opFrom f_opWord f_opOwner f_opList f_opItems f_out f_ranks) H → va_D A (wM c y a v_tapeSize v_thrown v_fault v_faultPlace v_things v_options v_lists v_sentences v_headings v_words v_factBits v_known v_soundMany v_wholeLength v_next v_end v_rThings v_rOptions v_rLists v_rSentences v_rHeadings v_lastName v_inSentence v_open v_written v_named v_sorted f_tape f_kind f_owner f_from f_size f_means f_signs f_oKind f_oIn f_oList f_oWords f_oFacts f_listIn f_sOwner f_hFacts f_weights f_lengths f_values f_rKind f_rOwner f_rFrom f_rSize f_rMeans f_rOKind f_rOIn f_rOList f_rOFacts f_rListIn f_rSOwner f_rHFacts f_rWeights f_opKind f_opFrom f_opWord f_opOwner f_opList f_opItems f_out f_ranks) → va_S A s.heap H locs → lv_has ls 5 [(4, .int s4_88), (3, .int s3_88), (2, .int s2_50), (0, .ref y), (1, .int x_q)] → W p l e ({ frames := 1, cells := 0, slots := 0, locals := 21 }) s m args below meth cd H locs 0 0 Q (F0 m 88 ls []) := by
                    intro k
                    induction k with
                    | zero => intro s3_88 s4_88 j0_88 j1_88 hm; exfalso; omega
                    | succ k ih_88 =>
                      intro s3_88 s4_88 j0_88 j1_88 hm_88 H locs ls hP hD hS hl
                      clear tn3 g4 tn17 pn18_0 g19
                      refine lv_iload hx hb dX10_isSound_88 (lv_at hl 0 rfl) ?_
                      refine lv_aload_n hx hb dX10_isSound_90 rfl (lv_at hl 3 rfl) ?_
                      refine va_get (D := D) (ci := 10) (v := .int v_options) (C := RX10) (T := TX10) (N := 66) hx hb hts iX10 hown hK hP 0 rfl rfl 12 (by decide) (hts (.fieldLink RX10 233 "ShortTellerModel" "options" "I") (List.mem_of_getElem? (i := 1) rfl)) (fun _ h9 => h9) rfl dX10_isSound_91 ?_
                      refine lv_icmp_ge (tgt := 133) hx hb dX10_isSound_94 (by decide) (fun g20 => ?_) (fun g20 => ?_)
                      · have g20 : v_options.toInt ≤ s4_88.toInt := (q3_le rfl rfl).mp g20
                        refine lv_iload_n hx hb dX10_isSound_133 rfl (lv_at hl 1 rfl) ?_
                        refine lv_if_ne (tgt := 139) hx hb dX10_isSound_134 (by decide) (fun g21 => ?_) (fun g21 => ?_)
                        · have g21 : ¬ s3_88.toInt = (0 : Int) := (not_congr (q3_eq rfl (by decide))).mp g21
                          obtain ⟨n22, en22⟩ : ∃ z : Int32, z = s2_50 + (1) := ⟨_, rfl⟩
                          have tn22 : n22.toInt = s2_50.toInt + (1 : Int) := q3_add en22 rfl (by decide) (by omega) (by omega)
                          refine lv_iinc (v := n22) (lv' := [(2, .int n22), (4, .int s4_88), (3, .int s3_88), (0, .ref y), (1, .int x_q)]) hx hb dX10_isSound_139 hl (k := 2) rfl (by rw [en22]; rfl) (by decide) rfl (fun ls hl => ?_)
                          refine lv_goto (tgt := 50) hx hb dX10_isSound_142 (by decide) ?_
                          exact ih_50 n22 (show 0 ≤ n22.toInt by omega) (show n22.toInt ≤ 14 by omega) (show 15 - n22.toInt < _ by omega) _ _ _ hP hD hS (lv_sub hl [0, 3, 4] rfl)
                        · have g21 : s3_88.toInt = (0 : Int) := (q3_eq rfl (by decide)).mp g21
                          refine lv_iconst (v := 0) hx hb dX10_isSound_137 (by decide) ?_
                          exact hret (0) (q2_u [] [] []) _ _ _ _ ⟨(show (0 : Int) = 0 ∨ (0 : Int) = 1 by omega), trivial⟩ dX10_isSound_138 hP hD hS
                      · have g20 : ¬ v_options.toInt ≤ s4_88.toInt := (not_congr (q3_le rfl rfl)).mp g20
                        refine lv_iload_n hx hb dX10_isSound_97 rfl (lv_at hl 1 rfl) ?_
                        refine lv_if_ne (tgt := 121) hx hb dX10_isSound_98 (by decide) (fun g23 => ?_) (fun g23 => ?_)
                        · have g23 : ¬ s3_88.toInt = (0 : Int) := (not_congr (q3_eq rfl (by decide))).mp g23
                          refine lv_iconst (v := 1) hx hb dX10_isSound_121 (by decide) ?_
                          refine lv_goto (tgt := 126) hx hb dX10_isSound_122 (by decide) ?_
                          refine lv_istore_n (lv' := [(3, .int 1), (4, .int s4_88), (2, .int s2_50), (0, .ref y), (1, .int x_q)]) hx hb dX10_isSound_126 rfl hl (by decide) rfl (fun ls hl => ?_)
                          obtain ⟨n24, en24⟩ : ∃ z : Int32, z = s4_88 + (1) := ⟨_, rfl⟩
                          have tn24 : n24.toInt = s4_88.toInt + (1 : Int) := q3_add en24 rfl (by decide) (by omega) (by omega)
                          refine lv_iinc (v := n24) (lv' := [(4, .int n24), (3, .int 1), (2, .int s2_50), (0, .ref y), (1, .int x_q)]) hx hb dX10_isSound_127 hl (k := 1) rfl (by rw [en24]; rfl) (by decide) rfl (fun ls hl => ?_)
                          refine lv_goto (tgt := 88) hx hb dX10_isSound_130 (by decide) ?_
                          exact ih_88 (1) n24 (show 0 ≤ n24.toInt by omega) (show n24.toInt ≤ 14 by omega) (show 15 - n24.toInt < _ by omega) _ _ _ hP hD hS hl
                        · have g23 : s3_88.toInt = (0 : Int) := (q3_eq rfl (by decide)).mp g23
                          refine lv_aload_n hx hb dX10_isSound_101 rfl (lv_at hl 3 rfl) ?_
                          refine va_get (D := D) (ci := 10) (v := .ref (a 9)) (C := RX10) (T := TX10) (N := 66) hx hb hts iX10 hown hK hP 0 rfl rfl 15 (by decide) (hts (.fieldLink RX10 41 "ShortTellerModel" "oList" "[I") (List.mem_of_getElem? (i := 5) rfl)) (fun _ h9 => h9) rfl dX10_isSound_102 ?_
                          refine lv_iload hx hb dX10_isSound_105 (lv_at hl 0 rfl) ?_
                          refine q3_iald (c := c) hx hb hK hP 10 rfl (q2_in (by omega) (by omega)) dX10_isSound_107 (fun n25 en25 => ?_)
                          have tn25 : n25.toInt = (f_oList s4_88.toNatClampNeg).toInt := by rw [en25]
                          refine lv_iload_n hx hb dX10_isSound_108 rfl (lv_at hl 2 rfl) ?_
                          refine lv_icmp_ne (tgt := 125) hx hb dX10_isSound_109 (by decide) (fun g26 => ?_) (fun g26 => ?_)
                          · have g26 : ¬ n25.toInt = s2_50.toInt := (not_congr (q3_eq rfl rfl)).mp g26
                            refine lv_iconst (v := 0) hx hb dX10_isSound_125 (by decide) ?_
                            refine lv_istore_n (lv' := [(3, .int 0), (4, .int s4_88), (2, .int s2_50), (0, .ref y), (1, .int x_q)]) hx hb dX10_isSound_126 rfl hl (by decide) rfl (fun ls hl => ?_)
                            obtain ⟨n27, en27⟩ : ∃ z : Int32, z = s4_88 + (1) := ⟨_, rfl⟩
                            have tn27 : n27.toInt = s4_88.toInt + (1 : Int) := q3_add en27 rfl (by decide) (by omega) (by omega)
                            refine lv_iinc (v := n27) (lv' := [(4, .int n27), (3, .int 0), (2, .int s2_50), (0, .ref y), (1, .int x_q)]) hx hb dX10_isSound_127 hl (k := 1) rfl (by rw [en27]; rfl) (by decide) rfl (fun ls hl => ?_)
                            refine lv_goto (tgt := 88) hx hb dX10_isSound_130 (by decide) ?_
                            exact ih_88 (0) n27 (show 0 ≤ n27.toInt by omega) (show n27.toInt ≤ 14 by omega) (show 15 - n27.toInt < _ by omega) _ _ _ hP hD hS hl
                          · have g26 : n25.toInt = s2_50.toInt := (q3_eq rfl rfl).mp g26
                            refine lv_iload_n hx hb dX10_isSound_112 rfl (lv_at hl 4 rfl) ?_
                            refine lv_iload hx hb dX10_isSound_113 (lv_at hl 0 rfl) ?_
                            refine q3_ci (va_runS (As := [.int x_q, .int s4_88]) (rest := []) ⟨hx, hb, hml, hown, hts⟩ (y3_has l D c H.size y a v_tapeSize v_thrown v_fault v_faultPlace v_things v_options v_lists v_sentences v_headings v_words v_factBits v_known v_soundMany v_wholeLength v_next v_end v_rThings v_rOptions v_rLists v_rSentences v_rHeadings v_lastName v_inSentence v_open v_written v_named v_sorted f_tape f_kind f_owner f_from f_size f_means f_signs f_oKind f_oIn f_oList f_oWords f_oFacts f_listIn f_sOwner f_hFacts f_weights f_lengths f_values f_rKind f_rOwner f_rFrom f_rSize f_rMeans f_rOKind f_rOIn f_rOList f_rOFacts f_rListIn f_rSOwner f_rHFacts f_rWeights f_opKind f_opFrom f_opWord f_opOwner f_opList f_opItems f_out f_ranks x_q s4_88) (va_cwS 2 hts gX10_isSound_X10_has rfl rfl rfl (by decide +kernel) ⟨Nat.le_of_ble_eq_true rfl, Nat.le_of_ble_eq_true rfl⟩) (q3_preS (c := c) hP hK hD) rfl rfl hl.1 rfl (lv_room (Nat.le_of_ble_eq_true rfl)) dX10_isSound_115 ⟨Nat.le_of_ble_eq_true rfl, Nat.le_of_ble_eq_true rfl⟩) hD hS hA (fun n28 un28 H locs pn28 hP hD hS => ?_)
                            have pn28 : (n28.toInt = 0 ∨ n28.toInt = 1) ∧ True := pn28
                            obtain ⟨pn28_0, -⟩ := pn28
                            have hP : va_P D vwCl (wM c y a v_tapeSize v_thrown v_fault v_faultPlace v_things v_options v_lists v_sentences v_headings v_words v_factBits v_known v_soundMany v_wholeLength v_next v_end v_rThings v_rOptions v_rLists v_rSentences v_rHeadings v_lastName v_inSentence v_open v_written v_named v_sorted f_tape f_kind f_owner f_from f_size f_means f_signs f_oKind f_oIn f_oList f_oWords f_oFacts f_listIn f_sOwner f_hFacts f_weights f_lengths f_values f_rKind f_rOwner f_rFrom f_rSize f_rMeans f_rOKind f_rOIn f_rOList f_rOFacts f_rListIn f_rSOwner f_rHFacts f_rWeights f_opKind f_opFrom f_opWord f_opOwner f_opList f_opItems f_out f_ranks) H := hP
                            have hD : va_D A (wM c y a v_tapeSize v_thrown v_fault v_faultPlace v_things v_options v_lists v_sentences v_headings v_words v_factBits v_known v_soundMany v_wholeLength v_next v_end v_rThings v_rOptions v_rLists v_rSentences v_rHeadings v_lastName v_inSentence v_open v_written v_named v_sorted f_tape f_kind f_owner f_from f_size f_means f_signs f_oKind f_oIn f_oList f_oWords f_oFacts f_listIn f_sOwner f_hFacts f_weights f_lengths f_values f_rKind f_rOwner f_rFrom f_rSize f_rMeans f_rOKind f_rOIn f_rOList f_rOFacts f_rListIn f_rSOwner f_rHFacts f_rWeights f_opKind f_opFrom f_opWord f_opOwner f_opList f_opItems f_out f_ranks) := hD
                            refine lv_if_eq (tgt := 125) hx hb dX10_isSound_118 (by decide) (fun g29 => ?_) (fun g29 => ?_)
                            · have g29 : n28.toInt = (0 : Int) := (q3_eq rfl (by decide)).mp g29
                              refine lv_iconst (v := 0) hx hb dX10_isSound_125 (by decide) ?_
                              refine lv_istore_n (lv' := [(3, .int 0), (4, .int s4_88), (2, .int s2_50), (0, .ref y), (1, .int x_q)]) hx hb dX10_isSound_126 rfl hl (by decide) rfl (fun ls hl => ?_)
                              obtain ⟨n30, en30⟩ : ∃ z : Int32, z = s4_88 + (1) := ⟨_, rfl⟩
                              have tn30 : n30.toInt = s4_88.toInt + (1 : Int) := q3_add en30 rfl (by decide) (by omega) (by omega)
                              refine lv_iinc (v := n30) (lv' := [(4, .int n30), (3, .int 0), (2, .int s2_50), (0, .ref y), (1, .int x_q)]) hx hb dX10_isSound_127 hl (k := 1) rfl (by rw [en30]; rfl) (by decide) rfl (fun ls hl => ?_)
                              refine lv_goto (tgt := 88) hx hb dX10_isSound_130 (by decide) ?_
                              exact ih_88 (0) n30 (show 0 ≤ n30.toInt by omega) (show n30.toInt ≤ 14 by omega) (show 15 - n30.toInt < _ by omega) _ _ _ hP hD hS hl
                            · have g29 : ¬ n28.toInt = (0 : Int) := (not_congr (q3_eq rfl (by decide))).mp g29
                              refine lv_iconst (v := 1) hx hb dX10_isSound_121 (by decide) ?_
                              refine lv_goto (tgt := 126) hx hb dX10_isSound_122 (by decide) ?_
                              refine lv_istore_n (lv' := [(3, .int 1), (4, .int s4_88), (2, .int s2_50), (0, .ref y), (1, .int x_q)]) hx hb dX10_isSound_126 rfl hl (by decide) rfl (fun ls hl => ?_)
                              obtain ⟨n31, en31⟩ : ∃ z : Int32, z = s4_88 + (1) := ⟨_, rfl⟩
                              have tn31 : n31.toInt = s4_88.toInt + (1 : Int) := q3_add en31 rfl (by decide) (by omega) (by omega)
                              refine lv_iinc (v := n31) (lv' := [(4, .int n31), (3, .int 1), (2, .int s2_50), (0, .ref y), (1, .int x_q)]) hx hb dX10_isSound_127 hl (k := 1) rfl (by rw [en31]; rfl) (by decide) rfl (fun ls hl => ?_)
                              refine lv_goto (tgt := 88) hx hb dX10_isSound_130 (by decide) ?_
                              exact ih_88 (1) n31 (show 0 ≤ n31.toInt by omega) (show n31.toInt ≤ 14 by omega) (show 15 - n31.toInt < _ by omega) _ _ _ hP hD hS hl
                  exact lp88 (Int.toNat (15 - (0 : Int)) + 1) (0) (0) (show 0 ≤ (0 : Int) by omega) (show (0 : Int) ≤ 14 by omega) (show 15 - (0 : Int) < ((Int.toNat (15 - (0 : Int)) + 1 : Nat) : Int) by omega) _ _ _ hP hD hS hl
                · have g19 : n18.toInt = (0 : Int) := (q3_eq rfl (by decide)).mp g19
                  refine lv_goto (tgt := 139) hx hb dX10_isSound_80 (by decide) ?_
                  obtain ⟨n32, en32⟩ : ∃ z : Int32, z = s2_50 + (1) := ⟨_, rfl⟩
                  have tn32 : n32.toInt = s2_50.toInt + (1 : Int) := q3_add en32 rfl (by decide) (by omega) (by omega)
                  refine lv_iinc (v := n32) (lv' := [(2, .int n32), (0, .ref y), (1, .int x_q)]) hx hb dX10_isSound_139 hl (k := 0) rfl (by rw [en32]; rfl) (by decide) rfl (fun ls hl => ?_)
                  refine lv_goto (tgt := 50) hx hb dX10_isSound_142 (by decide) ?_
                  exact ih_50 n32 (show 0 ≤ n32.toInt by omega) (show n32.toInt ≤ 14 by omega) (show 15 - n32.toInt < _ by omega) _ _ _ hP hD hS hl
        exact lp50 (Int.toNat (15 - (0 : Int)) + 1) (0) (show 0 ≤ (0 : Int) by omega) (show (0 : Int) ≤ 14 by omega) (show 15 - (0 : Int) < ((Int.toNat (15 - (0 : Int)) + 1 : Nat) : Int) by omega) _ _ _ hP hD hS hl
      · have g1 : ¬ v_options.toInt ≤ s2_2.toInt := (not_congr (q3_le rfl rfl)).mp g1
        refine lv_iload_n hx hb dX10_isSound_10 rfl (lv_at hl 2 rfl) ?_
        refine lv_iload_n hx hb dX10_isSound_11 rfl (lv_at hl 0 rfl) ?_
        refine q3_ci (va_runS (As := [.int x_q, .int s2_2]) (rest := []) ⟨hx, hb, hml, hown, hts⟩ (y3_has l D c H.size y a v_tapeSize v_thrown v_fault v_faultPlace v_things v_options v_lists v_sentences v_headings v_words v_factBits v_known v_soundMany v_wholeLength v_next v_end v_rThings v_rOptions v_rLists v_rSentences v_rHeadings v_lastName v_inSentence v_open v_written v_named v_sorted f_tape f_kind f_owner f_from f_size f_means f_signs f_oKind f_oIn f_oList f_oWords f_oFacts f_listIn f_sOwner f_hFacts f_weights f_lengths f_values f_rKind f_rOwner f_rFrom f_rSize f_rMeans f_rOKind f_rOIn f_rOList f_rOFacts f_rListIn f_rSOwner f_rHFacts f_rWeights f_opKind f_opFrom f_opWord f_opOwner f_opList f_opItems f_out f_ranks x_q s2_2) (va_cwS 2 hts gX10_isSound_X10_has rfl rfl rfl (by decide +kernel) ⟨Nat.le_of_ble_eq_true rfl, Nat.le_of_ble_eq_true rfl⟩) (q3_preS (c := c) hP hK hD) rfl rfl hl.1 rfl (lv_room (Nat.le_of_ble_eq_true rfl)) dX10_isSound_12 ⟨Nat.le_of_ble_eq_true rfl, Nat.le_of_ble_eq_true rfl⟩) hD hS hA (fun n33 un33 H locs pn33 hP hD hS => ?_)
        have pn33 : (n33.toInt = 0 ∨ n33.toInt = 1) ∧ True := pn33
        obtain ⟨pn33_0, -⟩ := pn33
        have hP : va_P D vwCl (wM c y a v_tapeSize v_thrown v_fault v_faultPlace v_things v_options v_lists v_sentences v_headings v_words v_factBits v_known v_soundMany v_wholeLength v_next v_end v_rThings v_rOptions v_rLists v_rSentences v_rHeadings v_lastName v_inSentence v_open v_written v_named v_sorted f_tape f_kind f_owner f_from f_size f_means f_signs f_oKind f_oIn f_oList f_oWords f_oFacts f_listIn f_sOwner f_hFacts f_weights f_lengths f_values f_rKind f_rOwner f_rFrom f_rSize f_rMeans f_rOKind f_rOIn f_rOList f_rOFacts f_rListIn f_rSOwner f_rHFacts f_rWeights f_opKind f_opFrom f_opWord f_opOwner f_opList f_opItems f_out f_ranks) H := hP
        have hD : va_D A (wM c y a v_tapeSize v_thrown v_fault v_faultPlace v_things v_options v_lists v_sentences v_headings v_words v_factBits v_known v_soundMany v_wholeLength v_next v_end v_rThings v_rOptions v_rLists v_rSentences v_rHeadings v_lastName v_inSentence v_open v_written v_named v_sorted f_tape f_kind f_owner f_from f_size f_means f_signs f_oKind f_oIn f_oList f_oWords f_oFacts f_listIn f_sOwner f_hFacts f_weights f_lengths f_values f_rKind f_rOwner f_rFrom f_rSize f_rMeans f_rOKind f_rOIn f_rOList f_rOFacts f_rListIn f_rSOwner f_rHFacts f_rWeights f_opKind f_opFrom f_opWord f_opOwner f_opList f_opItems f_out f_ranks) := hD
        refine lv_if_eq (tgt := 42) hx hb dX10_isSound_15 (by decide) (fun g34 => ?_) (fun g34 => ?_)
        · have g34 : n33.toInt = (0 : Int) := (q3_eq rfl (by decide)).mp g34
          obtain ⟨n35, en35⟩ : ∃ z : Int32, z = s2_2 + (1) := ⟨_, rfl⟩
          have tn35 : n35.toInt = s2_2.toInt + (1 : Int) := q3_add en35 rfl (by decide) (by omega) (by omega)
          refine lv_iinc (v := n35) (lv' := [(2, .int n35), (0, .ref y), (1, .int x_q)]) hx hb dX10_isSound_42 hl (k := 0) rfl (by rw [en35]; rfl) (by decide) rfl (fun ls hl => ?_)
          refine lv_goto (tgt := 2) hx hb dX10_isSound_45 (by decide) ?_
          exact ih_2 n35 (show 0 ≤ n35.toInt by omega) (show n35.toInt ≤ 14 by omega) (show 15 - n35.toInt < _ by omega) _ _ _ hP hD hS hl
        · have g34 : ¬ n33.toInt = (0 : Int) := (not_congr (q3_eq rfl (by decide))).mp g34
          refine lv_aload_n hx hb dX10_isSound_18 rfl (lv_at hl 1 rfl) ?_
          refine va_get (D := D) (ci := 10) (v := .ref (a 8)) (C := RX10) (T := TX10) (N := 66) hx hb hts iX10 hown hK hP 0 rfl rfl 14 (by decide) (hts (.fieldLink RX10 38 "ShortTellerModel" "oIn" "[I") (List.mem_of_getElem? (i := 2) rfl)) (fun _ h9 => h9) rfl dX10_isSound_19 ?_
          refine lv_iload_n hx hb dX10_isSound_22 rfl (lv_at hl 0 rfl) ?_
          refine q3_iald (c := c) hx hb hK hP 9 rfl (q2_in (by omega) (by omega)) dX10_isSound_23 (fun n36 en36 => ?_)
          have tn36 : n36.toInt = (f_oIn s2_2.toNatClampNeg).toInt := by rw [en36]
          refine lv_if_lt (tgt := 42) hx hb dX10_isSound_24 (by decide) (fun g37 => ?_) (fun g37 => ?_)
          · have g37 : n36.toInt < (0 : Int) := (q3_lt rfl (by decide)).mp g37
            obtain ⟨n38, en38⟩ : ∃ z : Int32, z = s2_2 + (1) := ⟨_, rfl⟩
            have tn38 : n38.toInt = s2_2.toInt + (1 : Int) := q3_add en38 rfl (by decide) (by omega) (by omega)
            refine lv_iinc (v := n38) (lv' := [(2, .int n38), (0, .ref y), (1, .int x_q)]) hx hb dX10_isSound_42 hl (k := 0) rfl (by rw [en38]; rfl) (by decide) rfl (fun ls hl => ?_)
            refine lv_goto (tgt := 2) hx hb dX10_isSound_45 (by decide) ?_
            exact ih_2 n38 (show 0 ≤ n38.toInt by omega) (show n38.toInt ≤ 14 by omega) (show 15 - n38.toInt < _ by omega) _ _ _ hP hD hS hl
          · have g37 : ¬ n36.toInt < (0 : Int) := (not_congr (q3_lt rfl (by decide))).mp g37
            refine lv_iload_n hx hb dX10_isSound_27 rfl (lv_at hl 2 rfl) ?_
            refine lv_aload_n hx hb dX10_isSound_28 rfl (lv_at hl 1 rfl) ?_
            refine va_get (D := D) (ci := 10) (v := .ref (a 8)) (C := RX10) (T := TX10) (N := 66) hx hb hts iX10 hown hK hP 0 rfl rfl 14 (by decide) (hts (.fieldLink RX10 38 "ShortTellerModel" "oIn" "[I") (List.mem_of_getElem? (i := 2) rfl)) (fun _ h9 => h9) rfl dX10_isSound_29 ?_
            refine lv_iload_n hx hb dX10_isSound_32 rfl (lv_at hl 0 rfl) ?_
            refine q3_iald (c := c) hx hb hK hP 9 rfl (q2_in (by omega) (by omega)) dX10_isSound_33 (fun n39 en39 => ?_)
            have tn39 : n39.toInt = (f_oIn s2_2.toNatClampNeg).toInt := by rw [en39]
            refine q3_ci (va_runS (As := [.int x_q, .int n39]) (rest := []) ⟨hx, hb, hml, hown, hts⟩ (y3_has l D c H.size y a v_tapeSize v_thrown v_fault v_faultPlace v_things v_options v_lists v_sentences v_headings v_words v_factBits v_known v_soundMany v_wholeLength v_next v_end v_rThings v_rOptions v_rLists v_rSentences v_rHeadings v_lastName v_inSentence v_open v_written v_named v_sorted f_tape f_kind f_owner f_from f_size f_means f_signs f_oKind f_oIn f_oList f_oWords f_oFacts f_listIn f_sOwner f_hFacts f_weights f_lengths f_values f_rKind f_rOwner f_rFrom f_rSize f_rMeans f_rOKind f_rOIn f_rOList f_rOFacts f_rListIn f_rSOwner f_rHFacts f_rWeights f_opKind f_opFrom f_opWord f_opOwner f_opList f_opItems f_out f_ranks x_q n39) (va_cwS 2 hts gX10_isSound_X10_has rfl rfl rfl (by decide +kernel) ⟨Nat.le_of_ble_eq_true rfl, Nat.le_of_ble_eq_true rfl⟩) (q3_preS (c := c) hP hK hD) rfl rfl hl.1 rfl (lv_room (Nat.le_of_ble_eq_true rfl)) dX10_isSound_34 ⟨Nat.le_of_ble_eq_true rfl, Nat.le_of_ble_eq_true rfl⟩) hD hS hA (fun n40 un40 H locs pn40 hP hD hS => ?_)
            have pn40 : (n40.toInt = 0 ∨ n40.toInt = 1) ∧ True := pn40
            obtain ⟨pn40_0, -⟩ := pn40
            have hP : va_P D vwCl (wM c y a v_tapeSize v_thrown v_fault v_faultPlace v_things v_options v_lists v_sentences v_headings v_words v_factBits v_known v_soundMany v_wholeLength v_next v_end v_rThings v_rOptions v_rLists v_rSentences v_rHeadings v_lastName v_inSentence v_open v_written v_named v_sorted f_tape f_kind f_owner f_from f_size f_means f_signs f_oKind f_oIn f_oList f_oWords f_oFacts f_listIn f_sOwner f_hFacts f_weights f_lengths f_values f_rKind f_rOwner f_rFrom f_rSize f_rMeans f_rOKind f_rOIn f_rOList f_rOFacts f_rListIn f_rSOwner f_rHFacts f_rWeights f_opKind f_opFrom f_opWord f_opOwner f_opList f_opItems f_out f_ranks) H := hP
            have hD : va_D A (wM c y a v_tapeSize v_thrown v_fault v_faultPlace v_things v_options v_lists v_sentences v_headings v_words v_factBits v_known v_soundMany v_wholeLength v_next v_end v_rThings v_rOptions v_rLists v_rSentences v_rHeadings v_lastName v_inSentence v_open v_written v_named v_sorted f_tape f_kind f_owner f_from f_size f_means f_signs f_oKind f_oIn f_oList f_oWords f_oFacts f_listIn f_sOwner f_hFacts f_weights f_lengths f_values f_rKind f_rOwner f_rFrom f_rSize f_rMeans f_rOKind f_rOIn f_rOList f_rOFacts f_rListIn f_rSOwner f_rHFacts f_rWeights f_opKind f_opFrom f_opWord f_opOwner f_opList f_opItems f_out f_ranks) := hD
            refine lv_if_ne (tgt := 42) hx hb dX10_isSound_37 (by decide) (fun g41 => ?_) (fun g41 => ?_)
            · have g41 : ¬ n40.toInt = (0 : Int) := (not_congr (q3_eq rfl (by decide))).mp g41
              obtain ⟨n42, en42⟩ : ∃ z : Int32, z = s2_2 + (1) := ⟨_, rfl⟩
              have tn42 : n42.toInt = s2_2.toInt + (1 : Int) := q3_add en42 rfl (by decide) (by omega) (by omega)
              refine lv_iinc (v := n42) (lv' := [(2, .int n42), (0, .ref y), (1, .int x_q)]) hx hb dX10_isSound_42 hl (k := 0) rfl (by rw [en42]; rfl) (by decide) rfl (fun ls hl => ?_)
              refine lv_goto (tgt := 2) hx hb dX10_isSound_45 (by decide) ?_
              exact ih_2 n42 (show 0 ≤ n42.toInt by omega) (show n42.toInt ≤ 14 by omega) (show 15 - n42.toInt < _ by omega) _ _ _ hP hD hS hl
            · have g41 : n40.toInt = (0 : Int) := (q3_eq rfl (by decide)).mp g41
              refine lv_iconst (v := 0) hx hb dX10_isSound_40 (by decide) ?_
              exact hret (0) (q2_u [] [] []) _ _ _ _ ⟨(show (0 : Int) = 0 ∨ (0 : Int) = 1 by omega), trivial⟩ dX10_isSound_41 hP hD hS
  exact lp2 (Int.toNat (15 - (0 : Int)) + 1) (0) (show 0 ≤ (0 : Int) by omega) (show (0 : Int) ≤ 14 by omega) (show 15 - (0 : Int) < ((Int.toNat (15 - (0 : Int)) + 1 : Nat) : Int) by omega) _ _ _ hP hD hS hl
set_option maxHeartbeats 4000000 in
set_option maxRecDepth 100000 in
theorem y3_stays (l : Launch) (D : va_G) (c : Nat → ClassId) (sz : Nat) (y : Nat) (a : Nat → Nat) (v_tapeSize v_thrown v_fault v_faultPlace v_things v_options v_lists v_sentences v_headings v_words v_factBits v_known v_soundMany v_wholeLength v_next v_end v_rThings v_rOptions v_rLists v_rSentences v_rHeadings v_lastName v_inSentence v_open v_written v_named v_sorted : Int32) (f_tape f_kind f_owner f_from f_size f_means f_signs f_oKind f_oIn f_oList f_oWords f_oFacts f_listIn f_sOwner f_hFacts f_weights f_lengths f_values f_rKind f_rOwner f_rFrom f_rSize f_rMeans f_rOKind f_rOIn f_rOList f_rOFacts f_rListIn f_rSOwner f_rHFacts f_rWeights f_opKind f_opFrom f_opWord f_opOwner f_opList f_opItems f_out f_ranks : Nat → Int32) (x_q : Int32) (x_s : Int32) (h0 : 0 ≤ v_sentences.toInt) (h1 : v_sentences.toInt ≤ 414) (h2 : 0 ≤ x_s.toInt) (h3 : x_s.toInt < 420) : Met l yX10_stays wsX10_stays ({ frames := 1, cells := 0, slots := 0, locals := 21 }) (q3_P D c (wM c y a v_tapeSize v_thrown v_fault v_faultPlace v_things v_options v_lists v_sentences v_headings v_words v_factBits v_known v_soundMany v_wholeLength v_next v_end v_rThings v_rOptions v_rLists v_rSentences v_rHeadings v_lastName v_inSentence v_open v_written v_named v_sorted f_tape f_kind f_owner f_from f_size f_means f_signs f_oKind f_oIn f_oList f_oWords f_oFacts f_listIn f_sOwner f_hFacts f_weights f_lengths f_values f_rKind f_rOwner f_rFrom f_rSize f_rMeans f_rOKind f_rOIn f_rOList f_rOFacts f_rListIn f_rSOwner f_rHFacts f_rWeights f_opKind f_opFrom f_opWord f_opOwner f_opList f_opItems f_out f_ranks) sz [.ref y, .int x_q, .int x_s]) (q2_i D (wM c y a v_tapeSize v_thrown v_fault v_faultPlace v_things v_options v_lists v_sentences v_headings v_words v_factBits v_known v_soundMany v_wholeLength v_next v_end v_rThings v_rOptions v_rLists v_rSentences v_rHeadings v_lastName v_inSentence v_open v_written v_named v_sorted f_tape f_kind f_owner f_from f_size f_means f_signs f_oKind f_oIn f_oList f_oWords f_oFacts f_listIn f_sOwner f_hFacts f_weights f_lengths f_values f_rKind f_rOwner f_rFrom f_rSize f_rMeans f_rOKind f_rOIn f_rOList f_rOFacts f_rListIn f_rSOwner f_rHFacts f_rWeights f_opKind f_opFrom f_opWord f_opOwner f_opList f_opItems f_out f_ranks) sz (fun r u => (r.toInt = 0 ∨ r.toInt = 1) ∧ True) (fun u => wM c y a v_tapeSize v_thrown v_fault v_faultPlace v_things v_options v_lists v_sentences v_headings v_words v_factBits v_known v_soundMany v_wholeLength v_next v_end v_rThings v_rOptions v_rLists v_rSentences v_rHeadings v_lastName v_inSentence v_open v_written v_named v_sorted f_tape f_kind f_owner f_from f_size f_means f_signs f_oKind f_oIn f_oList f_oWords f_oFacts f_listIn f_sOwner f_hFacts f_weights f_lengths f_values f_rKind f_rOwner f_rFrom f_rSize f_rMeans f_rOKind f_rOIn f_rOList f_rOFacts f_rListIn f_rSOwner f_rHFacts f_rWeights f_opKind f_opFrom f_opWord f_opOwner f_opList f_opItems f_out f_ranks)) (0) (0) (va_A (wM c y a v_tapeSize v_thrown v_fault v_faultPlace v_things v_options v_lists v_sentences v_headings v_words v_factBits v_known v_soundMany v_wholeLength v_next v_end v_rThings v_rOptions v_rLists v_rSentences v_rHeadings v_lastName v_inSentence v_open v_written v_named v_sorted f_tape f_kind f_owner f_from f_size f_means f_signs f_oKind f_oIn f_oList f_oWords f_oFacts f_listIn f_sOwner f_hFacts f_weights f_lengths f_values f_rKind f_rOwner f_rFrom f_rSize f_rMeans f_rOKind f_rOIn f_rOList f_rOFacts f_rListIn f_rSOwner f_rHFacts f_rWeights f_opKind f_opFrom f_opWord f_opOwner f_opList f_opItems f_out f_ranks) sz) := by
  refine q3_of_i (ty := .boolean) (fun r u h => q3_nb h.1) (cc := cX10_stays) (maxL := 4) (by decide) rfl (Nat.le_of_ble_eq_true rfl) (fun p e s m args below meth cd A Q ls hx hb hml hown hts hA hS hP hD hK hl hret => ?_)
  have hown : s.vm.findClass RX10 = some m.cls := hown
  obtain ⟨H, eH⟩ : ∃ z, z = s.heap := ⟨_, rfl⟩
  have hP : va_P D vwCl (wM c y a v_tapeSize v_thrown v_fault v_faultPlace v_things v_options v_lists v_sentences v_headings v_words v_factBits v_known v_soundMany v_wholeLength v_next v_end v_rThings v_rOptions v_rLists v_rSentences v_rHeadings v_lastName v_inSentence v_open v_written v_named v_sorted f_tape f_kind f_owner f_from f_size f_means f_signs f_oKind f_oIn f_oList f_oWords f_oFacts f_listIn f_sOwner f_hFacts f_weights f_lengths f_values f_rKind f_rOwner f_rFrom f_rSize f_rMeans f_rOKind f_rOIn f_rOList f_rOFacts f_rListIn f_rSOwner f_rHFacts f_rWeights f_opKind f_opFrom f_opWord f_opOwner f_opList f_opItems f_out f_ranks) H := by rw [eH]; exact hP
  have hS : va_S A s.heap H [] := by rw [eH]; exact hS
  rw [← eH]
  have iX10 : ∀ w ∈ wsX100, w ∈ wsX10_stays := fun w h => List.mem_cons_of_mem _ (List.mem_append_right _ h)
  have hl : lv_has ls 4 [(0, .ref y), (1, .int x_q), (2, .int x_s)] := hl
  refine lv_aload_n hx hb dX10_stays_0 rfl (lv_at hl 0 rfl) ?_
  refine va_get (D := D) (ci := 10) (v := .ref (a 13)) (C := RX10) (T := TX10) (N := 66) hx hb hts iX10 hown hK hP 0 rfl rfl 21 (by decide) (hts (.fieldLink RX10 53 "ShortTellerModel" "sOwner" "[I") (List.mem_of_getElem? (i := 1) rfl)) (fun _ h9 => h9) rfl dX10_stays_1 ?_
  refine lv_iload_n hx hb dX10_stays_4 rfl (lv_at hl 2 rfl) ?_
  refine q3_iald (c := c) hx hb hK hP 14 rfl (q2_in (by omega) (by omega)) dX10_stays_5 (fun n1 en1 => ?_)
  have tn1 : n1.toInt = (f_sOwner x_s.toNatClampNeg).toInt := by rw [en1]
  refine lv_if_lt (tgt := 20) hx hb dX10_stays_6 (by decide) (fun g2 => ?_) (fun g2 => ?_)
  · have g2 : n1.toInt < (0 : Int) := (q3_lt rfl (by decide)).mp g2
    refine lv_iload_n hx hb dX10_stays_20 rfl (lv_at hl 2 rfl) ?_
    refine lv_iconst (v := 1) hx hb dX10_stays_21 (by decide) ?_
    refine lv_iadd hx hb dX10_stays_22 ?_
    refine lv_topi (fun n3 en3 => ?_)
    have tn3 : n3.toInt = x_s.toInt + (1 : Int) := q3_add en3 rfl (by decide) (by omega) (by omega)
    refine lv_istore_n (lv' := [(3, .int n3), (0, .ref y), (1, .int x_q), (2, .int x_s)]) hx hb dX10_stays_23 rfl hl (by decide) rfl (fun ls hl => ?_)
    have lp24 : ∀ (k : Nat) (s3_24 : Int32), (0 ≤ s3_24.toInt) → (s3_24.toInt ≤ 421) → 421 - s3_24.toInt < (k : Int) → ∀ (H : Heap) (locs : List Loc) (ls : Array Slot), va_P D vwCl (wM c y a v_tapeSize v_thrown v_fault v_faultPlace v_things v_options v_lists v_sentences v_headings v_words v_factBits v_known v_soundMany v_wholeLength v_next v_end v_rThings v_rOptions v_rLists v_rSentences v_rHeadings v_lastName v_inSentence v_open v_written v_named v_sorted f_tape f_kind f_owner f_from f_size f_means f_signs f_oKind f_oIn f_oList f_oWords f_oFacts f_listIn f_sOwner f_hFacts f_weights f_lengths f_values f_rKind f_rOwner f_rFrom f_rSize f_rMeans f_rOKind f_rOIn f_rOList f_rOFacts f_rListIn f_rSOwner f_rHFacts f_rWeights f_opKind f_opFrom f_opWord f_opOwner f_opList f_opItems f_out f_ranks) H → va_D A (wM c y a v_tapeSize v_thrown v_fault v_faultPlace v_things v_options v_lists v_sentences v_headings v_words v_factBits v_known v_soundMany v_wholeLength v_next v_end v_rThings v_rOptions v_rLists v_rSentences v_rHeadings v_lastName v_inSentence v_open v_written v_named v_sorted f_tape f_kind f_owner f_from f_size f_means f_signs f_oKind f_oIn f_oList f_oWords f_oFacts f_listIn f_sOwner f_hFacts f_weights f_lengths f_values f_rKind f_rOwner f_rFrom f_rSize f_rMeans f_rOKind f_rOIn f_rOList f_rOFacts f_rListIn f_rSOwner f_rHFacts f_rWeights f_opKind f_opFrom f_opWord f_opOwner f_opList f_opItems f_out f_ranks) → va_S A s.heap H locs → lv_has ls 4 [(3, .int s3_24), (0, .ref y), (1, .int x_q), (2, .int x_s)] → W p l e ({ frames := 1, cells := 0, slots := 0, locals := 21 }) s m args below meth cd H locs 0 0 Q (F0 m 24 ls []) := by
      intro k
      induction k with
      | zero => intro s3_24 j0_24 j1_24 hm; exfalso; omega
      | succ k ih_24 =>
        intro s3_24 j0_24 j1_24 hm_24 H locs ls hP hD hS hl
        clear tn1 g2 tn3
        refine lv_iload_n hx hb dX10_stays_24 rfl (lv_at hl 0 rfl) ?_
        refine lv_aload_n hx hb dX10_stays_25 rfl (lv_at hl 1 rfl) ?_
        refine va_get (D := D) (ci := 10) (v := .int v_sentences) (C := RX10) (T := TX10) (N := 66) hx hb hts iX10 hown hK hP 0 rfl rfl 20 (by decide) (hts (.fieldLink RX10 239 "ShortTellerModel" "sentences" "I") (List.mem_of_getElem? (i := 2) rfl)) (fun _ h9 => h9) rfl dX10_stays_26 ?_
        refine lv_icmp_ge (tgt := 62) hx hb dX10_stays_29 (by decide) (fun g4 => ?_) (fun g4 => ?_)
        · have g4 : v_sentences.toInt ≤ s3_24.toInt := (q3_le rfl rfl).mp g4
          refine lv_iconst (v := 0) hx hb dX10_stays_62 (by decide) ?_
          exact hret (0) (q2_u [] [] []) _ _ _ _ ⟨(show (0 : Int) = 0 ∨ (0 : Int) = 1 by omega), trivial⟩ dX10_stays_63 hP hD hS
        · have g4 : ¬ v_sentences.toInt ≤ s3_24.toInt := (not_congr (q3_le rfl rfl)).mp g4
          refine lv_aload_n hx hb dX10_stays_32 rfl (lv_at hl 1 rfl) ?_
          refine va_get (D := D) (ci := 10) (v := .ref (a 13)) (C := RX10) (T := TX10) (N := 66) hx hb hts iX10 hown hK hP 0 rfl rfl 21 (by decide) (hts (.fieldLink RX10 53 "ShortTellerModel" "sOwner" "[I") (List.mem_of_getElem? (i := 1) rfl)) (fun _ h9 => h9) rfl dX10_stays_33 ?_
          refine lv_iload_n hx hb dX10_stays_36 rfl (lv_at hl 0 rfl) ?_
          refine q3_iald (c := c) hx hb hK hP 14 rfl (q2_in (by omega) (by omega)) dX10_stays_37 (fun n5 en5 => ?_)
          have tn5 : n5.toInt = (f_sOwner s3_24.toNatClampNeg).toInt := by rw [en5]
          refine lv_if_lt (tgt := 62) hx hb dX10_stays_38 (by decide) (fun g6 => ?_) (fun g6 => ?_)
          · have g6 : n5.toInt < (0 : Int) := (q3_lt rfl (by decide)).mp g6
            refine lv_iconst (v := 0) hx hb dX10_stays_62 (by decide) ?_
            exact hret (0) (q2_u [] [] []) _ _ _ _ ⟨(show (0 : Int) = 0 ∨ (0 : Int) = 1 by omega), trivial⟩ dX10_stays_63 hP hD hS
          · have g6 : ¬ n5.toInt < (0 : Int) := (not_congr (q3_lt rfl (by decide))).mp g6
            refine lv_iload_n hx hb dX10_stays_41 rfl (lv_at hl 2 rfl) ?_
            refine lv_aload_n hx hb dX10_stays_42 rfl (lv_at hl 1 rfl) ?_
            refine va_get (D := D) (ci := 10) (v := .ref (a 13)) (C := RX10) (T := TX10) (N := 66) hx hb hts iX10 hown hK hP 0 rfl rfl 21 (by decide) (hts (.fieldLink RX10 53 "ShortTellerModel" "sOwner" "[I") (List.mem_of_getElem? (i := 1) rfl)) (fun _ h9 => h9) rfl dX10_stays_43 ?_
            refine lv_iload_n hx hb dX10_stays_46 rfl (lv_at hl 0 rfl) ?_
            refine q3_iald (c := c) hx hb hK hP 14 rfl (q2_in (by omega) (by omega)) dX10_stays_47 (fun n7 en7 => ?_)
            have tn7 : n7.toInt = (f_sOwner s3_24.toNatClampNeg).toInt := by rw [en7]
            refine q3_ci (va_runS (As := [.int x_q, .int n7]) (rest := []) ⟨hx, hb, hml, hown, hts⟩ (y3_has l D c H.size y a v_tapeSize v_thrown v_fault v_faultPlace v_things v_options v_lists v_sentences v_headings v_words v_factBits v_known v_soundMany v_wholeLength v_next v_end v_rThings v_rOptions v_rLists v_rSentences v_rHeadings v_lastName v_inSentence v_open v_written v_named v_sorted f_tape f_kind f_owner f_from f_size f_means f_signs f_oKind f_oIn f_oList f_oWords f_oFacts f_listIn f_sOwner f_hFacts f_weights f_lengths f_values f_rKind f_rOwner f_rFrom f_rSize f_rMeans f_rOKind f_rOIn f_rOList f_rOFacts f_rListIn f_rSOwner f_rHFacts f_rWeights f_opKind f_opFrom f_opWord f_opOwner f_opList f_opItems f_out f_ranks x_q n7) (va_cwS 2 hts gX10_stays_X10_has rfl rfl rfl (by decide +kernel) ⟨Nat.le_of_ble_eq_true rfl, Nat.le_of_ble_eq_true rfl⟩) (q3_preS (c := c) hP hK hD) rfl rfl hl.1 rfl (lv_room (Nat.le_of_ble_eq_true rfl)) dX10_stays_48 ⟨Nat.le_of_ble_eq_true rfl, Nat.le_of_ble_eq_true rfl⟩) hD hS hA (fun n8 un8 H locs pn8 hP hD hS => ?_)
            have pn8 : (n8.toInt = 0 ∨ n8.toInt = 1) ∧ True := pn8
            obtain ⟨pn8_0, -⟩ := pn8
            have hP : va_P D vwCl (wM c y a v_tapeSize v_thrown v_fault v_faultPlace v_things v_options v_lists v_sentences v_headings v_words v_factBits v_known v_soundMany v_wholeLength v_next v_end v_rThings v_rOptions v_rLists v_rSentences v_rHeadings v_lastName v_inSentence v_open v_written v_named v_sorted f_tape f_kind f_owner f_from f_size f_means f_signs f_oKind f_oIn f_oList f_oWords f_oFacts f_listIn f_sOwner f_hFacts f_weights f_lengths f_values f_rKind f_rOwner f_rFrom f_rSize f_rMeans f_rOKind f_rOIn f_rOList f_rOFacts f_rListIn f_rSOwner f_rHFacts f_rWeights f_opKind f_opFrom f_opWord f_opOwner f_opList f_opItems f_out f_ranks) H := hP
            have hD : va_D A (wM c y a v_tapeSize v_thrown v_fault v_faultPlace v_things v_options v_lists v_sentences v_headings v_words v_factBits v_known v_soundMany v_wholeLength v_next v_end v_rThings v_rOptions v_rLists v_rSentences v_rHeadings v_lastName v_inSentence v_open v_written v_named v_sorted f_tape f_kind f_owner f_from f_size f_means f_signs f_oKind f_oIn f_oList f_oWords f_oFacts f_listIn f_sOwner f_hFacts f_weights f_lengths f_values f_rKind f_rOwner f_rFrom f_rSize f_rMeans f_rOKind f_rOIn f_rOList f_rOFacts f_rListIn f_rSOwner f_rHFacts f_rWeights f_opKind f_opFrom f_opWord f_opOwner f_opList f_opItems f_out f_ranks) := hD
            refine lv_if_eq (tgt := 56) hx hb dX10_stays_51 (by decide) (fun g9 => ?_) (fun g9 => ?_)
            · have g9 : n8.toInt = (0 : Int) := (q3_eq rfl (by decide)).mp g9
              obtain ⟨n10, en10⟩ : ∃ z : Int32, z = s3_24 + (1) := ⟨_, rfl⟩
              have tn10 : n10.toInt = s3_24.toInt + (1 : Int) := q3_add en10 rfl (by decide) (by omega) (by omega)
              refine lv_iinc (v := n10) (lv' := [(3, .int n10), (0, .ref y), (1, .int x_q), (2, .int x_s)]) hx hb dX10_stays_56 hl (k := 0) rfl (by rw [en10]; rfl) (by decide) rfl (fun ls hl => ?_)
              refine lv_goto (tgt := 24) hx hb dX10_stays_59 (by decide) ?_
              exact ih_24 n10 (show 0 ≤ n10.toInt by omega) (show n10.toInt ≤ 421 by omega) (show 421 - n10.toInt < _ by omega) _ _ _ hP hD hS hl
            · have g9 : ¬ n8.toInt = (0 : Int) := (not_congr (q3_eq rfl (by decide))).mp g9
              refine lv_iconst (v := 1) hx hb dX10_stays_54 (by decide) ?_
              exact hret (1) (q2_u [] [] []) _ _ _ _ ⟨(show (1 : Int) = 0 ∨ (1 : Int) = 1 by omega), trivial⟩ dX10_stays_55 hP hD hS
    exact lp24 (Int.toNat (421 - n3.toInt) + 1) n3 (show 0 ≤ n3.toInt by omega) (show n3.toInt ≤ 421 by omega) (show 421 - n3.toInt < ((Int.toNat (421 - n3.toInt) + 1 : Nat) : Int) by omega) _ _ _ hP hD hS hl
  · have g2 : ¬ n1.toInt < (0 : Int) := (not_congr (q3_lt rfl (by decide))).mp g2
    refine lv_iload_n hx hb dX10_stays_9 rfl (lv_at hl 1 rfl) ?_
    refine lv_aload_n hx hb dX10_stays_10 rfl (lv_at hl 0 rfl) ?_
    refine va_get (D := D) (ci := 10) (v := .ref (a 13)) (C := RX10) (T := TX10) (N := 66) hx hb hts iX10 hown hK hP 0 rfl rfl 21 (by decide) (hts (.fieldLink RX10 53 "ShortTellerModel" "sOwner" "[I") (List.mem_of_getElem? (i := 1) rfl)) (fun _ h9 => h9) rfl dX10_stays_11 ?_
    refine lv_iload_n hx hb dX10_stays_14 rfl (lv_at hl 2 rfl) ?_
    refine q3_iald (c := c) hx hb hK hP 14 rfl (q2_in (by omega) (by omega)) dX10_stays_15 (fun n11 en11 => ?_)
    have tn11 : n11.toInt = (f_sOwner x_s.toNatClampNeg).toInt := by rw [en11]
    refine q3_ci (va_runS (As := [.int x_q, .int n11]) (rest := []) ⟨hx, hb, hml, hown, hts⟩ (y3_has l D c H.size y a v_tapeSize v_thrown v_fault v_faultPlace v_things v_options v_lists v_sentences v_headings v_words v_factBits v_known v_soundMany v_wholeLength v_next v_end v_rThings v_rOptions v_rLists v_rSentences v_rHeadings v_lastName v_inSentence v_open v_written v_named v_sorted f_tape f_kind f_owner f_from f_size f_means f_signs f_oKind f_oIn f_oList f_oWords f_oFacts f_listIn f_sOwner f_hFacts f_weights f_lengths f_values f_rKind f_rOwner f_rFrom f_rSize f_rMeans f_rOKind f_rOIn f_rOList f_rOFacts f_rListIn f_rSOwner f_rHFacts f_rWeights f_opKind f_opFrom f_opWord f_opOwner f_opList f_opItems f_out f_ranks x_q n11) (va_cwS 2 hts gX10_stays_X10_has rfl rfl rfl (by decide +kernel) ⟨Nat.le_of_ble_eq_true rfl, Nat.le_of_ble_eq_true rfl⟩) (q3_preS (c := c) hP hK hD) rfl rfl hl.1 rfl (lv_room (Nat.le_of_ble_eq_true rfl)) dX10_stays_16 ⟨Nat.le_of_ble_eq_true rfl, Nat.le_of_ble_eq_true rfl⟩) hD hS hA (fun n12 un12 H locs pn12 hP hD hS => ?_)
    have pn12 : (n12.toInt = 0 ∨ n12.toInt = 1) ∧ True := pn12
    obtain ⟨pn12_0, -⟩ := pn12
    have hP : va_P D vwCl (wM c y a v_tapeSize v_thrown v_fault v_faultPlace v_things v_options v_lists v_sentences v_headings v_words v_factBits v_known v_soundMany v_wholeLength v_next v_end v_rThings v_rOptions v_rLists v_rSentences v_rHeadings v_lastName v_inSentence v_open v_written v_named v_sorted f_tape f_kind f_owner f_from f_size f_means f_signs f_oKind f_oIn f_oList f_oWords f_oFacts f_listIn f_sOwner f_hFacts f_weights f_lengths f_values f_rKind f_rOwner f_rFrom f_rSize f_rMeans f_rOKind f_rOIn f_rOList f_rOFacts f_rListIn f_rSOwner f_rHFacts f_rWeights f_opKind f_opFrom f_opWord f_opOwner f_opList f_opItems f_out f_ranks) H := hP
    have hD : va_D A (wM c y a v_tapeSize v_thrown v_fault v_faultPlace v_things v_options v_lists v_sentences v_headings v_words v_factBits v_known v_soundMany v_wholeLength v_next v_end v_rThings v_rOptions v_rLists v_rSentences v_rHeadings v_lastName v_inSentence v_open v_written v_named v_sorted f_tape f_kind f_owner f_from f_size f_means f_signs f_oKind f_oIn f_oList f_oWords f_oFacts f_listIn f_sOwner f_hFacts f_weights f_lengths f_values f_rKind f_rOwner f_rFrom f_rSize f_rMeans f_rOKind f_rOIn f_rOList f_rOFacts f_rListIn f_rSOwner f_rHFacts f_rWeights f_opKind f_opFrom f_opWord f_opOwner f_opList f_opItems f_out f_ranks) := hD
    exact hret (n12) (q2_u [] [] []) _ _ _ _ ⟨pn12_0, trivial⟩ dX10_stays_19 hP hD hS
set_option maxHeartbeats 4000000 in
set_option maxRecDepth 100000 in
theorem y3_write (l : Launch) (D : va_G) (c : Nat → ClassId) (sz : Nat) (y : Nat) (a : Nat → Nat) (v_tapeSize v_thrown v_fault v_faultPlace v_things v_options v_lists v_sentences v_headings v_words v_factBits v_known v_soundMany v_wholeLength v_next v_end v_rThings v_rOptions v_rLists v_rSentences v_rHeadings v_lastName v_inSentence v_open v_written v_named v_sorted : Int32) (f_tape f_kind f_owner f_from f_size f_means f_signs f_oKind f_oIn f_oList f_oWords f_oFacts f_listIn f_sOwner f_hFacts f_weights f_lengths f_values f_rKind f_rOwner f_rFrom f_rSize f_rMeans f_rOKind f_rOIn f_rOList f_rOFacts f_rListIn f_rSOwner f_rHFacts f_rWeights f_opKind f_opFrom f_opWord f_opOwner f_opList f_opItems f_out f_ranks : Nat → Int32) (x_at : Int32) (x_n : Int32) (h0 : 0 ≤ x_at.toInt) (h1 : 0 ≤ x_n.toInt) (h2 : x_n.toInt ≤ 20) (h3 : x_at.toInt + x_n.toInt ≤ 800) (h4 : 0 ≤ v_written.toInt) (h5 : v_written.toInt + x_n.toInt ≤ 10000) : Met l yX10_write wsX10_write ({ frames := 0, cells := 0, slots := 0, locals := 0 }) (q3_P D c (wM c y a v_tapeSize v_thrown v_fault v_faultPlace v_things v_options v_lists v_sentences v_headings v_words v_factBits v_known v_soundMany v_wholeLength v_next v_end v_rThings v_rOptions v_rLists v_rSentences v_rHeadings v_lastName v_inSentence v_open v_written v_named v_sorted f_tape f_kind f_owner f_from f_size f_means f_signs f_oKind f_oIn f_oList f_oWords f_oFacts f_listIn f_sOwner f_hFacts f_weights f_lengths f_values f_rKind f_rOwner f_rFrom f_rSize f_rMeans f_rOKind f_rOIn f_rOList f_rOFacts f_rListIn f_rSOwner f_rHFacts f_rWeights f_opKind f_opFrom f_opWord f_opOwner f_opList f_opItems f_out f_ranks) sz [.ref y, .int x_at, .int x_n]) (q2_v D (wM c y a v_tapeSize v_thrown v_fault v_faultPlace v_things v_options v_lists v_sentences v_headings v_words v_factBits v_known v_soundMany v_wholeLength v_next v_end v_rThings v_rOptions v_rLists v_rSentences v_rHeadings v_lastName v_inSentence v_open v_written v_named v_sorted f_tape f_kind f_owner f_from f_size f_means f_signs f_oKind f_oIn f_oList f_oWords f_oFacts f_listIn f_sOwner f_hFacts f_weights f_lengths f_values f_rKind f_rOwner f_rFrom f_rSize f_rMeans f_rOKind f_rOIn f_rOList f_rOFacts f_rListIn f_rSOwner f_rHFacts f_rWeights f_opKind f_opFrom f_opWord f_opOwner f_opList f_opItems f_out f_ranks) sz (fun u => ((u.2.1 0).toInt = v_written.toInt + x_n.toInt) ∧ True) (fun u => wM c y a v_tapeSize v_thrown v_fault v_faultPlace v_things v_options v_lists v_sentences v_headings v_words v_factBits v_known v_soundMany v_wholeLength v_next v_end v_rThings v_rOptions v_rLists v_rSentences v_rHeadings v_lastName v_inSentence v_open (u.2.1 0) v_named v_sorted f_tape f_kind f_owner f_from f_size f_means f_signs f_oKind f_oIn f_oList f_oWords f_oFacts f_listIn f_sOwner f_hFacts f_weights f_lengths f_values f_rKind f_rOwner f_rFrom f_rSize f_rMeans f_rOKind f_rOIn f_rOList f_rOFacts f_rListIn f_rSOwner f_rHFacts f_rWeights f_opKind f_opFrom f_opWord f_opOwner f_opList f_opItems (u.2.2 0) f_ranks)) (0) (0) (va_A (wM c y a v_tapeSize v_thrown v_fault v_faultPlace v_things v_options v_lists v_sentences v_headings v_words v_factBits v_known v_soundMany v_wholeLength v_next v_end v_rThings v_rOptions v_rLists v_rSentences v_rHeadings v_lastName v_inSentence v_open v_written v_named v_sorted f_tape f_kind f_owner f_from f_size f_means f_signs f_oKind f_oIn f_oList f_oWords f_oFacts f_listIn f_sOwner f_hFacts f_weights f_lengths f_values f_rKind f_rOwner f_rFrom f_rSize f_rMeans f_rOKind f_rOIn f_rOList f_rOFacts f_rListIn f_rSOwner f_rHFacts f_rWeights f_opKind f_opFrom f_opWord f_opOwner f_opList f_opItems f_out f_ranks) sz) := by
  refine q3_of_v (cc := cX10_write) (maxL := 4) (by decide) rfl (Nat.le_of_ble_eq_true rfl) (fun p e s m args below meth cd A Q ls hx hb hml hown hts hA hS hP hD hK hl hret => ?_)
  have hown : s.vm.findClass RX10 = some m.cls := hown
  obtain ⟨H, eH⟩ : ∃ z, z = s.heap := ⟨_, rfl⟩
  have hP : va_P D vwCl (wM c y a v_tapeSize v_thrown v_fault v_faultPlace v_things v_options v_lists v_sentences v_headings v_words v_factBits v_known v_soundMany v_wholeLength v_next v_end v_rThings v_rOptions v_rLists v_rSentences v_rHeadings v_lastName v_inSentence v_open v_written v_named v_sorted f_tape f_kind f_owner f_from f_size f_means f_signs f_oKind f_oIn f_oList f_oWords f_oFacts f_listIn f_sOwner f_hFacts f_weights f_lengths f_values f_rKind f_rOwner f_rFrom f_rSize f_rMeans f_rOKind f_rOIn f_rOList f_rOFacts f_rListIn f_rSOwner f_rHFacts f_rWeights f_opKind f_opFrom f_opWord f_opOwner f_opList f_opItems f_out f_ranks) H := by rw [eH]; exact hP
  have hS : va_S A s.heap H [] := by rw [eH]; exact hS
  rw [← eH]
  have iX10 : ∀ w ∈ wsX100, w ∈ wsX10_write := fun w h => List.mem_cons_of_mem _ (List.mem_append_right _ h)
  have hl : lv_has ls 4 [(0, .ref y), (1, .int x_at), (2, .int x_n)] := hl
  refine lv_iconst (v := 0) hx hb dX10_write_0 (by decide) ?_
  refine lv_istore_n (lv' := [(3, .int 0), (0, .ref y), (1, .int x_at), (2, .int x_n)]) hx hb dX10_write_1 rfl hl (by decide) rfl (fun ls hl => ?_)
  have lp2 : ∀ (k : Nat) (s3_2 : Int32) (y_out_2 : Nat → Int32), (0 ≤ s3_2.toInt) → (s3_2.toInt ≤ 20) → 21 - s3_2.toInt < (k : Int) → ∀ (H : Heap) (locs : List Loc) (ls : Array Slot), va_P D vwCl (wM c y a v_tapeSize v_thrown v_fault v_faultPlace v_things v_options v_lists v_sentences v_headings v_words v_factBits v_known v_soundMany v_wholeLength v_next v_end v_rThings v_rOptions v_rLists v_rSentences v_rHeadings v_lastName v_inSentence v_open v_written v_named v_sorted f_tape f_kind f_owner f_from f_size f_means f_signs f_oKind f_oIn f_oList f_oWords f_oFacts f_listIn f_sOwner f_hFacts f_weights f_lengths f_values f_rKind f_rOwner f_rFrom f_rSize f_rMeans f_rOKind f_rOIn f_rOList f_rOFacts f_rListIn f_rSOwner f_rHFacts f_rWeights f_opKind f_opFrom f_opWord f_opOwner f_opList f_opItems y_out_2 f_ranks) H → va_D A (wM c y a v_tapeSize v_thrown v_fault v_faultPlace v_things v_options v_lists v_sentences v_headings v_words v_factBits v_known v_soundMany v_wholeLength v_next v_end v_rThings v_rOptions v_rLists v_rSentences v_rHeadings v_lastName v_inSentence v_open v_written v_named v_sorted f_tape f_kind f_owner f_from f_size f_means f_signs f_oKind f_oIn f_oList f_oWords f_oFacts f_listIn f_sOwner f_hFacts f_weights f_lengths f_values f_rKind f_rOwner f_rFrom f_rSize f_rMeans f_rOKind f_rOIn f_rOList f_rOFacts f_rListIn f_rSOwner f_rHFacts f_rWeights f_opKind f_opFrom f_opWord f_opOwner f_opList f_opItems y_out_2 f_ranks) → va_S A s.heap H locs → lv_has ls 4 [(3, .int s3_2), (0, .ref y), (1, .int x_at), (2, .int x_n)] → W p l e ({ frames := 0, cells := 0, slots := 0, locals := 0 }) s m args below meth cd H locs 0 0 Q (F0 m 2 ls []) := by
    intro k
    induction k with
    | zero => intro s3_2 y_out_2 j0_2 j1_2 hm; exfalso; omega
    | succ k ih_2 =>
      intro s3_2 y_out_2 j0_2 j1_2 hm_2 H locs ls hP hD hS hl
      refine lv_iload_n hx hb dX10_write_2 rfl (lv_at hl 0 rfl) ?_
      refine lv_iload_n hx hb dX10_write_3 rfl (lv_at hl 3 rfl) ?_
      refine lv_icmp_ge (tgt := 32) hx hb dX10_write_4 (by decide) (fun g1 => ?_) (fun g1 => ?_)
      · have g1 : x_n.toInt ≤ s3_2.toInt := (q3_le rfl rfl).mp g1
        refine lv_aload_n hx hb dX10_write_32 rfl (lv_at hl 1 rfl) ?_
        refine lv_dup hx hb dX10_write_33 rfl ?_
        refine va_get (D := D) (ci := 10) (v := .int v_written) (C := RX10) (T := TX10) (N := 66) hx hb hts iX10 hown hK hP 0 rfl rfl 62 (by decide) (hts (.fieldLink RX10 254 "ShortTellerModel" "written" "I") (List.mem_of_getElem? (i := 2) rfl)) (fun _ h9 => h9) rfl dX10_write_34 ?_
        refine lv_iload_n hx hb dX10_write_37 rfl (lv_at hl 3 rfl) ?_
        refine lv_iadd hx hb dX10_write_38 ?_
        refine lv_topi (fun n2 en2 => ?_)
        have tn2 : n2.toInt = v_written.toInt + x_n.toInt := q3_add en2 rfl rfl (by omega) (by omega)
        refine va_put (D := D) (ci := 10) (v := .int n2) (ty := .int) (C := RX10) (T := TX10) (N := 66) hx hb hts iX10 tyX10 tyX10_ok nmX10 hown hK hP hD hS 0 rfl rfl 62 (by decide) (hts (.fieldLink RX10 254 "ShortTellerModel" "written" "I") (List.mem_of_getElem? (i := 2) rfl)) (fun _ h9 => h9) rfl (by decide +kernel) rfl rfl (Nat.le_of_ble_eq_true rfl) dX10_write_39 (fun H locs hP hD hS => ?_)
        have hP : va_P D vwCl (wM c y a v_tapeSize v_thrown v_fault v_faultPlace v_things v_options v_lists v_sentences v_headings v_words v_factBits v_known v_soundMany v_wholeLength v_next v_end v_rThings v_rOptions v_rLists v_rSentences v_rHeadings v_lastName v_inSentence v_open n2 v_named v_sorted f_tape f_kind f_owner f_from f_size f_means f_signs f_oKind f_oIn f_oList f_oWords f_oFacts f_listIn f_sOwner f_hFacts f_weights f_lengths f_values f_rKind f_rOwner f_rFrom f_rSize f_rMeans f_rOKind f_rOIn f_rOList f_rOFacts f_rListIn f_rSOwner f_rHFacts f_rWeights f_opKind f_opFrom f_opWord f_opOwner f_opList f_opItems y_out_2 f_ranks) H := hP
        have hD : va_D A (wM c y a v_tapeSize v_thrown v_fault v_faultPlace v_things v_options v_lists v_sentences v_headings v_words v_factBits v_known v_soundMany v_wholeLength v_next v_end v_rThings v_rOptions v_rLists v_rSentences v_rHeadings v_lastName v_inSentence v_open n2 v_named v_sorted f_tape f_kind f_owner f_from f_size f_means f_signs f_oKind f_oIn f_oList f_oWords f_oFacts f_listIn f_sOwner f_hFacts f_weights f_lengths f_values f_rKind f_rOwner f_rFrom f_rSize f_rMeans f_rOKind f_rOIn f_rOList f_rOFacts f_rListIn f_rSOwner f_rHFacts f_rWeights f_opKind f_opFrom f_opWord f_opOwner f_opList f_opItems y_out_2 f_ranks) := hD
        exact hret (q2_u [] [n2] [y_out_2]) _ _ _ _ ⟨tn2, trivial⟩ dX10_write_42 hP hD hS
      · have g1 : ¬ x_n.toInt ≤ s3_2.toInt := (not_congr (q3_le rfl rfl)).mp g1
        refine lv_aload_n hx hb dX10_write_7 rfl (lv_at hl 1 rfl) ?_
        refine va_get (D := D) (ci := 10) (v := .ref (a 37)) (C := RX10) (T := TX10) (N := 66) hx hb hts iX10 hown hK hP 0 rfl rfl 61 (by decide) (hts (.fieldLink RX10 126 "ShortTellerModel" "out" "[I") (List.mem_of_getElem? (i := 1) rfl)) (fun _ h9 => h9) rfl dX10_write_8 ?_
        refine lv_aload_n hx hb dX10_write_11 rfl (lv_at hl 1 rfl) ?_
        refine va_get (D := D) (ci := 10) (v := .int v_written) (C := RX10) (T := TX10) (N := 66) hx hb hts iX10 hown hK hP 0 rfl rfl 62 (by decide) (hts (.fieldLink RX10 254 "ShortTellerModel" "written" "I") (List.mem_of_getElem? (i := 2) rfl)) (fun _ h9 => h9) rfl dX10_write_12 ?_
        refine lv_iload_n hx hb dX10_write_15 rfl (lv_at hl 0 rfl) ?_
        refine lv_iadd hx hb dX10_write_16 ?_
        refine lv_topi (fun n3 en3 => ?_)
        have tn3 : n3.toInt = v_written.toInt + s3_2.toInt := q3_add en3 rfl rfl (by omega) (by omega)
        refine lv_aload_n hx hb dX10_write_17 rfl (lv_at hl 1 rfl) ?_
        refine va_get (D := D) (ci := 10) (v := .ref (a 6)) (C := RX10) (T := TX10) (N := 66) hx hb hts iX10 hown hK hP 0 rfl rfl 11 (by decide) (hts (.fieldLink RX10 32 "ShortTellerModel" "signs" "[I") (List.mem_of_getElem? (i := 3) rfl)) (fun _ h9 => h9) rfl dX10_write_18 ?_
        refine lv_iload_n hx hb dX10_write_21 rfl (lv_at hl 2 rfl) ?_
        refine lv_iload_n hx hb dX10_write_22 rfl (lv_at hl 0 rfl) ?_
        refine lv_iadd hx hb dX10_write_23 ?_
        refine lv_topi (fun n4 en4 => ?_)
        have tn4 : n4.toInt = x_at.toInt + s3_2.toInt := q3_add en4 rfl rfl (by omega) (by omega)
        refine q3_iald (c := c) hx hb hK hP 7 rfl (q2_in (by omega) (by omega)) dX10_write_24 (fun n5 en5 => ?_)
        have tn5 : n5.toInt = (f_signs n4.toNatClampNeg).toInt := by rw [en5]
        refine q3_iast (c := c) hx hb hK hP hD hS 38 rfl (q2_in (by omega) (by omega)) dX10_write_25 (fun F6 eF6 H locs hP hD hS => ?_)
        have hP : va_P D vwCl (wM c y a v_tapeSize v_thrown v_fault v_faultPlace v_things v_options v_lists v_sentences v_headings v_words v_factBits v_known v_soundMany v_wholeLength v_next v_end v_rThings v_rOptions v_rLists v_rSentences v_rHeadings v_lastName v_inSentence v_open v_written v_named v_sorted f_tape f_kind f_owner f_from f_size f_means f_signs f_oKind f_oIn f_oList f_oWords f_oFacts f_listIn f_sOwner f_hFacts f_weights f_lengths f_values f_rKind f_rOwner f_rFrom f_rSize f_rMeans f_rOKind f_rOIn f_rOList f_rOFacts f_rListIn f_rSOwner f_rHFacts f_rWeights f_opKind f_opFrom f_opWord f_opOwner f_opList f_opItems F6 f_ranks) H := hP
        have hD : va_D A (wM c y a v_tapeSize v_thrown v_fault v_faultPlace v_things v_options v_lists v_sentences v_headings v_words v_factBits v_known v_soundMany v_wholeLength v_next v_end v_rThings v_rOptions v_rLists v_rSentences v_rHeadings v_lastName v_inSentence v_open v_written v_named v_sorted f_tape f_kind f_owner f_from f_size f_means f_signs f_oKind f_oIn f_oList f_oWords f_oFacts f_listIn f_sOwner f_hFacts f_weights f_lengths f_values f_rKind f_rOwner f_rFrom f_rSize f_rMeans f_rOKind f_rOIn f_rOList f_rOFacts f_rListIn f_rSOwner f_rHFacts f_rWeights f_opKind f_opFrom f_opWord f_opOwner f_opList f_opItems F6 f_ranks) := hD
        obtain ⟨n7, en7⟩ : ∃ z : Int32, z = s3_2 + (1) := ⟨_, rfl⟩
        have tn7 : n7.toInt = s3_2.toInt + (1 : Int) := q3_add en7 rfl (by decide) (by omega) (by omega)
        refine lv_iinc (v := n7) (lv' := [(3, .int n7), (0, .ref y), (1, .int x_at), (2, .int x_n)]) hx hb dX10_write_26 hl (k := 0) rfl (by rw [en7]; rfl) (by decide) rfl (fun ls hl => ?_)
        refine lv_goto (tgt := 2) hx hb dX10_write_29 (by decide) ?_
        exact ih_2 n7 F6 (show 0 ≤ n7.toInt by omega) (show n7.toInt ≤ 20 by omega) (show 21 - n7.toInt < _ by omega) _ _ _ hP hD hS hl
  exact lp2 (Int.toNat (21 - (0 : Int)) + 1) (0) f_out (show 0 ≤ (0 : Int) by omega) (show (0 : Int) ≤ 20 by omega) (show 21 - (0 : Int) < ((Int.toNat (21 - (0 : Int)) + 1 : Nat) : Int) by omega) _ _ _ hP hD hS hl
set_option maxHeartbeats 4000000 in
set_option maxRecDepth 100000 in
theorem y3_alike (l : Launch) (D : va_G) (c : Nat → ClassId) (sz : Nat) (y : Nat) (a : Nat → Nat) (v_tapeSize v_thrown v_fault v_faultPlace v_things v_options v_lists v_sentences v_headings v_words v_factBits v_known v_soundMany v_wholeLength v_next v_end v_rThings v_rOptions v_rLists v_rSentences v_rHeadings v_lastName v_inSentence v_open v_written v_named v_sorted : Int32) (f_tape f_kind f_owner f_from f_size f_means f_signs f_oKind f_oIn f_oList f_oWords f_oFacts f_listIn f_sOwner f_hFacts f_weights f_lengths f_values f_rKind f_rOwner f_rFrom f_rSize f_rMeans f_rOKind f_rOIn f_rOList f_rOFacts f_rListIn f_rSOwner f_rHFacts f_rWeights f_opKind f_opFrom f_opWord f_opOwner f_opList f_opItems f_out f_ranks : Nat → Int32) (x_a : Int32) (x_b : Int32) (h0 : 0 ≤ x_a.toInt) (h1 : x_a.toInt < 900) (h2 : 0 ≤ x_b.toInt) (h3 : x_b.toInt < 900) (h4 : q4_T f_kind f_owner f_from f_size f_means) : Met l yX10_alike wsX10_alike ({ frames := 0, cells := 0, slots := 0, locals := 0 }) (q3_P D c (wM c y a v_tapeSize v_thrown v_fault v_faultPlace v_things v_options v_lists v_sentences v_headings v_words v_factBits v_known v_soundMany v_wholeLength v_next v_end v_rThings v_rOptions v_rLists v_rSentences v_rHeadings v_lastName v_inSentence v_open v_written v_named v_sorted f_tape f_kind f_owner f_from f_size f_means f_signs f_oKind f_oIn f_oList f_oWords f_oFacts f_listIn f_sOwner f_hFacts f_weights f_lengths f_values f_rKind f_rOwner f_rFrom f_rSize f_rMeans f_rOKind f_rOIn f_rOList f_rOFacts f_rListIn f_rSOwner f_rHFacts f_rWeights f_opKind f_opFrom f_opWord f_opOwner f_opList f_opItems f_out f_ranks) sz [.ref y, .int x_a, .int x_b]) (q2_i D (wM c y a v_tapeSize v_thrown v_fault v_faultPlace v_things v_options v_lists v_sentences v_headings v_words v_factBits v_known v_soundMany v_wholeLength v_next v_end v_rThings v_rOptions v_rLists v_rSentences v_rHeadings v_lastName v_inSentence v_open v_written v_named v_sorted f_tape f_kind f_owner f_from f_size f_means f_signs f_oKind f_oIn f_oList f_oWords f_oFacts f_listIn f_sOwner f_hFacts f_weights f_lengths f_values f_rKind f_rOwner f_rFrom f_rSize f_rMeans f_rOKind f_rOIn f_rOList f_rOFacts f_rListIn f_rSOwner f_rHFacts f_rWeights f_opKind f_opFrom f_opWord f_opOwner f_opList f_opItems f_out f_ranks) sz (fun r u => (r.toInt = 0 ∨ r.toInt = 1) ∧ True) (fun u => wM c y a v_tapeSize v_thrown v_fault v_faultPlace v_things v_options v_lists v_sentences v_headings v_words v_factBits v_known v_soundMany v_wholeLength v_next v_end v_rThings v_rOptions v_rLists v_rSentences v_rHeadings v_lastName v_inSentence v_open v_written v_named v_sorted f_tape f_kind f_owner f_from f_size f_means f_signs f_oKind f_oIn f_oList f_oWords f_oFacts f_listIn f_sOwner f_hFacts f_weights f_lengths f_values f_rKind f_rOwner f_rFrom f_rSize f_rMeans f_rOKind f_rOIn f_rOList f_rOFacts f_rListIn f_rSOwner f_rHFacts f_rWeights f_opKind f_opFrom f_opWord f_opOwner f_opList f_opItems f_out f_ranks)) (0) (0) (va_A (wM c y a v_tapeSize v_thrown v_fault v_faultPlace v_things v_options v_lists v_sentences v_headings v_words v_factBits v_known v_soundMany v_wholeLength v_next v_end v_rThings v_rOptions v_rLists v_rSentences v_rHeadings v_lastName v_inSentence v_open v_written v_named v_sorted f_tape f_kind f_owner f_from f_size f_means f_signs f_oKind f_oIn f_oList f_oWords f_oFacts f_listIn f_sOwner f_hFacts f_weights f_lengths f_values f_rKind f_rOwner f_rFrom f_rSize f_rMeans f_rOKind f_rOIn f_rOList f_rOFacts f_rListIn f_rSOwner f_rHFacts f_rWeights f_opKind f_opFrom f_opWord f_opOwner f_opList f_opItems f_out f_ranks) sz) := by
  refine q3_of_i (ty := .boolean) (fun r u h => q3_nb h.1) (cc := cX10_alike) (maxL := 5) (by decide) rfl (Nat.le_of_ble_eq_true rfl) (fun p e s m args below meth cd A Q ls hx hb hml hown hts hA hS hP hD hK hl hret => ?_)
  have hown : s.vm.findClass RX10 = some m.cls := hown
  obtain ⟨H, eH⟩ : ∃ z, z = s.heap := ⟨_, rfl⟩
  have hP : va_P D vwCl (wM c y a v_tapeSize v_thrown v_fault v_faultPlace v_things v_options v_lists v_sentences v_headings v_words v_factBits v_known v_soundMany v_wholeLength v_next v_end v_rThings v_rOptions v_rLists v_rSentences v_rHeadings v_lastName v_inSentence v_open v_written v_named v_sorted f_tape f_kind f_owner f_from f_size f_means f_signs f_oKind f_oIn f_oList f_oWords f_oFacts f_listIn f_sOwner f_hFacts f_weights f_lengths f_values f_rKind f_rOwner f_rFrom f_rSize f_rMeans f_rOKind f_rOIn f_rOList f_rOFacts f_rListIn f_rSOwner f_rHFacts f_rWeights f_opKind f_opFrom f_opWord f_opOwner f_opList f_opItems f_out f_ranks) H := by rw [eH]; exact hP
  have hS : va_S A s.heap H [] := by rw [eH]; exact hS
  rw [← eH]
  have iX10 : ∀ w ∈ wsX100, w ∈ wsX10_alike := fun w h => List.mem_cons_of_mem _ (List.mem_append_right _ h)
  have hl : lv_has ls 5 [(0, .ref y), (1, .int x_a), (2, .int x_b)] := hl
  obtain ⟨qa0, qa1, qa2, qa3, qa4, qa5, qa6, qa7, qa8, qa9, qa10⟩ := h4 (x_a).toNatClampNeg
  obtain ⟨qb0, qb1, qb2, qb3, qb4, qb5, qb6, qb7, qb8, qb9, qb10⟩ := h4 (x_b).toNatClampNeg
  refine lv_aload_n hx hb dX10_alike_0 rfl (lv_at hl 0 rfl) ?_
  refine va_get (D := D) (ci := 10) (v := .ref (a 4)) (C := RX10) (T := TX10) (N := 66) hx hb hts iX10 hown hK hP 0 rfl rfl 9 (by decide) (hts (.fieldLink RX10 26 "ShortTellerModel" "size" "[I") (List.mem_of_getElem? (i := 1) rfl)) (fun _ h9 => h9) rfl dX10_alike_1 ?_
  refine lv_iload_n hx hb dX10_alike_4 rfl (lv_at hl 1 rfl) ?_
  refine q3_iald (c := c) hx hb hK hP 5 rfl (q2_in (by omega) (by omega)) dX10_alike_5 (fun n1 en1 => ?_)
  have tn1 : n1.toInt = (f_size x_a.toNatClampNeg).toInt := by rw [en1]
  refine lv_aload_n hx hb dX10_alike_6 rfl (lv_at hl 0 rfl) ?_
  refine va_get (D := D) (ci := 10) (v := .ref (a 4)) (C := RX10) (T := TX10) (N := 66) hx hb hts iX10 hown hK hP 0 rfl rfl 9 (by decide) (hts (.fieldLink RX10 26 "ShortTellerModel" "size" "[I") (List.mem_of_getElem? (i := 1) rfl)) (fun _ h9 => h9) rfl dX10_alike_7 ?_
  refine lv_iload_n hx hb dX10_alike_10 rfl (lv_at hl 2 rfl) ?_
  refine q3_iald (c := c) hx hb hK hP 5 rfl (q2_in (by omega) (by omega)) dX10_alike_11 (fun n2 en2 => ?_)
  have tn2 : n2.toInt = (f_size x_b.toNatClampNeg).toInt := by rw [en2]
  have ct20 : ∀ (k0_20 : Int32), (k0_20.toInt = 0 ∨ (k0_20.toInt = 1 ∧ (f_size (x_a).toNatClampNeg).toInt = (f_size (x_b).toNatClampNeg).toInt)) → ∀ (H : Heap) (locs : List Loc) (ls : Array Slot), va_P D vwCl (wM c y a v_tapeSize v_thrown v_fault v_faultPlace v_things v_options v_lists v_sentences v_headings v_words v_factBits v_known v_soundMany v_wholeLength v_next v_end v_rThings v_rOptions v_rLists v_rSentences v_rHeadings v_lastName v_inSentence v_open v_written v_named v_sorted f_tape f_kind f_owner f_from f_size f_means f_signs f_oKind f_oIn f_oList f_oWords f_oFacts f_listIn f_sOwner f_hFacts f_weights f_lengths f_values f_rKind f_rOwner f_rFrom f_rSize f_rMeans f_rOKind f_rOIn f_rOList f_rOFacts f_rListIn f_rSOwner f_rHFacts f_rWeights f_opKind f_opFrom f_opWord f_opOwner f_opList f_opItems f_out f_ranks) H → va_D A (wM c y a v_tapeSize v_thrown v_fault v_faultPlace v_things v_options v_lists v_sentences v_headings v_words v_factBits v_known v_soundMany v_wholeLength v_next v_end v_rThings v_rOptions v_rLists v_rSentences v_rHeadings v_lastName v_inSentence v_open v_written v_named v_sorted f_tape f_kind f_owner f_from f_size f_means f_signs f_oKind f_oIn f_oList f_oWords f_oFacts f_listIn f_sOwner f_hFacts f_weights f_lengths f_values f_rKind f_rOwner f_rFrom f_rSize f_rMeans f_rOKind f_rOIn f_rOList f_rOFacts f_rListIn f_rSOwner f_rHFacts f_rWeights f_opKind f_opFrom f_opWord f_opOwner f_opList f_opItems f_out f_ranks) → va_S A s.heap H locs → lv_has ls 5 [(0, .ref y), (1, .int x_a), (2, .int x_b)] → W p l e ({ frames := 0, cells := 0, slots := 0, locals := 0 }) s m args below meth cd H locs 0 0 Q (F0 m 20 ls [.int k0_20]) := by
    intro k0_20 j0_20 H locs ls hP hD hS hl
    refine lv_istore_n (lv' := [(3, .int k0_20), (0, .ref y), (1, .int x_a), (2, .int x_b)]) hx hb dX10_alike_20 rfl hl (by decide) rfl (fun ls hl => ?_)
    refine lv_iconst (v := 0) hx hb dX10_alike_21 (by decide) ?_
    refine lv_istore (lv' := [(4, .int 0), (3, .int k0_20), (0, .ref y), (1, .int x_a), (2, .int x_b)]) hx hb dX10_alike_22 hl (by decide) rfl (fun ls hl => ?_)
    have lp24 : ∀ (k : Nat) (s3_24 : Int32) (s4_24 : Int32), (0 ≤ s4_24.toInt) → (s4_24.toInt ≤ 20) → (s3_24.toInt = 0 ∨ (s3_24.toInt = 1 ∧ (f_size (x_a).toNatClampNeg).toInt = (f_size (x_b).toNatClampNeg).toInt)) → 21 - s4_24.toInt < (k : Int) → ∀ (H : Heap) (locs : List Loc) (ls : Array Slot), va_P D vwCl (wM c y a v_tapeSize v_thrown v_fault v_faultPlace v_things v_options v_lists v_sentences v_headings v_words v_factBits v_known v_soundMany v_wholeLength v_next v_end v_rThings v_rOptions v_rLists v_rSentences v_rHeadings v_lastName v_inSentence v_open v_written v_named v_sorted f_tape f_kind f_owner f_from f_size f_means f_signs f_oKind f_oIn f_oList f_oWords f_oFacts f_listIn f_sOwner f_hFacts f_weights f_lengths f_values f_rKind f_rOwner f_rFrom f_rSize f_rMeans f_rOKind f_rOIn f_rOList f_rOFacts f_rListIn f_rSOwner f_rHFacts f_rWeights f_opKind f_opFrom f_opWord f_opOwner f_opList f_opItems f_out f_ranks) H → va_D A (wM c y a v_tapeSize v_thrown v_fault v_faultPlace v_things v_options v_lists v_sentences v_headings v_words v_factBits v_known v_soundMany v_wholeLength v_next v_end v_rThings v_rOptions v_rLists v_rSentences v_rHeadings v_lastName v_inSentence v_open v_written v_named v_sorted f_tape f_kind f_owner f_from f_size f_means f_signs f_oKind f_oIn f_oList f_oWords f_oFacts f_listIn f_sOwner f_hFacts f_weights f_lengths f_values f_rKind f_rOwner f_rFrom f_rSize f_rMeans f_rOKind f_rOIn f_rOList f_rOFacts f_rListIn f_rSOwner f_rHFacts f_rWeights f_opKind f_opFrom f_opWord f_opOwner f_opList f_opItems f_out f_ranks) → va_S A s.heap H locs → lv_has ls 5 [(4, .int s4_24), (3, .int s3_24), (0, .ref y), (1, .int x_a), (2, .int x_b)] → W p l e ({ frames := 0, cells := 0, slots := 0, locals := 0 }) s m args below meth cd H locs 0 0 Q (F0 m 24 ls []) := by
      intro k
      induction k with
      | zero => intro s3_24 s4_24 j0_24 j1_24 j2_24 hm; exfalso; omega
      | succ k ih_24 =>
        intro s3_24 s4_24 j0_24 j1_24 j2_24 hm_24 H locs ls hP hD hS hl
        clear tn1 tn2 j0_20
        refine lv_iload hx hb dX10_alike_24 (lv_at hl 0 rfl) ?_
        refine lv_aload_n hx hb dX10_alike_26 rfl (lv_at hl 2 rfl) ?_
        refine va_get (D := D) (ci := 10) (v := .ref (a 4)) (C := RX10) (T := TX10) (N := 66) hx hb hts iX10 hown hK hP 0 rfl rfl 9 (by decide) (hts (.fieldLink RX10 26 "ShortTellerModel" "size" "[I") (List.mem_of_getElem? (i := 1) rfl)) (fun _ h9 => h9) rfl dX10_alike_27 ?_
        refine lv_iload_n hx hb dX10_alike_30 rfl (lv_at hl 3 rfl) ?_
        refine q3_iald (c := c) hx hb hK hP 5 rfl (q2_in (by omega) (by omega)) dX10_alike_31 (fun n3 en3 => ?_)
        have tn3 : n3.toInt = (f_size x_a.toNatClampNeg).toInt := by rw [en3]
        refine lv_icmp_ge (tgt := 82) hx hb dX10_alike_32 (by decide) (fun g4 => ?_) (fun g4 => ?_)
        · have g4 : n3.toInt ≤ s4_24.toInt := (q3_le rfl rfl).mp g4
          refine lv_iload_n hx hb dX10_alike_82 rfl (lv_at hl 1 rfl) ?_
          exact hret (s3_24) (q2_u [] [] []) _ _ _ _ ⟨(show s3_24.toInt = 0 ∨ s3_24.toInt = 1 by omega), trivial⟩ dX10_alike_83 hP hD hS
        · have g4 : ¬ n3.toInt ≤ s4_24.toInt := (not_congr (q3_le rfl rfl)).mp g4
          refine lv_iload_n hx hb dX10_alike_35 rfl (lv_at hl 1 rfl) ?_
          refine lv_if_eq (tgt := 82) hx hb dX10_alike_36 (by decide) (fun g5 => ?_) (fun g5 => ?_)
          · have g5 : s3_24.toInt = (0 : Int) := (q3_eq rfl (by decide)).mp g5
            refine lv_iload_n hx hb dX10_alike_82 rfl (lv_at hl 1 rfl) ?_
            exact hret (s3_24) (q2_u [] [] []) _ _ _ _ ⟨(show s3_24.toInt = 0 ∨ s3_24.toInt = 1 by omega), trivial⟩ dX10_alike_83 hP hD hS
          · have g5 : ¬ s3_24.toInt = (0 : Int) := (not_congr (q3_eq rfl (by decide))).mp g5
            refine lv_aload_n hx hb dX10_alike_39 rfl (lv_at hl 2 rfl) ?_
            refine va_get (D := D) (ci := 10) (v := .ref (a 6)) (C := RX10) (T := TX10) (N := 66) hx hb hts iX10 hown hK hP 0 rfl rfl 11 (by decide) (hts (.fieldLink RX10 32 "ShortTellerModel" "signs" "[I") (List.mem_of_getElem? (i := 2) rfl)) (fun _ h9 => h9) rfl dX10_alike_40 ?_
            refine lv_aload_n hx hb dX10_alike_43 rfl (lv_at hl 2 rfl) ?_
            refine va_get (D := D) (ci := 10) (v := .ref (a 3)) (C := RX10) (T := TX10) (N := 66) hx hb hts iX10 hown hK hP 0 rfl rfl 8 (by decide) (hts (.fieldLink RX10 23 "ShortTellerModel" "from" "[I") (List.mem_of_getElem? (i := 3) rfl)) (fun _ h9 => h9) rfl dX10_alike_44 ?_
            refine lv_iload_n hx hb dX10_alike_47 rfl (lv_at hl 3 rfl) ?_
            refine q3_iald (c := c) hx hb hK hP 4 rfl (q2_in (by omega) (by omega)) dX10_alike_48 (fun n6 en6 => ?_)
            have tn6 : n6.toInt = (f_from x_a.toNatClampNeg).toInt := by rw [en6]
            refine lv_iload hx hb dX10_alike_49 (lv_at hl 0 rfl) ?_
            refine lv_iadd hx hb dX10_alike_51 ?_
            refine lv_topi (fun n7 en7 => ?_)
            have tn7 : n7.toInt = n6.toInt + s4_24.toInt := q3_add en7 rfl rfl (by omega) (by omega)
            refine q3_iald (c := c) hx hb hK hP 7 rfl (q2_in (by omega) (by omega)) dX10_alike_52 (fun n8 en8 => ?_)
            have tn8 : n8.toInt = (f_signs n7.toNatClampNeg).toInt := by rw [en8]
            refine lv_aload_n hx hb dX10_alike_53 rfl (lv_at hl 2 rfl) ?_
            refine va_get (D := D) (ci := 10) (v := .ref (a 6)) (C := RX10) (T := TX10) (N := 66) hx hb hts iX10 hown hK hP 0 rfl rfl 11 (by decide) (hts (.fieldLink RX10 32 "ShortTellerModel" "signs" "[I") (List.mem_of_getElem? (i := 2) rfl)) (fun _ h9 => h9) rfl dX10_alike_54 ?_
            refine lv_aload_n hx hb dX10_alike_57 rfl (lv_at hl 2 rfl) ?_
            refine va_get (D := D) (ci := 10) (v := .ref (a 3)) (C := RX10) (T := TX10) (N := 66) hx hb hts iX10 hown hK hP 0 rfl rfl 8 (by decide) (hts (.fieldLink RX10 23 "ShortTellerModel" "from" "[I") (List.mem_of_getElem? (i := 3) rfl)) (fun _ h9 => h9) rfl dX10_alike_58 ?_
            refine lv_iload_n hx hb dX10_alike_61 rfl (lv_at hl 4 rfl) ?_
            refine q3_iald (c := c) hx hb hK hP 4 rfl (q2_in (by omega) (by omega)) dX10_alike_62 (fun n9 en9 => ?_)
            have tn9 : n9.toInt = (f_from x_b.toNatClampNeg).toInt := by rw [en9]
            refine lv_iload hx hb dX10_alike_63 (lv_at hl 0 rfl) ?_
            refine lv_iadd hx hb dX10_alike_65 ?_
            refine lv_topi (fun n10 en10 => ?_)
            have tn10 : n10.toInt = n9.toInt + s4_24.toInt := q3_add en10 rfl rfl (by omega) (by omega)
            refine q3_iald (c := c) hx hb hK hP 7 rfl (q2_in (by omega) (by omega)) dX10_alike_66 (fun n11 en11 => ?_)
            have tn11 : n11.toInt = (f_signs n10.toNatClampNeg).toInt := by rw [en11]
            refine lv_icmp_ne (tgt := 74) hx hb dX10_alike_67 (by decide) (fun g12 => ?_) (fun g12 => ?_)
            · have g12 : ¬ n8.toInt = n11.toInt := (not_congr (q3_eq rfl rfl)).mp g12
              refine lv_iconst (v := 0) hx hb dX10_alike_74 (by decide) ?_
              refine lv_istore_n (lv' := [(3, .int 0), (4, .int s4_24), (0, .ref y), (1, .int x_a), (2, .int x_b)]) hx hb dX10_alike_75 rfl hl (by decide) rfl (fun ls hl => ?_)
              obtain ⟨n13, en13⟩ : ∃ z : Int32, z = s4_24 + (1) := ⟨_, rfl⟩
              have tn13 : n13.toInt = s4_24.toInt + (1 : Int) := q3_add en13 rfl (by decide) (by omega) (by omega)
              refine lv_iinc (v := n13) (lv' := [(4, .int n13), (3, .int 0), (0, .ref y), (1, .int x_a), (2, .int x_b)]) hx hb dX10_alike_76 hl (k := 1) rfl (by rw [en13]; rfl) (by decide) rfl (fun ls hl => ?_)
              refine lv_goto (tgt := 24) hx hb dX10_alike_79 (by decide) ?_
              exact ih_24 (0) n13 (show 0 ≤ n13.toInt by omega) (show n13.toInt ≤ 20 by omega) (show (0 : Int) = 0 ∨ ((0 : Int) = 1 ∧ (f_size (x_a).toNatClampNeg).toInt = (f_size (x_b).toNatClampNeg).toInt) by omega) (show 21 - n13.toInt < _ by omega) _ _ _ hP hD hS hl
            · have g12 : n8.toInt = n11.toInt := (q3_eq rfl rfl).mp g12
              refine lv_iconst (v := 1) hx hb dX10_alike_70 (by decide) ?_
              refine lv_goto (tgt := 75) hx hb dX10_alike_71 (by decide) ?_
              refine lv_istore_n (lv' := [(3, .int 1), (4, .int s4_24), (0, .ref y), (1, .int x_a), (2, .int x_b)]) hx hb dX10_alike_75 rfl hl (by decide) rfl (fun ls hl => ?_)
              obtain ⟨n14, en14⟩ : ∃ z : Int32, z = s4_24 + (1) := ⟨_, rfl⟩
              have tn14 : n14.toInt = s4_24.toInt + (1 : Int) := q3_add en14 rfl (by decide) (by omega) (by omega)
              refine lv_iinc (v := n14) (lv' := [(4, .int n14), (3, .int 1), (0, .ref y), (1, .int x_a), (2, .int x_b)]) hx hb dX10_alike_76 hl (k := 1) rfl (by rw [en14]; rfl) (by decide) rfl (fun ls hl => ?_)
              refine lv_goto (tgt := 24) hx hb dX10_alike_79 (by decide) ?_
              exact ih_24 (1) n14 (show 0 ≤ n14.toInt by omega) (show n14.toInt ≤ 20 by omega) (show (1 : Int) = 0 ∨ ((1 : Int) = 1 ∧ (f_size (x_a).toNatClampNeg).toInt = (f_size (x_b).toNatClampNeg).toInt) by omega) (show 21 - n14.toInt < _ by omega) _ _ _ hP hD hS hl
    exact lp24 (Int.toNat (21 - (0 : Int)) + 1) k0_20 (0) (show 0 ≤ (0 : Int) by omega) (show (0 : Int) ≤ 20 by omega) j0_20 (show 21 - (0 : Int) < ((Int.toNat (21 - (0 : Int)) + 1 : Nat) : Int) by omega) _ _ _ hP hD hS hl
  refine lv_icmp_ne (tgt := 19) hx hb dX10_alike_12 (by decide) (fun g15 => ?_) (fun g15 => ?_)
  · have g15 : ¬ n1.toInt = n2.toInt := (not_congr (q3_eq rfl rfl)).mp g15
    refine lv_iconst (v := 0) hx hb dX10_alike_19 (by decide) ?_
    exact ct20 (0) (show (0 : Int) = 0 ∨ ((0 : Int) = 1 ∧ (f_size (x_a).toNatClampNeg).toInt = (f_size (x_b).toNatClampNeg).toInt) by omega)  _ _ _ hP hD hS hl
  · have g15 : n1.toInt = n2.toInt := (q3_eq rfl rfl).mp g15
    refine lv_iconst (v := 1) hx hb dX10_alike_15 (by decide) ?_
    refine lv_goto (tgt := 20) hx hb dX10_alike_16 (by decide) ?_
    exact ct20 (1) (show (1 : Int) = 0 ∨ ((1 : Int) = 1 ∧ (f_size (x_a).toNatClampNeg).toInt = (f_size (x_b).toNatClampNeg).toInt) by omega)  _ _ _ hP hD hS hl
set_option maxHeartbeats 4000000 in
set_option maxRecDepth 100000 in
theorem y3_isEnd (l : Launch) (D : va_G) (c : Nat → ClassId) (sz : Nat) (y : Nat) (a : Nat → Nat) (v_tapeSize v_thrown v_fault v_faultPlace v_things v_options v_lists v_sentences v_headings v_words v_factBits v_known v_soundMany v_wholeLength v_next v_end v_rThings v_rOptions v_rLists v_rSentences v_rHeadings v_lastName v_inSentence v_open v_written v_named v_sorted : Int32) (f_tape f_kind f_owner f_from f_size f_means f_signs f_oKind f_oIn f_oList f_oWords f_oFacts f_listIn f_sOwner f_hFacts f_weights f_lengths f_values f_rKind f_rOwner f_rFrom f_rSize f_rMeans f_rOKind f_rOIn f_rOList f_rOFacts f_rListIn f_rSOwner f_rHFacts f_rWeights f_opKind f_opFrom f_opWord f_opOwner f_opList f_opItems f_out f_ranks : Nat → Int32) (x_q : Int32) (x_o : Int32) (x_last : Int32) (h0 : 0 ≤ v_options.toInt) (h1 : v_options.toInt ≤ 14) (h2 : 0 ≤ x_o.toInt) (h3 : x_o.toInt < 14) : Met l yX10_isEnd wsX10_isEnd ({ frames := 1, cells := 0, slots := 0, locals := 21 }) (q3_P D c (wM c y a v_tapeSize v_thrown v_fault v_faultPlace v_things v_options v_lists v_sentences v_headings v_words v_factBits v_known v_soundMany v_wholeLength v_next v_end v_rThings v_rOptions v_rLists v_rSentences v_rHeadings v_lastName v_inSentence v_open v_written v_named v_sorted f_tape f_kind f_owner f_from f_size f_means f_signs f_oKind f_oIn f_oList f_oWords f_oFacts f_listIn f_sOwner f_hFacts f_weights f_lengths f_values f_rKind f_rOwner f_rFrom f_rSize f_rMeans f_rOKind f_rOIn f_rOList f_rOFacts f_rListIn f_rSOwner f_rHFacts f_rWeights f_opKind f_opFrom f_opWord f_opOwner f_opList f_opItems f_out f_ranks) sz [.ref y, .int x_q, .int x_o, .int x_last]) (q2_i D (wM c y a v_tapeSize v_thrown v_fault v_faultPlace v_things v_options v_lists v_sentences v_headings v_words v_factBits v_known v_soundMany v_wholeLength v_next v_end v_rThings v_rOptions v_rLists v_rSentences v_rHeadings v_lastName v_inSentence v_open v_written v_named v_sorted f_tape f_kind f_owner f_from f_size f_means f_signs f_oKind f_oIn f_oList f_oWords f_oFacts f_listIn f_sOwner f_hFacts f_weights f_lengths f_values f_rKind f_rOwner f_rFrom f_rSize f_rMeans f_rOKind f_rOIn f_rOList f_rOFacts f_rListIn f_rSOwner f_rHFacts f_rWeights f_opKind f_opFrom f_opWord f_opOwner f_opList f_opItems f_out f_ranks) sz (fun r u => (r.toInt = 0 ∨ r.toInt = 1) ∧ True) (fun u => wM c y a v_tapeSize v_thrown v_fault v_faultPlace v_things v_options v_lists v_sentences v_headings v_words v_factBits v_known v_soundMany v_wholeLength v_next v_end v_rThings v_rOptions v_rLists v_rSentences v_rHeadings v_lastName v_inSentence v_open v_written v_named v_sorted f_tape f_kind f_owner f_from f_size f_means f_signs f_oKind f_oIn f_oList f_oWords f_oFacts f_listIn f_sOwner f_hFacts f_weights f_lengths f_values f_rKind f_rOwner f_rFrom f_rSize f_rMeans f_rOKind f_rOIn f_rOList f_rOFacts f_rListIn f_rSOwner f_rHFacts f_rWeights f_opKind f_opFrom f_opWord f_opOwner f_opList f_opItems f_out f_ranks)) (0) (0) (va_A (wM c y a v_tapeSize v_thrown v_fault v_faultPlace v_things v_options v_lists v_sentences v_headings v_words v_factBits v_known v_soundMany v_wholeLength v_next v_end v_rThings v_rOptions v_rLists v_rSentences v_rHeadings v_lastName v_inSentence v_open v_written v_named v_sorted f_tape f_kind f_owner f_from f_size f_means f_signs f_oKind f_oIn f_oList f_oWords f_oFacts f_listIn f_sOwner f_hFacts f_weights f_lengths f_values f_rKind f_rOwner f_rFrom f_rSize f_rMeans f_rOKind f_rOIn f_rOList f_rOFacts f_rListIn f_rSOwner f_rHFacts f_rWeights f_opKind f_opFrom f_opWord f_opOwner f_opList f_opItems f_out f_ranks) sz) := by
  refine q3_of_i (ty := .boolean) (fun r u h => q3_nb h.1) (cc := cX10_isEnd) (maxL := 5) (by decide) rfl (Nat.le_of_ble_eq_true rfl) (fun p e s m args below meth cd A Q ls hx hb hml hown hts hA hS hP hD hK hl hret => ?_)
  have hown : s.vm.findClass RX10 = some m.cls := hown
  obtain ⟨H, eH⟩ : ∃ z, z = s.heap := ⟨_, rfl⟩
  have hP : va_P D vwCl (wM c y a v_tapeSize v_thrown v_fault v_faultPlace v_things v_options v_lists v_sentences v_headings v_words v_factBits v_known v_soundMany v_wholeLength v_next v_end v_rThings v_rOptions v_rLists v_rSentences v_rHeadings v_lastName v_inSentence v_open v_written v_named v_sorted f_tape f_kind f_owner f_from f_size f_means f_signs f_oKind f_oIn f_oList f_oWords f_oFacts f_listIn f_sOwner f_hFacts f_weights f_lengths f_values f_rKind f_rOwner f_rFrom f_rSize f_rMeans f_rOKind f_rOIn f_rOList f_rOFacts f_rListIn f_rSOwner f_rHFacts f_rWeights f_opKind f_opFrom f_opWord f_opOwner f_opList f_opItems f_out f_ranks) H := by rw [eH]; exact hP
  have hS : va_S A s.heap H [] := by rw [eH]; exact hS
  rw [← eH]
  have iX10 : ∀ w ∈ wsX100, w ∈ wsX10_isEnd := fun w h => List.mem_cons_of_mem _ (List.mem_append_right _ h)
  have hl : lv_has ls 5 [(0, .ref y), (1, .int x_q), (2, .int x_o), (3, .int x_last)] := hl
  refine lv_iconst (v := 0) hx hb dX10_isEnd_0 (by decide) ?_
  refine lv_istore (lv' := [(4, .int 0), (0, .ref y), (1, .int x_q), (2, .int x_o), (3, .int x_last)]) hx hb dX10_isEnd_1 hl (by decide) rfl (fun ls hl => ?_)
  have lp3 : ∀ (k : Nat) (s4_3 : Int32), (0 ≤ s4_3.toInt) → (s4_3.toInt ≤ 14) → 15 - s4_3.toInt < (k : Int) → ∀ (H : Heap) (locs : List Loc) (ls : Array Slot), va_P D vwCl (wM c y a v_tapeSize v_thrown v_fault v_faultPlace v_things v_options v_lists v_sentences v_headings v_words v_factBits v_known v_soundMany v_wholeLength v_next v_end v_rThings v_rOptions v_rLists v_rSentences v_rHeadings v_lastName v_inSentence v_open v_written v_named v_sorted f_tape f_kind f_owner f_from f_size f_means f_signs f_oKind f_oIn f_oList f_oWords f_oFacts f_listIn f_sOwner f_hFacts f_weights f_lengths f_values f_rKind f_rOwner f_rFrom f_rSize f_rMeans f_rOKind f_rOIn f_rOList f_rOFacts f_rListIn f_rSOwner f_rHFacts f_rWeights f_opKind f_opFrom f_opWord f_opOwner f_opList f_opItems f_out f_ranks) H → va_D A (wM c y a v_tapeSize v_thrown v_fault v_faultPlace v_things v_options v_lists v_sentences v_headings v_words v_factBits v_known v_soundMany v_wholeLength v_next v_end v_rThings v_rOptions v_rLists v_rSentences v_rHeadings v_lastName v_inSentence v_open v_written v_named v_sorted f_tape f_kind f_owner f_from f_size f_means f_signs f_oKind f_oIn f_oList f_oWords f_oFacts f_listIn f_sOwner f_hFacts f_weights f_lengths f_values f_rKind f_rOwner f_rFrom f_rSize f_rMeans f_rOKind f_rOIn f_rOList f_rOFacts f_rListIn f_rSOwner f_rHFacts f_rWeights f_opKind f_opFrom f_opWord f_opOwner f_opList f_opItems f_out f_ranks) → va_S A s.heap H locs → lv_has ls 5 [(4, .int s4_3), (0, .ref y), (1, .int x_q), (2, .int x_o), (3, .int x_last)] → W p l e ({ frames := 1, cells := 0, slots := 0, locals := 21 }) s m args below meth cd H locs 0 0 Q (F0 m 3 ls []) := by
    intro k
    induction k with
    | zero => intro s4_3 j0_3 j1_3 hm; exfalso; omega
    | succ k ih_3 =>
      intro s4_3 j0_3 j1_3 hm_3 H locs ls hP hD hS hl
      refine lv_iload hx hb dX10_isEnd_3 (lv_at hl 0 rfl) ?_
      refine lv_aload_n hx hb dX10_isEnd_5 rfl (lv_at hl 1 rfl) ?_
      refine va_get (D := D) (ci := 10) (v := .int v_options) (C := RX10) (T := TX10) (N := 66) hx hb hts iX10 hown hK hP 0 rfl rfl 12 (by decide) (hts (.fieldLink RX10 233 "ShortTellerModel" "options" "I") (List.mem_of_getElem? (i := 1) rfl)) (fun _ h9 => h9) rfl dX10_isEnd_6 ?_
      refine lv_icmp_ge (tgt := 64) hx hb dX10_isEnd_9 (by decide) (fun g1 => ?_) (fun g1 => ?_)
      · have g1 : v_options.toInt ≤ s4_3.toInt := (q3_le rfl rfl).mp g1
        refine lv_iconst (v := 1) hx hb dX10_isEnd_64 (by decide) ?_
        exact hret (1) (q2_u [] [] []) _ _ _ _ ⟨(show (1 : Int) = 0 ∨ (1 : Int) = 1 by omega), trivial⟩ dX10_isEnd_65 hP hD hS
      · have g1 : ¬ v_options.toInt ≤ s4_3.toInt := (not_congr (q3_le rfl rfl)).mp g1
        refine lv_aload_n hx hb dX10_isEnd_12 rfl (lv_at hl 1 rfl) ?_
        refine va_get (D := D) (ci := 10) (v := .ref (a 9)) (C := RX10) (T := TX10) (N := 66) hx hb hts iX10 hown hK hP 0 rfl rfl 15 (by decide) (hts (.fieldLink RX10 41 "ShortTellerModel" "oList" "[I") (List.mem_of_getElem? (i := 2) rfl)) (fun _ h9 => h9) rfl dX10_isEnd_13 ?_
        refine lv_iload hx hb dX10_isEnd_16 (lv_at hl 0 rfl) ?_
        refine q3_iald (c := c) hx hb hK hP 10 rfl (q2_in (by omega) (by omega)) dX10_isEnd_18 (fun n2 en2 => ?_)
        have tn2 : n2.toInt = (f_oList s4_3.toNatClampNeg).toInt := by rw [en2]
        refine lv_aload_n hx hb dX10_isEnd_19 rfl (lv_at hl 1 rfl) ?_
        refine va_get (D := D) (ci := 10) (v := .ref (a 9)) (C := RX10) (T := TX10) (N := 66) hx hb hts iX10 hown hK hP 0 rfl rfl 15 (by decide) (hts (.fieldLink RX10 41 "ShortTellerModel" "oList" "[I") (List.mem_of_getElem? (i := 2) rfl)) (fun _ h9 => h9) rfl dX10_isEnd_20 ?_
        refine lv_iload_n hx hb dX10_isEnd_23 rfl (lv_at hl 3 rfl) ?_
        refine q3_iald (c := c) hx hb hK hP 10 rfl (q2_in (by omega) (by omega)) dX10_isEnd_24 (fun n3 en3 => ?_)
        have tn3 : n3.toInt = (f_oList x_o.toNatClampNeg).toInt := by rw [en3]
        refine lv_icmp_ne (tgt := 58) hx hb dX10_isEnd_25 (by decide) (fun g4 => ?_) (fun g4 => ?_)
        · have g4 : ¬ n2.toInt = n3.toInt := (not_congr (q3_eq rfl rfl)).mp g4
          obtain ⟨n5, en5⟩ : ∃ z : Int32, z = s4_3 + (1) := ⟨_, rfl⟩
          have tn5 : n5.toInt = s4_3.toInt + (1 : Int) := q3_add en5 rfl (by decide) (by omega) (by omega)
          refine lv_iinc (v := n5) (lv' := [(4, .int n5), (0, .ref y), (1, .int x_q), (2, .int x_o), (3, .int x_last)]) hx hb dX10_isEnd_58 hl (k := 0) rfl (by rw [en5]; rfl) (by decide) rfl (fun ls hl => ?_)
          refine lv_goto (tgt := 3) hx hb dX10_isEnd_61 (by decide) ?_
          exact ih_3 n5 (show 0 ≤ n5.toInt by omega) (show n5.toInt ≤ 14 by omega) (show 15 - n5.toInt < _ by omega) _ _ _ hP hD hS hl
        · have g4 : n2.toInt = n3.toInt := (q3_eq rfl rfl).mp g4
          refine lv_iload_n hx hb dX10_isEnd_28 rfl (lv_at hl 2 rfl) ?_
          refine lv_iload hx hb dX10_isEnd_29 (lv_at hl 0 rfl) ?_
          refine q3_ci (va_runS (As := [.int x_q, .int s4_3]) (rest := []) ⟨hx, hb, hml, hown, hts⟩ (y3_has l D c H.size y a v_tapeSize v_thrown v_fault v_faultPlace v_things v_options v_lists v_sentences v_headings v_words v_factBits v_known v_soundMany v_wholeLength v_next v_end v_rThings v_rOptions v_rLists v_rSentences v_rHeadings v_lastName v_inSentence v_open v_written v_named v_sorted f_tape f_kind f_owner f_from f_size f_means f_signs f_oKind f_oIn f_oList f_oWords f_oFacts f_listIn f_sOwner f_hFacts f_weights f_lengths f_values f_rKind f_rOwner f_rFrom f_rSize f_rMeans f_rOKind f_rOIn f_rOList f_rOFacts f_rListIn f_rSOwner f_rHFacts f_rWeights f_opKind f_opFrom f_opWord f_opOwner f_opList f_opItems f_out f_ranks x_q s4_3) (va_cwS 2 hts gX10_isEnd_X10_has rfl rfl rfl (by decide +kernel) ⟨Nat.le_of_ble_eq_true rfl, Nat.le_of_ble_eq_true rfl⟩) (q3_preS (c := c) hP hK hD) rfl rfl hl.1 rfl (lv_room (Nat.le_of_ble_eq_true rfl)) dX10_isEnd_31 ⟨Nat.le_of_ble_eq_true rfl, Nat.le_of_ble_eq_true rfl⟩) hD hS hA (fun n6 un6 H locs pn6 hP hD hS => ?_)
          have pn6 : (n6.toInt = 0 ∨ n6.toInt = 1) ∧ True := pn6
          obtain ⟨pn6_0, -⟩ := pn6
          have hP : va_P D vwCl (wM c y a v_tapeSize v_thrown v_fault v_faultPlace v_things v_options v_lists v_sentences v_headings v_words v_factBits v_known v_soundMany v_wholeLength v_next v_end v_rThings v_rOptions v_rLists v_rSentences v_rHeadings v_lastName v_inSentence v_open v_written v_named v_sorted f_tape f_kind f_owner f_from f_size f_means f_signs f_oKind f_oIn f_oList f_oWords f_oFacts f_listIn f_sOwner f_hFacts f_weights f_lengths f_values f_rKind f_rOwner f_rFrom f_rSize f_rMeans f_rOKind f_rOIn f_rOList f_rOFacts f_rListIn f_rSOwner f_rHFacts f_rWeights f_opKind f_opFrom f_opWord f_opOwner f_opList f_opItems f_out f_ranks) H := hP
          have hD : va_D A (wM c y a v_tapeSize v_thrown v_fault v_faultPlace v_things v_options v_lists v_sentences v_headings v_words v_factBits v_known v_soundMany v_wholeLength v_next v_end v_rThings v_rOptions v_rLists v_rSentences v_rHeadings v_lastName v_inSentence v_open v_written v_named v_sorted f_tape f_kind f_owner f_from f_size f_means f_signs f_oKind f_oIn f_oList f_oWords f_oFacts f_listIn f_sOwner f_hFacts f_weights f_lengths f_values f_rKind f_rOwner f_rFrom f_rSize f_rMeans f_rOKind f_rOIn f_rOList f_rOFacts f_rListIn f_rSOwner f_rHFacts f_rWeights f_opKind f_opFrom f_opWord f_opOwner f_opList f_opItems f_out f_ranks) := hD
          refine lv_if_eq (tgt := 58) hx hb dX10_isEnd_34 (by decide) (fun g7 => ?_) (fun g7 => ?_)
          · have g7 : n6.toInt = (0 : Int) := (q3_eq rfl (by decide)).mp g7
            obtain ⟨n8, en8⟩ : ∃ z : Int32, z = s4_3 + (1) := ⟨_, rfl⟩
            have tn8 : n8.toInt = s4_3.toInt + (1 : Int) := q3_add en8 rfl (by decide) (by omega) (by omega)
            refine lv_iinc (v := n8) (lv' := [(4, .int n8), (0, .ref y), (1, .int x_q), (2, .int x_o), (3, .int x_last)]) hx hb dX10_isEnd_58 hl (k := 0) rfl (by rw [en8]; rfl) (by decide) rfl (fun ls hl => ?_)
            refine lv_goto (tgt := 3) hx hb dX10_isEnd_61 (by decide) ?_
            exact ih_3 n8 (show 0 ≤ n8.toInt by omega) (show n8.toInt ≤ 14 by omega) (show 15 - n8.toInt < _ by omega) _ _ _ hP hD hS hl
          · have g7 : ¬ n6.toInt = (0 : Int) := (not_congr (q3_eq rfl (by decide))).mp g7
            refine lv_iload_n hx hb dX10_isEnd_37 rfl (lv_at hl 4 rfl) ?_
            refine lv_if_eq (tgt := 50) hx hb dX10_isEnd_38 (by decide) (fun g9 => ?_) (fun g9 => ?_)
            · have g9 : x_last.toInt = (0 : Int) := (q3_eq rfl (by decide)).mp g9
              refine lv_iload hx hb dX10_isEnd_50 (lv_at hl 0 rfl) ?_
              refine lv_iload_n hx hb dX10_isEnd_52 rfl (lv_at hl 3 rfl) ?_
              refine lv_icmp_ge (tgt := 58) hx hb dX10_isEnd_53 (by decide) (fun g10 => ?_) (fun g10 => ?_)
              · have g10 : x_o.toInt ≤ s4_3.toInt := (q3_le rfl rfl).mp g10
                obtain ⟨n11, en11⟩ : ∃ z : Int32, z = s4_3 + (1) := ⟨_, rfl⟩
                have tn11 : n11.toInt = s4_3.toInt + (1 : Int) := q3_add en11 rfl (by decide) (by omega) (by omega)
                refine lv_iinc (v := n11) (lv' := [(4, .int n11), (0, .ref y), (1, .int x_q), (2, .int x_o), (3, .int x_last)]) hx hb dX10_isEnd_58 hl (k := 0) rfl (by rw [en11]; rfl) (by decide) rfl (fun ls hl => ?_)
                refine lv_goto (tgt := 3) hx hb dX10_isEnd_61 (by decide) ?_
                exact ih_3 n11 (show 0 ≤ n11.toInt by omega) (show n11.toInt ≤ 14 by omega) (show 15 - n11.toInt < _ by omega) _ _ _ hP hD hS hl
              · have g10 : ¬ x_o.toInt ≤ s4_3.toInt := (not_congr (q3_le rfl rfl)).mp g10
                refine lv_iconst (v := 0) hx hb dX10_isEnd_56 (by decide) ?_
                exact hret (0) (q2_u [] [] []) _ _ _ _ ⟨(show (0 : Int) = 0 ∨ (0 : Int) = 1 by omega), trivial⟩ dX10_isEnd_57 hP hD hS
            · have g9 : ¬ x_last.toInt = (0 : Int) := (not_congr (q3_eq rfl (by decide))).mp g9
              refine lv_iload hx hb dX10_isEnd_41 (lv_at hl 0 rfl) ?_
              refine lv_iload_n hx hb dX10_isEnd_43 rfl (lv_at hl 3 rfl) ?_
              refine lv_icmp_le (tgt := 58) hx hb dX10_isEnd_44 (by decide) (fun g12 => ?_) (fun g12 => ?_)
              · have g12 : s4_3.toInt ≤ x_o.toInt := (q3_le rfl rfl).mp g12
                obtain ⟨n13, en13⟩ : ∃ z : Int32, z = s4_3 + (1) := ⟨_, rfl⟩
                have tn13 : n13.toInt = s4_3.toInt + (1 : Int) := q3_add en13 rfl (by decide) (by omega) (by omega)
                refine lv_iinc (v := n13) (lv' := [(4, .int n13), (0, .ref y), (1, .int x_q), (2, .int x_o), (3, .int x_last)]) hx hb dX10_isEnd_58 hl (k := 0) rfl (by rw [en13]; rfl) (by decide) rfl (fun ls hl => ?_)
                refine lv_goto (tgt := 3) hx hb dX10_isEnd_61 (by decide) ?_
                exact ih_3 n13 (show 0 ≤ n13.toInt by omega) (show n13.toInt ≤ 14 by omega) (show 15 - n13.toInt < _ by omega) _ _ _ hP hD hS hl
              · have g12 : ¬ s4_3.toInt ≤ x_o.toInt := (not_congr (q3_le rfl rfl)).mp g12
                refine lv_goto (tgt := 56) hx hb dX10_isEnd_47 (by decide) ?_
                refine lv_iconst (v := 0) hx hb dX10_isEnd_56 (by decide) ?_
                exact hret (0) (q2_u [] [] []) _ _ _ _ ⟨(show (0 : Int) = 0 ∨ (0 : Int) = 1 by omega), trivial⟩ dX10_isEnd_57 hP hD hS
  exact lp3 (Int.toNat (15 - (0 : Int)) + 1) (0) (show 0 ≤ (0 : Int) by omega) (show (0 : Int) ≤ 14 by omega) (show 15 - (0 : Int) < ((Int.toNat (15 - (0 : Int)) + 1 : Nat) : Int) by omega) _ _ _ hP hD hS hl
