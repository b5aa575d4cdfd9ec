theorem dX0_clear_0 : decode cX0_clear 0 = .ok (.iconst 0, 1) := by decide +kernel
theorem dX0_clear_1 : decode cX0_clear 1 = .ok (.istore_n 1, 1) := by decide +kernel
theorem dX0_clear_12 : decode cX0_clear 12 = .ok (.iload_n 1, 1) := by decide +kernel
theorem dX0_clear_13 : decode cX0_clear 13 = .ok (.iconst 0, 1) := by decide +kernel
theorem dX0_clear_14 : decode cX0_clear 14 = .ok (.iastore, 1) := by decide +kernel
theorem dX0_clear_15 : decode cX0_clear 15 = .ok (.iinc 1 1, 3) := by decide +kernel
theorem dX0_clear_18 : decode cX0_clear 18 = .ok (.goto (-16), 3) := by decide +kernel
theorem dX0_clear_2 : decode cX0_clear 2 = .ok (.iload_n 1, 1) := by decide +kernel
theorem dX0_clear_21 : decode cX0_clear 21 = .ok (.aload_n 0, 1) := by decide +kernel
theorem dX0_clear_22 : decode cX0_clear 22 = .ok (.iconst 0, 1) := by decide +kernel
theorem dX0_clear_23 : decode cX0_clear 23 = .ok (.putfield 15, 3) := by decide +kernel
theorem dX0_clear_26 : decode cX0_clear 26 = .ok (.aload_n 0, 1) := by decide +kernel
theorem dX0_clear_27 : decode cX0_clear 27 = .ok (.iconst 0, 1) := by decide +kernel
theorem dX0_clear_28 : decode cX0_clear 28 = .ok (.putfield 19, 3) := by decide +kernel
theorem dX0_clear_3 : decode cX0_clear 3 = .ok (.bipush 31, 2) := by decide +kernel
theorem dX0_clear_31 : decode cX0_clear 31 = .ok (.return_, 1) := by decide +kernel
theorem dX0_clear_5 : decode cX0_clear 5 = .ok (.if_icmp .ge 16, 3) := by decide +kernel
theorem dX0_clear_8 : decode cX0_clear 8 = .ok (.aload_n 0, 1) := by decide +kernel
theorem dX0_clear_9 : decode cX0_clear 9 = .ok (.getfield 9, 3) := by decide +kernel
theorem dX0_has_0 : decode cX0_has 0 = .ok (.iload_n 1, 1) := by decide +kernel
theorem dX0_has_1 : decode cX0_has 1 = .ok (.ifCond .lt 22, 3) := by decide +kernel
theorem dX0_has_10 : decode cX0_has 10 = .ok (.aload_n 0, 1) := by decide +kernel
theorem dX0_has_11 : decode cX0_has 11 = .ok (.getfield 9, 3) := by decide +kernel
theorem dX0_has_14 : decode cX0_has 14 = .ok (.iload_n 1, 1) := by decide +kernel
theorem dX0_has_15 : decode cX0_has 15 = .ok (.iaload, 1) := by decide +kernel
theorem dX0_has_16 : decode cX0_has 16 = .ok (.ifCond .le 7, 3) := by decide +kernel
theorem dX0_has_23 : decode cX0_has 23 = .ok (.iconst 0, 1) := by decide +kernel
theorem dX0_has_24 : decode cX0_has 24 = .ok (.ireturn, 1) := by decide +kernel
theorem dX0_has_4 : decode cX0_has 4 = .ok (.iload_n 1, 1) := by decide +kernel
theorem dX0_has_5 : decode cX0_has 5 = .ok (.bipush 31, 2) := by decide +kernel
theorem dX0_has_7 : decode cX0_has 7 = .ok (.if_icmp .ge 16, 3) := by decide +kernel
theorem dX0_init_0 : decode cX0_init 0 = .ok (.aload_n 0, 1) := by decide +kernel
theorem dX0_init_1 : decode cX0_init 1 = .ok (.invokespecial 3, 3) := by decide +kernel
theorem dX0_init_12 : decode cX0_init 12 = .ok (.aload_n 0, 1) := by decide +kernel
theorem dX0_init_13 : decode cX0_init 13 = .ok (.iconst 0, 1) := by decide +kernel
theorem dX0_init_14 : decode cX0_init 14 = .ok (.putfield 15, 3) := by decide +kernel
theorem dX0_init_17 : decode cX0_init 17 = .ok (.aload_n 0, 1) := by decide +kernel
theorem dX0_init_18 : decode cX0_init 18 = .ok (.iconst 0, 1) := by decide +kernel
theorem dX0_init_19 : decode cX0_init 19 = .ok (.putfield 19, 3) := by decide +kernel
theorem dX0_init_22 : decode cX0_init 22 = .ok (.return_, 1) := by decide +kernel
theorem dX0_init_4 : decode cX0_init 4 = .ok (.aload_n 0, 1) := by decide +kernel
theorem dX0_init_5 : decode cX0_init 5 = .ok (.bipush 31, 2) := by decide +kernel
theorem dX0_init_7 : decode cX0_init 7 = .ok (.newarray .int, 2) := by decide +kernel
theorem dX0_init_9 : decode cX0_init 9 = .ok (.putfield 9, 3) := by decide +kernel
theorem dX0_weightOfAll_0 : decode cX0_weightOfAll 0 = .ok (.iconst 0, 1) := by decide +kernel
theorem dX0_weightOfAll_1 : decode cX0_weightOfAll 1 = .ok (.istore_n 2, 1) := by decide +kernel
theorem dX0_weightOfAll_10 : decode cX0_weightOfAll 10 = .ok (.iload_n 1, 1) := by decide +kernel
theorem dX0_weightOfAll_11 : decode cX0_weightOfAll 11 = .ok (.iconst 1, 1) := by decide +kernel
theorem dX0_weightOfAll_12 : decode cX0_weightOfAll 12 = .ok (.iload_n 3, 1) := by decide +kernel
theorem dX0_weightOfAll_13 : decode cX0_weightOfAll 13 = .ok (.ishl, 1) := by decide +kernel
theorem dX0_weightOfAll_14 : decode cX0_weightOfAll 14 = .ok (.iand, 1) := by decide +kernel
theorem dX0_weightOfAll_15 : decode cX0_weightOfAll 15 = .ok (.ifCond .eq 11, 3) := by decide +kernel
theorem dX0_weightOfAll_2 : decode cX0_weightOfAll 2 = .ok (.iconst 0, 1) := by decide +kernel
theorem dX0_weightOfAll_26 : decode cX0_weightOfAll 26 = .ok (.iinc 3 1, 3) := by decide +kernel
theorem dX0_weightOfAll_29 : decode cX0_weightOfAll 29 = .ok (.goto (-25), 3) := by decide +kernel
theorem dX0_weightOfAll_3 : decode cX0_weightOfAll 3 = .ok (.istore_n 3, 1) := by decide +kernel
theorem dX0_weightOfAll_32 : decode cX0_weightOfAll 32 = .ok (.iload_n 2, 1) := by decide +kernel
theorem dX0_weightOfAll_33 : decode cX0_weightOfAll 33 = .ok (.ireturn, 1) := by decide +kernel
theorem dX0_weightOfAll_4 : decode cX0_weightOfAll 4 = .ok (.iload_n 3, 1) := by decide +kernel
theorem dX0_weightOfAll_5 : decode cX0_weightOfAll 5 = .ok (.bipush 31, 2) := by decide +kernel
theorem dX0_weightOfAll_7 : decode cX0_weightOfAll 7 = .ok (.if_icmp .ge 25, 3) := by decide +kernel
theorem dX0_weightOf_0 : decode cX0_weightOf 0 = .ok (.aload_n 0, 1) := by decide +kernel
theorem dX0_weightOf_1 : decode cX0_weightOf 1 = .ok (.iload_n 1, 1) := by decide +kernel
theorem dX0_weightOf_2 : decode cX0_weightOf 2 = .ok (.invokevirtual 22, 3) := by decide +kernel
theorem dX0_weightOf_25 : decode cX0_weightOf 25 = .ok (.iconst 0, 1) := by decide +kernel
theorem dX0_weightOf_26 : decode cX0_weightOf 26 = .ok (.ireturn, 1) := by decide +kernel
theorem dX0_weightOf_5 : decode cX0_weightOf 5 = .ok (.ifCond .eq 20, 3) := by decide +kernel
theorem dX1_init_0 : decode cX1_init 0 = .ok (.aload_n 0, 1) := by decide +kernel
theorem dX1_init_1 : decode cX1_init 1 = .ok (.invokespecial 3, 3) := by decide +kernel
theorem dX1_init_10 : decode cX1_init 10 = .ok (.iconst (-1), 1) := by decide +kernel
theorem dX1_init_11 : decode cX1_init 11 = .ok (.putfield 15, 3) := by decide +kernel
theorem dX1_init_14 : decode cX1_init 14 = .ok (.aload_n 0, 1) := by decide +kernel
theorem dX1_init_15 : decode cX1_init 15 = .ok (.iconst 0, 1) := by decide +kernel
theorem dX1_init_16 : decode cX1_init 16 = .ok (.putfield 18, 3) := by decide +kernel
theorem dX1_init_19 : decode cX1_init 19 = .ok (.aload_n 0, 1) := by decide +kernel
theorem dX1_init_20 : decode cX1_init 20 = .ok (.iconst (-1), 1) := by decide +kernel
theorem dX1_init_21 : decode cX1_init 21 = .ok (.putfield 21, 3) := by decide +kernel
theorem dX1_init_24 : decode cX1_init 24 = .ok (.aload_n 0, 1) := by decide +kernel
theorem dX1_init_25 : decode cX1_init 25 = .ok (.iconst 0, 1) := by decide +kernel
theorem dX1_init_26 : decode cX1_init 26 = .ok (.putfield 24, 3) := by decide +kernel
theorem dX1_init_29 : decode cX1_init 29 = .ok (.aload_n 0, 1) := by decide +kernel
theorem dX1_init_30 : decode cX1_init 30 = .ok (.iconst 0, 1) := by decide +kernel
theorem dX1_init_31 : decode cX1_init 31 = .ok (.putfield 27, 3) := by decide +kernel
theorem dX1_init_34 : decode cX1_init 34 = .ok (.aload_n 0, 1) := by decide +kernel
theorem dX1_init_35 : decode cX1_init 35 = .ok (.iconst 0, 1) := by decide +kernel
theorem dX1_init_36 : decode cX1_init 36 = .ok (.putfield 31, 3) := by decide +kernel
theorem dX1_init_39 : decode cX1_init 39 = .ok (.return_, 1) := by decide +kernel
theorem dX1_init_4 : decode cX1_init 4 = .ok (.aload_n 0, 1) := by decide +kernel
theorem dX1_init_5 : decode cX1_init 5 = .ok (.iconst 0, 1) := by decide +kernel
theorem dX1_init_6 : decode cX1_init 6 = .ok (.putfield 9, 3) := by decide +kernel
theorem dX1_init_9 : decode cX1_init 9 = .ok (.aload_n 0, 1) := by decide +kernel
theorem dX2_init_0 : decode cX2_init 0 = .ok (.aload_n 0, 1) := by decide +kernel
theorem dX2_init_1 : decode cX2_init 1 = .ok (.invokespecial 3, 3) := by decide +kernel
theorem dX2_init_10 : decode cX2_init 10 = .ok (.putfield 11, 3) := by decide +kernel
theorem dX2_init_13 : decode cX2_init 13 = .ok (.aload_n 0, 1) := by decide +kernel
theorem dX2_init_14 : decode cX2_init 14 = .ok (.sipush 456, 3) := by decide +kernel
theorem dX2_init_17 : decode cX2_init 17 = .ok (.newarray .int, 2) := by decide +kernel
theorem dX2_init_19 : decode cX2_init 19 = .ok (.putfield 15, 3) := by decide +kernel
theorem dX2_init_22 : decode cX2_init 22 = .ok (.aload_n 0, 1) := by decide +kernel
theorem dX2_init_23 : decode cX2_init 23 = .ok (.sipush 456, 3) := by decide +kernel
theorem dX2_init_26 : decode cX2_init 26 = .ok (.newarray .int, 2) := by decide +kernel
theorem dX2_init_28 : decode cX2_init 28 = .ok (.putfield 18, 3) := by decide +kernel
theorem dX2_init_31 : decode cX2_init 31 = .ok (.aload_n 0, 1) := by decide +kernel
theorem dX2_init_32 : decode cX2_init 32 = .ok (.sipush 456, 3) := by decide +kernel
theorem dX2_init_35 : decode cX2_init 35 = .ok (.newarray .int, 2) := by decide +kernel
theorem dX2_init_37 : decode cX2_init 37 = .ok (.putfield 21, 3) := by decide +kernel
theorem dX2_init_4 : decode cX2_init 4 = .ok (.aload_n 0, 1) := by decide +kernel
theorem dX2_init_40 : decode cX2_init 40 = .ok (.aload_n 0, 1) := by decide +kernel
theorem dX2_init_41 : decode cX2_init 41 = .ok (.sipush 456, 3) := by decide +kernel
theorem dX2_init_44 : decode cX2_init 44 = .ok (.newarray .int, 2) := by decide +kernel
theorem dX2_init_46 : decode cX2_init 46 = .ok (.putfield 24, 3) := by decide +kernel
theorem dX2_init_49 : decode cX2_init 49 = .ok (.aload_n 0, 1) := by decide +kernel
theorem dX2_init_5 : decode cX2_init 5 = .ok (.sipush 456, 3) := by decide +kernel
theorem dX2_init_50 : decode cX2_init 50 = .ok (.iconst 0, 1) := by decide +kernel
theorem dX2_init_51 : decode cX2_init 51 = .ok (.putfield 27, 3) := by decide +kernel
theorem dX2_init_54 : decode cX2_init 54 = .ok (.return_, 1) := by decide +kernel
theorem dX2_init_8 : decode cX2_init 8 = .ok (.newarray .int, 2) := by decide +kernel
theorem dX3_gatherLeanings_0 : decode cX3_gatherLeanings 0 = .ok (.aload_n 0, 1) := by decide +kernel
theorem dX3_gatherLeanings_1 : decode cX3_gatherLeanings 1 = .ok (.iconst 0, 1) := by decide +kernel
theorem dX3_gatherLeanings_10 : decode cX3_gatherLeanings 10 = .ok (.aload_n 0, 1) := by decide +kernel
theorem dX3_gatherLeanings_11 : decode cX3_gatherLeanings 11 = .ok (.getfield 31, 3) := by decide +kernel
theorem dX3_gatherLeanings_14 : decode cX3_gatherLeanings 14 = .ok (.getfield 35, 3) := by decide +kernel
theorem dX3_gatherLeanings_17 : decode cX3_gatherLeanings 17 = .ok (.getfield 41, 3) := by decide +kernel
theorem dX3_gatherLeanings_2 : decode cX3_gatherLeanings 2 = .ok (.putfield 27, 3) := by decide +kernel
theorem dX3_gatherLeanings_20 : decode cX3_gatherLeanings 20 = .ok (.if_icmp .ge 78, 3) := by decide +kernel
theorem dX3_gatherLeanings_5 : decode cX3_gatherLeanings 5 = .ok (.iconst (-1), 1) := by decide +kernel
theorem dX3_gatherLeanings_6 : decode cX3_gatherLeanings 6 = .ok (.istore_n 1, 1) := by decide +kernel
theorem dX3_gatherLeanings_7 : decode cX3_gatherLeanings 7 = .ok (.iconst 0, 1) := by decide +kernel
theorem dX3_gatherLeanings_8 : decode cX3_gatherLeanings 8 = .ok (.istore_n 2, 1) := by decide +kernel
theorem dX3_gatherLeanings_9 : decode cX3_gatherLeanings 9 = .ok (.iload_n 2, 1) := by decide +kernel
theorem dX3_gatherLeanings_98 : decode cX3_gatherLeanings 98 = .ok (.return_, 1) := by decide +kernel
theorem dX3_init_0 : decode cX3_init 0 = .ok (.aload_n 0, 1) := by decide +kernel
theorem dX3_init_1 : decode cX3_init 1 = .ok (.invokespecial 3, 3) := by decide +kernel
theorem dX3_init_10 : decode cX3_init 10 = .ok (.putfield 11, 3) := by decide +kernel
theorem dX3_init_13 : decode cX3_init 13 = .ok (.aload_n 0, 1) := by decide +kernel
theorem dX3_init_14 : decode cX3_init 14 = .ok (.sipush 456, 3) := by decide +kernel
theorem dX3_init_17 : decode cX3_init 17 = .ok (.newarray .int, 2) := by decide +kernel
theorem dX3_init_19 : decode cX3_init 19 = .ok (.putfield 17, 3) := by decide +kernel
theorem dX3_init_22 : decode cX3_init 22 = .ok (.aload_n 0, 1) := by decide +kernel
theorem dX3_init_23 : decode cX3_init 23 = .ok (.sipush 456, 3) := by decide +kernel
theorem dX3_init_26 : decode cX3_init 26 = .ok (.newarray .int, 2) := by decide +kernel
theorem dX3_init_28 : decode cX3_init 28 = .ok (.putfield 20, 3) := by decide +kernel
theorem dX3_init_31 : decode cX3_init 31 = .ok (.aload_n 0, 1) := by decide +kernel
theorem dX3_init_32 : decode cX3_init 32 = .ok (.sipush 456, 3) := by decide +kernel
theorem dX3_init_35 : decode cX3_init 35 = .ok (.newarray .boolean, 2) := by decide +kernel
theorem dX3_init_37 : decode cX3_init 37 = .ok (.putfield 23, 3) := by decide +kernel
theorem dX3_init_4 : decode cX3_init 4 = .ok (.aload_n 0, 1) := by decide +kernel
theorem dX3_init_40 : decode cX3_init 40 = .ok (.aload_n 0, 1) := by decide +kernel
theorem dX3_init_41 : decode cX3_init 41 = .ok (.iconst 0, 1) := by decide +kernel
theorem dX3_init_42 : decode cX3_init 42 = .ok (.putfield 27, 3) := by decide +kernel
theorem dX3_init_45 : decode cX3_init 45 = .ok (.aload_n 0, 1) := by decide +kernel
theorem dX3_init_46 : decode cX3_init 46 = .ok (.aload_n 1, 1) := by decide +kernel
theorem dX3_init_47 : decode cX3_init 47 = .ok (.putfield 31, 3) := by decide +kernel
theorem dX3_init_5 : decode cX3_init 5 = .ok (.sipush 456, 3) := by decide +kernel
theorem dX3_init_50 : decode cX3_init 50 = .ok (.return_, 1) := by decide +kernel
theorem dX3_init_8 : decode cX3_init 8 = .ok (.newarray .int, 2) := by decide +kernel
theorem dX3_namesPutIn_0 : decode cX3_namesPutIn 0 = .ok (.aload_n 0, 1) := by decide +kernel
theorem dX3_namesPutIn_1 : decode cX3_namesPutIn 1 = .ok (.iload_n 1, 1) := by decide +kernel
theorem dX3_namesPutIn_2 : decode cX3_namesPutIn 2 = .ok (.iconst 0, 1) := by decide +kernel
theorem dX3_namesPutIn_3 : decode cX3_namesPutIn 3 = .ok (.invokevirtual 65, 3) := by decide +kernel
theorem dX3_namesPutIn_6 : decode cX3_namesPutIn 6 = .ok (.ireturn, 1) := by decide +kernel
theorem dX3_signsBesideOptions_0 : decode cX3_signsBesideOptions 0 = .ok (.iload_n 1, 1) := by decide +kernel
theorem dX3_signsBesideOptions_1 : decode cX3_signsBesideOptions 1 = .ok (.ifCond .ne 7, 3) := by decide +kernel
theorem dX3_signsBesideOptions_10 : decode cX3_signsBesideOptions 10 = .ok (.bipush 14, 2) := by decide +kernel
theorem dX3_signsBesideOptions_111 : decode cX3_signsBesideOptions 111 = .ok (.iload_n 2, 1) := by decide +kernel
theorem dX3_signsBesideOptions_112 : decode cX3_signsBesideOptions 112 = .ok (.aload_n 0, 1) := by decide +kernel
theorem dX3_signsBesideOptions_113 : decode cX3_signsBesideOptions 113 = .ok (.iload_n 1, 1) := by decide +kernel
theorem dX3_signsBesideOptions_114 : decode cX3_signsBesideOptions 114 = .ok (.iconst 1, 1) := by decide +kernel
theorem dX3_signsBesideOptions_115 : decode cX3_signsBesideOptions 115 = .ok (.invokevirtual 65, 3) := by decide +kernel
theorem dX3_signsBesideOptions_118 : decode cX3_signsBesideOptions 118 = .ok (.iadd, 1) := by decide +kernel
theorem dX3_signsBesideOptions_119 : decode cX3_signsBesideOptions 119 = .ok (.ireturn, 1) := by decide +kernel
theorem dX3_signsBesideOptions_12 : decode cX3_signsBesideOptions 12 = .ok (.istore_n 3, 1) := by decide +kernel
theorem dX3_signsBesideOptions_13 : decode cX3_signsBesideOptions 13 = .ok (.iload_n 3, 1) := by decide +kernel
theorem dX3_signsBesideOptions_14 : decode cX3_signsBesideOptions 14 = .ok (.aload_n 0, 1) := by decide +kernel
theorem dX3_signsBesideOptions_15 : decode cX3_signsBesideOptions 15 = .ok (.getfield 31, 3) := by decide +kernel
theorem dX3_signsBesideOptions_18 : decode cX3_signsBesideOptions 18 = .ok (.getfield 88, 3) := by decide +kernel
theorem dX3_signsBesideOptions_21 : decode cX3_signsBesideOptions 21 = .ok (.if_icmp .ge 40, 3) := by decide +kernel
theorem dX3_signsBesideOptions_4 : decode cX3_signsBesideOptions 4 = .ok (.iconst 0, 1) := by decide +kernel
theorem dX3_signsBesideOptions_5 : decode cX3_signsBesideOptions 5 = .ok (.goto 4, 3) := by decide +kernel
theorem dX3_signsBesideOptions_61 : decode cX3_signsBesideOptions 61 = .ok (.iconst 0, 1) := by decide +kernel
theorem dX3_signsBesideOptions_62 : decode cX3_signsBesideOptions 62 = .ok (.istore_n 3, 1) := by decide +kernel
theorem dX3_signsBesideOptions_63 : decode cX3_signsBesideOptions 63 = .ok (.iload_n 3, 1) := by decide +kernel
theorem dX3_signsBesideOptions_64 : decode cX3_signsBesideOptions 64 = .ok (.aload_n 0, 1) := by decide +kernel
theorem dX3_signsBesideOptions_65 : decode cX3_signsBesideOptions 65 = .ok (.getfield 31, 3) := by decide +kernel
theorem dX3_signsBesideOptions_68 : decode cX3_signsBesideOptions 68 = .ok (.getfield 91, 3) := by decide +kernel
theorem dX3_signsBesideOptions_71 : decode cX3_signsBesideOptions 71 = .ok (.if_icmp .ge 40, 3) := by decide +kernel
theorem dX3_signsBesideOptions_9 : decode cX3_signsBesideOptions 9 = .ok (.istore_n 2, 1) := by decide +kernel
theorem dX3_signsOf_0 : decode cX3_signsOf 0 = .ok (.aload_n 0, 1) := by decide +kernel
theorem dX3_signsOf_1 : decode cX3_signsOf 1 = .ok (.iload_n 1, 1) := by decide +kernel
theorem dX3_signsOf_10 : decode cX3_signsOf 10 = .ok (.getfield 31, 3) := by decide +kernel
theorem dX3_signsOf_13 : decode cX3_signsOf 13 = .ok (.getfield 72, 3) := by decide +kernel
theorem dX3_signsOf_16 : decode cX3_signsOf 16 = .ok (.if_icmp .ge 40, 3) := by decide +kernel
theorem dX3_signsOf_2 : decode cX3_signsOf 2 = .ok (.invokevirtual 69, 3) := by decide +kernel
theorem dX3_signsOf_5 : decode cX3_signsOf 5 = .ok (.istore_n 2, 1) := by decide +kernel
theorem dX3_signsOf_56 : decode cX3_signsOf 56 = .ok (.iload_n 2, 1) := by decide +kernel
theorem dX3_signsOf_57 : decode cX3_signsOf 57 = .ok (.ireturn, 1) := by decide +kernel
theorem dX3_signsOf_6 : decode cX3_signsOf 6 = .ok (.iconst 0, 1) := by decide +kernel
theorem dX3_signsOf_7 : decode cX3_signsOf 7 = .ok (.istore_n 3, 1) := by decide +kernel
theorem dX3_signsOf_8 : decode cX3_signsOf 8 = .ok (.iload_n 3, 1) := by decide +kernel
theorem dX3_signsOf_9 : decode cX3_signsOf 9 = .ok (.aload_n 0, 1) := by decide +kernel
theorem dX3_sumOfNamesPut_0 : decode cX3_sumOfNamesPut 0 = .ok (.iconst 0, 1) := by decide +kernel
theorem dX3_sumOfNamesPut_1 : decode cX3_sumOfNamesPut 1 = .ok (.istore_n 3, 1) := by decide +kernel
theorem dX3_sumOfNamesPut_10 : decode cX3_sumOfNamesPut 10 = .ok (.aload_n 0, 1) := by decide +kernel
theorem dX3_sumOfNamesPut_11 : decode cX3_sumOfNamesPut 11 = .ok (.getfield 27, 3) := by decide +kernel
theorem dX3_sumOfNamesPut_14 : decode cX3_sumOfNamesPut 14 = .ok (.if_icmp .ge 70, 3) := by decide +kernel
theorem dX3_sumOfNamesPut_2 : decode cX3_sumOfNamesPut 2 = .ok (.iconst (-1), 1) := by decide +kernel
theorem dX3_sumOfNamesPut_3 : decode cX3_sumOfNamesPut 3 = .ok (.istore 4, 2) := by decide +kernel
theorem dX3_sumOfNamesPut_5 : decode cX3_sumOfNamesPut 5 = .ok (.iconst 0, 1) := by decide +kernel
theorem dX3_sumOfNamesPut_6 : decode cX3_sumOfNamesPut 6 = .ok (.istore 5, 2) := by decide +kernel
theorem dX3_sumOfNamesPut_8 : decode cX3_sumOfNamesPut 8 = .ok (.iload 5, 2) := by decide +kernel
theorem dX3_sumOfNamesPut_84 : decode cX3_sumOfNamesPut 84 = .ok (.iload_n 3, 1) := by decide +kernel
theorem dX3_sumOfNamesPut_85 : decode cX3_sumOfNamesPut 85 = .ok (.ireturn, 1) := by decide +kernel
theorem dX4_init_0 : decode cX4_init 0 = .ok (.aload_n 0, 1) := by decide +kernel
theorem dX4_init_1 : decode cX4_init 1 = .ok (.invokespecial 3, 3) := by decide +kernel
theorem dX4_init_10 : decode cX4_init 10 = .ok (.iconst (-1), 1) := by decide +kernel
theorem dX4_init_11 : decode cX4_init 11 = .ok (.putfield 15, 3) := by decide +kernel
theorem dX4_init_14 : decode cX4_init 14 = .ok (.aload_n 0, 1) := by decide +kernel
theorem dX4_init_15 : decode cX4_init 15 = .ok (.iconst (-1), 1) := by decide +kernel
theorem dX4_init_16 : decode cX4_init 16 = .ok (.putfield 18, 3) := by decide +kernel
theorem dX4_init_19 : decode cX4_init 19 = .ok (.aload_n 0, 1) := by decide +kernel
theorem dX4_init_20 : decode cX4_init 20 = .ok (.iconst 0, 1) := by decide +kernel
theorem dX4_init_21 : decode cX4_init 21 = .ok (.putfield 21, 3) := by decide +kernel
theorem dX4_init_24 : decode cX4_init 24 = .ok (.aload_n 0, 1) := by decide +kernel
theorem dX4_init_25 : decode cX4_init 25 = .ok (.iconst 0, 1) := by decide +kernel
theorem dX4_init_26 : decode cX4_init 26 = .ok (.putfield 24, 3) := by decide +kernel
theorem dX4_init_29 : decode cX4_init 29 = .ok (.aload_n 0, 1) := by decide +kernel
theorem dX4_init_30 : decode cX4_init 30 = .ok (.iconst 0, 1) := by decide +kernel
theorem dX4_init_31 : decode cX4_init 31 = .ok (.putfield 27, 3) := by decide +kernel
theorem dX4_init_34 : decode cX4_init 34 = .ok (.aload_n 0, 1) := by decide +kernel
theorem dX4_init_35 : decode cX4_init 35 = .ok (.iconst 0, 1) := by decide +kernel
theorem dX4_init_36 : decode cX4_init 36 = .ok (.putfield 30, 3) := by decide +kernel
theorem dX4_init_39 : decode cX4_init 39 = .ok (.return_, 1) := by decide +kernel
theorem dX4_init_4 : decode cX4_init 4 = .ok (.aload_n 0, 1) := by decide +kernel
theorem dX4_init_5 : decode cX4_init 5 = .ok (.iconst 0, 1) := by decide +kernel
theorem dX4_init_6 : decode cX4_init 6 = .ok (.putfield 9, 3) := by decide +kernel
theorem dX4_init_9 : decode cX4_init 9 = .ok (.aload_n 0, 1) := by decide +kernel
theorem dX5_addOneOf_0 : decode cX5_addOneOf 0 = .ok (.iload_n 1, 1) := by decide +kernel
theorem dX5_addOneOf_1 : decode cX5_addOneOf 1 = .ok (.ifCond .lt 12, 3) := by decide +kernel
theorem dX5_addOneOf_10 : decode cX5_addOneOf 10 = .ok (.if_icmp .lt 5, 3) := by decide +kernel
theorem dX5_addOneOf_15 : decode cX5_addOneOf 15 = .ok (.aload_n 0, 1) := by decide +kernel
theorem dX5_addOneOf_16 : decode cX5_addOneOf 16 = .ok (.getfield 30, 3) := by decide +kernel
theorem dX5_addOneOf_19 : decode cX5_addOneOf 19 = .ok (.iload_n 1, 1) := by decide +kernel
theorem dX5_addOneOf_20 : decode cX5_addOneOf 20 = .ok (.dup2, 1) := by decide +kernel
theorem dX5_addOneOf_21 : decode cX5_addOneOf 21 = .ok (.iaload, 1) := by decide +kernel
theorem dX5_addOneOf_22 : decode cX5_addOneOf 22 = .ok (.iconst 1, 1) := by decide +kernel
theorem dX5_addOneOf_23 : decode cX5_addOneOf 23 = .ok (.iadd, 1) := by decide +kernel
theorem dX5_addOneOf_24 : decode cX5_addOneOf 24 = .ok (.iastore, 1) := by decide +kernel
theorem dX5_addOneOf_25 : decode cX5_addOneOf 25 = .ok (.aload_n 0, 1) := by decide +kernel
theorem dX5_addOneOf_26 : decode cX5_addOneOf 26 = .ok (.getfield 30, 3) := by decide +kernel
theorem dX5_addOneOf_29 : decode cX5_addOneOf 29 = .ok (.iload_n 1, 1) := by decide +kernel
theorem dX5_addOneOf_30 : decode cX5_addOneOf 30 = .ok (.iaload, 1) := by decide +kernel
theorem dX5_addOneOf_31 : decode cX5_addOneOf 31 = .ok (.iconst 1, 1) := by decide +kernel
theorem dX5_addOneOf_32 : decode cX5_addOneOf 32 = .ok (.isub, 1) := by decide +kernel
theorem dX5_addOneOf_33 : decode cX5_addOneOf 33 = .ok (.ireturn, 1) := by decide +kernel
theorem dX5_addOneOf_4 : decode cX5_addOneOf 4 = .ok (.iload_n 1, 1) := by decide +kernel
theorem dX5_addOneOf_5 : decode cX5_addOneOf 5 = .ok (.aload_n 0, 1) := by decide +kernel
theorem dX5_addOneOf_6 : decode cX5_addOneOf 6 = .ok (.getfield 30, 3) := by decide +kernel
theorem dX5_addOneOf_9 : decode cX5_addOneOf 9 = .ok (.arraylength, 1) := by decide +kernel
theorem dX5_addToUntold_0 : decode cX5_addToUntold 0 = .ok (.iload_n 2, 1) := by decide +kernel
theorem dX5_addToUntold_1 : decode cX5_addToUntold 1 = .ok (.ifCond .ne 4, 3) := by decide +kernel
theorem dX5_addToUntold_4 : decode cX5_addToUntold 4 = .ok (.return_, 1) := by decide +kernel
theorem dX5_bestFor_0 : decode cX5_bestFor 0 = .ok (.aload_n 0, 1) := by decide +kernel
theorem dX5_bestFor_1 : decode cX5_bestFor 1 = .ok (.invokevirtual 63, 3) := by decide +kernel
theorem dX5_bestFor_11 : decode cX5_bestFor 11 = .ok (.if_icmp .ge 41, 3) := by decide +kernel
theorem dX5_bestFor_14 : decode cX5_bestFor 14 = .ok (.aload_n 0, 1) := by decide +kernel
theorem dX5_bestFor_15 : decode cX5_bestFor 15 = .ok (.getfield 27, 3) := by decide +kernel
theorem dX5_bestFor_18 : decode cX5_bestFor 18 = .ok (.iload_n 2, 1) := by decide +kernel
theorem dX5_bestFor_19 : decode cX5_bestFor 19 = .ok (.iaload, 1) := by decide +kernel
theorem dX5_bestFor_20 : decode cX5_bestFor 20 = .ok (.istore_n 3, 1) := by decide +kernel
theorem dX5_bestFor_21 : decode cX5_bestFor 21 = .ok (.aload_n 0, 1) := by decide +kernel
theorem dX5_bestFor_22 : decode cX5_bestFor 22 = .ok (.iload_n 3, 1) := by decide +kernel
theorem dX5_bestFor_23 : decode cX5_bestFor 23 = .ok (.invokevirtual 66, 3) := by decide +kernel
theorem dX5_bestFor_26 : decode cX5_bestFor 26 = .ok (.ifCond .eq 20, 3) := by decide +kernel
theorem dX5_bestFor_29 : decode cX5_bestFor 29 = .ok (.aload_n 0, 1) := by decide +kernel
theorem dX5_bestFor_30 : decode cX5_bestFor 30 = .ok (.getfield 15, 3) := by decide +kernel
theorem dX5_bestFor_33 : decode cX5_bestFor 33 = .ok (.iload_n 3, 1) := by decide +kernel
theorem dX5_bestFor_34 : decode cX5_bestFor 34 = .ok (.iaload, 1) := by decide +kernel
theorem dX5_bestFor_35 : decode cX5_bestFor 35 = .ok (.iload_n 1, 1) := by decide +kernel
theorem dX5_bestFor_36 : decode cX5_bestFor 36 = .ok (.if_icmp .gt 10, 3) := by decide +kernel
theorem dX5_bestFor_39 : decode cX5_bestFor 39 = .ok (.aload_n 0, 1) := by decide +kernel
theorem dX5_bestFor_4 : decode cX5_bestFor 4 = .ok (.iconst 0, 1) := by decide +kernel
theorem dX5_bestFor_40 : decode cX5_bestFor 40 = .ok (.getfield 9, 3) := by decide +kernel
theorem dX5_bestFor_43 : decode cX5_bestFor 43 = .ok (.iload_n 3, 1) := by decide +kernel
theorem dX5_bestFor_44 : decode cX5_bestFor 44 = .ok (.iaload, 1) := by decide +kernel
theorem dX5_bestFor_45 : decode cX5_bestFor 45 = .ok (.ireturn, 1) := by decide +kernel
theorem dX5_bestFor_5 : decode cX5_bestFor 5 = .ok (.istore_n 2, 1) := by decide +kernel
theorem dX5_bestFor_6 : decode cX5_bestFor 6 = .ok (.iload_n 2, 1) := by decide +kernel
theorem dX5_bestFor_7 : decode cX5_bestFor 7 = .ok (.aload_n 0, 1) := by decide +kernel
theorem dX5_bestFor_8 : decode cX5_bestFor 8 = .ok (.getfield 33, 3) := by decide +kernel
theorem dX5_choiceAt_0 : decode cX5_choiceAt 0 = .ok (.aload_n 0, 1) := by decide +kernel
theorem dX5_choiceAt_1 : decode cX5_choiceAt 1 = .ok (.invokevirtual 63, 3) := by decide +kernel
theorem dX5_choiceAt_12 : decode cX5_choiceAt 12 = .ok (.aload_n 0, 1) := by decide +kernel
theorem dX5_choiceAt_13 : decode cX5_choiceAt 13 = .ok (.getfield 27, 3) := by decide +kernel
theorem dX5_choiceAt_16 : decode cX5_choiceAt 16 = .ok (.iload_n 1, 1) := by decide +kernel
theorem dX5_choiceAt_17 : decode cX5_choiceAt 17 = .ok (.iaload, 1) := by decide +kernel
theorem dX5_choiceAt_18 : decode cX5_choiceAt 18 = .ok (.goto 4, 3) := by decide +kernel
theorem dX5_choiceAt_21 : decode cX5_choiceAt 21 = .ok (.iconst (-1), 1) := by decide +kernel
theorem dX5_choiceAt_22 : decode cX5_choiceAt 22 = .ok (.istore_n 2, 1) := by decide +kernel
theorem dX5_choiceAt_23 : decode cX5_choiceAt 23 = .ok (.aload_n 0, 1) := by decide +kernel
theorem dX5_choiceAt_24 : decode cX5_choiceAt 24 = .ok (.iload_n 2, 1) := by decide +kernel
theorem dX5_choiceAt_25 : decode cX5_choiceAt 25 = .ok (.invokevirtual 66, 3) := by decide +kernel
theorem dX5_choiceAt_28 : decode cX5_choiceAt 28 = .ok (.ifCond .eq 12, 3) := by decide +kernel
theorem dX5_choiceAt_31 : decode cX5_choiceAt 31 = .ok (.aload_n 0, 1) := by decide +kernel
theorem dX5_choiceAt_32 : decode cX5_choiceAt 32 = .ok (.getfield 9, 3) := by decide +kernel
theorem dX5_choiceAt_35 : decode cX5_choiceAt 35 = .ok (.iload_n 2, 1) := by decide +kernel
theorem dX5_choiceAt_36 : decode cX5_choiceAt 36 = .ok (.iaload, 1) := by decide +kernel
theorem dX5_choiceAt_37 : decode cX5_choiceAt 37 = .ok (.goto 4, 3) := by decide +kernel
theorem dX5_choiceAt_4 : decode cX5_choiceAt 4 = .ok (.aload_n 0, 1) := by decide +kernel
theorem dX5_choiceAt_40 : decode cX5_choiceAt 40 = .ok (.iconst (-1), 1) := by decide +kernel
theorem dX5_choiceAt_41 : decode cX5_choiceAt 41 = .ok (.ireturn, 1) := by decide +kernel
theorem dX5_choiceAt_5 : decode cX5_choiceAt 5 = .ok (.iload_n 1, 1) := by decide +kernel
theorem dX5_choiceAt_6 : decode cX5_choiceAt 6 = .ok (.invokevirtual 66, 3) := by decide +kernel
theorem dX5_choiceAt_9 : decode cX5_choiceAt 9 = .ok (.ifCond .eq 12, 3) := by decide +kernel
theorem dX5_clearHeads_0 : decode cX5_clearHeads 0 = .ok (.aload_n 0, 1) := by decide +kernel
theorem dX5_clearHeads_1 : decode cX5_clearHeads 1 = .ok (.getfield 30, 3) := by decide +kernel
theorem dX5_clearHeads_10 : decode cX5_clearHeads 10 = .ok (.iload_n 1, 1) := by decide +kernel
theorem dX5_clearHeads_11 : decode cX5_clearHeads 11 = .ok (.iconst 2, 1) := by decide +kernel
theorem dX5_clearHeads_12 : decode cX5_clearHeads 12 = .ok (.aload_n 0, 1) := by decide +kernel
theorem dX5_clearHeads_13 : decode cX5_clearHeads 13 = .ok (.getfield 30, 3) := by decide +kernel
theorem dX5_clearHeads_16 : decode cX5_clearHeads 16 = .ok (.arraylength, 1) := by decide +kernel
theorem dX5_clearHeads_17 : decode cX5_clearHeads 17 = .ok (.imul, 1) := by decide +kernel
theorem dX5_clearHeads_18 : decode cX5_clearHeads 18 = .ok (.invokestatic 141, 3) := by decide +kernel
theorem dX5_clearHeads_21 : decode cX5_clearHeads 21 = .ok (.newarray .int, 2) := by decide +kernel
theorem dX5_clearHeads_23 : decode cX5_clearHeads 23 = .ok (.putfield 30, 3) := by decide +kernel
theorem dX5_clearHeads_26 : decode cX5_clearHeads 26 = .ok (.iconst 0, 1) := by decide +kernel
theorem dX5_clearHeads_27 : decode cX5_clearHeads 27 = .ok (.istore_n 2, 1) := by decide +kernel
theorem dX5_clearHeads_28 : decode cX5_clearHeads 28 = .ok (.iload_n 2, 1) := by decide +kernel
theorem dX5_clearHeads_29 : decode cX5_clearHeads 29 = .ok (.iload_n 1, 1) := by decide +kernel
theorem dX5_clearHeads_30 : decode cX5_clearHeads 30 = .ok (.if_icmp .ge 16, 3) := by decide +kernel
theorem dX5_clearHeads_33 : decode cX5_clearHeads 33 = .ok (.aload_n 0, 1) := by decide +kernel
theorem dX5_clearHeads_34 : decode cX5_clearHeads 34 = .ok (.getfield 30, 3) := by decide +kernel
theorem dX5_clearHeads_37 : decode cX5_clearHeads 37 = .ok (.iload_n 2, 1) := by decide +kernel
theorem dX5_clearHeads_38 : decode cX5_clearHeads 38 = .ok (.iconst 0, 1) := by decide +kernel
theorem dX5_clearHeads_39 : decode cX5_clearHeads 39 = .ok (.iastore, 1) := by decide +kernel
theorem dX5_clearHeads_4 : decode cX5_clearHeads 4 = .ok (.arraylength, 1) := by decide +kernel
theorem dX5_clearHeads_40 : decode cX5_clearHeads 40 = .ok (.iinc 2 1, 3) := by decide +kernel
theorem dX5_clearHeads_43 : decode cX5_clearHeads 43 = .ok (.goto (-15), 3) := by decide +kernel
theorem dX5_clearHeads_46 : decode cX5_clearHeads 46 = .ok (.return_, 1) := by decide +kernel
theorem dX5_clearHeads_5 : decode cX5_clearHeads 5 = .ok (.iload_n 1, 1) := by decide +kernel
theorem dX5_clearHeads_6 : decode cX5_clearHeads 6 = .ok (.if_icmp .ge 20, 3) := by decide +kernel
theorem dX5_clearHeads_9 : decode cX5_clearHeads 9 = .ok (.aload_n 0, 1) := by decide +kernel
theorem dX5_forget_0 : decode cX5_forget 0 = .ok (.aload_n 0, 1) := by decide +kernel
theorem dX5_forget_1 : decode cX5_forget 1 = .ok (.iconst 0, 1) := by decide +kernel
theorem dX5_forget_2 : decode cX5_forget 2 = .ok (.putfield 37, 3) := by decide +kernel
theorem dX5_forget_5 : decode cX5_forget 5 = .ok (.return_, 1) := by decide +kernel
theorem dX5_howMany_0 : decode cX5_howMany 0 = .ok (.aload_n 0, 1) := by decide +kernel
theorem dX5_howMany_1 : decode cX5_howMany 1 = .ok (.invokevirtual 60, 3) := by decide +kernel
theorem dX5_howMany_4 : decode cX5_howMany 4 = .ok (.aload_n 0, 1) := by decide +kernel
theorem dX5_howMany_5 : decode cX5_howMany 5 = .ok (.getfield 33, 3) := by decide +kernel
theorem dX5_howMany_8 : decode cX5_howMany 8 = .ok (.ireturn, 1) := by decide +kernel
theorem dX5_init_0 : decode cX5_init 0 = .ok (.aload_n 0, 1) := by decide +kernel
theorem dX5_init_1 : decode cX5_init 1 = .ok (.invokespecial 3, 3) := by decide +kernel
theorem dX5_init_11 : decode cX5_init 11 = .ok (.aload_n 0, 1) := by decide +kernel
theorem dX5_init_12 : decode cX5_init 12 = .ok (.iconst 0, 1) := by decide +kernel
theorem dX5_init_13 : decode cX5_init 13 = .ok (.newarray .int, 2) := by decide +kernel
theorem dX5_init_15 : decode cX5_init 15 = .ok (.putfield 15, 3) := by decide +kernel
theorem dX5_init_18 : decode cX5_init 18 = .ok (.aload_n 0, 1) := by decide +kernel
theorem dX5_init_19 : decode cX5_init 19 = .ok (.iconst 0, 1) := by decide +kernel
theorem dX5_init_20 : decode cX5_init 20 = .ok (.newarray .int, 2) := by decide +kernel
theorem dX5_init_22 : decode cX5_init 22 = .ok (.putfield 18, 3) := by decide +kernel
theorem dX5_init_25 : decode cX5_init 25 = .ok (.aload_n 0, 1) := by decide +kernel
theorem dX5_init_26 : decode cX5_init 26 = .ok (.iconst 0, 1) := by decide +kernel
theorem dX5_init_27 : decode cX5_init 27 = .ok (.newarray .int, 2) := by decide +kernel
theorem dX5_init_29 : decode cX5_init 29 = .ok (.putfield 21, 3) := by decide +kernel
theorem dX5_init_32 : decode cX5_init 32 = .ok (.aload_n 0, 1) := by decide +kernel
theorem dX5_init_33 : decode cX5_init 33 = .ok (.iconst 0, 1) := by decide +kernel
theorem dX5_init_34 : decode cX5_init 34 = .ok (.newarray .int, 2) := by decide +kernel
theorem dX5_init_36 : decode cX5_init 36 = .ok (.putfield 24, 3) := by decide +kernel
theorem dX5_init_39 : decode cX5_init 39 = .ok (.aload_n 0, 1) := by decide +kernel
theorem dX5_init_4 : decode cX5_init 4 = .ok (.aload_n 0, 1) := by decide +kernel
theorem dX5_init_40 : decode cX5_init 40 = .ok (.iconst 0, 1) := by decide +kernel
theorem dX5_init_41 : decode cX5_init 41 = .ok (.newarray .int, 2) := by decide +kernel
theorem dX5_init_43 : decode cX5_init 43 = .ok (.putfield 27, 3) := by decide +kernel
theorem dX5_init_46 : decode cX5_init 46 = .ok (.aload_n 0, 1) := by decide +kernel
theorem dX5_init_47 : decode cX5_init 47 = .ok (.iconst 0, 1) := by decide +kernel
theorem dX5_init_48 : decode cX5_init 48 = .ok (.newarray .int, 2) := by decide +kernel
theorem dX5_init_5 : decode cX5_init 5 = .ok (.iconst 0, 1) := by decide +kernel
theorem dX5_init_50 : decode cX5_init 50 = .ok (.putfield 30, 3) := by decide +kernel
theorem dX5_init_53 : decode cX5_init 53 = .ok (.aload_n 0, 1) := by decide +kernel
theorem dX5_init_54 : decode cX5_init 54 = .ok (.iconst 0, 1) := by decide +kernel
theorem dX5_init_55 : decode cX5_init 55 = .ok (.putfield 33, 3) := by decide +kernel
theorem dX5_init_58 : decode cX5_init 58 = .ok (.aload_n 0, 1) := by decide +kernel
theorem dX5_init_59 : decode cX5_init 59 = .ok (.iconst 0, 1) := by decide +kernel
theorem dX5_init_6 : decode cX5_init 6 = .ok (.newarray .int, 2) := by decide +kernel
theorem dX5_init_60 : decode cX5_init 60 = .ok (.putfield 37, 3) := by decide +kernel
theorem dX5_init_63 : decode cX5_init 63 = .ok (.aload_n 0, 1) := by decide +kernel
theorem dX5_init_64 : decode cX5_init 64 = .ok (.iconst 0, 1) := by decide +kernel
theorem dX5_init_65 : decode cX5_init 65 = .ok (.putfield 41, 3) := by decide +kernel
theorem dX5_init_68 : decode cX5_init 68 = .ok (.aload_n 0, 1) := by decide +kernel
theorem dX5_init_69 : decode cX5_init 69 = .ok (.aload_n 1, 1) := by decide +kernel
theorem dX5_init_70 : decode cX5_init 70 = .ok (.putfield 44, 3) := by decide +kernel
theorem dX5_init_73 : decode cX5_init 73 = .ok (.aload_n 0, 1) := by decide +kernel
theorem dX5_init_74 : decode cX5_init 74 = .ok (.aload_n 2, 1) := by decide +kernel
theorem dX5_init_75 : decode cX5_init 75 = .ok (.putfield 48, 3) := by decide +kernel
theorem dX5_init_78 : decode cX5_init 78 = .ok (.aload_n 0, 1) := by decide +kernel
theorem dX5_init_79 : decode cX5_init 79 = .ok (.aload_n 3, 1) := by decide +kernel
theorem dX5_init_8 : decode cX5_init 8 = .ok (.putfield 9, 3) := by decide +kernel
theorem dX5_init_80 : decode cX5_init 80 = .ok (.putfield 52, 3) := by decide +kernel
theorem dX5_init_83 : decode cX5_init 83 = .ok (.return_, 1) := by decide +kernel
theorem dX5_isPlace_0 : decode cX5_isPlace 0 = .ok (.iload_n 1, 1) := by decide +kernel
theorem dX5_isPlace_1 : decode cX5_isPlace 1 = .ok (.ifCond .lt 15, 3) := by decide +kernel
theorem dX5_isPlace_12 : decode cX5_isPlace 12 = .ok (.iconst 1, 1) := by decide +kernel
theorem dX5_isPlace_13 : decode cX5_isPlace 13 = .ok (.goto 4, 3) := by decide +kernel
theorem dX5_isPlace_16 : decode cX5_isPlace 16 = .ok (.iconst 0, 1) := by decide +kernel
theorem dX5_isPlace_17 : decode cX5_isPlace 17 = .ok (.ireturn, 1) := by decide +kernel
theorem dX5_isPlace_4 : decode cX5_isPlace 4 = .ok (.iload_n 1, 1) := by decide +kernel
theorem dX5_isPlace_5 : decode cX5_isPlace 5 = .ok (.aload_n 0, 1) := by decide +kernel
theorem dX5_isPlace_6 : decode cX5_isPlace 6 = .ok (.getfield 33, 3) := by decide +kernel
theorem dX5_isPlace_9 : decode cX5_isPlace 9 = .ok (.if_icmp .ge 7, 3) := by decide +kernel
theorem dX5_leastFor_0 : decode cX5_leastFor 0 = .ok (.aload_n 0, 1) := by decide +kernel
theorem dX5_leastFor_1 : decode cX5_leastFor 1 = .ok (.invokevirtual 60, 3) := by decide +kernel
theorem dX5_leastFor_11 : decode cX5_leastFor 11 = .ok (.if_icmp .ge 43, 3) := by decide +kernel
theorem dX5_leastFor_14 : decode cX5_leastFor 14 = .ok (.aload_n 0, 1) := by decide +kernel
theorem dX5_leastFor_15 : decode cX5_leastFor 15 = .ok (.getfield 24, 3) := by decide +kernel
theorem dX5_leastFor_18 : decode cX5_leastFor 18 = .ok (.iload_n 2, 1) := by decide +kernel
theorem dX5_leastFor_19 : decode cX5_leastFor 19 = .ok (.iaload, 1) := by decide +kernel
theorem dX5_leastFor_20 : decode cX5_leastFor 20 = .ok (.istore_n 3, 1) := by decide +kernel
theorem dX5_leastFor_21 : decode cX5_leastFor 21 = .ok (.aload_n 0, 1) := by decide +kernel
theorem dX5_leastFor_22 : decode cX5_leastFor 22 = .ok (.iload_n 3, 1) := by decide +kernel
theorem dX5_leastFor_23 : decode cX5_leastFor 23 = .ok (.invokevirtual 66, 3) := by decide +kernel
theorem dX5_leastFor_26 : decode cX5_leastFor 26 = .ok (.ifCond .eq 22, 3) := by decide +kernel
theorem dX5_leastFor_29 : decode cX5_leastFor 29 = .ok (.aload_n 0, 1) := by decide +kernel
theorem dX5_leastFor_30 : decode cX5_leastFor 30 = .ok (.getfield 18, 3) := by decide +kernel
theorem dX5_leastFor_33 : decode cX5_leastFor 33 = .ok (.iload_n 3, 1) := by decide +kernel
theorem dX5_leastFor_34 : decode cX5_leastFor 34 = .ok (.iaload, 1) := by decide +kernel
theorem dX5_leastFor_35 : decode cX5_leastFor 35 = .ok (.iload_n 1, 1) := by decide +kernel
theorem dX5_leastFor_36 : decode cX5_leastFor 36 = .ok (.iand, 1) := by decide +kernel
theorem dX5_leastFor_37 : decode cX5_leastFor 37 = .ok (.iload_n 1, 1) := by decide +kernel
theorem dX5_leastFor_38 : decode cX5_leastFor 38 = .ok (.if_icmp .ne 10, 3) := by decide +kernel
theorem dX5_leastFor_4 : decode cX5_leastFor 4 = .ok (.iconst 0, 1) := by decide +kernel
theorem dX5_leastFor_41 : decode cX5_leastFor 41 = .ok (.aload_n 0, 1) := by decide +kernel
theorem dX5_leastFor_42 : decode cX5_leastFor 42 = .ok (.getfield 15, 3) := by decide +kernel
theorem dX5_leastFor_45 : decode cX5_leastFor 45 = .ok (.iload_n 3, 1) := by decide +kernel
theorem dX5_leastFor_46 : decode cX5_leastFor 46 = .ok (.iaload, 1) := by decide +kernel
theorem dX5_leastFor_47 : decode cX5_leastFor 47 = .ok (.ireturn, 1) := by decide +kernel
theorem dX5_leastFor_48 : decode cX5_leastFor 48 = .ok (.iinc 2 1, 3) := by decide +kernel
theorem dX5_leastFor_5 : decode cX5_leastFor 5 = .ok (.istore_n 2, 1) := by decide +kernel
theorem dX5_leastFor_51 : decode cX5_leastFor 51 = .ok (.goto (-45), 3) := by decide +kernel
theorem dX5_leastFor_54 : decode cX5_leastFor 54 = .ok (.iconst (-1), 1) := by decide +kernel
theorem dX5_leastFor_55 : decode cX5_leastFor 55 = .ok (.ireturn, 1) := by decide +kernel
theorem dX5_leastFor_6 : decode cX5_leastFor 6 = .ok (.iload_n 2, 1) := by decide +kernel
theorem dX5_leastFor_7 : decode cX5_leastFor 7 = .ok (.aload_n 0, 1) := by decide +kernel
theorem dX5_leastFor_8 : decode cX5_leastFor 8 = .ok (.getfield 33, 3) := by decide +kernel
theorem dX5_makeRoom_0 : decode cX5_makeRoom 0 = .ok (.aload_n 0, 1) := by decide +kernel
theorem dX5_makeRoom_1 : decode cX5_makeRoom 1 = .ok (.getfield 9, 3) := by decide +kernel
theorem dX5_makeRoom_10 : decode cX5_makeRoom 10 = .ok (.iload_n 1, 1) := by decide +kernel
theorem dX5_makeRoom_11 : decode cX5_makeRoom 11 = .ok (.newarray .int, 2) := by decide +kernel
theorem dX5_makeRoom_13 : decode cX5_makeRoom 13 = .ok (.putfield 9, 3) := by decide +kernel
theorem dX5_makeRoom_16 : decode cX5_makeRoom 16 = .ok (.aload_n 0, 1) := by decide +kernel
theorem dX5_makeRoom_17 : decode cX5_makeRoom 17 = .ok (.iload_n 1, 1) := by decide +kernel
theorem dX5_makeRoom_18 : decode cX5_makeRoom 18 = .ok (.newarray .int, 2) := by decide +kernel
theorem dX5_makeRoom_20 : decode cX5_makeRoom 20 = .ok (.putfield 15, 3) := by decide +kernel
theorem dX5_makeRoom_23 : decode cX5_makeRoom 23 = .ok (.aload_n 0, 1) := by decide +kernel
theorem dX5_makeRoom_24 : decode cX5_makeRoom 24 = .ok (.iload_n 1, 1) := by decide +kernel
theorem dX5_makeRoom_25 : decode cX5_makeRoom 25 = .ok (.newarray .int, 2) := by decide +kernel
theorem dX5_makeRoom_27 : decode cX5_makeRoom 27 = .ok (.putfield 18, 3) := by decide +kernel
theorem dX5_makeRoom_30 : decode cX5_makeRoom 30 = .ok (.aload_n 0, 1) := by decide +kernel
theorem dX5_makeRoom_31 : decode cX5_makeRoom 31 = .ok (.iload_n 1, 1) := by decide +kernel
theorem dX5_makeRoom_32 : decode cX5_makeRoom 32 = .ok (.newarray .int, 2) := by decide +kernel
theorem dX5_makeRoom_34 : decode cX5_makeRoom 34 = .ok (.putfield 21, 3) := by decide +kernel
theorem dX5_makeRoom_37 : decode cX5_makeRoom 37 = .ok (.aload_n 0, 1) := by decide +kernel
theorem dX5_makeRoom_38 : decode cX5_makeRoom 38 = .ok (.iload_n 1, 1) := by decide +kernel
theorem dX5_makeRoom_39 : decode cX5_makeRoom 39 = .ok (.newarray .int, 2) := by decide +kernel
theorem dX5_makeRoom_4 : decode cX5_makeRoom 4 = .ok (.arraylength, 1) := by decide +kernel
theorem dX5_makeRoom_41 : decode cX5_makeRoom 41 = .ok (.putfield 24, 3) := by decide +kernel
theorem dX5_makeRoom_44 : decode cX5_makeRoom 44 = .ok (.aload_n 0, 1) := by decide +kernel
theorem dX5_makeRoom_45 : decode cX5_makeRoom 45 = .ok (.iload_n 1, 1) := by decide +kernel
theorem dX5_makeRoom_46 : decode cX5_makeRoom 46 = .ok (.newarray .int, 2) := by decide +kernel
theorem dX5_makeRoom_48 : decode cX5_makeRoom 48 = .ok (.putfield 27, 3) := by decide +kernel
theorem dX5_makeRoom_5 : decode cX5_makeRoom 5 = .ok (.iload_n 1, 1) := by decide +kernel
theorem dX5_makeRoom_51 : decode cX5_makeRoom 51 = .ok (.return_, 1) := by decide +kernel
theorem dX5_makeRoom_6 : decode cX5_makeRoom 6 = .ok (.if_icmp .ge 45, 3) := by decide +kernel
theorem dX5_makeRoom_9 : decode cX5_makeRoom 9 = .ok (.aload_n 0, 1) := by decide +kernel
theorem dX5_make_0 : decode cX5_make 0 = .ok (.aload_n 0, 1) := by decide +kernel
theorem dX5_make_1 : decode cX5_make 1 = .ok (.getfield 37, 3) := by decide +kernel
theorem dX5_make_10 : decode cX5_make 10 = .ok (.aload_n 0, 1) := by decide +kernel
theorem dX5_make_11 : decode cX5_make 11 = .ok (.getfield 44, 3) := by decide +kernel
theorem dX5_make_120 : decode cX5_make 120 = .ok (.iconst 0, 1) := by decide +kernel
theorem dX5_make_121 : decode cX5_make 121 = .ok (.istore_n 1, 1) := by decide +kernel
theorem dX5_make_122 : decode cX5_make 122 = .ok (.iload_n 1, 1) := by decide +kernel
theorem dX5_make_123 : decode cX5_make 123 = .ok (.aload_n 0, 1) := by decide +kernel
theorem dX5_make_124 : decode cX5_make 124 = .ok (.getfield 33, 3) := by decide +kernel
theorem dX5_make_127 : decode cX5_make 127 = .ok (.if_icmp .ge 67, 3) := by decide +kernel
theorem dX5_make_130 : decode cX5_make 130 = .ok (.aload_n 0, 1) := by decide +kernel
theorem dX5_make_131 : decode cX5_make 131 = .ok (.getfield 15, 3) := by decide +kernel
theorem dX5_make_134 : decode cX5_make 134 = .ok (.iload_n 1, 1) := by decide +kernel
theorem dX5_make_135 : decode cX5_make 135 = .ok (.dup2, 1) := by decide +kernel
theorem dX5_make_136 : decode cX5_make 136 = .ok (.iaload, 1) := by decide +kernel
theorem dX5_make_137 : decode cX5_make 137 = .ok (.aload_n 0, 1) := by decide +kernel
theorem dX5_make_138 : decode cX5_make 138 = .ok (.getfield 48, 3) := by decide +kernel
theorem dX5_make_14 : decode cX5_make 14 = .ok (.getfield 76, 3) := by decide +kernel
theorem dX5_make_141 : decode cX5_make 141 = .ok (.aload_n 0, 1) := by decide +kernel
theorem dX5_make_142 : decode cX5_make 142 = .ok (.getfield 9, 3) := by decide +kernel
theorem dX5_make_145 : decode cX5_make 145 = .ok (.iload_n 1, 1) := by decide +kernel
theorem dX5_make_146 : decode cX5_make 146 = .ok (.iaload, 1) := by decide +kernel
theorem dX5_make_147 : decode cX5_make 147 = .ok (.invokevirtual 105, 3) := by decide +kernel
theorem dX5_make_150 : decode cX5_make 150 = .ok (.iadd, 1) := by decide +kernel
theorem dX5_make_151 : decode cX5_make 151 = .ok (.iastore, 1) := by decide +kernel
theorem dX5_make_152 : decode cX5_make 152 = .ok (.aload_n 0, 1) := by decide +kernel
theorem dX5_make_153 : decode cX5_make 153 = .ok (.getfield 18, 3) := by decide +kernel
theorem dX5_make_156 : decode cX5_make 156 = .ok (.iload_n 1, 1) := by decide +kernel
theorem dX5_make_157 : decode cX5_make 157 = .ok (.dup2, 1) := by decide +kernel
theorem dX5_make_158 : decode cX5_make 158 = .ok (.iaload, 1) := by decide +kernel
theorem dX5_make_159 : decode cX5_make 159 = .ok (.aload_n 0, 1) := by decide +kernel
theorem dX5_make_160 : decode cX5_make 160 = .ok (.getfield 44, 3) := by decide +kernel
theorem dX5_make_163 : decode cX5_make 163 = .ok (.aload_n 0, 1) := by decide +kernel
theorem dX5_make_164 : decode cX5_make 164 = .ok (.getfield 9, 3) := by decide +kernel
theorem dX5_make_167 : decode cX5_make 167 = .ok (.iload_n 1, 1) := by decide +kernel
theorem dX5_make_168 : decode cX5_make 168 = .ok (.iaload, 1) := by decide +kernel
theorem dX5_make_169 : decode cX5_make 169 = .ok (.invokevirtual 110, 3) := by decide +kernel
theorem dX5_make_17 : decode cX5_make 17 = .ok (.ishl, 1) := by decide +kernel
theorem dX5_make_172 : decode cX5_make 172 = .ok (.ior, 1) := by decide +kernel
theorem dX5_make_173 : decode cX5_make 173 = .ok (.iastore, 1) := by decide +kernel
theorem dX5_make_174 : decode cX5_make 174 = .ok (.aload_n 0, 1) := by decide +kernel
theorem dX5_make_175 : decode cX5_make 175 = .ok (.getfield 21, 3) := by decide +kernel
theorem dX5_make_178 : decode cX5_make 178 = .ok (.iload_n 1, 1) := by decide +kernel
theorem dX5_make_179 : decode cX5_make 179 = .ok (.iconst 0, 1) := by decide +kernel
theorem dX5_make_18 : decode cX5_make 18 = .ok (.invokevirtual 81, 3) := by decide +kernel
theorem dX5_make_180 : decode cX5_make 180 = .ok (.iastore, 1) := by decide +kernel
theorem dX5_make_181 : decode cX5_make 181 = .ok (.aload_n 0, 1) := by decide +kernel
theorem dX5_make_182 : decode cX5_make 182 = .ok (.getfield 27, 3) := by decide +kernel
theorem dX5_make_185 : decode cX5_make 185 = .ok (.iload_n 1, 1) := by decide +kernel
theorem dX5_make_186 : decode cX5_make 186 = .ok (.iload_n 1, 1) := by decide +kernel
theorem dX5_make_187 : decode cX5_make 187 = .ok (.iastore, 1) := by decide +kernel
theorem dX5_make_188 : decode cX5_make 188 = .ok (.iinc 1 1, 3) := by decide +kernel
theorem dX5_make_191 : decode cX5_make 191 = .ok (.goto (-69), 3) := by decide +kernel
theorem dX5_make_194 : decode cX5_make 194 = .ok (.iconst 0, 1) := by decide +kernel
theorem dX5_make_195 : decode cX5_make 195 = .ok (.istore_n 1, 1) := by decide +kernel
theorem dX5_make_196 : decode cX5_make 196 = .ok (.iload_n 1, 1) := by decide +kernel
theorem dX5_make_197 : decode cX5_make 197 = .ok (.bipush 31, 2) := by decide +kernel
theorem dX5_make_199 : decode cX5_make 199 = .ok (.if_icmp .ge 22, 3) := by decide +kernel
theorem dX5_make_202 : decode cX5_make 202 = .ok (.aload_n 0, 1) := by decide +kernel
theorem dX5_make_203 : decode cX5_make 203 = .ok (.iload_n 1, 1) := by decide +kernel
theorem dX5_make_204 : decode cX5_make 204 = .ok (.aload_n 0, 1) := by decide +kernel
theorem dX5_make_205 : decode cX5_make 205 = .ok (.getfield 52, 3) := by decide +kernel
theorem dX5_make_208 : decode cX5_make 208 = .ok (.iload_n 1, 1) := by decide +kernel
theorem dX5_make_209 : decode cX5_make 209 = .ok (.invokevirtual 113, 3) := by decide +kernel
theorem dX5_make_21 : decode cX5_make 21 = .ok (.aload_n 0, 1) := by decide +kernel
theorem dX5_make_212 : decode cX5_make 212 = .ok (.invokevirtual 56, 3) := by decide +kernel
theorem dX5_make_215 : decode cX5_make 215 = .ok (.iinc 1 1, 3) := by decide +kernel
theorem dX5_make_218 : decode cX5_make 218 = .ok (.goto (-22), 3) := by decide +kernel
theorem dX5_make_22 : decode cX5_make 22 = .ok (.getfield 9, 3) := by decide +kernel
theorem dX5_make_221 : decode cX5_make 221 = .ok (.aload_n 0, 1) := by decide +kernel
theorem dX5_make_222 : decode cX5_make 222 = .ok (.aload_n 0, 1) := by decide +kernel
theorem dX5_make_223 : decode cX5_make 223 = .ok (.getfield 27, 3) := by decide +kernel
theorem dX5_make_226 : decode cX5_make 226 = .ok (.aload_n 0, 1) := by decide +kernel
theorem dX5_make_227 : decode cX5_make 227 = .ok (.getfield 15, 3) := by decide +kernel
theorem dX5_make_230 : decode cX5_make 230 = .ok (.aload_n 0, 1) := by decide +kernel
theorem dX5_make_231 : decode cX5_make 231 = .ok (.getfield 24, 3) := by decide +kernel
theorem dX5_make_234 : decode cX5_make 234 = .ok (.invokevirtual 118, 3) := by decide +kernel
theorem dX5_make_237 : decode cX5_make 237 = .ok (.aload_n 0, 1) := by decide +kernel
theorem dX5_make_238 : decode cX5_make 238 = .ok (.iconst 1, 1) := by decide +kernel
theorem dX5_make_239 : decode cX5_make 239 = .ok (.putfield 37, 3) := by decide +kernel
theorem dX5_make_242 : decode cX5_make 242 = .ok (.aload_n 0, 1) := by decide +kernel
theorem dX5_make_243 : decode cX5_make 243 = .ok (.iconst 0, 1) := by decide +kernel
theorem dX5_make_244 : decode cX5_make 244 = .ok (.putfield 41, 3) := by decide +kernel
theorem dX5_make_247 : decode cX5_make 247 = .ok (.return_, 1) := by decide +kernel
theorem dX5_make_25 : decode cX5_make 25 = .ok (.iconst 0, 1) := by decide +kernel
theorem dX5_make_26 : decode cX5_make 26 = .ok (.iconst 0, 1) := by decide +kernel
theorem dX5_make_27 : decode cX5_make 27 = .ok (.iastore, 1) := by decide +kernel
theorem dX5_make_28 : decode cX5_make 28 = .ok (.aload_n 0, 1) := by decide +kernel
theorem dX5_make_29 : decode cX5_make 29 = .ok (.getfield 15, 3) := by decide +kernel
theorem dX5_make_32 : decode cX5_make 32 = .ok (.iconst 0, 1) := by decide +kernel
theorem dX5_make_33 : decode cX5_make 33 = .ok (.iconst 0, 1) := by decide +kernel
theorem dX5_make_34 : decode cX5_make 34 = .ok (.iastore, 1) := by decide +kernel
theorem dX5_make_35 : decode cX5_make 35 = .ok (.aload_n 0, 1) := by decide +kernel
theorem dX5_make_36 : decode cX5_make 36 = .ok (.getfield 18, 3) := by decide +kernel
theorem dX5_make_39 : decode cX5_make 39 = .ok (.iconst 0, 1) := by decide +kernel
theorem dX5_make_4 : decode cX5_make 4 = .ok (.ifCond .eq 4, 3) := by decide +kernel
theorem dX5_make_40 : decode cX5_make 40 = .ok (.iconst 0, 1) := by decide +kernel
theorem dX5_make_41 : decode cX5_make 41 = .ok (.iastore, 1) := by decide +kernel
theorem dX5_make_42 : decode cX5_make 42 = .ok (.aload_n 0, 1) := by decide +kernel
theorem dX5_make_43 : decode cX5_make 43 = .ok (.iconst 1, 1) := by decide +kernel
theorem dX5_make_44 : decode cX5_make 44 = .ok (.putfield 33, 3) := by decide +kernel
theorem dX5_make_47 : decode cX5_make 47 = .ok (.iconst 0, 1) := by decide +kernel
theorem dX5_make_48 : decode cX5_make 48 = .ok (.istore_n 1, 1) := by decide +kernel
theorem dX5_make_49 : decode cX5_make 49 = .ok (.iload_n 1, 1) := by decide +kernel
theorem dX5_make_50 : decode cX5_make 50 = .ok (.aload_n 0, 1) := by decide +kernel
theorem dX5_make_51 : decode cX5_make 51 = .ok (.getfield 44, 3) := by decide +kernel
theorem dX5_make_54 : decode cX5_make 54 = .ok (.getfield 76, 3) := by decide +kernel
theorem dX5_make_57 : decode cX5_make 57 = .ok (.if_icmp .ge 22, 3) := by decide +kernel
theorem dX5_make_79 : decode cX5_make 79 = .ok (.iconst 0, 1) := by decide +kernel
theorem dX5_make_8 : decode cX5_make 8 = .ok (.aload_n 0, 1) := by decide +kernel
theorem dX5_make_80 : decode cX5_make 80 = .ok (.istore_n 1, 1) := by decide +kernel
theorem dX5_make_81 : decode cX5_make 81 = .ok (.iload_n 1, 1) := by decide +kernel
theorem dX5_make_82 : decode cX5_make 82 = .ok (.aload_n 0, 1) := by decide +kernel
theorem dX5_make_83 : decode cX5_make 83 = .ok (.getfield 44, 3) := by decide +kernel
theorem dX5_make_86 : decode cX5_make 86 = .ok (.getfield 93, 3) := by decide +kernel
theorem dX5_make_89 : decode cX5_make 89 = .ok (.if_icmp .ge 31, 3) := by decide +kernel
theorem dX5_make_9 : decode cX5_make 9 = .ok (.iconst 1, 1) := by decide +kernel
theorem dX5_rank_0 : decode cX5_rank 0 = .ok (.aload_n 0, 1) := by decide +kernel
theorem dX5_rank_1 : decode cX5_rank 1 = .ok (.invokevirtual 60, 3) := by decide +kernel
theorem dX5_rank_11 : decode cX5_rank 11 = .ok (.aload_n 0, 1) := by decide +kernel
theorem dX5_rank_12 : decode cX5_rank 12 = .ok (.aload_n 0, 1) := by decide +kernel
theorem dX5_rank_13 : decode cX5_rank 13 = .ok (.getfield 24, 3) := by decide +kernel
theorem dX5_rank_16 : decode cX5_rank 16 = .ok (.aload_n 0, 1) := by decide +kernel
theorem dX5_rank_17 : decode cX5_rank 17 = .ok (.getfield 21, 3) := by decide +kernel
theorem dX5_rank_20 : decode cX5_rank 20 = .ok (.aload_n 0, 1) := by decide +kernel
theorem dX5_rank_21 : decode cX5_rank 21 = .ok (.getfield 27, 3) := by decide +kernel
theorem dX5_rank_24 : decode cX5_rank 24 = .ok (.invokevirtual 118, 3) := by decide +kernel
theorem dX5_rank_27 : decode cX5_rank 27 = .ok (.aload_n 0, 1) := by decide +kernel
theorem dX5_rank_28 : decode cX5_rank 28 = .ok (.iconst 1, 1) := by decide +kernel
theorem dX5_rank_29 : decode cX5_rank 29 = .ok (.putfield 41, 3) := by decide +kernel
theorem dX5_rank_32 : decode cX5_rank 32 = .ok (.return_, 1) := by decide +kernel
theorem dX5_rank_4 : decode cX5_rank 4 = .ok (.aload_n 0, 1) := by decide +kernel
theorem dX5_rank_5 : decode cX5_rank 5 = .ok (.getfield 41, 3) := by decide +kernel
theorem dX5_rank_8 : decode cX5_rank 8 = .ok (.ifCond .ne 24, 3) := by decide +kernel
theorem dX5_sort_0 : decode cX5_sort 0 = .ok (.iconst 0, 1) := by decide +kernel
theorem dX5_sort_1 : decode cX5_sort 1 = .ok (.istore 4, 2) := by decide +kernel
theorem dX5_sort_104 : decode cX5_sort 104 = .ok (.iconst 0, 1) := by decide +kernel
theorem dX5_sort_105 : decode cX5_sort 105 = .ok (.istore 5, 2) := by decide +kernel
theorem dX5_sort_107 : decode cX5_sort 107 = .ok (.iload 5, 2) := by decide +kernel
theorem dX5_sort_109 : decode cX5_sort 109 = .ok (.aload_n 0, 1) := by decide +kernel
theorem dX5_sort_110 : decode cX5_sort 110 = .ok (.getfield 33, 3) := by decide +kernel
theorem dX5_sort_113 : decode cX5_sort 113 = .ok (.if_icmp .ge 53, 3) := by decide +kernel
theorem dX5_sort_116 : decode cX5_sort 116 = .ok (.aload_n 1, 1) := by decide +kernel
theorem dX5_sort_117 : decode cX5_sort 117 = .ok (.iload 5, 2) := by decide +kernel
theorem dX5_sort_119 : decode cX5_sort 119 = .ok (.iaload, 1) := by decide +kernel
theorem dX5_sort_12 : decode cX5_sort 12 = .ok (.if_icmp .ge 20, 3) := by decide +kernel
theorem dX5_sort_120 : decode cX5_sort 120 = .ok (.istore 6, 2) := by decide +kernel
theorem dX5_sort_122 : decode cX5_sort 122 = .ok (.aload_n 0, 1) := by decide +kernel
theorem dX5_sort_123 : decode cX5_sort 123 = .ok (.iload 6, 2) := by decide +kernel
theorem dX5_sort_125 : decode cX5_sort 125 = .ok (.invokevirtual 66, 3) := by decide +kernel
theorem dX5_sort_128 : decode cX5_sort 128 = .ok (.ifCond .eq 14, 3) := by decide +kernel
theorem dX5_sort_131 : decode cX5_sort 131 = .ok (.aload_n 0, 1) := by decide +kernel
theorem dX5_sort_132 : decode cX5_sort 132 = .ok (.aload_n 2, 1) := by decide +kernel
theorem dX5_sort_133 : decode cX5_sort 133 = .ok (.iload 6, 2) := by decide +kernel
theorem dX5_sort_135 : decode cX5_sort 135 = .ok (.iaload, 1) := by decide +kernel
theorem dX5_sort_136 : decode cX5_sort 136 = .ok (.invokevirtual 150, 3) := by decide +kernel
theorem dX5_sort_139 : decode cX5_sort 139 = .ok (.goto 4, 3) := by decide +kernel
theorem dX5_sort_143 : decode cX5_sort 143 = .ok (.istore 7, 2) := by decide +kernel
theorem dX5_sort_145 : decode cX5_sort 145 = .ok (.aload_n 0, 1) := by decide +kernel
theorem dX5_sort_146 : decode cX5_sort 146 = .ok (.iload 7, 2) := by decide +kernel
theorem dX5_sort_148 : decode cX5_sort 148 = .ok (.invokevirtual 66, 3) := by decide +kernel
theorem dX5_sort_15 : decode cX5_sort 15 = .ok (.iload 4, 2) := by decide +kernel
theorem dX5_sort_151 : decode cX5_sort 151 = .ok (.ifCond .eq 9, 3) := by decide +kernel
theorem dX5_sort_154 : decode cX5_sort 154 = .ok (.aload_n 3, 1) := by decide +kernel
theorem dX5_sort_155 : decode cX5_sort 155 = .ok (.iload 7, 2) := by decide +kernel
theorem dX5_sort_157 : decode cX5_sort 157 = .ok (.iload 6, 2) := by decide +kernel
theorem dX5_sort_159 : decode cX5_sort 159 = .ok (.iastore, 1) := by decide +kernel
theorem dX5_sort_160 : decode cX5_sort 160 = .ok (.iinc 5 1, 3) := by decide +kernel
theorem dX5_sort_163 : decode cX5_sort 163 = .ok (.goto (-56), 3) := by decide +kernel
theorem dX5_sort_166 : decode cX5_sort 166 = .ok (.return_, 1) := by decide +kernel
theorem dX5_sort_17 : decode cX5_sort 17 = .ok (.aload_n 2, 1) := by decide +kernel
theorem dX5_sort_18 : decode cX5_sort 18 = .ok (.iload 5, 2) := by decide +kernel
theorem dX5_sort_20 : decode cX5_sort 20 = .ok (.iaload, 1) := by decide +kernel
theorem dX5_sort_21 : decode cX5_sort 21 = .ok (.invokestatic 141, 3) := by decide +kernel
theorem dX5_sort_24 : decode cX5_sort 24 = .ok (.istore 4, 2) := by decide +kernel
theorem dX5_sort_26 : decode cX5_sort 26 = .ok (.iinc 5 1, 3) := by decide +kernel
theorem dX5_sort_29 : decode cX5_sort 29 = .ok (.goto (-23), 3) := by decide +kernel
theorem dX5_sort_3 : decode cX5_sort 3 = .ok (.iconst 0, 1) := by decide +kernel
theorem dX5_sort_32 : decode cX5_sort 32 = .ok (.aload_n 0, 1) := by decide +kernel
theorem dX5_sort_33 : decode cX5_sort 33 = .ok (.iload 4, 2) := by decide +kernel
theorem dX5_sort_35 : decode cX5_sort 35 = .ok (.iconst 2, 1) := by decide +kernel
theorem dX5_sort_36 : decode cX5_sort 36 = .ok (.iadd, 1) := by decide +kernel
theorem dX5_sort_37 : decode cX5_sort 37 = .ok (.invokevirtual 147, 3) := by decide +kernel
theorem dX5_sort_4 : decode cX5_sort 4 = .ok (.istore 5, 2) := by decide +kernel
theorem dX5_sort_40 : decode cX5_sort 40 = .ok (.iconst 0, 1) := by decide +kernel
theorem dX5_sort_41 : decode cX5_sort 41 = .ok (.istore 5, 2) := by decide +kernel
theorem dX5_sort_43 : decode cX5_sort 43 = .ok (.iload 5, 2) := by decide +kernel
theorem dX5_sort_45 : decode cX5_sort 45 = .ok (.aload_n 0, 1) := by decide +kernel
theorem dX5_sort_46 : decode cX5_sort 46 = .ok (.getfield 33, 3) := by decide +kernel
theorem dX5_sort_49 : decode cX5_sort 49 = .ok (.if_icmp .ge 20, 3) := by decide +kernel
theorem dX5_sort_52 : decode cX5_sort 52 = .ok (.aload_n 0, 1) := by decide +kernel
theorem dX5_sort_53 : decode cX5_sort 53 = .ok (.aload_n 2, 1) := by decide +kernel
theorem dX5_sort_54 : decode cX5_sort 54 = .ok (.iload 5, 2) := by decide +kernel
theorem dX5_sort_56 : decode cX5_sort 56 = .ok (.iaload, 1) := by decide +kernel
theorem dX5_sort_57 : decode cX5_sort 57 = .ok (.iconst 1, 1) := by decide +kernel
theorem dX5_sort_58 : decode cX5_sort 58 = .ok (.iadd, 1) := by decide +kernel
theorem dX5_sort_59 : decode cX5_sort 59 = .ok (.invokevirtual 150, 3) := by decide +kernel
theorem dX5_sort_6 : decode cX5_sort 6 = .ok (.iload 5, 2) := by decide +kernel
theorem dX5_sort_62 : decode cX5_sort 62 = .ok (.pop, 1) := by decide +kernel
theorem dX5_sort_63 : decode cX5_sort 63 = .ok (.iinc 5 1, 3) := by decide +kernel
theorem dX5_sort_66 : decode cX5_sort 66 = .ok (.goto (-23), 3) := by decide +kernel
theorem dX5_sort_69 : decode cX5_sort 69 = .ok (.iconst 0, 1) := by decide +kernel
theorem dX5_sort_70 : decode cX5_sort 70 = .ok (.istore 5, 2) := by decide +kernel
theorem dX5_sort_72 : decode cX5_sort 72 = .ok (.iload 5, 2) := by decide +kernel
theorem dX5_sort_74 : decode cX5_sort 74 = .ok (.iload 4, 2) := by decide +kernel
theorem dX5_sort_76 : decode cX5_sort 76 = .ok (.if_icmp .ge 28, 3) := by decide +kernel
theorem dX5_sort_8 : decode cX5_sort 8 = .ok (.aload_n 0, 1) := by decide +kernel
theorem dX5_sort_9 : decode cX5_sort 9 = .ok (.getfield 33, 3) := by decide +kernel
theorem dX6_forget_0 : decode cX6_forget 0 = .ok (.aload_n 0, 1) := by decide +kernel
theorem dX6_forget_1 : decode cX6_forget 1 = .ok (.iconst (-1), 1) := by decide +kernel
theorem dX6_forget_2 : decode cX6_forget 2 = .ok (.putfield 19, 3) := by decide +kernel
theorem dX6_forget_5 : decode cX6_forget 5 = .ok (.return_, 1) := by decide +kernel
theorem dX6_holds_0 : decode cX6_holds 0 = .ok (.aload_n 0, 1) := by decide +kernel
theorem dX6_holds_1 : decode cX6_holds 1 = .ok (.getfield 19, 3) := by decide +kernel
theorem dX6_holds_12 : decode cX6_holds 12 = .ok (.iconst 0, 1) := by decide +kernel
theorem dX6_holds_13 : decode cX6_holds 13 = .ok (.ireturn, 1) := by decide +kernel
theorem dX6_holds_4 : decode cX6_holds 4 = .ok (.iload_n 1, 1) := by decide +kernel
theorem dX6_holds_5 : decode cX6_holds 5 = .ok (.if_icmp .ne 7, 3) := by decide +kernel
theorem dX6_init_0 : decode cX6_init 0 = .ok (.aload_n 0, 1) := by decide +kernel
theorem dX6_init_1 : decode cX6_init 1 = .ok (.invokespecial 3, 3) := by decide +kernel
theorem dX6_init_11 : decode cX6_init 11 = .ok (.aload_n 0, 1) := by decide +kernel
theorem dX6_init_12 : decode cX6_init 12 = .ok (.iconst 0, 1) := by decide +kernel
theorem dX6_init_13 : decode cX6_init 13 = .ok (.putfield 15, 3) := by decide +kernel
theorem dX6_init_16 : decode cX6_init 16 = .ok (.aload_n 0, 1) := by decide +kernel
theorem dX6_init_17 : decode cX6_init 17 = .ok (.iconst (-1), 1) := by decide +kernel
theorem dX6_init_18 : decode cX6_init 18 = .ok (.putfield 19, 3) := by decide +kernel
theorem dX6_init_21 : decode cX6_init 21 = .ok (.aload_n 0, 1) := by decide +kernel
theorem dX6_init_22 : decode cX6_init 22 = .ok (.iconst 0, 1) := by decide +kernel
theorem dX6_init_23 : decode cX6_init 23 = .ok (.putfield 22, 3) := by decide +kernel
theorem dX6_init_26 : decode cX6_init 26 = .ok (.aload_n 0, 1) := by decide +kernel
theorem dX6_init_27 : decode cX6_init 27 = .ok (.iconst (-1), 1) := by decide +kernel
theorem dX6_init_28 : decode cX6_init 28 = .ok (.putfield 25, 3) := by decide +kernel
theorem dX6_init_31 : decode cX6_init 31 = .ok (.aload_n 0, 1) := by decide +kernel
theorem dX6_init_32 : decode cX6_init 32 = .ok (.aload_n 1, 1) := by decide +kernel
theorem dX6_init_33 : decode cX6_init 33 = .ok (.putfield 28, 3) := by decide +kernel
theorem dX6_init_36 : decode cX6_init 36 = .ok (.return_, 1) := by decide +kernel
theorem dX6_init_4 : decode cX6_init 4 = .ok (.aload_n 0, 1) := by decide +kernel
theorem dX6_init_5 : decode cX6_init 5 = .ok (.iconst 0, 1) := by decide +kernel
theorem dX6_init_6 : decode cX6_init 6 = .ok (.newarray .char, 2) := by decide +kernel
theorem dX6_init_8 : decode cX6_init 8 = .ok (.putfield 9, 3) := by decide +kernel
theorem dX6_signAt_0 : decode cX6_signAt 0 = .ok (.iload_n 1, 1) := by decide +kernel
theorem dX6_signAt_1 : decode cX6_signAt 1 = .ok (.ifCond .lt 20, 3) := by decide +kernel
theorem dX6_signAt_21 : decode cX6_signAt 21 = .ok (.iconst (-1), 1) := by decide +kernel
theorem dX6_signAt_22 : decode cX6_signAt 22 = .ok (.ireturn, 1) := by decide +kernel
theorem dX6_signAt_4 : decode cX6_signAt 4 = .ok (.iload_n 1, 1) := by decide +kernel
theorem dX6_signAt_5 : decode cX6_signAt 5 = .ok (.aload_n 0, 1) := by decide +kernel
theorem dX6_signAt_6 : decode cX6_signAt 6 = .ok (.getfield 15, 3) := by decide +kernel
theorem dX6_signAt_9 : decode cX6_signAt 9 = .ok (.if_icmp .ge 12, 3) := by decide +kernel
theorem dX6_write_0 : decode cX6_write 0 = .ok (.aload_n 0, 1) := by decide +kernel
theorem dX6_write_1 : decode cX6_write 1 = .ok (.getfield 9, 3) := by decide +kernel
theorem dX6_write_26 : decode cX6_write 26 = .ok (.aload_n 0, 1) := by decide +kernel
theorem dX6_write_27 : decode cX6_write 27 = .ok (.iconst 0, 1) := by decide +kernel
theorem dX6_write_28 : decode cX6_write 28 = .ok (.putfield 15, 3) := by decide +kernel
theorem dX6_write_31 : decode cX6_write 31 = .ok (.aload_n 0, 1) := by decide +kernel
theorem dX6_write_32 : decode cX6_write 32 = .ok (.iconst 0, 1) := by decide +kernel
theorem dX6_write_33 : decode cX6_write 33 = .ok (.putfield 22, 3) := by decide +kernel
theorem dX6_write_36 : decode cX6_write 36 = .ok (.aload_n 0, 1) := by decide +kernel
theorem dX6_write_37 : decode cX6_write 37 = .ok (.iconst (-1), 1) := by decide +kernel
theorem dX6_write_38 : decode cX6_write 38 = .ok (.putfield 25, 3) := by decide +kernel
theorem dX6_write_4 : decode cX6_write 4 = .ok (.arraylength, 1) := by decide +kernel
theorem dX6_write_41 : decode cX6_write 41 = .ok (.iconst 0, 1) := by decide +kernel
theorem dX6_write_42 : decode cX6_write 42 = .ok (.istore_n 3, 1) := by decide +kernel
theorem dX6_write_43 : decode cX6_write 43 = .ok (.iload_n 3, 1) := by decide +kernel
theorem dX6_write_44 : decode cX6_write 44 = .ok (.aload_n 0, 1) := by decide +kernel
theorem dX6_write_45 : decode cX6_write 45 = .ok (.getfield 28, 3) := by decide +kernel
theorem dX6_write_48 : decode cX6_write 48 = .ok (.getfield 38, 3) := by decide +kernel
theorem dX6_write_5 : decode cX6_write 5 = .ok (.iload_n 2, 1) := by decide +kernel
theorem dX6_write_51 : decode cX6_write 51 = .ok (.getfield 44, 3) := by decide +kernel
theorem dX6_write_54 : decode cX6_write 54 = .ok (.if_icmp .ge 38, 3) := by decide +kernel
theorem dX6_write_6 : decode cX6_write 6 = .ok (.if_icmp .ge 20, 3) := by decide +kernel
theorem dX6_write_92 : decode cX6_write 92 = .ok (.aload_n 0, 1) := by decide +kernel
theorem dX6_write_93 : decode cX6_write 93 = .ok (.iload_n 1, 1) := by decide +kernel
theorem dX6_write_94 : decode cX6_write 94 = .ok (.putfield 19, 3) := by decide +kernel
theorem dX6_write_97 : decode cX6_write 97 = .ok (.return_, 1) := by decide +kernel
theorem dX7_init_0 : decode cX7_init 0 = .ok (.aload_n 0, 1) := by decide +kernel
theorem dX7_init_1 : decode cX7_init 1 = .ok (.invokespecial 3, 3) := by decide +kernel
theorem dX7_init_12 : decode cX7_init 12 = .ok (.aload_n 0, 1) := by decide +kernel
theorem dX7_init_13 : decode cX7_init 13 = .ok (.iconst 0, 1) := by decide +kernel
theorem dX7_init_14 : decode cX7_init 14 = .ok (.putfield 17, 3) := by decide +kernel
theorem dX7_init_17 : decode cX7_init 17 = .ok (.aload_n 0, 1) := by decide +kernel
theorem dX7_init_18 : decode cX7_init 18 = .ok (.iconst (-1), 1) := by decide +kernel
theorem dX7_init_19 : decode cX7_init 19 = .ok (.putfield 21, 3) := by decide +kernel
theorem dX7_init_22 : decode cX7_init 22 = .ok (.aload_n 0, 1) := by decide +kernel
theorem dX7_init_23 : decode cX7_init 23 = .ok (.iconst 0, 1) := by decide +kernel
theorem dX7_init_24 : decode cX7_init 24 = .ok (.putfield 24, 3) := by decide +kernel
theorem dX7_init_27 : decode cX7_init 27 = .ok (.aload_n 0, 1) := by decide +kernel
theorem dX7_init_28 : decode cX7_init 28 = .ok (.iconst (-1), 1) := by decide +kernel
theorem dX7_init_29 : decode cX7_init 29 = .ok (.putfield 27, 3) := by decide +kernel
theorem dX7_init_32 : decode cX7_init 32 = .ok (.aload_n 0, 1) := by decide +kernel
theorem dX7_init_33 : decode cX7_init 33 = .ok (.iconst 0, 1) := by decide +kernel
theorem dX7_init_34 : decode cX7_init 34 = .ok (.putfield 30, 3) := by decide +kernel
theorem dX7_init_37 : decode cX7_init 37 = .ok (.aload_n 0, 1) := by decide +kernel
theorem dX7_init_38 : decode cX7_init 38 = .ok (.iconst (-1), 1) := by decide +kernel
theorem dX7_init_39 : decode cX7_init 39 = .ok (.putfield 33, 3) := by decide +kernel
theorem dX7_init_4 : decode cX7_init 4 = .ok (.aload_n 0, 1) := by decide +kernel
theorem dX7_init_42 : decode cX7_init 42 = .ok (.aload_n 0, 1) := by decide +kernel
theorem dX7_init_43 : decode cX7_init 43 = .ok (.aload_n 1, 1) := by decide +kernel
theorem dX7_init_44 : decode cX7_init 44 = .ok (.putfield 36, 3) := by decide +kernel
theorem dX7_init_47 : decode cX7_init 47 = .ok (.aload_n 0, 1) := by decide +kernel
theorem dX7_init_48 : decode cX7_init 48 = .ok (.aload_n 2, 1) := by decide +kernel
theorem dX7_init_49 : decode cX7_init 49 = .ok (.putfield 40, 3) := by decide +kernel
theorem dX7_init_5 : decode cX7_init 5 = .ok (.iconst 5, 1) := by decide +kernel
theorem dX7_init_52 : decode cX7_init 52 = .ok (.iconst 0, 1) := by decide +kernel
theorem dX7_init_53 : decode cX7_init 53 = .ok (.istore_n 3, 1) := by decide +kernel
theorem dX7_init_54 : decode cX7_init 54 = .ok (.iload_n 3, 1) := by decide +kernel
theorem dX7_init_55 : decode cX7_init 55 = .ok (.aload_n 0, 1) := by decide +kernel
theorem dX7_init_56 : decode cX7_init 56 = .ok (.getfield 11, 3) := by decide +kernel
theorem dX7_init_59 : decode cX7_init 59 = .ok (.arraylength, 1) := by decide +kernel
theorem dX7_init_6 : decode cX7_init 6 = .ok (.anewarray 9, 3) := by decide +kernel
theorem dX7_init_60 : decode cX7_init 60 = .ok (.if_icmp .ge 22, 3) := by decide +kernel
theorem dX7_init_63 : decode cX7_init 63 = .ok (.aload_n 0, 1) := by decide +kernel
theorem dX7_init_64 : decode cX7_init 64 = .ok (.getfield 11, 3) := by decide +kernel
theorem dX7_init_67 : decode cX7_init 67 = .ok (.iload_n 3, 1) := by decide +kernel
theorem dX7_init_68 : decode cX7_init 68 = .ok (.new 9, 3) := by decide +kernel
theorem dX7_init_71 : decode cX7_init 71 = .ok (.dup, 1) := by decide +kernel
theorem dX7_init_72 : decode cX7_init 72 = .ok (.invokespecial 44, 3) := by decide +kernel
theorem dX7_init_75 : decode cX7_init 75 = .ok (.aastore, 1) := by decide +kernel
theorem dX7_init_76 : decode cX7_init 76 = .ok (.iinc 3 1, 3) := by decide +kernel
theorem dX7_init_79 : decode cX7_init 79 = .ok (.goto (-25), 3) := by decide +kernel
theorem dX7_init_82 : decode cX7_init 82 = .ok (.aload_n 0, 1) := by decide +kernel
theorem dX7_init_83 : decode cX7_init 83 = .ok (.aload_n 0, 1) := by decide +kernel
theorem dX7_init_84 : decode cX7_init 84 = .ok (.getfield 11, 3) := by decide +kernel
theorem dX7_init_87 : decode cX7_init 87 = .ok (.iconst 0, 1) := by decide +kernel
theorem dX7_init_88 : decode cX7_init 88 = .ok (.aaload, 1) := by decide +kernel
theorem dX7_init_89 : decode cX7_init 89 = .ok (.putfield 45, 3) := by decide +kernel
theorem dX7_init_9 : decode cX7_init 9 = .ok (.putfield 11, 3) := by decide +kernel
theorem dX7_init_92 : decode cX7_init 92 = .ok (.return_, 1) := by decide +kernel
theorem dX7_scan_0 : decode cX7_scan 0 = .ok (.aload_n 0, 1) := by decide +kernel
theorem dX7_scan_1 : decode cX7_scan 1 = .ok (.iconst 0, 1) := by decide +kernel
theorem dX7_scan_10 : decode cX7_scan 10 = .ok (.aload_n 0, 1) := by decide +kernel
theorem dX7_scan_108 : decode cX7_scan 108 = .ok (.return_, 1) := by decide +kernel
theorem dX7_scan_11 : decode cX7_scan 11 = .ok (.iconst 0, 1) := by decide +kernel
theorem dX7_scan_12 : decode cX7_scan 12 = .ok (.putfield 24, 3) := by decide +kernel
theorem dX7_scan_15 : decode cX7_scan 15 = .ok (.aload_n 0, 1) := by decide +kernel
theorem dX7_scan_16 : decode cX7_scan 16 = .ok (.iconst (-1), 1) := by decide +kernel
theorem dX7_scan_17 : decode cX7_scan 17 = .ok (.putfield 27, 3) := by decide +kernel
theorem dX7_scan_2 : decode cX7_scan 2 = .ok (.putfield 17, 3) := by decide +kernel
theorem dX7_scan_20 : decode cX7_scan 20 = .ok (.aload_n 0, 1) := by decide +kernel
theorem dX7_scan_21 : decode cX7_scan 21 = .ok (.iconst 0, 1) := by decide +kernel
theorem dX7_scan_22 : decode cX7_scan 22 = .ok (.putfield 30, 3) := by decide +kernel
theorem dX7_scan_25 : decode cX7_scan 25 = .ok (.aload_n 0, 1) := by decide +kernel
theorem dX7_scan_26 : decode cX7_scan 26 = .ok (.iconst (-1), 1) := by decide +kernel
theorem dX7_scan_27 : decode cX7_scan 27 = .ok (.putfield 33, 3) := by decide +kernel
theorem dX7_scan_30 : decode cX7_scan 30 = .ok (.iconst 0, 1) := by decide +kernel
theorem dX7_scan_31 : decode cX7_scan 31 = .ok (.istore_n 1, 1) := by decide +kernel
theorem dX7_scan_32 : decode cX7_scan 32 = .ok (.iload_n 1, 1) := by decide +kernel
theorem dX7_scan_33 : decode cX7_scan 33 = .ok (.sipush 800, 3) := by decide +kernel
theorem dX7_scan_36 : decode cX7_scan 36 = .ok (.if_icmp .gt 45, 3) := by decide +kernel
theorem dX7_scan_39 : decode cX7_scan 39 = .ok (.aload_n 0, 1) := by decide +kernel
theorem dX7_scan_40 : decode cX7_scan 40 = .ok (.getfield 24, 3) := by decide +kernel
theorem dX7_scan_43 : decode cX7_scan 43 = .ok (.aload_n 0, 1) := by decide +kernel
theorem dX7_scan_44 : decode cX7_scan 44 = .ok (.getfield 36, 3) := by decide +kernel
theorem dX7_scan_47 : decode cX7_scan 47 = .ok (.getfield 49, 3) := by decide +kernel
theorem dX7_scan_5 : decode cX7_scan 5 = .ok (.aload_n 0, 1) := by decide +kernel
theorem dX7_scan_50 : decode cX7_scan 50 = .ok (.if_icmp .ge 31, 3) := by decide +kernel
theorem dX7_scan_6 : decode cX7_scan 6 = .ok (.iconst (-1), 1) := by decide +kernel
theorem dX7_scan_7 : decode cX7_scan 7 = .ok (.putfield 21, 3) := by decide +kernel
theorem dX7_scan_81 : decode cX7_scan 81 = .ok (.aload_n 0, 1) := by decide +kernel
theorem dX7_scan_82 : decode cX7_scan 82 = .ok (.getfield 17, 3) := by decide +kernel
theorem dX7_scan_85 : decode cX7_scan 85 = .ok (.ifCond .ne 23, 3) := by decide +kernel
theorem dX7_scan_88 : decode cX7_scan 88 = .ok (.aload_n 0, 1) := by decide +kernel
theorem dX7_scan_89 : decode cX7_scan 89 = .ok (.getfield 27, 3) := by decide +kernel
theorem dX7_scan_92 : decode cX7_scan 92 = .ok (.iconst (-1), 1) := by decide +kernel
theorem dX7_scan_93 : decode cX7_scan 93 = .ok (.if_icmp .eq 15, 3) := by decide +kernel
theorem dX8_clear_0 : decode cX8_clear 0 = .ok (.aload_n 0, 1) := by decide +kernel
theorem dX8_clear_1 : decode cX8_clear 1 = .ok (.iconst 0, 1) := by decide +kernel
theorem dX8_clear_10 : decode cX8_clear 10 = .ok (.aload_n 0, 1) := by decide +kernel
theorem dX8_clear_11 : decode cX8_clear 11 = .ok (.bipush 14, 2) := by decide +kernel
theorem dX8_clear_13 : decode cX8_clear 13 = .ok (.putfield 28, 3) := by decide +kernel
theorem dX8_clear_16 : decode cX8_clear 16 = .ok (.aload_n 0, 1) := by decide +kernel
theorem dX8_clear_17 : decode cX8_clear 17 = .ok (.iconst 0, 1) := by decide +kernel
theorem dX8_clear_18 : decode cX8_clear 18 = .ok (.putfield 31, 3) := by decide +kernel
theorem dX8_clear_2 : decode cX8_clear 2 = .ok (.putfield 15, 3) := by decide +kernel
theorem dX8_clear_21 : decode cX8_clear 21 = .ok (.aload_n 0, 1) := by decide +kernel
theorem dX8_clear_22 : decode cX8_clear 22 = .ok (.iconst 0, 1) := by decide +kernel
theorem dX8_clear_23 : decode cX8_clear 23 = .ok (.putfield 34, 3) := by decide +kernel
theorem dX8_clear_26 : decode cX8_clear 26 = .ok (.aload_n 0, 1) := by decide +kernel
theorem dX8_clear_27 : decode cX8_clear 27 = .ok (.iconst 0, 1) := by decide +kernel
theorem dX8_clear_28 : decode cX8_clear 28 = .ok (.putfield 37, 3) := by decide +kernel
theorem dX8_clear_31 : decode cX8_clear 31 = .ok (.aload_n 0, 1) := by decide +kernel
theorem dX8_clear_32 : decode cX8_clear 32 = .ok (.iconst 0, 1) := by decide +kernel
theorem dX8_clear_33 : decode cX8_clear 33 = .ok (.putfield 40, 3) := by decide +kernel
theorem dX8_clear_36 : decode cX8_clear 36 = .ok (.aload_n 0, 1) := by decide +kernel
theorem dX8_clear_37 : decode cX8_clear 37 = .ok (.iconst 0, 1) := by decide +kernel
theorem dX8_clear_38 : decode cX8_clear 38 = .ok (.putfield 49, 3) := by decide +kernel
theorem dX8_clear_41 : decode cX8_clear 41 = .ok (.aload_n 0, 1) := by decide +kernel
theorem dX8_clear_42 : decode cX8_clear 42 = .ok (.getfield 55, 3) := by decide +kernel
theorem dX8_clear_45 : decode cX8_clear 45 = .ok (.iconst 0, 1) := by decide +kernel
theorem dX8_clear_46 : decode cX8_clear 46 = .ok (.putfield 69, 3) := by decide +kernel
theorem dX8_clear_49 : decode cX8_clear 49 = .ok (.aload_n 0, 1) := by decide +kernel
theorem dX8_clear_5 : decode cX8_clear 5 = .ok (.aload_n 0, 1) := by decide +kernel
theorem dX8_clear_50 : decode cX8_clear 50 = .ok (.iconst 0, 1) := by decide +kernel
theorem dX8_clear_51 : decode cX8_clear 51 = .ok (.putfield 65, 3) := by decide +kernel
theorem dX8_clear_54 : decode cX8_clear 54 = .ok (.return_, 1) := by decide +kernel
theorem dX8_clear_6 : decode cX8_clear 6 = .ok (.iconst 0, 1) := by decide +kernel
theorem dX8_clear_7 : decode cX8_clear 7 = .ok (.putfield 25, 3) := by decide +kernel
theorem dX8_hasAllOf_0 : decode cX8_hasAllOf 0 = .ok (.iload_n 1, 1) := by decide +kernel
theorem dX8_hasAllOf_1 : decode cX8_hasAllOf 1 = .ok (.aload_n 0, 1) := by decide +kernel
theorem dX8_hasAllOf_10 : decode cX8_hasAllOf 10 = .ok (.goto 4, 3) := by decide +kernel
theorem dX8_hasAllOf_13 : decode cX8_hasAllOf 13 = .ok (.iconst 0, 1) := by decide +kernel
theorem dX8_hasAllOf_14 : decode cX8_hasAllOf 14 = .ok (.ireturn, 1) := by decide +kernel
theorem dX8_hasAllOf_2 : decode cX8_hasAllOf 2 = .ok (.getfield 25, 3) := by decide +kernel
theorem dX8_hasAllOf_5 : decode cX8_hasAllOf 5 = .ok (.iushr, 1) := by decide +kernel
theorem dX8_hasAllOf_6 : decode cX8_hasAllOf 6 = .ok (.ifCond .ne 7, 3) := by decide +kernel
theorem dX8_hasAllOf_9 : decode cX8_hasAllOf 9 = .ok (.iconst 1, 1) := by decide +kernel
theorem dX8_init_0 : decode cX8_init 0 = .ok (.aload_n 0, 1) := by decide +kernel
theorem dX8_init_1 : decode cX8_init 1 = .ok (.invokespecial 3, 3) := by decide +kernel
theorem dX8_init_10 : decode cX8_init 10 = .ok (.putfield 9, 3) := by decide +kernel
theorem dX8_init_100 : decode cX8_init 100 = .ok (.sipush 400, 3) := by decide +kernel
theorem dX8_init_103 : decode cX8_init 103 = .ok (.newarray .int, 2) := by decide +kernel
theorem dX8_init_105 : decode cX8_init 105 = .ok (.putfield 62, 3) := by decide +kernel
theorem dX8_init_108 : decode cX8_init 108 = .ok (.aload_n 0, 1) := by decide +kernel
theorem dX8_init_109 : decode cX8_init 109 = .ok (.iconst 0, 1) := by decide +kernel
theorem dX8_init_110 : decode cX8_init 110 = .ok (.putfield 65, 3) := by decide +kernel
theorem dX8_init_113 : decode cX8_init 113 = .ok (.iconst 0, 1) := by decide +kernel
theorem dX8_init_114 : decode cX8_init 114 = .ok (.istore_n 1, 1) := by decide +kernel
theorem dX8_init_115 : decode cX8_init 115 = .ok (.iload_n 1, 1) := by decide +kernel
theorem dX8_init_116 : decode cX8_init 116 = .ok (.aload_n 0, 1) := by decide +kernel
theorem dX8_init_117 : decode cX8_init 117 = .ok (.getfield 21, 3) := by decide +kernel
theorem dX8_init_120 : decode cX8_init 120 = .ok (.arraylength, 1) := by decide +kernel
theorem dX8_init_121 : decode cX8_init 121 = .ok (.if_icmp .ge 22, 3) := by decide +kernel
theorem dX8_init_124 : decode cX8_init 124 = .ok (.aload_n 0, 1) := by decide +kernel
theorem dX8_init_125 : decode cX8_init 125 = .ok (.getfield 21, 3) := by decide +kernel
theorem dX8_init_128 : decode cX8_init 128 = .ok (.iload_n 1, 1) := by decide +kernel
theorem dX8_init_129 : decode cX8_init 129 = .ok (.new 19, 3) := by decide +kernel
theorem dX8_init_13 : decode cX8_init 13 = .ok (.aload_n 0, 1) := by decide +kernel
theorem dX8_init_132 : decode cX8_init 132 = .ok (.dup, 1) := by decide +kernel
theorem dX8_init_133 : decode cX8_init 133 = .ok (.invokespecial 68, 3) := by decide +kernel
theorem dX8_init_136 : decode cX8_init 136 = .ok (.aastore, 1) := by decide +kernel
theorem dX8_init_137 : decode cX8_init 137 = .ok (.iinc 1 1, 3) := by decide +kernel
theorem dX8_init_14 : decode cX8_init 14 = .ok (.iconst 0, 1) := by decide +kernel
theorem dX8_init_140 : decode cX8_init 140 = .ok (.goto (-25), 3) := by decide +kernel
theorem dX8_init_143 : decode cX8_init 143 = .ok (.return_, 1) := by decide +kernel
theorem dX8_init_15 : decode cX8_init 15 = .ok (.putfield 15, 3) := by decide +kernel
theorem dX8_init_18 : decode cX8_init 18 = .ok (.aload_n 0, 1) := by decide +kernel
theorem dX8_init_19 : decode cX8_init 19 = .ok (.bipush 29, 2) := by decide +kernel
theorem dX8_init_21 : decode cX8_init 21 = .ok (.anewarray 19, 3) := by decide +kernel
theorem dX8_init_24 : decode cX8_init 24 = .ok (.putfield 21, 3) := by decide +kernel
theorem dX8_init_27 : decode cX8_init 27 = .ok (.aload_n 0, 1) := by decide +kernel
theorem dX8_init_28 : decode cX8_init 28 = .ok (.iconst 0, 1) := by decide +kernel
theorem dX8_init_29 : decode cX8_init 29 = .ok (.putfield 25, 3) := by decide +kernel
theorem dX8_init_32 : decode cX8_init 32 = .ok (.aload_n 0, 1) := by decide +kernel
theorem dX8_init_33 : decode cX8_init 33 = .ok (.bipush 14, 2) := by decide +kernel
theorem dX8_init_35 : decode cX8_init 35 = .ok (.putfield 28, 3) := by decide +kernel
theorem dX8_init_38 : decode cX8_init 38 = .ok (.aload_n 0, 1) := by decide +kernel
theorem dX8_init_39 : decode cX8_init 39 = .ok (.iconst 0, 1) := by decide +kernel
theorem dX8_init_4 : decode cX8_init 4 = .ok (.aload_n 0, 1) := by decide +kernel
theorem dX8_init_40 : decode cX8_init 40 = .ok (.putfield 31, 3) := by decide +kernel
theorem dX8_init_43 : decode cX8_init 43 = .ok (.aload_n 0, 1) := by decide +kernel
theorem dX8_init_44 : decode cX8_init 44 = .ok (.iconst 0, 1) := by decide +kernel
theorem dX8_init_45 : decode cX8_init 45 = .ok (.putfield 34, 3) := by decide +kernel
theorem dX8_init_48 : decode cX8_init 48 = .ok (.aload_n 0, 1) := by decide +kernel
theorem dX8_init_49 : decode cX8_init 49 = .ok (.iconst 0, 1) := by decide +kernel
theorem dX8_init_5 : decode cX8_init 5 = .ok (.sipush 800, 3) := by decide +kernel
theorem dX8_init_50 : decode cX8_init 50 = .ok (.putfield 37, 3) := by decide +kernel
theorem dX8_init_53 : decode cX8_init 53 = .ok (.aload_n 0, 1) := by decide +kernel
theorem dX8_init_54 : decode cX8_init 54 = .ok (.iconst 0, 1) := by decide +kernel
theorem dX8_init_55 : decode cX8_init 55 = .ok (.putfield 40, 3) := by decide +kernel
theorem dX8_init_58 : decode cX8_init 58 = .ok (.aload_n 0, 1) := by decide +kernel
theorem dX8_init_59 : decode cX8_init 59 = .ok (.bipush 15, 2) := by decide +kernel
theorem dX8_init_61 : decode cX8_init 61 = .ok (.newarray .int, 2) := by decide +kernel
theorem dX8_init_63 : decode cX8_init 63 = .ok (.putfield 43, 3) := by decide +kernel
theorem dX8_init_66 : decode cX8_init 66 = .ok (.aload_n 0, 1) := by decide +kernel
theorem dX8_init_67 : decode cX8_init 67 = .ok (.bipush 15, 2) := by decide +kernel
theorem dX8_init_69 : decode cX8_init 69 = .ok (.newarray .int, 2) := by decide +kernel
theorem dX8_init_71 : decode cX8_init 71 = .ok (.putfield 46, 3) := by decide +kernel
theorem dX8_init_74 : decode cX8_init 74 = .ok (.aload_n 0, 1) := by decide +kernel
theorem dX8_init_75 : decode cX8_init 75 = .ok (.iconst 0, 1) := by decide +kernel
theorem dX8_init_76 : decode cX8_init 76 = .ok (.putfield 49, 3) := by decide +kernel
theorem dX8_init_79 : decode cX8_init 79 = .ok (.aload_n 0, 1) := by decide +kernel
theorem dX8_init_8 : decode cX8_init 8 = .ok (.newarray .int, 2) := by decide +kernel
theorem dX8_init_80 : decode cX8_init 80 = .ok (.new 52, 3) := by decide +kernel
theorem dX8_init_83 : decode cX8_init 83 = .ok (.dup, 1) := by decide +kernel
theorem dX8_init_84 : decode cX8_init 84 = .ok (.invokespecial 54, 3) := by decide +kernel
theorem dX8_init_87 : decode cX8_init 87 = .ok (.putfield 55, 3) := by decide +kernel
theorem dX8_init_90 : decode cX8_init 90 = .ok (.aload_n 0, 1) := by decide +kernel
theorem dX8_init_91 : decode cX8_init 91 = .ok (.sipush 400, 3) := by decide +kernel
theorem dX8_init_94 : decode cX8_init 94 = .ok (.newarray .int, 2) := by decide +kernel
theorem dX8_init_96 : decode cX8_init 96 = .ok (.putfield 59, 3) := by decide +kernel
theorem dX8_init_99 : decode cX8_init 99 = .ok (.aload_n 0, 1) := by decide +kernel
theorem dX8_isSound_0 : decode cX8_isSound 0 = .ok (.aload_n 0, 1) := by decide +kernel
theorem dX8_isSound_1 : decode cX8_isSound 1 = .ok (.iload_n 1, 1) := by decide +kernel
theorem dX8_isSound_10 : decode cX8_isSound 10 = .ok (.iconst 0, 1) := by decide +kernel
theorem dX8_isSound_100 : decode cX8_isSound 100 = .ok (.ireturn, 1) := by decide +kernel
theorem dX8_isSound_11 : decode cX8_isSound 11 = .ok (.istore_n 2, 1) := by decide +kernel
theorem dX8_isSound_12 : decode cX8_isSound 12 = .ok (.iload_n 2, 1) := by decide +kernel
theorem dX8_isSound_13 : decode cX8_isSound 13 = .ok (.aload_n 0, 1) := by decide +kernel
theorem dX8_isSound_14 : decode cX8_isSound 14 = .ok (.getfield 25, 3) := by decide +kernel
theorem dX8_isSound_17 : decode cX8_isSound 17 = .ok (.if_icmp .ge 40, 3) := by decide +kernel
theorem dX8_isSound_2 : decode cX8_isSound 2 = .ok (.invokevirtual 107, 3) := by decide +kernel
theorem dX8_isSound_5 : decode cX8_isSound 5 = .ok (.ifCond .ne 5, 3) := by decide +kernel
theorem dX8_isSound_57 : decode cX8_isSound 57 = .ok (.iconst 0, 1) := by decide +kernel
theorem dX8_isSound_58 : decode cX8_isSound 58 = .ok (.istore_n 2, 1) := by decide +kernel
theorem dX8_isSound_59 : decode cX8_isSound 59 = .ok (.iload_n 2, 1) := by decide +kernel
theorem dX8_isSound_60 : decode cX8_isSound 60 = .ok (.aload_n 0, 1) := by decide +kernel
theorem dX8_isSound_61 : decode cX8_isSound 61 = .ok (.getfield 49, 3) := by decide +kernel
theorem dX8_isSound_64 : decode cX8_isSound 64 = .ok (.if_icmp .ge 35, 3) := by decide +kernel
theorem dX8_isSound_8 : decode cX8_isSound 8 = .ok (.iconst 0, 1) := by decide +kernel
theorem dX8_isSound_9 : decode cX8_isSound 9 = .ok (.ireturn, 1) := by decide +kernel
theorem dX8_isSound_99 : decode cX8_isSound 99 = .ok (.iconst 1, 1) := by decide +kernel
theorem dX8_take_0 : decode cX8_take 0 = .ok (.aload_n 0, 1) := by decide +kernel
theorem dX8_take_1 : decode cX8_take 1 = .ok (.invokevirtual 72, 3) := by decide +kernel
theorem dX8_take_4 : decode cX8_take 4 = .ok (.iconst 0, 1) := by decide +kernel
theorem dX8_take_5 : decode cX8_take 5 = .ok (.istore_n 3, 1) := by decide +kernel
theorem dX8_take_51 : decode cX8_take 51 = .ok (.return_, 1) := by decide +kernel
theorem dX8_take_6 : decode cX8_take 6 = .ok (.iload_n 3, 1) := by decide +kernel
theorem dX8_take_7 : decode cX8_take 7 = .ok (.iload_n 2, 1) := by decide +kernel
theorem dX8_take_8 : decode cX8_take 8 = .ok (.if_icmp .ge 43, 3) := by decide +kernel
theorem dX8_toldByHeadingsIn_0 : decode cX8_toldByHeadingsIn 0 = .ok (.iconst 0, 1) := by decide +kernel
theorem dX8_toldByHeadingsIn_1 : decode cX8_toldByHeadingsIn 1 = .ok (.istore_n 2, 1) := by decide +kernel
theorem dX8_toldByHeadingsIn_10 : decode cX8_toldByHeadingsIn 10 = .ok (.if_icmp .ge 34, 3) := by decide +kernel
theorem dX8_toldByHeadingsIn_2 : decode cX8_toldByHeadingsIn 2 = .ok (.bipush 14, 2) := by decide +kernel
theorem dX8_toldByHeadingsIn_4 : decode cX8_toldByHeadingsIn 4 = .ok (.istore_n 3, 1) := by decide +kernel
theorem dX8_toldByHeadingsIn_44 : decode cX8_toldByHeadingsIn 44 = .ok (.iload_n 2, 1) := by decide +kernel
theorem dX8_toldByHeadingsIn_45 : decode cX8_toldByHeadingsIn 45 = .ok (.ireturn, 1) := by decide +kernel
theorem dX8_toldByHeadingsIn_5 : decode cX8_toldByHeadingsIn 5 = .ok (.iload_n 3, 1) := by decide +kernel
theorem dX8_toldByHeadingsIn_6 : decode cX8_toldByHeadingsIn 6 = .ok (.aload_n 0, 1) := by decide +kernel
theorem dX8_toldByHeadingsIn_7 : decode cX8_toldByHeadingsIn 7 = .ok (.getfield 28, 3) := by decide +kernel
theorem dX8_toldIn_0 : decode cX8_toldIn 0 = .ok (.aload_n 0, 1) := by decide +kernel
theorem dX8_toldIn_1 : decode cX8_toldIn 1 = .ok (.iload_n 1, 1) := by decide +kernel
theorem dX8_toldIn_10 : decode cX8_toldIn 10 = .ok (.getfield 25, 3) := by decide +kernel
theorem dX8_toldIn_13 : decode cX8_toldIn 13 = .ok (.if_icmp .ge 34, 3) := by decide +kernel
theorem dX8_toldIn_2 : decode cX8_toldIn 2 = .ok (.invokevirtual 120, 3) := by decide +kernel
theorem dX8_toldIn_47 : decode cX8_toldIn 47 = .ok (.iload_n 2, 1) := by decide +kernel
theorem dX8_toldIn_48 : decode cX8_toldIn 48 = .ok (.ireturn, 1) := by decide +kernel
theorem dX8_toldIn_5 : decode cX8_toldIn 5 = .ok (.istore_n 2, 1) := by decide +kernel
theorem dX8_toldIn_6 : decode cX8_toldIn 6 = .ok (.iconst 0, 1) := by decide +kernel
theorem dX8_toldIn_7 : decode cX8_toldIn 7 = .ok (.istore_n 3, 1) := by decide +kernel
theorem dX8_toldIn_8 : decode cX8_toldIn 8 = .ok (.iload_n 3, 1) := by decide +kernel
theorem dX8_toldIn_9 : decode cX8_toldIn 9 = .ok (.aload_n 0, 1) := by decide +kernel
theorem dX9_best_0 : decode cX9_best 0 = .ok (.iload_n 1, 1) := by decide +kernel
theorem dX9_best_1 : decode cX9_best 1 = .ok (.ifCond .ge 7, 3) := by decide +kernel
theorem dX9_best_12 : decode cX9_best 12 = .ok (.iload_n 1, 1) := by decide +kernel
theorem dX9_best_13 : decode cX9_best 13 = .ok (.invokevirtual 170, 3) := by decide +kernel
theorem dX9_best_16 : decode cX9_best 16 = .ok (.ireturn, 1) := by decide +kernel
theorem dX9_best_4 : decode cX9_best 4 = .ok (.iconst (-1), 1) := by decide +kernel
theorem dX9_best_5 : decode cX9_best 5 = .ok (.goto 11, 3) := by decide +kernel
theorem dX9_best_8 : decode cX9_best 8 = .ok (.aload_n 0, 1) := by decide +kernel
theorem dX9_best_9 : decode cX9_best 9 = .ok (.getfield 61, 3) := by decide +kernel
theorem dX9_count_0 : decode cX9_count 0 = .ok (.iload_n 1, 1) := by decide +kernel
theorem dX9_count_1 : decode cX9_count 1 = .ok (.tableswitch 122 0 7 #[47, 55, 63, 71, 79, 87, 95, 103], 47) := by decide +kernel
theorem dX9_count_100 : decode cX9_count 100 = .ok (.getfield 200, 3) := by decide +kernel
theorem dX9_count_103 : decode cX9_count 103 = .ok (.ireturn, 1) := by decide +kernel
theorem dX9_count_104 : decode cX9_count 104 = .ok (.aload_n 0, 1) := by decide +kernel
theorem dX9_count_105 : decode cX9_count 105 = .ok (.getfield 45, 3) := by decide +kernel
theorem dX9_count_108 : decode cX9_count 108 = .ok (.iconst 1, 1) := by decide +kernel
theorem dX9_count_109 : decode cX9_count 109 = .ok (.aload_n 0, 1) := by decide +kernel
theorem dX9_count_110 : decode cX9_count 110 = .ok (.getfield 20, 3) := by decide +kernel
theorem dX9_count_113 : decode cX9_count 113 = .ok (.getfield 90, 3) := by decide +kernel
theorem dX9_count_116 : decode cX9_count 116 = .ok (.ishl, 1) := by decide +kernel
theorem dX9_count_117 : decode cX9_count 117 = .ok (.iconst 1, 1) := by decide +kernel
theorem dX9_count_118 : decode cX9_count 118 = .ok (.isub, 1) := by decide +kernel
theorem dX9_count_119 : decode cX9_count 119 = .ok (.invokevirtual 152, 3) := by decide +kernel
theorem dX9_count_122 : decode cX9_count 122 = .ok (.ireturn, 1) := by decide +kernel
theorem dX9_count_123 : decode cX9_count 123 = .ok (.iconst (-1), 1) := by decide +kernel
theorem dX9_count_124 : decode cX9_count 124 = .ok (.ireturn, 1) := by decide +kernel
theorem dX9_count_48 : decode cX9_count 48 = .ok (.aload_n 0, 1) := by decide +kernel
theorem dX9_count_49 : decode cX9_count 49 = .ok (.getfield 20, 3) := by decide +kernel
theorem dX9_count_52 : decode cX9_count 52 = .ok (.getfield 90, 3) := by decide +kernel
theorem dX9_count_55 : decode cX9_count 55 = .ok (.ireturn, 1) := by decide +kernel
theorem dX9_count_56 : decode cX9_count 56 = .ok (.aload_n 0, 1) := by decide +kernel
theorem dX9_count_57 : decode cX9_count 57 = .ok (.getfield 20, 3) := by decide +kernel
theorem dX9_count_60 : decode cX9_count 60 = .ok (.getfield 186, 3) := by decide +kernel
theorem dX9_count_63 : decode cX9_count 63 = .ok (.ireturn, 1) := by decide +kernel
theorem dX9_count_64 : decode cX9_count 64 = .ok (.aload_n 0, 1) := by decide +kernel
theorem dX9_count_65 : decode cX9_count 65 = .ok (.getfield 20, 3) := by decide +kernel
theorem dX9_count_68 : decode cX9_count 68 = .ok (.getfield 189, 3) := by decide +kernel
theorem dX9_count_71 : decode cX9_count 71 = .ok (.ireturn, 1) := by decide +kernel
theorem dX9_count_72 : decode cX9_count 72 = .ok (.aload_n 0, 1) := by decide +kernel
theorem dX9_count_73 : decode cX9_count 73 = .ok (.getfield 20, 3) := by decide +kernel
theorem dX9_count_76 : decode cX9_count 76 = .ok (.getfield 192, 3) := by decide +kernel
theorem dX9_count_79 : decode cX9_count 79 = .ok (.ireturn, 1) := by decide +kernel
theorem dX9_count_80 : decode cX9_count 80 = .ok (.aload_n 0, 1) := by decide +kernel
theorem dX9_count_81 : decode cX9_count 81 = .ok (.getfield 61, 3) := by decide +kernel
theorem dX9_count_84 : decode cX9_count 84 = .ok (.invokevirtual 193, 3) := by decide +kernel
theorem dX9_count_87 : decode cX9_count 87 = .ok (.ireturn, 1) := by decide +kernel
theorem dX9_count_88 : decode cX9_count 88 = .ok (.aload_n 0, 1) := by decide +kernel
theorem dX9_count_89 : decode cX9_count 89 = .ok (.getfield 27, 3) := by decide +kernel
theorem dX9_count_92 : decode cX9_count 92 = .ok (.getfield 197, 3) := by decide +kernel
theorem dX9_count_95 : decode cX9_count 95 = .ok (.ireturn, 1) := by decide +kernel
theorem dX9_count_96 : decode cX9_count 96 = .ok (.aload_n 0, 1) := by decide +kernel
theorem dX9_count_97 : decode cX9_count 97 = .ok (.getfield 27, 3) := by decide +kernel
theorem dX9_fault_0 : decode cX9_fault 0 = .ok (.iload_n 1, 1) := by decide +kernel
theorem dX9_fault_1 : decode cX9_fault 1 = .ok (.lookupswitch 43 #[(0, 27), (1, 35)], 27) := by decide +kernel
theorem dX9_fault_28 : decode cX9_fault 28 = .ok (.aload_n 0, 1) := by decide +kernel
theorem dX9_fault_29 : decode cX9_fault 29 = .ok (.getfield 36, 3) := by decide +kernel
theorem dX9_fault_32 : decode cX9_fault 32 = .ok (.getfield 79, 3) := by decide +kernel
theorem dX9_fault_35 : decode cX9_fault 35 = .ok (.ireturn, 1) := by decide +kernel
theorem dX9_fault_36 : decode cX9_fault 36 = .ok (.aload_n 0, 1) := by decide +kernel
theorem dX9_fault_37 : decode cX9_fault 37 = .ok (.getfield 36, 3) := by decide +kernel
theorem dX9_fault_40 : decode cX9_fault 40 = .ok (.getfield 93, 3) := by decide +kernel
theorem dX9_fault_43 : decode cX9_fault 43 = .ok (.ireturn, 1) := by decide +kernel
theorem dX9_fault_44 : decode cX9_fault 44 = .ok (.iconst (-1), 1) := by decide +kernel
theorem dX9_fault_45 : decode cX9_fault 45 = .ok (.ireturn, 1) := by decide +kernel
theorem dX9_feed_0 : decode cX9_feed 0 = .ok (.aload_n 0, 1) := by decide +kernel
theorem dX9_feed_1 : decode cX9_feed 1 = .ok (.getfield 13, 3) := by decide +kernel
theorem dX9_feed_10 : decode cX9_feed 10 = .ok (.if_icmp .le 5, 3) := by decide +kernel
theorem dX9_feed_15 : decode cX9_feed 15 = .ok (.aload_n 0, 1) := by decide +kernel
theorem dX9_feed_16 : decode cX9_feed 16 = .ok (.iload_n 1, 1) := by decide +kernel
theorem dX9_feed_17 : decode cX9_feed 17 = .ok (.invokevirtual 65, 3) := by decide +kernel
theorem dX9_feed_20 : decode cX9_feed 20 = .ok (.aload_n 0, 1) := by decide +kernel
theorem dX9_feed_21 : decode cX9_feed 21 = .ok (.iload_n 2, 1) := by decide +kernel
theorem dX9_feed_22 : decode cX9_feed 22 = .ok (.invokevirtual 65, 3) := by decide +kernel
theorem dX9_feed_25 : decode cX9_feed 25 = .ok (.aload_n 0, 1) := by decide +kernel
theorem dX9_feed_26 : decode cX9_feed 26 = .ok (.iload_n 3, 1) := by decide +kernel
theorem dX9_feed_27 : decode cX9_feed 27 = .ok (.invokevirtual 65, 3) := by decide +kernel
theorem dX9_feed_30 : decode cX9_feed 30 = .ok (.aload_n 0, 1) := by decide +kernel
theorem dX9_feed_31 : decode cX9_feed 31 = .ok (.iload 4, 2) := by decide +kernel
theorem dX9_feed_33 : decode cX9_feed 33 = .ok (.invokevirtual 65, 3) := by decide +kernel
theorem dX9_feed_36 : decode cX9_feed 36 = .ok (.aload_n 0, 1) := by decide +kernel
theorem dX9_feed_37 : decode cX9_feed 37 = .ok (.iload 5, 2) := by decide +kernel
theorem dX9_feed_39 : decode cX9_feed 39 = .ok (.invokevirtual 65, 3) := by decide +kernel
theorem dX9_feed_4 : decode cX9_feed 4 = .ok (.bipush 20, 2) := by decide +kernel
theorem dX9_feed_42 : decode cX9_feed 42 = .ok (.aload_n 0, 1) := by decide +kernel
theorem dX9_feed_43 : decode cX9_feed 43 = .ok (.getfield 13, 3) := by decide +kernel
theorem dX9_feed_46 : decode cX9_feed 46 = .ok (.ireturn, 1) := by decide +kernel
theorem dX9_feed_6 : decode cX9_feed 6 = .ok (.iadd, 1) := by decide +kernel
theorem dX9_feed_7 : decode cX9_feed 7 = .ok (.sipush 800, 3) := by decide +kernel
theorem dX9_init_0 : decode cX9_init 0 = .ok (.aload_n 0, 1) := by decide +kernel
theorem dX9_init_1 : decode cX9_init 1 = .ok (.invokespecial 1, 3) := by decide +kernel
theorem dX9_init_10 : decode cX9_init 10 = .ok (.putfield 9, 3) := by decide +kernel
theorem dX9_init_102 : decode cX9_init 102 = .ok (.aload_n 0, 1) := by decide +kernel
theorem dX9_init_103 : decode cX9_init 103 = .ok (.getfield 27, 3) := by decide +kernel
theorem dX9_init_106 : decode cX9_init 106 = .ok (.invokespecial 58, 3) := by decide +kernel
theorem dX9_init_109 : decode cX9_init 109 = .ok (.putfield 61, 3) := by decide +kernel
theorem dX9_init_112 : decode cX9_init 112 = .ok (.return_, 1) := by decide +kernel
theorem dX9_init_13 : decode cX9_init 13 = .ok (.aload_n 0, 1) := by decide +kernel
theorem dX9_init_14 : decode cX9_init 14 = .ok (.iconst 0, 1) := by decide +kernel
theorem dX9_init_15 : decode cX9_init 15 = .ok (.putfield 13, 3) := by decide +kernel
theorem dX9_init_18 : decode cX9_init 18 = .ok (.aload_n 0, 1) := by decide +kernel
theorem dX9_init_19 : decode cX9_init 19 = .ok (.new 17, 3) := by decide +kernel
theorem dX9_init_22 : decode cX9_init 22 = .ok (.dup, 1) := by decide +kernel
theorem dX9_init_23 : decode cX9_init 23 = .ok (.invokespecial 19, 3) := by decide +kernel
theorem dX9_init_26 : decode cX9_init 26 = .ok (.putfield 20, 3) := by decide +kernel
theorem dX9_init_29 : decode cX9_init 29 = .ok (.aload_n 0, 1) := by decide +kernel
theorem dX9_init_30 : decode cX9_init 30 = .ok (.new 24, 3) := by decide +kernel
theorem dX9_init_33 : decode cX9_init 33 = .ok (.dup, 1) := by decide +kernel
theorem dX9_init_34 : decode cX9_init 34 = .ok (.invokespecial 26, 3) := by decide +kernel
theorem dX9_init_37 : decode cX9_init 37 = .ok (.putfield 27, 3) := by decide +kernel
theorem dX9_init_4 : decode cX9_init 4 = .ok (.aload_n 0, 1) := by decide +kernel
theorem dX9_init_40 : decode cX9_init 40 = .ok (.aload_n 0, 1) := by decide +kernel
theorem dX9_init_41 : decode cX9_init 41 = .ok (.new 31, 3) := by decide +kernel
theorem dX9_init_44 : decode cX9_init 44 = .ok (.dup, 1) := by decide +kernel
theorem dX9_init_45 : decode cX9_init 45 = .ok (.aload_n 0, 1) := by decide +kernel
theorem dX9_init_46 : decode cX9_init 46 = .ok (.getfield 20, 3) := by decide +kernel
theorem dX9_init_49 : decode cX9_init 49 = .ok (.aload_n 0, 1) := by decide +kernel
theorem dX9_init_5 : decode cX9_init 5 = .ok (.sipush 800, 3) := by decide +kernel
theorem dX9_init_50 : decode cX9_init 50 = .ok (.getfield 27, 3) := by decide +kernel
theorem dX9_init_53 : decode cX9_init 53 = .ok (.invokespecial 33, 3) := by decide +kernel
theorem dX9_init_56 : decode cX9_init 56 = .ok (.putfield 36, 3) := by decide +kernel
theorem dX9_init_59 : decode cX9_init 59 = .ok (.aload_n 0, 1) := by decide +kernel
theorem dX9_init_60 : decode cX9_init 60 = .ok (.new 40, 3) := by decide +kernel
theorem dX9_init_63 : decode cX9_init 63 = .ok (.dup, 1) := by decide +kernel
theorem dX9_init_64 : decode cX9_init 64 = .ok (.aload_n 0, 1) := by decide +kernel
theorem dX9_init_65 : decode cX9_init 65 = .ok (.getfield 20, 3) := by decide +kernel
theorem dX9_init_68 : decode cX9_init 68 = .ok (.invokespecial 42, 3) := by decide +kernel
theorem dX9_init_71 : decode cX9_init 71 = .ok (.putfield 45, 3) := by decide +kernel
theorem dX9_init_74 : decode cX9_init 74 = .ok (.aload_n 0, 1) := by decide +kernel
theorem dX9_init_75 : decode cX9_init 75 = .ok (.new 49, 3) := by decide +kernel
theorem dX9_init_78 : decode cX9_init 78 = .ok (.dup, 1) := by decide +kernel
theorem dX9_init_79 : decode cX9_init 79 = .ok (.aload_n 0, 1) := by decide +kernel
theorem dX9_init_8 : decode cX9_init 8 = .ok (.newarray .int, 2) := by decide +kernel
theorem dX9_init_80 : decode cX9_init 80 = .ok (.getfield 20, 3) := by decide +kernel
theorem dX9_init_83 : decode cX9_init 83 = .ok (.invokespecial 51, 3) := by decide +kernel
theorem dX9_init_86 : decode cX9_init 86 = .ok (.putfield 52, 3) := by decide +kernel
theorem dX9_init_89 : decode cX9_init 89 = .ok (.aload_n 0, 1) := by decide +kernel
theorem dX9_init_90 : decode cX9_init 90 = .ok (.new 56, 3) := by decide +kernel
theorem dX9_init_93 : decode cX9_init 93 = .ok (.dup, 1) := by decide +kernel
theorem dX9_init_94 : decode cX9_init 94 = .ok (.aload_n 0, 1) := by decide +kernel
theorem dX9_init_95 : decode cX9_init 95 = .ok (.getfield 20, 3) := by decide +kernel
theorem dX9_init_98 : decode cX9_init 98 = .ok (.aload_n 0, 1) := by decide +kernel
theorem dX9_init_99 : decode cX9_init 99 = .ok (.getfield 45, 3) := by decide +kernel
theorem dX9_knows_0 : decode cX9_knows 0 = .ok (.aload_n 0, 1) := by decide +kernel
theorem dX9_knows_1 : decode cX9_knows 1 = .ok (.getfield 27, 3) := by decide +kernel
theorem dX9_knows_11 : decode cX9_knows 11 = .ok (.iconst 0, 1) := by decide +kernel
theorem dX9_knows_12 : decode cX9_knows 12 = .ok (.ireturn, 1) := by decide +kernel
theorem dX9_knows_4 : decode cX9_knows 4 = .ok (.iload_n 1, 1) := by decide +kernel
theorem dX9_knows_5 : decode cX9_knows 5 = .ok (.invokevirtual 125, 3) := by decide +kernel
theorem dX9_knows_8 : decode cX9_knows 8 = .ok (.ifCond .ne 5, 3) := by decide +kernel
theorem dX9_least_0 : decode cX9_least 0 = .ok (.aload_n 0, 1) := by decide +kernel
theorem dX9_least_1 : decode cX9_least 1 = .ok (.getfield 61, 3) := by decide +kernel
theorem dX9_least_4 : decode cX9_least 4 = .ok (.iload_n 1, 1) := by decide +kernel
theorem dX9_least_5 : decode cX9_least 5 = .ok (.invokevirtual 176, 3) := by decide +kernel
theorem dX9_least_8 : decode cX9_least 8 = .ok (.ireturn, 1) := by decide +kernel
theorem dX9_length_0 : decode cX9_length 0 = .ok (.aload_n 0, 1) := by decide +kernel
theorem dX9_length_1 : decode cX9_length 1 = .ok (.getfield 20, 3) := by decide +kernel
theorem dX9_length_11 : decode cX9_length 11 = .ok (.aload_n 0, 1) := by decide +kernel
theorem dX9_length_12 : decode cX9_length 12 = .ok (.getfield 45, 3) := by decide +kernel
theorem dX9_length_15 : decode cX9_length 15 = .ok (.iload_n 1, 1) := by decide +kernel
theorem dX9_length_16 : decode cX9_length 16 = .ok (.invokevirtual 152, 3) := by decide +kernel
theorem dX9_length_19 : decode cX9_length 19 = .ok (.goto 4, 3) := by decide +kernel
theorem dX9_length_22 : decode cX9_length 22 = .ok (.iconst (-1), 1) := by decide +kernel
theorem dX9_length_23 : decode cX9_length 23 = .ok (.ireturn, 1) := by decide +kernel
theorem dX9_length_4 : decode cX9_length 4 = .ok (.iload_n 1, 1) := by decide +kernel
theorem dX9_length_5 : decode cX9_length 5 = .ok (.invokevirtual 149, 3) := by decide +kernel
theorem dX9_length_8 : decode cX9_length 8 = .ok (.ifCond .eq 14, 3) := by decide +kernel
theorem dX9_named_0 : decode cX9_named 0 = .ok (.aload_n 0, 1) := by decide +kernel
theorem dX9_named_1 : decode cX9_named 1 = .ok (.getfield 20, 3) := by decide +kernel
theorem dX9_named_11 : decode cX9_named 11 = .ok (.aload_n 0, 1) := by decide +kernel
theorem dX9_named_12 : decode cX9_named 12 = .ok (.getfield 45, 3) := by decide +kernel
theorem dX9_named_15 : decode cX9_named 15 = .ok (.iload_n 1, 1) := by decide +kernel
theorem dX9_named_16 : decode cX9_named 16 = .ok (.invokevirtual 183, 3) := by decide +kernel
theorem dX9_named_19 : decode cX9_named 19 = .ok (.goto 4, 3) := by decide +kernel
theorem dX9_named_22 : decode cX9_named 22 = .ok (.iconst (-1), 1) := by decide +kernel
theorem dX9_named_23 : decode cX9_named 23 = .ok (.ireturn, 1) := by decide +kernel
theorem dX9_named_4 : decode cX9_named 4 = .ok (.iload_n 1, 1) := by decide +kernel
theorem dX9_named_5 : decode cX9_named 5 = .ok (.invokevirtual 149, 3) := by decide +kernel
theorem dX9_named_8 : decode cX9_named 8 = .ok (.ifCond .eq 14, 3) := by decide +kernel
theorem dX9_putOnTape_0 : decode cX9_putOnTape 0 = .ok (.bipush 24, 2) := by decide +kernel
theorem dX9_putOnTape_11 : decode cX9_putOnTape 11 = .ok (.aload_n 0, 1) := by decide +kernel
theorem dX9_putOnTape_12 : decode cX9_putOnTape 12 = .ok (.getfield 9, 3) := by decide +kernel
theorem dX9_putOnTape_15 : decode cX9_putOnTape 15 = .ok (.arraylength, 1) := by decide +kernel
theorem dX9_putOnTape_16 : decode cX9_putOnTape 16 = .ok (.if_icmp .ge 29, 3) := by decide +kernel
theorem dX9_putOnTape_19 : decode cX9_putOnTape 19 = .ok (.aload_n 0, 1) := by decide +kernel
theorem dX9_putOnTape_2 : decode cX9_putOnTape 2 = .ok (.istore_n 2, 1) := by decide +kernel
theorem dX9_putOnTape_20 : decode cX9_putOnTape 20 = .ok (.getfield 9, 3) := by decide +kernel
theorem dX9_putOnTape_23 : decode cX9_putOnTape 23 = .ok (.aload_n 0, 1) := by decide +kernel
theorem dX9_putOnTape_24 : decode cX9_putOnTape 24 = .ok (.getfield 13, 3) := by decide +kernel
theorem dX9_putOnTape_27 : decode cX9_putOnTape 27 = .ok (.iload_n 1, 1) := by decide +kernel
theorem dX9_putOnTape_28 : decode cX9_putOnTape 28 = .ok (.iload_n 2, 1) := by decide +kernel
theorem dX9_putOnTape_29 : decode cX9_putOnTape 29 = .ok (.iushr, 1) := by decide +kernel
theorem dX9_putOnTape_3 : decode cX9_putOnTape 3 = .ok (.iload_n 2, 1) := by decide +kernel
theorem dX9_putOnTape_30 : decode cX9_putOnTape 30 = .ok (.sipush 255, 3) := by decide +kernel
theorem dX9_putOnTape_33 : decode cX9_putOnTape 33 = .ok (.iand, 1) := by decide +kernel
theorem dX9_putOnTape_34 : decode cX9_putOnTape 34 = .ok (.iastore, 1) := by decide +kernel
theorem dX9_putOnTape_35 : decode cX9_putOnTape 35 = .ok (.aload_n 0, 1) := by decide +kernel
theorem dX9_putOnTape_36 : decode cX9_putOnTape 36 = .ok (.dup, 1) := by decide +kernel
theorem dX9_putOnTape_37 : decode cX9_putOnTape 37 = .ok (.getfield 13, 3) := by decide +kernel
theorem dX9_putOnTape_4 : decode cX9_putOnTape 4 = .ok (.ifCond .lt 47, 3) := by decide +kernel
theorem dX9_putOnTape_40 : decode cX9_putOnTape 40 = .ok (.iconst 1, 1) := by decide +kernel
theorem dX9_putOnTape_41 : decode cX9_putOnTape 41 = .ok (.iadd, 1) := by decide +kernel
theorem dX9_putOnTape_42 : decode cX9_putOnTape 42 = .ok (.putfield 13, 3) := by decide +kernel
theorem dX9_putOnTape_45 : decode cX9_putOnTape 45 = .ok (.iinc 2 (-8), 3) := by decide +kernel
theorem dX9_putOnTape_48 : decode cX9_putOnTape 48 = .ok (.goto (-45), 3) := by decide +kernel
theorem dX9_putOnTape_51 : decode cX9_putOnTape 51 = .ok (.return_, 1) := by decide +kernel
theorem dX9_putOnTape_7 : decode cX9_putOnTape 7 = .ok (.aload_n 0, 1) := by decide +kernel
theorem dX9_putOnTape_8 : decode cX9_putOnTape 8 = .ok (.getfield 13, 3) := by decide +kernel
theorem dX9_ranked_0 : decode cX9_ranked 0 = .ok (.aload_n 0, 1) := by decide +kernel
theorem dX9_ranked_1 : decode cX9_ranked 1 = .ok (.getfield 61, 3) := by decide +kernel
theorem dX9_ranked_4 : decode cX9_ranked 4 = .ok (.iload_n 1, 1) := by decide +kernel
theorem dX9_ranked_5 : decode cX9_ranked 5 = .ok (.invokevirtual 173, 3) := by decide +kernel
theorem dX9_ranked_8 : decode cX9_ranked 8 = .ok (.ireturn, 1) := by decide +kernel
theorem dX9_sign_0 : decode cX9_sign 0 = .ok (.aload_n 0, 1) := by decide +kernel
theorem dX9_sign_1 : decode cX9_sign 1 = .ok (.getfield 20, 3) := by decide +kernel
theorem dX9_sign_11 : decode cX9_sign 11 = .ok (.iconst (-1), 1) := by decide +kernel
theorem dX9_sign_12 : decode cX9_sign 12 = .ok (.ireturn, 1) := by decide +kernel
theorem dX9_sign_13 : decode cX9_sign 13 = .ok (.aload_n 0, 1) := by decide +kernel
theorem dX9_sign_14 : decode cX9_sign 14 = .ok (.getfield 52, 3) := by decide +kernel
theorem dX9_sign_17 : decode cX9_sign 17 = .ok (.iload_n 1, 1) := by decide +kernel
theorem dX9_sign_18 : decode cX9_sign 18 = .ok (.invokevirtual 161, 3) := by decide +kernel
theorem dX9_sign_21 : decode cX9_sign 21 = .ok (.ifCond .ne 19, 3) := by decide +kernel
theorem dX9_sign_24 : decode cX9_sign 24 = .ok (.aload_n 0, 1) := by decide +kernel
theorem dX9_sign_25 : decode cX9_sign 25 = .ok (.getfield 52, 3) := by decide +kernel
theorem dX9_sign_28 : decode cX9_sign 28 = .ok (.iload_n 1, 1) := by decide +kernel
theorem dX9_sign_29 : decode cX9_sign 29 = .ok (.aload_n 0, 1) := by decide +kernel
theorem dX9_sign_30 : decode cX9_sign 30 = .ok (.getfield 45, 3) := by decide +kernel
theorem dX9_sign_33 : decode cX9_sign 33 = .ok (.iload_n 1, 1) := by decide +kernel
theorem dX9_sign_34 : decode cX9_sign 34 = .ok (.invokevirtual 152, 3) := by decide +kernel
theorem dX9_sign_37 : decode cX9_sign 37 = .ok (.invokevirtual 164, 3) := by decide +kernel
theorem dX9_sign_4 : decode cX9_sign 4 = .ok (.iload_n 1, 1) := by decide +kernel
theorem dX9_sign_40 : decode cX9_sign 40 = .ok (.aload_n 0, 1) := by decide +kernel
theorem dX9_sign_41 : decode cX9_sign 41 = .ok (.getfield 52, 3) := by decide +kernel
theorem dX9_sign_44 : decode cX9_sign 44 = .ok (.iload_n 2, 1) := by decide +kernel
theorem dX9_sign_45 : decode cX9_sign 45 = .ok (.invokevirtual 167, 3) := by decide +kernel
theorem dX9_sign_48 : decode cX9_sign 48 = .ok (.ireturn, 1) := by decide +kernel
theorem dX9_sign_5 : decode cX9_sign 5 = .ok (.invokevirtual 149, 3) := by decide +kernel
theorem dX9_sign_8 : decode cX9_sign 8 = .ok (.ifCond .ne 5, 3) := by decide +kernel
theorem dX9_sound_0 : decode cX9_sound 0 = .ok (.aload_n 0, 1) := by decide +kernel
theorem dX9_sound_1 : decode cX9_sound 1 = .ok (.getfield 20, 3) := by decide +kernel
theorem dX9_sound_11 : decode cX9_sound 11 = .ok (.iconst (-1), 1) := by decide +kernel
theorem dX9_sound_12 : decode cX9_sound 12 = .ok (.ireturn, 1) := by decide +kernel
theorem dX9_sound_13 : decode cX9_sound 13 = .ok (.aload_n 0, 1) := by decide +kernel
theorem dX9_sound_14 : decode cX9_sound 14 = .ok (.getfield 20, 3) := by decide +kernel
theorem dX9_sound_17 : decode cX9_sound 17 = .ok (.iload_n 1, 1) := by decide +kernel
theorem dX9_sound_18 : decode cX9_sound 18 = .ok (.invokevirtual 149, 3) := by decide +kernel
theorem dX9_sound_21 : decode cX9_sound 21 = .ok (.ifCond .eq 7, 3) := by decide +kernel
theorem dX9_sound_24 : decode cX9_sound 24 = .ok (.iconst 1, 1) := by decide +kernel
theorem dX9_sound_25 : decode cX9_sound 25 = .ok (.goto 4, 3) := by decide +kernel
theorem dX9_sound_29 : decode cX9_sound 29 = .ok (.ireturn, 1) := by decide +kernel
theorem dX9_sound_4 : decode cX9_sound 4 = .ok (.iload_n 1, 1) := by decide +kernel
theorem dX9_sound_5 : decode cX9_sound 5 = .ok (.invokevirtual 146, 3) := by decide +kernel
theorem dX9_sound_8 : decode cX9_sound 8 = .ok (.ifCond .ne 5, 3) := by decide +kernel
theorem dX9_text_0 : decode cX9_text 0 = .ok (.iload_n 1, 1) := by decide +kernel
theorem dX9_text_1 : decode cX9_text 1 = .ok (.ifCond .lt 11, 3) := by decide +kernel
theorem dX9_text_105 : decode cX9_text 105 = .ok (.aload_n 0, 1) := by decide +kernel
theorem dX9_text_106 : decode cX9_text 106 = .ok (.getfield 20, 3) := by decide +kernel
theorem dX9_text_109 : decode cX9_text 109 = .ok (.getfield 90, 3) := by decide +kernel
theorem dX9_text_112 : decode cX9_text 112 = .ok (.ireturn, 1) := by decide +kernel
theorem dX9_text_12 : decode cX9_text 12 = .ok (.bipush (-2), 2) := by decide +kernel
theorem dX9_text_14 : decode cX9_text 14 = .ok (.ireturn, 1) := by decide +kernel
theorem dX9_text_15 : decode cX9_text 15 = .ok (.aload_n 0, 1) := by decide +kernel
theorem dX9_text_16 : decode cX9_text 16 = .ok (.getfield 20, 3) := by decide +kernel
theorem dX9_text_19 : decode cX9_text 19 = .ok (.aload_n 0, 1) := by decide +kernel
theorem dX9_text_20 : decode cX9_text 20 = .ok (.getfield 9, 3) := by decide +kernel
theorem dX9_text_23 : decode cX9_text 23 = .ok (.iload_n 1, 1) := by decide +kernel
theorem dX9_text_24 : decode cX9_text 24 = .ok (.invokevirtual 69, 3) := by decide +kernel
theorem dX9_text_27 : decode cX9_text 27 = .ok (.aload_n 0, 1) := by decide +kernel
theorem dX9_text_28 : decode cX9_text 28 = .ok (.iconst 0, 1) := by decide +kernel
theorem dX9_text_29 : decode cX9_text 29 = .ok (.putfield 13, 3) := by decide +kernel
theorem dX9_text_32 : decode cX9_text 32 = .ok (.aload_n 0, 1) := by decide +kernel
theorem dX9_text_33 : decode cX9_text 33 = .ok (.getfield 27, 3) := by decide +kernel
theorem dX9_text_36 : decode cX9_text 36 = .ok (.invokevirtual 73, 3) := by decide +kernel
theorem dX9_text_39 : decode cX9_text 39 = .ok (.aload_n 0, 1) := by decide +kernel
theorem dX9_text_4 : decode cX9_text 4 = .ok (.iload_n 1, 1) := by decide +kernel
theorem dX9_text_40 : decode cX9_text 40 = .ok (.getfield 36, 3) := by decide +kernel
theorem dX9_text_43 : decode cX9_text 43 = .ok (.invokevirtual 76, 3) := by decide +kernel
theorem dX9_text_46 : decode cX9_text 46 = .ok (.aload_n 0, 1) := by decide +kernel
theorem dX9_text_47 : decode cX9_text 47 = .ok (.getfield 36, 3) := by decide +kernel
theorem dX9_text_5 : decode cX9_text 5 = .ok (.aload_n 0, 1) := by decide +kernel
theorem dX9_text_50 : decode cX9_text 50 = .ok (.getfield 79, 3) := by decide +kernel
theorem dX9_text_53 : decode cX9_text 53 = .ok (.ifCond .eq 17, 3) := by decide +kernel
theorem dX9_text_6 : decode cX9_text 6 = .ok (.getfield 13, 3) := by decide +kernel
theorem dX9_text_70 : decode cX9_text 70 = .ok (.aload_n 0, 1) := by decide +kernel
theorem dX9_text_71 : decode cX9_text 71 = .ok (.getfield 45, 3) := by decide +kernel
theorem dX9_text_74 : decode cX9_text 74 = .ok (.invokevirtual 83, 3) := by decide +kernel
theorem dX9_text_77 : decode cX9_text 77 = .ok (.aload_n 0, 1) := by decide +kernel
theorem dX9_text_78 : decode cX9_text 78 = .ok (.getfield 52, 3) := by decide +kernel
theorem dX9_text_81 : decode cX9_text 81 = .ok (.invokevirtual 86, 3) := by decide +kernel
theorem dX9_text_84 : decode cX9_text 84 = .ok (.aload_n 0, 1) := by decide +kernel
theorem dX9_text_85 : decode cX9_text 85 = .ok (.getfield 61, 3) := by decide +kernel
theorem dX9_text_88 : decode cX9_text 88 = .ok (.invokevirtual 89, 3) := by decide +kernel
theorem dX9_text_9 : decode cX9_text 9 = .ok (.if_icmp .le 6, 3) := by decide +kernel
theorem dX9_text_91 : decode cX9_text 91 = .ok (.aload_n 0, 1) := by decide +kernel
theorem dX9_text_92 : decode cX9_text 92 = .ok (.getfield 36, 3) := by decide +kernel
theorem dX9_text_95 : decode cX9_text 95 = .ok (.getfield 79, 3) := by decide +kernel
theorem dX9_text_98 : decode cX9_text 98 = .ok (.ifCond .eq 7, 3) := by decide +kernel
theorem dX9_turned_0 : decode cX9_turned 0 = .ok (.aload_n 0, 1) := by decide +kernel
theorem dX9_turned_1 : decode cX9_turned 1 = .ok (.getfield 20, 3) := by decide +kernel
theorem dX9_turned_11 : decode cX9_turned 11 = .ok (.iload_n 2, 1) := by decide +kernel
theorem dX9_turned_12 : decode cX9_turned 12 = .ok (.ifCond .lt 14, 3) := by decide +kernel
theorem dX9_turned_15 : decode cX9_turned 15 = .ok (.iload_n 2, 1) := by decide +kernel
theorem dX9_turned_16 : decode cX9_turned 16 = .ok (.aload_n 0, 1) := by decide +kernel
theorem dX9_turned_17 : decode cX9_turned 17 = .ok (.getfield 20, 3) := by decide +kernel
theorem dX9_turned_20 : decode cX9_turned 20 = .ok (.getfield 90, 3) := by decide +kernel
theorem dX9_turned_23 : decode cX9_turned 23 = .ok (.if_icmp .lt 5, 3) := by decide +kernel
theorem dX9_turned_26 : decode cX9_turned 26 = .ok (.iconst (-1), 1) := by decide +kernel
theorem dX9_turned_27 : decode cX9_turned 27 = .ok (.ireturn, 1) := by decide +kernel
theorem dX9_turned_4 : decode cX9_turned 4 = .ok (.iload_n 1, 1) := by decide +kernel
theorem dX9_turned_5 : decode cX9_turned 5 = .ok (.invokevirtual 149, 3) := by decide +kernel
theorem dX9_turned_8 : decode cX9_turned 8 = .ok (.ifCond .eq 18, 3) := by decide +kernel
theorem dX9_value_0 : decode cX9_value 0 = .ok (.aload_n 0, 1) := by decide +kernel
theorem dX9_value_1 : decode cX9_value 1 = .ok (.getfield 20, 3) := by decide +kernel
theorem dX9_value_11 : decode cX9_value 11 = .ok (.aload_n 0, 1) := by decide +kernel
theorem dX9_value_12 : decode cX9_value 12 = .ok (.getfield 27, 3) := by decide +kernel
theorem dX9_value_15 : decode cX9_value 15 = .ok (.aload_n 0, 1) := by decide +kernel
theorem dX9_value_16 : decode cX9_value 16 = .ok (.getfield 20, 3) := by decide +kernel
theorem dX9_value_19 : decode cX9_value 19 = .ok (.iload_n 1, 1) := by decide +kernel
theorem dX9_value_20 : decode cX9_value 20 = .ok (.invokevirtual 155, 3) := by decide +kernel
theorem dX9_value_23 : decode cX9_value 23 = .ok (.invokevirtual 158, 3) := by decide +kernel
theorem dX9_value_26 : decode cX9_value 26 = .ok (.goto 4, 3) := by decide +kernel
theorem dX9_value_29 : decode cX9_value 29 = .ok (.iconst (-1), 1) := by decide +kernel
theorem dX9_value_30 : decode cX9_value 30 = .ok (.ireturn, 1) := by decide +kernel
theorem dX9_value_4 : decode cX9_value 4 = .ok (.iload_n 1, 1) := by decide +kernel
theorem dX9_value_5 : decode cX9_value 5 = .ok (.invokevirtual 149, 3) := by decide +kernel
theorem dX9_value_8 : decode cX9_value 8 = .ok (.ifCond .eq 21, 3) := by decide +kernel
theorem dX9_weight_0 : decode cX9_weight 0 = .ok (.aload_n 0, 1) := by decide +kernel
theorem dX9_weight_1 : decode cX9_weight 1 = .ok (.getfield 27, 3) := by decide +kernel
theorem dX9_weight_22 : decode cX9_weight 22 = .ok (.iconst (-1), 1) := by decide +kernel
theorem dX9_weight_23 : decode cX9_weight 23 = .ok (.ireturn, 1) := by decide +kernel
theorem dX9_weight_4 : decode cX9_weight 4 = .ok (.iload_n 1, 1) := by decide +kernel
theorem dX9_weight_5 : decode cX9_weight 5 = .ok (.invokevirtual 125, 3) := by decide +kernel
theorem dX9_weight_8 : decode cX9_weight 8 = .ok (.ifCond .eq 14, 3) := by decide +kernel
set_option maxRecDepth 20000 in
theorem ggX8_init_X2_init : GoodIn wsX8_init wsX2_init := goodIn_r _ [28, 29, 2, 3, 4, 30, 31, 32, 33, 34, 35, 62, 63, 64, 65, 66, 67] (by decide +kernel) (by decide +kernel)
set_option maxRecDepth 20000 in
theorem gX8_init_X2_init_n54 : GoodIn wsX8_init (wsX2_init) := ggX8_init_X2_init
set_option maxRecDepth 20000 in
theorem ggX8_init_X4_init : GoodIn wsX8_init wsX4_init := goodIn_r _ [37, 38, 2, 3, 39, 40, 41, 42, 43, 44, 45, 68, 69, 70, 71, 72, 73, 74] (by decide +kernel) (by decide +kernel)
set_option maxRecDepth 20000 in
theorem gX8_init_X4_init_n68 : GoodIn wsX8_init (wsX4_init) := ggX8_init_X4_init
set_option maxRecDepth 20000 in
theorem ggX9_init_X8_init : GoodIn wsX9_init wsX8_init := goodIn_r _ [33, 34, 2, 3, 4, 35, 36, 37, 38, 39, 40, 41, 42, 43, 44, 45, 46, 47, 48, 49, 50, 51, 52, 53, 54, 55, 56, 57, 58, 59, 60, 61, 62, 63, 64, 65, 66, 67, 68, 69, 70, 71, 72, 73, 74, 75, 156, 157, 158, 159, 160, 161, 162, 163, 164, 165, 166, 167, 168, 169, 170, 171, 210, 211, 212, 213, 214, 215, 216, 217, 218, 219, 220, 221, 222] (by decide +kernel) (by decide +kernel)
set_option maxRecDepth 20000 in
theorem gX9_init_X8_init : GoodIn wsX9_init (wsX8_init) := ggX9_init_X8_init
set_option maxRecDepth 20000 in
theorem ggX9_init_X0_init : GoodIn wsX9_init wsX0_init := goodIn_r _ [77, 78, 2, 3, 4, 79, 80, 81, 172, 173, 174] (by decide +kernel) (by decide +kernel)
set_option maxRecDepth 20000 in
theorem gX9_init_X0_init_n26 : GoodIn wsX9_init (wsX0_init) := ggX9_init_X0_init
set_option maxRecDepth 20000 in
theorem ggX7_init_X1_init : GoodIn wsX7_init wsX1_init := goodIn_r _ [18, 19, 2, 3, 20, 21, 22, 23, 24, 25, 26, 37, 38, 39, 40, 41, 42, 43] (by decide +kernel) (by decide +kernel)
set_option maxRecDepth 20000 in
theorem gX7_init_X1_init_n44 : GoodIn wsX7_init (wsX1_init) := ggX7_init_X1_init
set_option maxRecDepth 20000 in
theorem ggX9_init_X7_init : GoodIn wsX9_init wsX7_init := goodIn_r _ [84, 85, 2, 3, 86, 87, 88, 89, 90, 91, 92, 93, 94, 95, 96, 97, 98, 99, 100, 101, 102, 103, 104, 105, 106, 107, 108, 175, 176, 177, 178, 179, 180, 181, 182, 183, 184, 223, 224, 225, 226, 227, 228, 229] (by decide +kernel) (by decide +kernel)
set_option maxRecDepth 20000 in
theorem gX9_init_X7_init : GoodIn wsX9_init (wsX7_init) := ggX9_init_X7_init
set_option maxRecDepth 20000 in
theorem ggX9_init_X3_init : GoodIn wsX9_init wsX3_init := goodIn_r _ [111, 112, 2, 3, 4, 113, 114, 115, 116, 117, 118, 119, 185, 186, 187, 188, 189, 190] (by decide +kernel) (by decide +kernel)
set_option maxRecDepth 20000 in
theorem gX9_init_X3_init : GoodIn wsX9_init (wsX3_init) := ggX9_init_X3_init
set_option maxRecDepth 20000 in
theorem ggX9_init_X6_init : GoodIn wsX9_init wsX6_init := goodIn_r _ [122, 123, 2, 3, 124, 125, 126, 127, 128, 129, 130, 191, 192, 193, 194, 195, 196] (by decide +kernel) (by decide +kernel)
set_option maxRecDepth 20000 in
theorem gX9_init_X6_init : GoodIn wsX9_init (wsX6_init) := ggX9_init_X6_init
set_option maxRecDepth 20000 in
theorem ggX9_init_X5_init : GoodIn wsX9_init wsX5_init := goodIn_r _ [133, 134, 2, 3, 4, 135, 136, 137, 138, 139, 140, 141, 142, 143, 144, 145, 146, 147, 197, 198, 199, 200, 201, 202, 203, 204, 205, 206, 207, 208, 209] (by decide +kernel) (by decide +kernel)
set_option maxRecDepth 20000 in
theorem gX9_init_X5_init : GoodIn wsX9_init (wsX5_init) := ggX9_init_X5_init
set_option maxRecDepth 20000 in
theorem ggX9_feed_X9_putOnTape : GoodIn wsX9_feed wsX9_putOnTape := goodIn_r _ [6, 1, 7, 8, 9, 10, 11, 12, 13, 14, 15] (by decide +kernel) (by decide +kernel)
set_option maxRecDepth 20000 in
theorem gX9_feed_X9_putOnTape : GoodIn wsX9_feed (wsV RX9 65 RX9 yX9_putOnTape wsX9_putOnTape) := goodIn_app (goodIn_of _ (by decide +kernel)) ggX9_feed_X9_putOnTape
set_option maxRecDepth 20000 in
theorem ggX8_take_X8_clear : GoodIn wsX8_take wsX8_clear := goodIn_r _ [7, 2, 8, 9, 10, 11, 12, 13, 14, 15, 16, 17, 18, 19, 20, 21, 22, 23, 24, 25, 26, 27, 28, 29, 30, 31, 32, 33, 34, 35, 36, 37, 38, 39] (by decide +kernel) (by decide +kernel)
set_option maxRecDepth 20000 in
theorem gX8_take_X8_clear : GoodIn wsX8_take (wsV RX8 72 RX8 yX8_clear wsX8_clear) := goodIn_app (goodIn_of _ (by decide +kernel)) ggX8_take_X8_clear
set_option maxRecDepth 20000 in
theorem ggX9_text_X8_take : GoodIn wsX9_text wsX8_take := goodIn_r _ [15, 16, 17, 18, 19, 20, 14, 21, 22, 23, 24, 25, 26, 27, 28, 29, 30, 31, 320, 321, 322, 323, 324, 325, 326, 327, 328, 329, 330, 331, 332, 333, 334, 335, 336, 337, 338, 339, 340, 341] (by decide +kernel) (by decide +kernel)
set_option maxRecDepth 20000 in
theorem gX9_text_X8_take : GoodIn wsX9_text (wsV RX9 69 RX8 yX8_take wsX8_take) := goodIn_app (goodIn_of _ (by decide +kernel)) ggX9_text_X8_take
set_option maxRecDepth 20000 in
theorem ggX9_text_X0_clear : GoodIn wsX9_text wsX0_clear := goodIn_r _ [36, 37, 38, 39, 342, 343, 344] (by decide +kernel) (by decide +kernel)
set_option maxRecDepth 20000 in
theorem gX9_text_X0_clear : GoodIn wsX9_text (wsV RX9 73 RX0 yX0_clear wsX0_clear) := goodIn_app (goodIn_of _ (by decide +kernel)) ggX9_text_X0_clear
set_option maxRecDepth 20000 in
theorem ggX9_text_X7_scan : GoodIn wsX9_text wsX7_scan := goodIn_r _ [44, 45, 46, 47, 48, 49, 50, 51, 52, 53, 54, 55, 14, 56, 17, 16, 57, 58, 59, 43, 60, 61, 62, 63, 64, 65, 66, 67, 68, 69, 70, 71, 72, 73, 74, 75, 76, 77, 78, 79, 80, 81, 82, 83, 84, 85, 86, 87, 88, 89, 26, 23, 90, 91, 29, 24, 30, 92, 93, 94, 95, 96, 97, 98, 99, 100, 101, 102, 103, 104, 105, 106, 107, 108, 109, 110, 111, 112, 113, 114, 115, 116, 117, 118, 119, 120, 121, 122, 123, 124, 125, 126, 127, 128, 129, 130, 131, 132, 133, 134, 135, 136, 137, 138, 139, 140, 141, 142, 143, 144, 145, 146, 147, 148, 149, 150, 151, 152, 153, 154, 155, 156, 157, 158, 159, 160, 161, 162, 163, 164, 25, 165, 166, 167, 168, 22, 169, 170, 171, 172, 173, 174, 175, 176, 177, 28, 178, 179, 180, 181, 182, 183, 184, 185, 186, 187, 188, 189, 190, 191, 192, 193, 194, 195, 196, 197, 198, 199, 200, 201, 202, 203, 204, 205, 206, 207, 208, 209, 210, 211, 212, 213, 35, 214, 37, 38, 215, 216, 217, 218, 219, 220, 221, 222, 223, 224, 225, 226, 227, 228, 229, 230, 231, 232, 233, 234, 235, 236, 237, 31, 238, 239, 240, 241, 242, 243, 310, 311, 312, 313, 314, 315, 316, 317, 318, 319, 320, 321, 322, 323, 324, 325, 326, 327, 328, 329, 330, 331, 332, 333, 334, 335, 345, 346, 347, 348, 349, 350, 351, 352, 353, 354, 355, 356, 357, 358, 336, 337, 338, 339, 340, 341, 342, 343, 344] (by decide +kernel) (by decide +kernel)
set_option maxRecDepth 20000 in
theorem gX9_text_X7_scan : GoodIn wsX9_text (wsV RX9 76 RX7 yX7_scan wsX7_scan) := goodIn_app (goodIn_of _ (by decide +kernel)) ggX9_text_X7_scan
set_option maxRecDepth 20000 in
theorem ggX9_text_X3_gatherLeanings : GoodIn wsX9_text wsX3_gatherLeanings := goodIn_r _ [249, 250, 251, 252, 253, 254, 255, 256, 141, 257, 144, 258, 259, 260, 261, 143, 262, 263, 264, 265, 145, 266, 267, 268, 248, 269, 270, 271, 272, 273, 274, 275, 276, 277, 148, 278, 279, 280, 14, 281, 90, 91, 134, 135, 136, 137, 282, 283, 284, 285, 31, 238, 286, 287, 288, 289, 147, 359, 360, 361, 362, 363, 364, 320, 321, 322, 323, 324, 325, 326, 327, 328, 329, 330, 331, 332, 333, 334, 335, 336, 337, 338, 339, 340, 341, 352, 353, 354, 355, 356, 357, 358] (by decide +kernel) (by decide +kernel)
set_option maxRecDepth 20000 in
theorem gX9_text_X3_gatherLeanings : GoodIn wsX9_text (wsV RX9 83 RX3 yX3_gatherLeanings wsX3_gatherLeanings) := goodIn_app (goodIn_of _ (by decide +kernel)) ggX9_text_X3_gatherLeanings
set_option maxRecDepth 20000 in
theorem ggX9_text_X6_forget : GoodIn wsX9_text wsX6_forget := goodIn_r _ [294, 295, 365, 366, 367, 368, 369, 370] (by decide +kernel) (by decide +kernel)
set_option maxRecDepth 20000 in
theorem gX9_text_X6_forget : GoodIn wsX9_text (wsV RX9 86 RX6 yX6_forget wsX6_forget) := goodIn_app (goodIn_of _ (by decide +kernel)) ggX9_text_X6_forget
set_option maxRecDepth 20000 in
theorem ggX9_text_X5_forget : GoodIn wsX9_text wsX5_forget := goodIn_r _ [300, 301, 371, 372, 373, 374, 375, 376, 377, 378, 379, 380, 381, 382, 383] (by decide +kernel) (by decide +kernel)
set_option maxRecDepth 20000 in
theorem gX9_text_X5_forget : GoodIn wsX9_text (wsV RX9 89 RX5 yX5_forget wsX5_forget) := goodIn_app (goodIn_of _ (by decide +kernel)) ggX9_text_X5_forget
set_option maxRecDepth 20000 in
theorem ggX9_knows_X0_has : GoodIn wsX9_knows wsX0_has := goodIn_r _ [8, 9, 41, 42, 43] (by decide +kernel) (by decide +kernel)
set_option maxRecDepth 20000 in
theorem gX9_knows_X0_has : GoodIn wsX9_knows (wsV RX9 125 RX0 yX0_has wsX0_has) := goodIn_app (goodIn_of _ (by decide +kernel)) ggX9_knows_X0_has
set_option maxRecDepth 20000 in
theorem ggX9_weight_X0_has : GoodIn wsX9_weight wsX0_has := goodIn_r _ [6, 7, 26, 27, 28] (by decide +kernel) (by decide +kernel)
set_option maxRecDepth 20000 in
theorem gX9_weight_X0_has : GoodIn wsX9_weight (wsV RX9 125 RX0 yX0_has wsX0_has) := goodIn_app (goodIn_of _ (by decide +kernel)) ggX9_weight_X0_has
set_option maxRecDepth 20000 in
theorem ggX9_sound_X8_hasAllOf : GoodIn wsX9_sound wsX8_hasAllOf := goodIn_r _ [6, 7, 35, 36, 37, 38, 39, 40, 41, 42, 43, 44, 45, 46, 47, 48, 49, 50] (by decide +kernel) (by decide +kernel)
set_option maxRecDepth 20000 in
theorem gX9_sound_X8_hasAllOf : GoodIn wsX9_sound (wsV RX9 146 RX8 yX8_hasAllOf wsX8_hasAllOf) := goodIn_app (goodIn_of _ (by decide +kernel)) ggX9_sound_X8_hasAllOf
set_option maxRecDepth 20000 in
theorem ggX8_isSound_X8_hasAllOf : GoodIn wsX8_isSound wsX8_hasAllOf := goodIn_r _ [11, 1, 21, 22, 23, 24, 25, 26, 27, 28, 29, 30, 31, 32, 33, 34, 35, 36] (by decide +kernel) (by decide +kernel)
set_option maxRecDepth 20000 in
theorem gX8_isSound_X8_hasAllOf : GoodIn wsX8_isSound (wsV RX8 107 RX8 yX8_hasAllOf wsX8_hasAllOf) := goodIn_app (goodIn_of _ (by decide +kernel)) ggX8_isSound_X8_hasAllOf
set_option maxRecDepth 20000 in
theorem ggX9_sound_X8_isSound : GoodIn wsX9_sound wsX8_isSound := goodIn_r _ [11, 7, 12, 13, 14, 15, 16, 17, 3, 4, 5, 6, 18, 19, 20, 21, 22, 23, 24, 25, 26, 35, 36, 37, 38, 39, 40, 41, 42, 43, 44, 45, 46, 47, 48, 49, 50, 51, 52, 53, 54, 55, 56, 57] (by decide +kernel) (by decide +kernel)
set_option maxRecDepth 20000 in
theorem gX9_sound_X8_isSound : GoodIn wsX9_sound (wsV RX9 149 RX8 yX8_isSound wsX8_isSound) := goodIn_app (goodIn_of _ (by decide +kernel)) ggX9_sound_X8_isSound
set_option maxRecDepth 20000 in
theorem ggX9_length_X8_isSound : GoodIn wsX9_length wsX8_isSound := goodIn_r _ [7, 8, 9, 10, 11, 12, 13, 14, 15, 16, 6, 17, 18, 19, 20, 21, 22, 23, 24, 25, 26, 68, 69, 70, 71, 72, 73, 74, 75, 76, 77, 78, 79, 80, 81, 82, 83, 84, 85, 86, 87, 88, 89, 90] (by decide +kernel) (by decide +kernel)
set_option maxRecDepth 20000 in
theorem gX9_length_X8_isSound : GoodIn wsX9_length (wsV RX9 149 RX8 yX8_isSound wsX8_isSound) := goodIn_app (goodIn_of _ (by decide +kernel)) ggX9_length_X8_isSound
set_option maxRecDepth 20000 in
theorem ggX3_signsBesideOptions_X3_sumOfNamesPut : GoodIn wsX3_signsBesideOptions wsX3_sumOfNamesPut := goodIn_r _ [24, 25, 26, 27, 28, 29, 30, 31, 32, 33, 34, 35] (by decide +kernel) (by decide +kernel)
set_option maxRecDepth 20000 in
theorem gX3_signsBesideOptions_X3_sumOfNamesPut : GoodIn wsX3_signsBesideOptions (wsV RX3 65 RX3 yX3_sumOfNamesPut wsX3_sumOfNamesPut) := goodIn_app (goodIn_of _ (by decide +kernel)) ggX3_signsBesideOptions_X3_sumOfNamesPut
set_option maxRecDepth 20000 in
theorem ggX3_signsOf_X3_signsBesideOptions : GoodIn wsX3_signsOf wsX3_signsBesideOptions := goodIn_r _ [9, 1, 10, 3, 4, 11, 12, 13, 14, 15, 16, 17, 18, 19, 20, 21, 22, 23, 24, 25, 26, 27, 28, 8, 29, 30, 31, 32, 33, 34, 35, 36, 37, 38, 39, 40, 41, 42, 43, 44, 45, 46, 47, 48, 49, 50, 51, 52, 53, 54, 55, 56, 57, 58, 59, 60, 61, 62, 63] (by decide +kernel) (by decide +kernel)
set_option maxRecDepth 20000 in
theorem gX3_signsOf_X3_signsBesideOptions : GoodIn wsX3_signsOf (wsV RX3 69 RX3 yX3_signsBesideOptions wsX3_signsBesideOptions) := goodIn_app (goodIn_of _ (by decide +kernel)) ggX3_signsOf_X3_signsBesideOptions
set_option maxRecDepth 20000 in
theorem ggX9_length_X3_signsOf : GoodIn wsX9_length wsX3_signsOf := goodIn_r _ [31, 32, 33, 34, 35, 36, 37, 38, 30, 39, 40, 41, 42, 43, 19, 20, 21, 22, 23, 44, 45, 46, 47, 48, 49, 50, 51, 52, 53, 54, 55, 56, 57, 58, 59, 91, 92, 93, 94, 95, 96, 68, 69, 70, 71, 72, 73, 74, 75, 76, 77, 78, 79, 80, 81, 82, 83, 84, 85, 86, 87, 88, 89, 90] (by decide +kernel) (by decide +kernel)
set_option maxRecDepth 20000 in
theorem gX9_length_X3_signsOf : GoodIn wsX9_length (wsV RX9 152 RX3 yX3_signsOf wsX3_signsOf) := goodIn_app (goodIn_of _ (by decide +kernel)) ggX9_length_X3_signsOf
set_option maxRecDepth 20000 in
theorem ggX9_value_X8_isSound : GoodIn wsX9_value wsX8_isSound := goodIn_r _ [7, 8, 9, 10, 11, 12, 13, 14, 15, 16, 6, 17, 18, 19, 20, 21, 22, 23, 24, 25, 26, 64, 65, 66, 67, 68, 69, 70, 71, 72, 73, 74, 75, 76, 77, 78, 79, 80, 81, 82, 83, 84, 85, 86] (by decide +kernel) (by decide +kernel)
set_option maxRecDepth 20000 in
theorem gX9_value_X8_isSound : GoodIn wsX9_value (wsV RX9 149 RX8 yX8_isSound wsX8_isSound) := goodIn_app (goodIn_of _ (by decide +kernel)) ggX9_value_X8_isSound
set_option maxRecDepth 20000 in
theorem ggX8_toldIn_X8_toldByHeadingsIn : GoodIn wsX8_toldIn wsX8_toldByHeadingsIn := goodIn_r _ [8, 9, 2, 3, 10, 11, 12, 13, 14, 15, 16, 17, 18, 19, 20, 21, 22, 23, 24, 25, 26, 27, 28, 29, 30, 31, 32, 33, 34, 35, 36, 37, 38] (by decide +kernel) (by decide +kernel)
set_option maxRecDepth 20000 in
theorem gX8_toldIn_X8_toldByHeadingsIn : GoodIn wsX8_toldIn (wsV RX8 120 RX8 yX8_toldByHeadingsIn wsX8_toldByHeadingsIn) := goodIn_app (goodIn_of _ (by decide +kernel)) ggX8_toldIn_X8_toldByHeadingsIn
set_option maxRecDepth 20000 in
theorem ggX9_value_X8_toldIn : GoodIn wsX9_value wsX8_toldIn := goodIn_r _ [30, 8, 9, 31, 32, 33, 34, 6, 35, 36, 18, 19, 20, 21, 22, 23, 64, 65, 66, 67, 68, 69, 70, 71, 72, 73, 74, 75, 76, 77, 78, 79, 80, 81, 82, 83, 84, 85, 86] (by decide +kernel) (by decide +kernel)
set_option maxRecDepth 20000 in
theorem gX9_value_X8_toldIn : GoodIn wsX9_value (wsV RX9 155 RX8 yX8_toldIn wsX8_toldIn) := goodIn_app (goodIn_of _ (by decide +kernel)) ggX9_value_X8_toldIn
set_option maxRecDepth 20000 in
theorem ggX9_value_X0_weightOfAll : GoodIn wsX9_value wsX0_weightOfAll := goodIn_r _ [41, 42, 43, 44, 40, 45, 46, 47, 48, 49, 50, 51, 52, 53, 54, 55, 87, 88, 89] (by decide +kernel) (by decide +kernel)
set_option maxRecDepth 20000 in
theorem gX9_value_X0_weightOfAll : GoodIn wsX9_value (wsV RX9 158 RX0 yX0_weightOfAll wsX0_weightOfAll) := goodIn_app (goodIn_of _ (by decide +kernel)) ggX9_value_X0_weightOfAll
set_option maxRecDepth 20000 in
theorem ggX9_named_X8_isSound : GoodIn wsX9_named wsX8_isSound := goodIn_r _ [7, 8, 9, 10, 11, 12, 13, 14, 15, 16, 6, 17, 18, 19, 20, 21, 22, 23, 24, 25, 26, 49, 50, 51, 52, 53, 54, 55, 56, 57, 58, 59, 60, 61, 62, 63, 64, 65, 66, 67, 68, 69, 70, 71] (by decide +kernel) (by decide +kernel)
set_option maxRecDepth 20000 in
theorem gX9_named_X8_isSound : GoodIn wsX9_named (wsV RX9 149 RX8 yX8_isSound wsX8_isSound) := goodIn_app (goodIn_of _ (by decide +kernel)) ggX9_named_X8_isSound
set_option maxRecDepth 20000 in
theorem ggX3_namesPutIn_X3_sumOfNamesPut : GoodIn wsX3_namesPutIn wsX3_sumOfNamesPut := goodIn_r _ [5, 6, 7, 8, 9, 10, 11, 12, 13, 14, 15, 16] (by decide +kernel) (by decide +kernel)
set_option maxRecDepth 20000 in
theorem gX3_namesPutIn_X3_sumOfNamesPut : GoodIn wsX3_namesPutIn (wsV RX3 65 RX3 yX3_sumOfNamesPut wsX3_sumOfNamesPut) := goodIn_app (goodIn_of _ (by decide +kernel)) ggX3_namesPutIn_X3_sumOfNamesPut
set_option maxRecDepth 20000 in
theorem ggX9_named_X3_namesPutIn : GoodIn wsX9_named wsX3_namesPutIn := goodIn_r _ [31, 32, 33, 34, 30, 35, 36, 37, 38, 39, 40, 72, 73, 74, 75, 76, 77] (by decide +kernel) (by decide +kernel)
set_option maxRecDepth 20000 in
theorem gX9_named_X3_namesPutIn : GoodIn wsX9_named (wsV RX9 183 RX3 yX3_namesPutIn wsX3_namesPutIn) := goodIn_app (goodIn_of _ (by decide +kernel)) ggX9_named_X3_namesPutIn
set_option maxRecDepth 20000 in
theorem ggX9_sign_X8_isSound : GoodIn wsX9_sign wsX8_isSound := goodIn_r _ [8, 9, 10, 11, 12, 13, 14, 15, 16, 17, 7, 18, 19, 20, 21, 22, 23, 24, 25, 26, 27, 181, 182, 183, 184, 185, 186, 187, 188, 189, 190, 191, 192, 193, 194, 195, 196, 197, 198, 199, 200, 201, 202, 203] (by decide +kernel) (by decide +kernel)
set_option maxRecDepth 20000 in
theorem gX9_sign_X8_isSound : GoodIn wsX9_sign (wsV RX9 149 RX8 yX8_isSound wsX8_isSound) := goodIn_app (goodIn_of _ (by decide +kernel)) ggX9_sign_X8_isSound
set_option maxRecDepth 20000 in
theorem ggX9_sign_X6_holds : GoodIn wsX9_sign wsX6_holds := goodIn_r _ [32, 33, 204, 205, 206, 207, 208, 209] (by decide +kernel) (by decide +kernel)
set_option maxRecDepth 20000 in
theorem gX9_sign_X6_holds : GoodIn wsX9_sign (wsV RX9 161 RX6 yX6_holds wsX6_holds) := goodIn_app (goodIn_of _ (by decide +kernel)) ggX9_sign_X6_holds
set_option maxRecDepth 20000 in
theorem ggX9_sign_X3_signsOf : GoodIn wsX9_sign wsX3_signsOf := goodIn_r _ [38, 39, 40, 41, 42, 43, 44, 45, 37, 46, 47, 48, 49, 50, 20, 21, 22, 23, 24, 51, 52, 53, 54, 55, 56, 57, 58, 59, 60, 61, 62, 63, 64, 65, 66, 210, 211, 212, 213, 214, 215, 181, 182, 183, 184, 185, 186, 187, 188, 189, 190, 191, 192, 193, 194, 195, 196, 197, 198, 199, 200, 201, 202, 203] (by decide +kernel) (by decide +kernel)
set_option maxRecDepth 20000 in
theorem gX9_sign_X3_signsOf : GoodIn wsX9_sign (wsV RX9 152 RX3 yX3_signsOf wsX3_signsOf) := goodIn_app (goodIn_of _ (by decide +kernel)) ggX9_sign_X3_signsOf
set_option maxRecDepth 20000 in
theorem ggX9_sign_X6_write : GoodIn wsX9_sign wsX6_write := goodIn_r _ [70, 71, 72, 73, 74, 75, 76, 77, 78, 79, 80, 81, 82, 33, 83, 84, 85, 86, 87, 88, 89, 90, 91, 92, 93, 94, 95, 96, 7, 97, 10, 98, 99, 100, 101, 102, 103, 104, 105, 31, 106, 107, 108, 109, 110, 111, 112, 113, 114, 115, 116, 12, 14, 117, 118, 119, 120, 121, 122, 123, 124, 125, 126, 127, 128, 129, 130, 131, 132, 133, 134, 135, 136, 137, 138, 139, 140, 141, 142, 143, 144, 145, 146, 147, 148, 149, 150, 151, 152, 153, 154, 155, 156, 157, 158, 159, 160, 161, 162, 163, 164, 165, 166, 167, 168, 204, 205, 206, 207, 208, 209, 181, 182, 183, 184, 185, 186, 187, 188, 189, 190, 191, 192, 193, 194, 195, 196, 216, 217, 218, 219, 220, 221, 197, 198, 199, 200, 201, 202, 203] (by decide +kernel) (by decide +kernel)
set_option maxRecDepth 20000 in
theorem gX9_sign_X6_write : GoodIn wsX9_sign (wsV RX9 164 RX6 yX6_write wsX6_write) := goodIn_app (goodIn_of _ (by decide +kernel)) ggX9_sign_X6_write
set_option maxRecDepth 20000 in
theorem ggX9_sign_X6_signAt : GoodIn wsX9_sign wsX6_signAt := goodIn_r _ [172, 77, 71, 204, 205, 206, 207, 208, 209] (by decide +kernel) (by decide +kernel)
set_option maxRecDepth 20000 in
theorem gX9_sign_X6_signAt : GoodIn wsX9_sign (wsV RX9 167 RX6 yX6_signAt wsX6_signAt) := goodIn_app (goodIn_of _ (by decide +kernel)) ggX9_sign_X6_signAt
set_option maxRecDepth 20000 in
theorem ggX5_make_X5_makeRoom : GoodIn wsX5_make wsX5_makeRoom := goodIn_r _ [22, 4, 23, 5, 6, 13, 16, 14, 125, 126, 127, 128, 129, 130, 131, 132, 133, 134, 135, 136, 137] (by decide +kernel) (by decide +kernel)
set_option maxRecDepth 20000 in
theorem gX5_make_X5_makeRoom : GoodIn wsX5_make (wsV RX5 81 RX5 yX5_makeRoom wsX5_makeRoom) := goodIn_app (goodIn_of _ (by decide +kernel)) ggX5_make_X5_makeRoom
set_option maxRecDepth 20000 in
theorem ggX5_make_X3_signsBesideOptions : GoodIn wsX5_make wsX3_signsBesideOptions := goodIn_r _ [52, 53, 54, 55, 56, 57, 58, 59, 60, 61, 62, 63, 64, 65, 66, 67, 68, 69, 70, 71, 72, 73, 74, 51, 75, 76, 77, 78, 79, 80, 161, 162, 163, 164, 165, 166, 138, 139, 140, 141, 142, 143, 144, 145, 146, 147, 148, 149, 150, 151, 152, 153, 154, 155, 156, 157, 158, 159, 160] (by decide +kernel) (by decide +kernel)
set_option maxRecDepth 20000 in
theorem gX5_make_X3_signsBesideOptions : GoodIn wsX5_make (wsV RX5 105 RX3 yX3_signsBesideOptions wsX3_signsBesideOptions) := goodIn_app (goodIn_of _ (by decide +kernel)) ggX5_make_X3_signsBesideOptions
set_option maxRecDepth 20000 in
theorem ggX5_make_X8_toldByHeadingsIn : GoodIn wsX5_make wsX8_toldByHeadingsIn := goodIn_r _ [84, 85, 86, 87, 88, 60, 61, 62, 63, 64, 138, 139, 140, 141, 142, 143, 144, 145, 146, 147, 148, 149, 150, 151, 152, 153, 154, 155, 156, 157, 158, 159, 160] (by decide +kernel) (by decide +kernel)
set_option maxRecDepth 20000 in
theorem gX5_make_X8_toldByHeadingsIn : GoodIn wsX5_make (wsV RX5 110 RX8 yX8_toldByHeadingsIn wsX8_toldByHeadingsIn) := goodIn_app (goodIn_of _ (by decide +kernel)) ggX5_make_X8_toldByHeadingsIn
set_option maxRecDepth 20000 in
theorem ggX0_weightOf_X0_has : GoodIn wsX0_weightOf wsX0_has := goodIn_r _ [6, 1, 12, 13, 14] (by decide +kernel) (by decide +kernel)
set_option maxRecDepth 20000 in
theorem gX0_weightOf_X0_has : GoodIn wsX0_weightOf (wsV RX0 22 RX0 yX0_has wsX0_has) := goodIn_app (goodIn_of _ (by decide +kernel)) ggX0_weightOf_X0_has
set_option maxRecDepth 20000 in
theorem ggX5_make_X0_weightOf : GoodIn wsX5_make wsX0_weightOf := goodIn_r _ [93, 94, 95, 96, 97, 92, 98, 99, 100, 101, 102, 103, 167, 168, 169] (by decide +kernel) (by decide +kernel)
set_option maxRecDepth 20000 in
theorem gX5_make_X0_weightOf : GoodIn wsX5_make (wsV RX5 113 RX0 yX0_weightOf wsX0_weightOf) := goodIn_app (goodIn_of _ (by decide +kernel)) ggX5_make_X0_weightOf
set_option maxRecDepth 20000 in
theorem ggX5_make_X5_addToUntold : GoodIn wsX5_make wsX5_addToUntold := goodIn_r _ [107, 7, 6, 13, 125, 126, 127, 128, 129, 130, 131, 132, 133, 134, 135, 136, 137] (by decide +kernel) (by decide +kernel)
set_option maxRecDepth 20000 in
theorem gX5_make_X5_addToUntold : GoodIn wsX5_make (wsV RX5 56 RX5 yX5_addToUntold wsX5_addToUntold) := goodIn_app (goodIn_of _ (by decide +kernel)) ggX5_make_X5_addToUntold
set_option maxRecDepth 20000 in
theorem ggX5_sort_X5_clearHeads : GoodIn wsX5_sort wsX5_clearHeads := goodIn_r _ [11, 6, 2, 3, 4, 5, 12, 21, 22, 23, 24, 25, 26, 27, 28, 29, 30, 31, 32, 33] (by decide +kernel) (by decide +kernel)
set_option maxRecDepth 20000 in
theorem gX5_sort_X5_clearHeads : GoodIn wsX5_sort (wsV RX5 147 RX5 yX5_clearHeads wsX5_clearHeads) := goodIn_app (goodIn_of _ (by decide +kernel)) ggX5_sort_X5_clearHeads
set_option maxRecDepth 20000 in
theorem ggX5_sort_X5_addOneOf : GoodIn wsX5_sort wsX5_addOneOf := goodIn_r _ [16, 6, 21, 22, 23, 24, 25, 26, 27, 28, 29, 30, 31, 32, 33] (by decide +kernel) (by decide +kernel)
set_option maxRecDepth 20000 in
theorem gX5_sort_X5_addOneOf : GoodIn wsX5_sort (wsV RX5 150 RX5 yX5_addOneOf wsX5_addOneOf) := goodIn_app (goodIn_of _ (by decide +kernel)) ggX5_sort_X5_addOneOf
set_option maxRecDepth 20000 in
theorem ggX5_sort_X5_isPlace : GoodIn wsX5_sort wsX5_isPlace := goodIn_r _ [20, 1, 21, 22, 23, 24, 25, 26, 27, 28, 29, 30, 31, 32, 33] (by decide +kernel) (by decide +kernel)
set_option maxRecDepth 20000 in
theorem gX5_sort_X5_isPlace : GoodIn wsX5_sort (wsV RX5 66 RX5 yX5_isPlace wsX5_isPlace) := goodIn_app (goodIn_of _ (by decide +kernel)) ggX5_sort_X5_isPlace
set_option maxRecDepth 20000 in
theorem ggX5_make_X5_sort : GoodIn wsX5_make wsX5_sort := goodIn_r _ [111, 7, 112, 113, 114, 115, 116, 117, 118, 119, 21, 120, 23, 121, 122, 123, 124, 44, 45, 46, 47, 125, 126, 127, 128, 129, 130, 131, 132, 133, 134, 135, 136, 137] (by decide +kernel) (by decide +kernel)
set_option maxRecDepth 20000 in
theorem gX5_make_X5_sort : GoodIn wsX5_make (wsV RX5 118 RX5 yX5_sort wsX5_sort) := goodIn_app (goodIn_of _ (by decide +kernel)) ggX5_make_X5_sort
set_option maxRecDepth 20000 in
theorem ggX5_rank_X5_make : GoodIn wsX5_rank wsX5_make := goodIn_r _ [9, 10, 11, 12, 13, 14, 15, 16, 17, 18, 19, 20, 21, 3, 4, 22, 2, 1, 23, 24, 25, 8, 26, 27, 28, 29, 30, 31, 32, 33, 34, 35, 36, 37, 38, 39, 40, 41, 42, 43, 44, 45, 46, 47, 48, 49, 50, 51, 52, 53, 54, 55, 56, 57, 58, 59, 60, 61, 62, 63, 64, 65, 66, 67, 68, 69, 70, 71, 72, 73, 74, 75, 76, 77, 78, 79, 80, 81, 82, 83, 84, 85, 86, 87, 88, 89, 90, 91, 92, 93, 94, 95, 96, 97, 98, 99, 100, 101, 102, 103, 104, 105, 106, 107, 108, 109, 110, 111, 112, 113, 114, 115, 116, 117, 118, 119, 120, 121, 122, 123, 124, 125, 126, 127, 128, 129, 130, 131, 132, 133, 134, 135, 136, 137, 138, 139, 140, 141, 142, 143, 144, 145, 146, 147, 148, 149, 150, 151, 152, 153, 154, 155, 156, 157, 158, 159, 160, 161, 162, 163, 164, 165, 166, 167, 168, 169, 170, 171, 172, 173] (by decide +kernel) (by decide +kernel)
set_option maxRecDepth 20000 in
theorem gX5_rank_X5_make : GoodIn wsX5_rank (wsV RX5 60 RX5 yX5_make wsX5_make) := goodIn_app (goodIn_of _ (by decide +kernel)) ggX5_rank_X5_make
set_option maxRecDepth 20000 in
theorem ggX5_rank_X5_sort : GoodIn wsX5_rank wsX5_sort := goodIn_r _ [115, 16, 116, 117, 118, 119, 120, 121, 122, 123, 8, 124, 27, 125, 126, 127, 128, 48, 49, 50, 51, 129, 130, 131, 132, 133, 134, 135, 136, 137, 138, 139, 140, 141] (by decide +kernel) (by decide +kernel)
set_option maxRecDepth 20000 in
theorem gX5_rank_X5_sort : GoodIn wsX5_rank (wsV RX5 118 RX5 yX5_sort wsX5_sort) := goodIn_app (goodIn_of _ (by decide +kernel)) ggX5_rank_X5_sort
set_option maxRecDepth 20000 in
theorem ggX5_bestFor_X5_rank : GoodIn wsX5_bestFor wsX5_rank := goodIn_r _ [9, 10, 11, 12, 2, 13, 14, 15, 8, 16, 17, 18, 19, 4, 3, 20, 1, 21, 22, 23, 24, 25, 26, 27, 28, 29, 30, 31, 32, 33, 34, 35, 36, 37, 38, 39, 40, 41, 42, 43, 44, 45, 46, 47, 48, 49, 50, 51, 52, 53, 54, 55, 56, 57, 58, 59, 60, 61, 62, 63, 64, 65, 66, 67, 68, 69, 70, 71, 72, 73, 74, 75, 76, 77, 78, 79, 80, 81, 82, 83, 84, 85, 86, 87, 88, 89, 90, 91, 92, 93, 94, 95, 96, 97, 98, 99, 100, 101, 102, 103, 104, 105, 106, 107, 108, 109, 110, 111, 112, 113, 114, 115, 116, 117, 118, 119, 120, 121, 122, 123, 124, 125, 126, 127, 128, 129, 130, 131, 132, 133, 134, 135, 136, 137, 138, 139, 140, 141, 142, 143, 144, 145, 146, 147, 148, 149, 150, 151, 152, 153, 154, 155, 156, 157, 158, 159, 160, 161, 162, 163, 164, 165, 166, 167, 168, 169, 170, 171, 172, 173, 174, 175, 176, 177] (by decide +kernel) (by decide +kernel)
set_option maxRecDepth 20000 in
theorem gX5_bestFor_X5_rank : GoodIn wsX5_bestFor (wsV RX5 63 RX5 yX5_rank wsX5_rank) := goodIn_app (goodIn_of _ (by decide +kernel)) ggX5_bestFor_X5_rank
set_option maxRecDepth 20000 in
theorem ggX5_bestFor_X5_isPlace : GoodIn wsX5_bestFor wsX5_isPlace := goodIn_r _ [55, 1, 133, 134, 135, 136, 137, 138, 139, 140, 141, 142, 143, 144, 145] (by decide +kernel) (by decide +kernel)
set_option maxRecDepth 20000 in
theorem gX5_bestFor_X5_isPlace : GoodIn wsX5_bestFor (wsV RX5 66 RX5 yX5_isPlace wsX5_isPlace) := goodIn_app (goodIn_of _ (by decide +kernel)) ggX5_bestFor_X5_isPlace
set_option maxRecDepth 20000 in
theorem ggX9_best_X5_bestFor : GoodIn wsX9_best wsX5_bestFor := goodIn_r _ [6, 7, 8, 9, 10, 11, 12, 13, 5, 14, 15, 16, 17, 18, 19, 20, 21, 22, 23, 24, 25, 26, 27, 28, 29, 30, 31, 32, 33, 34, 35, 36, 37, 38, 39, 40, 41, 42, 43, 44, 45, 46, 47, 48, 49, 50, 51, 52, 53, 54, 55, 56, 57, 58, 59, 60, 61, 62, 63, 64, 65, 66, 67, 68, 69, 70, 71, 72, 73, 74, 75, 76, 77, 78, 79, 80, 81, 82, 83, 84, 85, 86, 87, 88, 89, 90, 91, 92, 93, 94, 95, 96, 97, 98, 99, 100, 101, 102, 103, 104, 105, 106, 107, 108, 109, 110, 111, 112, 113, 114, 115, 116, 117, 118, 119, 120, 121, 122, 123, 124, 125, 126, 127, 128, 129, 130, 131, 132, 133, 134, 135, 136, 137, 146, 147, 148, 149, 150, 151, 152, 153, 154, 155, 156, 157, 158, 159, 160, 161, 162, 163, 164, 165, 166, 167, 168, 169, 170, 171, 172, 173, 174, 175, 176, 177, 178, 179, 180, 181, 182, 183, 184, 185, 186, 187, 188, 189, 190] (by decide +kernel) (by decide +kernel)
set_option maxRecDepth 20000 in
theorem gX9_best_X5_bestFor : GoodIn wsX9_best (wsV RX9 170 RX5 yX5_bestFor wsX5_bestFor) := goodIn_app (goodIn_of _ (by decide +kernel)) ggX9_best_X5_bestFor
set_option maxRecDepth 20000 in
theorem ggX5_choiceAt_X5_rank : GoodIn wsX5_choiceAt wsX5_rank := goodIn_r _ [7, 8, 9, 10, 1, 11, 12, 13, 6, 14, 15, 16, 17, 2, 18, 19, 20, 21, 22, 23, 24, 25, 26, 27, 28, 29, 30, 31, 32, 33, 34, 35, 36, 37, 38, 39, 40, 41, 42, 43, 44, 45, 46, 47, 48, 49, 50, 51, 52, 53, 54, 55, 56, 57, 58, 59, 60, 61, 62, 63, 64, 65, 66, 67, 68, 69, 70, 71, 72, 73, 74, 75, 76, 77, 78, 79, 80, 81, 82, 83, 84, 85, 86, 87, 88, 89, 90, 91, 92, 93, 94, 95, 96, 97, 98, 99, 100, 101, 102, 103, 104, 105, 106, 107, 108, 109, 110, 111, 112, 113, 114, 115, 116, 117, 118, 119, 120, 121, 122, 123, 124, 125, 126, 127, 128, 129, 130, 131, 132, 133, 134, 135, 136, 137, 138, 139, 140, 141, 142, 143, 144, 145, 146, 147, 148, 149, 150, 151, 152, 153, 154, 155, 156, 157, 158, 159, 160, 161, 162, 163, 164, 165, 166, 167, 168, 169, 170, 171, 172, 173, 174, 175, 176, 177] (by decide +kernel) (by decide +kernel)
set_option maxRecDepth 20000 in
theorem gX5_choiceAt_X5_rank : GoodIn wsX5_choiceAt (wsV RX5 63 RX5 yX5_rank wsX5_rank) := goodIn_app (goodIn_of _ (by decide +kernel)) ggX5_choiceAt_X5_rank
set_option maxRecDepth 20000 in
theorem ggX5_choiceAt_X5_isPlace : GoodIn wsX5_choiceAt wsX5_isPlace := goodIn_r _ [55, 20, 133, 134, 135, 136, 137, 138, 139, 140, 141, 142, 143, 144, 145] (by decide +kernel) (by decide +kernel)
set_option maxRecDepth 20000 in
theorem gX5_choiceAt_X5_isPlace : GoodIn wsX5_choiceAt (wsV RX5 66 RX5 yX5_isPlace wsX5_isPlace) := goodIn_app (goodIn_of _ (by decide +kernel)) ggX5_choiceAt_X5_isPlace
set_option maxRecDepth 20000 in
theorem ggX9_ranked_X5_choiceAt : GoodIn wsX9_ranked wsX5_choiceAt := goodIn_r _ [6, 7, 8, 9, 10, 11, 5, 12, 13, 14, 15, 16, 17, 18, 19, 20, 21, 22, 23, 24, 25, 26, 27, 28, 29, 30, 31, 32, 33, 34, 35, 36, 37, 38, 39, 40, 41, 42, 43, 44, 45, 46, 47, 48, 49, 50, 51, 52, 53, 54, 55, 56, 57, 58, 59, 60, 61, 62, 63, 64, 65, 66, 67, 68, 69, 70, 71, 72, 73, 74, 75, 76, 77, 78, 79, 80, 81, 82, 83, 84, 85, 86, 87, 88, 89, 90, 91, 92, 93, 94, 95, 96, 97, 98, 99, 100, 101, 102, 103, 104, 105, 106, 107, 108, 109, 110, 111, 112, 113, 114, 115, 116, 117, 118, 119, 120, 121, 122, 123, 124, 125, 126, 127, 128, 129, 130, 131, 132, 133, 134, 135, 136, 137, 146, 147, 148, 149, 150, 151, 152, 153, 154, 155, 156, 157, 158, 159, 160, 161, 162, 163, 164, 165, 166, 167, 168, 169, 170, 171, 172, 173, 174, 175, 176, 177, 178, 179, 180, 181, 182, 183, 184, 185, 186, 187, 188, 189, 190] (by decide +kernel) (by decide +kernel)
set_option maxRecDepth 20000 in
theorem gX9_ranked_X5_choiceAt : GoodIn wsX9_ranked (wsV RX9 173 RX5 yX5_choiceAt wsX5_choiceAt) := goodIn_app (goodIn_of _ (by decide +kernel)) ggX9_ranked_X5_choiceAt
set_option maxRecDepth 20000 in
theorem ggX5_leastFor_X5_make : GoodIn wsX5_leastFor wsX5_make := goodIn_r _ [9, 10, 11, 12, 13, 4, 3, 1, 14, 15, 16, 17, 18, 19, 20, 21, 2, 22, 23, 24, 25, 8, 26, 27, 28, 29, 30, 31, 32, 33, 34, 35, 36, 37, 38, 39, 40, 41, 42, 43, 44, 45, 46, 47, 48, 49, 50, 51, 52, 53, 54, 55, 56, 57, 58, 59, 60, 61, 62, 63, 64, 65, 66, 67, 68, 69, 70, 71, 72, 73, 74, 75, 76, 77, 78, 79, 80, 81, 82, 83, 84, 85, 86, 87, 88, 89, 90, 91, 92, 93, 94, 95, 96, 97, 98, 99, 100, 101, 102, 103, 104, 105, 106, 107, 108, 109, 110, 111, 112, 113, 114, 115, 116, 117, 118, 119, 120, 121, 122, 123, 124, 125, 126, 127, 128, 129, 130, 131, 132, 133, 134, 135, 136, 137, 138, 139, 140, 141, 142, 143, 144, 145, 146, 147, 148, 149, 150, 151, 152, 153, 154, 155, 156, 157, 158, 159, 160, 161, 162, 163, 164, 165, 166, 167, 168, 169, 170, 171, 172, 173] (by decide +kernel) (by decide +kernel)
set_option maxRecDepth 20000 in
theorem gX5_leastFor_X5_make : GoodIn wsX5_leastFor (wsV RX5 60 RX5 yX5_make wsX5_make) := goodIn_app (goodIn_of _ (by decide +kernel)) ggX5_leastFor_X5_make
set_option maxRecDepth 20000 in
theorem ggX5_leastFor_X5_isPlace : GoodIn wsX5_leastFor wsX5_isPlace := goodIn_r _ [51, 1, 129, 130, 131, 132, 133, 134, 135, 136, 137, 138, 139, 140, 141] (by decide +kernel) (by decide +kernel)
set_option maxRecDepth 20000 in
theorem gX5_leastFor_X5_isPlace : GoodIn wsX5_leastFor (wsV RX5 66 RX5 yX5_isPlace wsX5_isPlace) := goodIn_app (goodIn_of _ (by decide +kernel)) ggX5_leastFor_X5_isPlace
set_option maxRecDepth 20000 in
theorem ggX9_least_X5_leastFor : GoodIn wsX9_least wsX5_leastFor := goodIn_r _ [6, 7, 8, 9, 10, 11, 12, 13, 5, 14, 15, 16, 17, 18, 19, 20, 21, 22, 23, 24, 25, 26, 27, 28, 29, 30, 31, 32, 33, 34, 35, 36, 37, 38, 39, 40, 41, 42, 43, 44, 45, 46, 47, 48, 49, 50, 51, 52, 53, 54, 55, 56, 57, 58, 59, 60, 61, 62, 63, 64, 65, 66, 67, 68, 69, 70, 71, 72, 73, 74, 75, 76, 77, 78, 79, 80, 81, 82, 83, 84, 85, 86, 87, 88, 89, 90, 91, 92, 93, 94, 95, 96, 97, 98, 99, 100, 101, 102, 103, 104, 105, 106, 107, 108, 109, 110, 111, 112, 113, 114, 115, 116, 117, 118, 119, 120, 121, 122, 123, 124, 125, 126, 127, 128, 129, 130, 131, 132, 133, 142, 143, 144, 145, 146, 147, 148, 149, 150, 151, 152, 153, 154, 155, 156, 157, 158, 159, 160, 161, 162, 163, 164, 165, 166, 167, 168, 169, 170, 171, 172, 173, 174, 175, 176, 177, 178, 179, 180, 181, 182, 183, 184, 185, 186] (by decide +kernel) (by decide +kernel)
set_option maxRecDepth 20000 in
theorem gX9_least_X5_leastFor : GoodIn wsX9_least (wsV RX9 176 RX5 yX5_leastFor wsX5_leastFor) := goodIn_app (goodIn_of _ (by decide +kernel)) ggX9_least_X5_leastFor
set_option maxRecDepth 20000 in
theorem ggX9_turned_X8_isSound : GoodIn wsX9_turned wsX8_isSound := goodIn_r _ [8, 9, 10, 11, 12, 13, 14, 15, 16, 17, 7, 18, 19, 20, 21, 22, 23, 24, 25, 26, 27, 163, 164, 165, 166, 167, 168, 169, 170, 171, 172, 173, 174, 175, 176, 177, 178, 179, 180, 181, 182, 183, 184, 185] (by decide +kernel) (by decide +kernel)
set_option maxRecDepth 20000 in
theorem gX9_turned_X8_isSound : GoodIn wsX9_turned (wsV RX9 149 RX8 yX8_isSound wsX8_isSound) := goodIn_app (goodIn_of _ (by decide +kernel)) ggX9_turned_X8_isSound
set_option maxRecDepth 20000 in
theorem ggX5_howMany_X5_make : GoodIn wsX5_howMany wsX5_make := goodIn_r _ [6, 7, 8, 9, 10, 11, 12, 1, 13, 14, 15, 16, 17, 18, 19, 20, 21, 22, 23, 24, 25, 5, 26, 27, 28, 29, 30, 31, 32, 33, 34, 35, 36, 37, 38, 39, 40, 41, 42, 43, 44, 45, 46, 47, 48, 49, 50, 51, 52, 53, 54, 55, 56, 57, 58, 59, 60, 61, 62, 63, 64, 65, 66, 67, 68, 69, 70, 71, 72, 73, 74, 75, 76, 77, 78, 79, 80, 81, 82, 83, 84, 85, 86, 87, 88, 89, 90, 91, 92, 93, 94, 95, 96, 97, 98, 99, 100, 101, 102, 103, 104, 105, 106, 107, 108, 109, 110, 111, 112, 113, 114, 115, 116, 117, 118, 119, 120, 121, 122, 123, 124, 125, 126, 127, 128, 129, 130, 131, 132, 133, 134, 135, 136, 137, 138, 139, 140, 141, 142, 143, 144, 145, 146, 147, 148, 149, 150, 151, 152, 153, 154, 155, 156, 157, 158, 159, 160, 161, 162, 163, 164, 165, 166, 167, 168, 169, 170, 171, 172, 173] (by decide +kernel) (by decide +kernel)
set_option maxRecDepth 20000 in
theorem gX5_howMany_X5_make : GoodIn wsX5_howMany (wsV RX5 60 RX5 yX5_make wsX5_make) := goodIn_app (goodIn_of _ (by decide +kernel)) ggX5_howMany_X5_make
set_option maxRecDepth 20000 in
theorem ggX9_count_X5_howMany : GoodIn wsX9_count wsX5_howMany := goodIn_r _ [15, 16, 17, 18, 19, 14, 20, 21, 22, 23, 24, 25, 26, 27, 28, 29, 30, 31, 32, 33, 34, 35, 36, 37, 38, 39, 40, 41, 42, 43, 44, 45, 46, 47, 48, 49, 50, 51, 52, 53, 54, 55, 56, 57, 58, 59, 60, 61, 62, 63, 64, 65, 66, 67, 68, 69, 70, 71, 72, 73, 74, 75, 76, 77, 78, 79, 80, 81, 82, 83, 84, 85, 86, 87, 88, 89, 90, 91, 92, 93, 94, 95, 96, 97, 98, 99, 100, 101, 102, 103, 104, 105, 106, 107, 108, 109, 110, 111, 112, 113, 114, 115, 116, 117, 118, 119, 120, 121, 122, 123, 124, 125, 126, 127, 128, 129, 130, 131, 132, 133, 134, 135, 136, 137, 138, 139, 140, 141, 142, 176, 177, 178, 179, 180, 181, 182, 183, 184, 185, 186, 187, 188, 157, 158, 159, 160, 161, 162, 163, 164, 165, 166, 167, 168, 169, 170, 171, 172, 189, 190, 191, 192, 193, 194, 195, 196, 197, 198, 199, 200, 201, 173, 174, 175] (by decide +kernel) (by decide +kernel)
set_option maxRecDepth 20000 in
theorem gX9_count_X5_howMany : GoodIn wsX9_count (wsV RX9 193 RX5 yX5_howMany wsX5_howMany) := goodIn_app (goodIn_of _ (by decide +kernel)) ggX9_count_X5_howMany
set_option maxRecDepth 20000 in
theorem ggX9_count_X3_signsOf : GoodIn wsX9_count wsX3_signsOf := goodIn_r _ [146, 71, 147, 73, 74, 148, 67, 68, 69, 70, 72, 75, 76, 77, 78, 79, 80, 81, 82, 83, 84, 85, 86, 87, 88, 89, 90, 91, 92, 93, 94, 95, 96, 97, 98, 196, 197, 198, 199, 200, 201, 157, 158, 159, 160, 161, 162, 163, 164, 165, 166, 167, 168, 169, 170, 171, 172, 189, 190, 191, 192, 193, 194, 195] (by decide +kernel) (by decide +kernel)
set_option maxRecDepth 20000 in
theorem gX9_count_X3_signsOf : GoodIn wsX9_count (wsV RX9 152 RX3 yX3_signsOf wsX3_signsOf) := goodIn_app (goodIn_of _ (by decide +kernel)) ggX9_count_X3_signsOf
