theorem dX7_beginPart_0 : decode cX7_beginPart 0 = .ok (.aload_n 0, 1) := by decide +kernel
theorem dX7_beginPart_1 : decode cX7_beginPart 1 = .ok (.getfield 27, 3) := by decide +kernel
theorem dX7_beginPart_12 : decode cX7_beginPart 12 = .ok (.ifCond .ne 5, 3) := by decide +kernel
theorem dX7_beginPart_15 : decode cX7_beginPart 15 = .ok (.iconst 0, 1) := by decide +kernel
theorem dX7_beginPart_16 : decode cX7_beginPart 16 = .ok (.ireturn, 1) := by decide +kernel
theorem dX7_beginPart_17 : decode cX7_beginPart 17 = .ok (.aload_n 0, 1) := by decide +kernel
theorem dX7_beginPart_18 : decode cX7_beginPart 18 = .ok (.getfield 45, 3) := by decide +kernel
theorem dX7_beginPart_21 : decode cX7_beginPart 21 = .ok (.getfield 89, 3) := by decide +kernel
theorem dX7_beginPart_24 : decode cX7_beginPart 24 = .ok (.ifCond .eq 5, 3) := by decide +kernel
theorem dX7_beginPart_27 : decode cX7_beginPart 27 = .ok (.iconst 1, 1) := by decide +kernel
theorem dX7_beginPart_28 : decode cX7_beginPart 28 = .ok (.ireturn, 1) := by decide +kernel
theorem dX7_beginPart_29 : decode cX7_beginPart 29 = .ok (.aload_n 0, 1) := by decide +kernel
theorem dX7_beginPart_30 : decode cX7_beginPart 30 = .ok (.getfield 45, 3) := by decide +kernel
theorem dX7_beginPart_33 : decode cX7_beginPart 33 = .ok (.iconst 1, 1) := by decide +kernel
theorem dX7_beginPart_34 : decode cX7_beginPart 34 = .ok (.putfield 89, 3) := by decide +kernel
theorem dX7_beginPart_37 : decode cX7_beginPart 37 = .ok (.aload_n 0, 1) := by decide +kernel
theorem dX7_beginPart_38 : decode cX7_beginPart 38 = .ok (.getfield 45, 3) := by decide +kernel
theorem dX7_beginPart_4 : decode cX7_beginPart 4 = .ok (.iconst (-1), 1) := by decide +kernel
theorem dX7_beginPart_41 : decode cX7_beginPart 41 = .ok (.getfield 86, 3) := by decide +kernel
theorem dX7_beginPart_44 : decode cX7_beginPart 44 = .ok (.iconst 2, 1) := by decide +kernel
theorem dX7_beginPart_45 : decode cX7_beginPart 45 = .ok (.if_icmp .ne 10, 3) := by decide +kernel
theorem dX7_beginPart_48 : decode cX7_beginPart 48 = .ok (.aload_n 0, 1) := by decide +kernel
theorem dX7_beginPart_49 : decode cX7_beginPart 49 = .ok (.invokevirtual 116, 3) := by decide +kernel
theorem dX7_beginPart_5 : decode cX7_beginPart 5 = .ok (.if_icmp .ne 12, 3) := by decide +kernel
theorem dX7_beginPart_52 : decode cX7_beginPart 52 = .ok (.ifCond .eq 7, 3) := by decide +kernel
theorem dX7_beginPart_55 : decode cX7_beginPart 55 = .ok (.iconst 1, 1) := by decide +kernel
theorem dX7_beginPart_56 : decode cX7_beginPart 56 = .ok (.goto 4, 3) := by decide +kernel
theorem dX7_beginPart_59 : decode cX7_beginPart 59 = .ok (.iconst 0, 1) := by decide +kernel
theorem dX7_beginPart_60 : decode cX7_beginPart 60 = .ok (.ireturn, 1) := by decide +kernel
theorem dX7_beginPart_8 : decode cX7_beginPart 8 = .ok (.aload_n 0, 1) := by decide +kernel
theorem dX7_beginPart_9 : decode cX7_beginPart 9 = .ok (.invokevirtual 113, 3) := by decide +kernel
theorem dX7_isDigit_0 : decode cX7_isDigit 0 = .ok (.iload_n 0, 1) := by decide +kernel
theorem dX7_isDigit_1 : decode cX7_isDigit 1 = .ok (.bipush 48, 2) := by decide +kernel
theorem dX7_isDigit_12 : decode cX7_isDigit 12 = .ok (.iconst 1, 1) := by decide +kernel
theorem dX7_isDigit_13 : decode cX7_isDigit 13 = .ok (.goto 4, 3) := by decide +kernel
theorem dX7_isDigit_16 : decode cX7_isDigit 16 = .ok (.iconst 0, 1) := by decide +kernel
theorem dX7_isDigit_17 : decode cX7_isDigit 17 = .ok (.ireturn, 1) := by decide +kernel
theorem dX7_isDigit_3 : decode cX7_isDigit 3 = .ok (.if_icmp .lt 13, 3) := by decide +kernel
theorem dX7_isDigit_6 : decode cX7_isDigit 6 = .ok (.iload_n 0, 1) := by decide +kernel
theorem dX7_isDigit_7 : decode cX7_isDigit 7 = .ok (.bipush 57, 2) := by decide +kernel
theorem dX7_isDigit_9 : decode cX7_isDigit 9 = .ok (.if_icmp .gt 7, 3) := by decide +kernel
theorem dX7_isOfWord_0 : decode cX7_isOfWord 0 = .ok (.iload_n 0, 1) := by decide +kernel
theorem dX7_isOfWord_1 : decode cX7_isOfWord 1 = .ok (.lookupswitch 101 #[(40, 99), (41, 99), (42, 99), (46, 99), (60, 99), (61, 99), (62, 99), (123, 99), (124, 99), (125, 99), (126, 99)], 99) := by decide +kernel
theorem dX7_isOfWord_100 : decode cX7_isOfWord 100 = .ok (.iconst 0, 1) := by decide +kernel
theorem dX7_isOfWord_101 : decode cX7_isOfWord 101 = .ok (.ireturn, 1) := by decide +kernel
theorem dX7_isOfWord_102 : decode cX7_isOfWord 102 = .ok (.iload_n 0, 1) := by decide +kernel
theorem dX7_isOfWord_103 : decode cX7_isOfWord 103 = .ok (.bipush 33, 2) := by decide +kernel
theorem dX7_isOfWord_105 : decode cX7_isOfWord 105 = .ok (.if_icmp .lt 13, 3) := by decide +kernel
theorem dX7_isOfWord_108 : decode cX7_isOfWord 108 = .ok (.iload_n 0, 1) := by decide +kernel
theorem dX7_isOfWord_109 : decode cX7_isOfWord 109 = .ok (.bipush 126, 2) := by decide +kernel
theorem dX7_isOfWord_111 : decode cX7_isOfWord 111 = .ok (.if_icmp .gt 7, 3) := by decide +kernel
theorem dX7_isOfWord_114 : decode cX7_isOfWord 114 = .ok (.iconst 1, 1) := by decide +kernel
theorem dX7_isOfWord_115 : decode cX7_isOfWord 115 = .ok (.goto 4, 3) := by decide +kernel
theorem dX7_isOfWord_118 : decode cX7_isOfWord 118 = .ok (.iconst 0, 1) := by decide +kernel
theorem dX7_isOfWord_119 : decode cX7_isOfWord 119 = .ok (.ireturn, 1) := by decide +kernel
theorem dX7_mayBeginPart_0 : decode cX7_mayBeginPart 0 = .ok (.iload_n 0, 1) := by decide +kernel
theorem dX7_mayBeginPart_1 : decode cX7_mayBeginPart 1 = .ok (.bipush 40, 2) := by decide +kernel
theorem dX7_mayBeginPart_12 : decode cX7_mayBeginPart 12 = .ok (.iload_n 0, 1) := by decide +kernel
theorem dX7_mayBeginPart_13 : decode cX7_mayBeginPart 13 = .ok (.bipush 60, 2) := by decide +kernel
theorem dX7_mayBeginPart_15 : decode cX7_mayBeginPart 15 = .ok (.if_icmp .eq 22, 3) := by decide +kernel
theorem dX7_mayBeginPart_18 : decode cX7_mayBeginPart 18 = .ok (.iload_n 0, 1) := by decide +kernel
theorem dX7_mayBeginPart_19 : decode cX7_mayBeginPart 19 = .ok (.bipush 42, 2) := by decide +kernel
theorem dX7_mayBeginPart_21 : decode cX7_mayBeginPart 21 = .ok (.if_icmp .eq 16, 3) := by decide +kernel
theorem dX7_mayBeginPart_24 : decode cX7_mayBeginPart 24 = .ok (.iload_n 0, 1) := by decide +kernel
theorem dX7_mayBeginPart_25 : decode cX7_mayBeginPart 25 = .ok (.bipush 126, 2) := by decide +kernel
theorem dX7_mayBeginPart_27 : decode cX7_mayBeginPart 27 = .ok (.if_icmp .eq 10, 3) := by decide +kernel
theorem dX7_mayBeginPart_3 : decode cX7_mayBeginPart 3 = .ok (.if_icmp .eq 34, 3) := by decide +kernel
theorem dX7_mayBeginPart_30 : decode cX7_mayBeginPart 30 = .ok (.iload_n 0, 1) := by decide +kernel
theorem dX7_mayBeginPart_31 : decode cX7_mayBeginPart 31 = .ok (.invokestatic 100, 3) := by decide +kernel
theorem dX7_mayBeginPart_34 : decode cX7_mayBeginPart 34 = .ok (.ifCond .eq 7, 3) := by decide +kernel
theorem dX7_mayBeginPart_37 : decode cX7_mayBeginPart 37 = .ok (.iconst 1, 1) := by decide +kernel
theorem dX7_mayBeginPart_38 : decode cX7_mayBeginPart 38 = .ok (.goto 4, 3) := by decide +kernel
theorem dX7_mayBeginPart_41 : decode cX7_mayBeginPart 41 = .ok (.iconst 0, 1) := by decide +kernel
theorem dX7_mayBeginPart_42 : decode cX7_mayBeginPart 42 = .ok (.ireturn, 1) := by decide +kernel
theorem dX7_mayBeginPart_6 : decode cX7_mayBeginPart 6 = .ok (.iload_n 0, 1) := by decide +kernel
theorem dX7_mayBeginPart_7 : decode cX7_mayBeginPart 7 = .ok (.bipush 123, 2) := by decide +kernel
theorem dX7_mayBeginPart_9 : decode cX7_mayBeginPart 9 = .ok (.if_icmp .eq 28, 3) := by decide +kernel
theorem dX7_mayEnd_0 : decode cX7_mayEnd 0 = .ok (.aload_n 0, 1) := by decide +kernel
theorem dX7_mayEnd_1 : decode cX7_mayEnd 1 = .ok (.getfield 86, 3) := by decide +kernel
theorem dX7_mayEnd_32 : decode cX7_mayEnd 32 = .ok (.iload_n 1, 1) := by decide +kernel
theorem dX7_mayEnd_33 : decode cX7_mayEnd 33 = .ok (.bipush 41, 2) := by decide +kernel
theorem dX7_mayEnd_35 : decode cX7_mayEnd 35 = .ok (.if_icmp .ne 7, 3) := by decide +kernel
theorem dX7_mayEnd_38 : decode cX7_mayEnd 38 = .ok (.iconst 1, 1) := by decide +kernel
theorem dX7_mayEnd_39 : decode cX7_mayEnd 39 = .ok (.goto 4, 3) := by decide +kernel
theorem dX7_mayEnd_4 : decode cX7_mayEnd 4 = .ok (.lookupswitch 66 #[(1, 28), (2, 40)], 28) := by decide +kernel
theorem dX7_mayEnd_42 : decode cX7_mayEnd 42 = .ok (.iconst 0, 1) := by decide +kernel
theorem dX7_mayEnd_43 : decode cX7_mayEnd 43 = .ok (.ireturn, 1) := by decide +kernel
theorem dX7_mayEnd_44 : decode cX7_mayEnd 44 = .ok (.iload_n 1, 1) := by decide +kernel
theorem dX7_mayEnd_45 : decode cX7_mayEnd 45 = .ok (.bipush 124, 2) := by decide +kernel
theorem dX7_mayEnd_47 : decode cX7_mayEnd 47 = .ok (.if_icmp .eq 17, 3) := by decide +kernel
theorem dX7_mayEnd_50 : decode cX7_mayEnd 50 = .ok (.iload_n 1, 1) := by decide +kernel
theorem dX7_mayEnd_51 : decode cX7_mayEnd 51 = .ok (.bipush 125, 2) := by decide +kernel
theorem dX7_mayEnd_53 : decode cX7_mayEnd 53 = .ok (.if_icmp .ne 15, 3) := by decide +kernel
theorem dX7_mayEnd_56 : decode cX7_mayEnd 56 = .ok (.aload_n 0, 1) := by decide +kernel
theorem dX7_mayEnd_57 : decode cX7_mayEnd 57 = .ok (.getfield 97, 3) := by decide +kernel
theorem dX7_mayEnd_60 : decode cX7_mayEnd 60 = .ok (.iconst 1, 1) := by decide +kernel
theorem dX7_mayEnd_61 : decode cX7_mayEnd 61 = .ok (.if_icmp .le 7, 3) := by decide +kernel
theorem dX7_mayEnd_64 : decode cX7_mayEnd 64 = .ok (.iconst 1, 1) := by decide +kernel
theorem dX7_mayEnd_65 : decode cX7_mayEnd 65 = .ok (.goto 4, 3) := by decide +kernel
theorem dX7_mayEnd_68 : decode cX7_mayEnd 68 = .ok (.iconst 0, 1) := by decide +kernel
theorem dX7_mayEnd_69 : decode cX7_mayEnd 69 = .ok (.ireturn, 1) := by decide +kernel
theorem dX7_mayEnd_70 : decode cX7_mayEnd 70 = .ok (.iload_n 1, 1) := by decide +kernel
theorem dX7_mayEnd_71 : decode cX7_mayEnd 71 = .ok (.bipush 46, 2) := by decide +kernel
theorem dX7_mayEnd_73 : decode cX7_mayEnd 73 = .ok (.if_icmp .ne 7, 3) := by decide +kernel
theorem dX7_mayEnd_76 : decode cX7_mayEnd 76 = .ok (.iconst 1, 1) := by decide +kernel
theorem dX7_mayEnd_77 : decode cX7_mayEnd 77 = .ok (.goto 4, 3) := by decide +kernel
theorem dX7_mayEnd_80 : decode cX7_mayEnd 80 = .ok (.iconst 0, 1) := by decide +kernel
theorem dX7_mayEnd_81 : decode cX7_mayEnd 81 = .ok (.ireturn, 1) := by decide +kernel
theorem dX7_mayStand_0 : decode cX7_mayStand 0 = .ok (.aload_n 0, 1) := by decide +kernel
theorem dX7_mayStand_1 : decode cX7_mayStand 1 = .ok (.getfield 27, 3) := by decide +kernel
theorem dX7_mayStand_11 : decode cX7_mayStand 11 = .ok (.if_icmp .eq 10, 3) := by decide +kernel
theorem dX7_mayStand_14 : decode cX7_mayStand 14 = .ok (.iload_n 1, 1) := by decide +kernel
theorem dX7_mayStand_15 : decode cX7_mayStand 15 = .ok (.invokestatic 73, 3) := by decide +kernel
theorem dX7_mayStand_18 : decode cX7_mayStand 18 = .ok (.ifCond .eq 7, 3) := by decide +kernel
theorem dX7_mayStand_21 : decode cX7_mayStand 21 = .ok (.iconst 1, 1) := by decide +kernel
theorem dX7_mayStand_22 : decode cX7_mayStand 22 = .ok (.goto 4, 3) := by decide +kernel
theorem dX7_mayStand_25 : decode cX7_mayStand 25 = .ok (.iconst 0, 1) := by decide +kernel
theorem dX7_mayStand_26 : decode cX7_mayStand 26 = .ok (.ireturn, 1) := by decide +kernel
theorem dX7_mayStand_27 : decode cX7_mayStand 27 = .ok (.iload_n 1, 1) := by decide +kernel
theorem dX7_mayStand_28 : decode cX7_mayStand 28 = .ok (.invokestatic 73, 3) := by decide +kernel
theorem dX7_mayStand_31 : decode cX7_mayStand 31 = .ok (.ifCond .eq 38, 3) := by decide +kernel
theorem dX7_mayStand_34 : decode cX7_mayStand 34 = .ok (.aload_n 0, 1) := by decide +kernel
theorem dX7_mayStand_35 : decode cX7_mayStand 35 = .ok (.getfield 45, 3) := by decide +kernel
theorem dX7_mayStand_38 : decode cX7_mayStand 38 = .ok (.getfield 86, 3) := by decide +kernel
theorem dX7_mayStand_4 : decode cX7_mayStand 4 = .ok (.iconst (-1), 1) := by decide +kernel
theorem dX7_mayStand_41 : decode cX7_mayStand 41 = .ok (.iconst 3, 1) := by decide +kernel
theorem dX7_mayStand_42 : decode cX7_mayStand 42 = .ok (.if_icmp .ne 21, 3) := by decide +kernel
theorem dX7_mayStand_45 : decode cX7_mayStand 45 = .ok (.iload_n 1, 1) := by decide +kernel
theorem dX7_mayStand_46 : decode cX7_mayStand 46 = .ok (.bipush 40, 2) := by decide +kernel
theorem dX7_mayStand_48 : decode cX7_mayStand 48 = .ok (.if_icmp .eq 19, 3) := by decide +kernel
theorem dX7_mayStand_5 : decode cX7_mayStand 5 = .ok (.if_icmp .ne 22, 3) := by decide +kernel
theorem dX7_mayStand_51 : decode cX7_mayStand 51 = .ok (.iload_n 1, 1) := by decide +kernel
theorem dX7_mayStand_52 : decode cX7_mayStand 52 = .ok (.bipush 123, 2) := by decide +kernel
theorem dX7_mayStand_54 : decode cX7_mayStand 54 = .ok (.if_icmp .eq 13, 3) := by decide +kernel
theorem dX7_mayStand_57 : decode cX7_mayStand 57 = .ok (.iload_n 1, 1) := by decide +kernel
theorem dX7_mayStand_58 : decode cX7_mayStand 58 = .ok (.bipush 126, 2) := by decide +kernel
theorem dX7_mayStand_60 : decode cX7_mayStand 60 = .ok (.if_icmp .eq 7, 3) := by decide +kernel
theorem dX7_mayStand_63 : decode cX7_mayStand 63 = .ok (.iconst 1, 1) := by decide +kernel
theorem dX7_mayStand_64 : decode cX7_mayStand 64 = .ok (.goto 4, 3) := by decide +kernel
theorem dX7_mayStand_67 : decode cX7_mayStand 67 = .ok (.iconst 0, 1) := by decide +kernel
theorem dX7_mayStand_68 : decode cX7_mayStand 68 = .ok (.ireturn, 1) := by decide +kernel
theorem dX7_mayStand_69 : decode cX7_mayStand 69 = .ok (.aload_n 0, 1) := by decide +kernel
theorem dX7_mayStand_70 : decode cX7_mayStand 70 = .ok (.getfield 45, 3) := by decide +kernel
theorem dX7_mayStand_73 : decode cX7_mayStand 73 = .ok (.getfield 89, 3) := by decide +kernel
theorem dX7_mayStand_76 : decode cX7_mayStand 76 = .ok (.ifCond .eq 18, 3) := by decide +kernel
theorem dX7_mayStand_79 : decode cX7_mayStand 79 = .ok (.aload_n 0, 1) := by decide +kernel
theorem dX7_mayStand_8 : decode cX7_mayStand 8 = .ok (.iload_n 1, 1) := by decide +kernel
theorem dX7_mayStand_80 : decode cX7_mayStand 80 = .ok (.getfield 45, 3) := by decide +kernel
theorem dX7_mayStand_83 : decode cX7_mayStand 83 = .ok (.iload_n 1, 1) := by decide +kernel
theorem dX7_mayStand_84 : decode cX7_mayStand 84 = .ok (.invokestatic 93, 3) := by decide +kernel
theorem dX7_mayStand_87 : decode cX7_mayStand 87 = .ok (.ifCond .eq 7, 3) := by decide +kernel
theorem dX7_mayStand_9 : decode cX7_mayStand 9 = .ok (.bipush 61, 2) := by decide +kernel
theorem dX7_mayStand_90 : decode cX7_mayStand 90 = .ok (.iconst 1, 1) := by decide +kernel
theorem dX7_mayStand_91 : decode cX7_mayStand 91 = .ok (.goto 4, 3) := by decide +kernel
theorem dX7_mayStand_94 : decode cX7_mayStand 94 = .ok (.iconst 0, 1) := by decide +kernel
theorem dX7_mayStand_95 : decode cX7_mayStand 95 = .ok (.ireturn, 1) := by decide +kernel
theorem dX7_openHeading_0 : decode cX7_openHeading 0 = .ok (.aload_n 0, 1) := by decide +kernel
theorem dX7_openHeading_1 : decode cX7_openHeading 1 = .ok (.iconst 0, 1) := by decide +kernel
theorem dX7_openHeading_11 : decode cX7_openHeading 11 = .ok (.invokevirtual 107, 3) := by decide +kernel
theorem dX7_openHeading_14 : decode cX7_openHeading 14 = .ok (.invokevirtual 110, 3) := by decide +kernel
theorem dX7_openHeading_17 : decode cX7_openHeading 17 = .ok (.aload_n 0, 1) := by decide +kernel
theorem dX7_openHeading_18 : decode cX7_openHeading 18 = .ok (.dup, 1) := by decide +kernel
theorem dX7_openHeading_19 : decode cX7_openHeading 19 = .ok (.getfield 24, 3) := by decide +kernel
theorem dX7_openHeading_2 : decode cX7_openHeading 2 = .ok (.putfield 30, 3) := by decide +kernel
theorem dX7_openHeading_22 : decode cX7_openHeading 22 = .ok (.iconst 1, 1) := by decide +kernel
theorem dX7_openHeading_23 : decode cX7_openHeading 23 = .ok (.iadd, 1) := by decide +kernel
theorem dX7_openHeading_24 : decode cX7_openHeading 24 = .ok (.putfield 24, 3) := by decide +kernel
theorem dX7_openHeading_27 : decode cX7_openHeading 27 = .ok (.return_, 1) := by decide +kernel
theorem dX7_openHeading_5 : decode cX7_openHeading 5 = .ok (.aload_n 0, 1) := by decide +kernel
theorem dX7_openHeading_6 : decode cX7_openHeading 6 = .ok (.iconst 3, 1) := by decide +kernel
theorem dX7_openHeading_7 : decode cX7_openHeading 7 = .ok (.aload_n 0, 1) := by decide +kernel
theorem dX7_openHeading_8 : decode cX7_openHeading 8 = .ok (.getfield 36, 3) := by decide +kernel
theorem dX7_openItem_0 : decode cX7_openItem 0 = .ok (.aload_n 0, 1) := by decide +kernel
theorem dX7_openItem_1 : decode cX7_openItem 1 = .ok (.getfield 45, 3) := by decide +kernel
theorem dX7_openItem_12 : decode cX7_openItem 12 = .ok (.getfield 121, 3) := by decide +kernel
theorem dX7_openItem_15 : decode cX7_openItem 15 = .ok (.invokevirtual 124, 3) := by decide +kernel
theorem dX7_openItem_18 : decode cX7_openItem 18 = .ok (.putfield 126, 3) := by decide +kernel
theorem dX7_openItem_21 : decode cX7_openItem 21 = .ok (.aload_n 0, 1) := by decide +kernel
theorem dX7_openItem_22 : decode cX7_openItem 22 = .ok (.getfield 45, 3) := by decide +kernel
theorem dX7_openItem_25 : decode cX7_openItem 25 = .ok (.getfield 126, 3) := by decide +kernel
theorem dX7_openItem_28 : decode cX7_openItem 28 = .ok (.iconst (-1), 1) := by decide +kernel
theorem dX7_openItem_29 : decode cX7_openItem 29 = .ok (.if_icmp .ne 14, 3) := by decide +kernel
theorem dX7_openItem_32 : decode cX7_openItem 32 = .ok (.aload_n 0, 1) := by decide +kernel
theorem dX7_openItem_33 : decode cX7_openItem 33 = .ok (.iconst 2, 1) := by decide +kernel
theorem dX7_openItem_34 : decode cX7_openItem 34 = .ok (.aload_n 0, 1) := by decide +kernel
theorem dX7_openItem_35 : decode cX7_openItem 35 = .ok (.getfield 24, 3) := by decide +kernel
theorem dX7_openItem_38 : decode cX7_openItem 38 = .ok (.invokevirtual 62, 3) := by decide +kernel
theorem dX7_openItem_4 : decode cX7_openItem 4 = .ok (.aload_n 0, 1) := by decide +kernel
theorem dX7_openItem_41 : decode cX7_openItem 41 = .ok (.iconst 0, 1) := by decide +kernel
theorem dX7_openItem_42 : decode cX7_openItem 42 = .ok (.ireturn, 1) := by decide +kernel
theorem dX7_openItem_43 : decode cX7_openItem 43 = .ok (.aload_n 0, 1) := by decide +kernel
theorem dX7_openItem_44 : decode cX7_openItem 44 = .ok (.getfield 45, 3) := by decide +kernel
theorem dX7_openItem_47 : decode cX7_openItem 47 = .ok (.aload_n 0, 1) := by decide +kernel
theorem dX7_openItem_48 : decode cX7_openItem 48 = .ok (.getfield 24, 3) := by decide +kernel
theorem dX7_openItem_5 : decode cX7_openItem 5 = .ok (.getfield 36, 3) := by decide +kernel
theorem dX7_openItem_51 : decode cX7_openItem 51 = .ok (.putfield 129, 3) := by decide +kernel
theorem dX7_openItem_54 : decode cX7_openItem 54 = .ok (.aload_n 0, 1) := by decide +kernel
theorem dX7_openItem_55 : decode cX7_openItem 55 = .ok (.getfield 45, 3) := by decide +kernel
theorem dX7_openItem_58 : decode cX7_openItem 58 = .ok (.dup, 1) := by decide +kernel
theorem dX7_openItem_59 : decode cX7_openItem 59 = .ok (.getfield 97, 3) := by decide +kernel
theorem dX7_openItem_62 : decode cX7_openItem 62 = .ok (.iconst 1, 1) := by decide +kernel
theorem dX7_openItem_63 : decode cX7_openItem 63 = .ok (.iadd, 1) := by decide +kernel
theorem dX7_openItem_64 : decode cX7_openItem 64 = .ok (.putfield 97, 3) := by decide +kernel
theorem dX7_openItem_67 : decode cX7_openItem 67 = .ok (.iconst 1, 1) := by decide +kernel
theorem dX7_openItem_68 : decode cX7_openItem 68 = .ok (.ireturn, 1) := by decide +kernel
theorem dX7_openItem_8 : decode cX7_openItem 8 = .ok (.aload_n 0, 1) := by decide +kernel
theorem dX7_openItem_9 : decode cX7_openItem 9 = .ok (.getfield 45, 3) := by decide +kernel
theorem dX7_openSentence_0 : decode cX7_openSentence 0 = .ok (.aload_n 0, 1) := by decide +kernel
theorem dX7_openSentence_1 : decode cX7_openSentence 1 = .ok (.getfield 36, 3) := by decide +kernel
theorem dX7_openSentence_10 : decode cX7_openSentence 10 = .ok (.if_icmp .ne 14, 3) := by decide +kernel
theorem dX7_openSentence_13 : decode cX7_openSentence 13 = .ok (.aload_n 0, 1) := by decide +kernel
theorem dX7_openSentence_14 : decode cX7_openSentence 14 = .ok (.iconst 2, 1) := by decide +kernel
theorem dX7_openSentence_15 : decode cX7_openSentence 15 = .ok (.aload_n 0, 1) := by decide +kernel
theorem dX7_openSentence_16 : decode cX7_openSentence 16 = .ok (.getfield 24, 3) := by decide +kernel
theorem dX7_openSentence_19 : decode cX7_openSentence 19 = .ok (.invokevirtual 62, 3) := by decide +kernel
theorem dX7_openSentence_22 : decode cX7_openSentence 22 = .ok (.iconst 0, 1) := by decide +kernel
theorem dX7_openSentence_23 : decode cX7_openSentence 23 = .ok (.ireturn, 1) := by decide +kernel
theorem dX7_openSentence_24 : decode cX7_openSentence 24 = .ok (.aload_n 0, 1) := by decide +kernel
theorem dX7_openSentence_25 : decode cX7_openSentence 25 = .ok (.iconst 0, 1) := by decide +kernel
theorem dX7_openSentence_26 : decode cX7_openSentence 26 = .ok (.putfield 30, 3) := by decide +kernel
theorem dX7_openSentence_29 : decode cX7_openSentence 29 = .ok (.aload_n 0, 1) := by decide +kernel
theorem dX7_openSentence_30 : decode cX7_openSentence 30 = .ok (.iconst 0, 1) := by decide +kernel
theorem dX7_openSentence_31 : decode cX7_openSentence 31 = .ok (.iload_n 1, 1) := by decide +kernel
theorem dX7_openSentence_32 : decode cX7_openSentence 32 = .ok (.invokevirtual 110, 3) := by decide +kernel
theorem dX7_openSentence_35 : decode cX7_openSentence 35 = .ok (.iconst 1, 1) := by decide +kernel
theorem dX7_openSentence_36 : decode cX7_openSentence 36 = .ok (.ireturn, 1) := by decide +kernel
theorem dX7_openSentence_4 : decode cX7_openSentence 4 = .ok (.invokevirtual 119, 3) := by decide +kernel
theorem dX7_openSentence_7 : decode cX7_openSentence 7 = .ok (.istore_n 1, 1) := by decide +kernel
theorem dX7_openSentence_8 : decode cX7_openSentence 8 = .ok (.iload_n 1, 1) := by decide +kernel
theorem dX7_openSentence_9 : decode cX7_openSentence 9 = .ok (.iconst (-1), 1) := by decide +kernel
theorem dX7_open_0 : decode cX7_open 0 = .ok (.aload_n 0, 1) := by decide +kernel
theorem dX7_open_1 : decode cX7_open 1 = .ok (.getfield 27, 3) := by decide +kernel
theorem dX7_open_10 : decode cX7_open 10 = .ok (.arraylength, 1) := by decide +kernel
theorem dX7_open_11 : decode cX7_open 11 = .ok (.if_icmp .ge 39, 3) := by decide +kernel
theorem dX7_open_14 : decode cX7_open 14 = .ok (.aload_n 0, 1) := by decide +kernel
theorem dX7_open_15 : decode cX7_open 15 = .ok (.dup, 1) := by decide +kernel
theorem dX7_open_16 : decode cX7_open 16 = .ok (.getfield 27, 3) := by decide +kernel
theorem dX7_open_19 : decode cX7_open 19 = .ok (.iconst 1, 1) := by decide +kernel
theorem dX7_open_20 : decode cX7_open 20 = .ok (.iadd, 1) := by decide +kernel
theorem dX7_open_21 : decode cX7_open 21 = .ok (.putfield 27, 3) := by decide +kernel
theorem dX7_open_24 : decode cX7_open 24 = .ok (.aload_n 0, 1) := by decide +kernel
theorem dX7_open_25 : decode cX7_open 25 = .ok (.aload_n 0, 1) := by decide +kernel
theorem dX7_open_26 : decode cX7_open 26 = .ok (.getfield 11, 3) := by decide +kernel
theorem dX7_open_29 : decode cX7_open 29 = .ok (.aload_n 0, 1) := by decide +kernel
theorem dX7_open_30 : decode cX7_open 30 = .ok (.getfield 27, 3) := by decide +kernel
theorem dX7_open_33 : decode cX7_open 33 = .ok (.aaload, 1) := by decide +kernel
theorem dX7_open_34 : decode cX7_open 34 = .ok (.putfield 45, 3) := by decide +kernel
theorem dX7_open_37 : decode cX7_open 37 = .ok (.aload_n 0, 1) := by decide +kernel
theorem dX7_open_38 : decode cX7_open 38 = .ok (.getfield 45, 3) := by decide +kernel
theorem dX7_open_4 : decode cX7_open 4 = .ok (.iconst 1, 1) := by decide +kernel
theorem dX7_open_41 : decode cX7_open 41 = .ok (.iload_n 1, 1) := by decide +kernel
theorem dX7_open_42 : decode cX7_open 42 = .ok (.iload_n 2, 1) := by decide +kernel
theorem dX7_open_43 : decode cX7_open 43 = .ok (.aload_n 0, 1) := by decide +kernel
theorem dX7_open_44 : decode cX7_open 44 = .ok (.getfield 24, 3) := by decide +kernel
theorem dX7_open_47 : decode cX7_open 47 = .ok (.invokevirtual 103, 3) := by decide +kernel
theorem dX7_open_5 : decode cX7_open 5 = .ok (.iadd, 1) := by decide +kernel
theorem dX7_open_50 : decode cX7_open 50 = .ok (.return_, 1) := by decide +kernel
theorem dX7_open_6 : decode cX7_open 6 = .ok (.aload_n 0, 1) := by decide +kernel
theorem dX7_open_7 : decode cX7_open 7 = .ok (.getfield 11, 3) := by decide +kernel
set_option maxRecDepth 20000 in
theorem ggX7_mayBeginPart_X7_isOfWord : GoodIn wsX7_mayBeginPart wsX7_isOfWord := goodIn_r _ [4] rfl (by decide +kernel)
set_option maxRecDepth 20000 in
theorem gX7_mayBeginPart_X7_isOfWord : GoodIn wsX7_mayBeginPart (va_wsS RX7 100 yX7_isOfWord wsX7_isOfWord) := goodIn_app (goodIn_of _ (by decide +kernel)) ggX7_mayBeginPart_X7_isOfWord
set_option maxRecDepth 20000 in
theorem ggX7_mayStand_X7_mayBeginPart : GoodIn wsX7_mayStand wsX7_mayBeginPart := goodIn_r _ [8, 9, 10, 7, 11] rfl (by decide +kernel)
set_option maxRecDepth 20000 in
theorem gX7_mayStand_X7_mayBeginPart : GoodIn wsX7_mayStand (va_wsS RX7 73 yX7_mayBeginPart wsX7_mayBeginPart) := goodIn_app (goodIn_of _ (by decide +kernel)) ggX7_mayStand_X7_mayBeginPart
set_option maxRecDepth 20000 in
theorem ggX7_mayStand_X7_mayEnd : GoodIn wsX7_mayStand wsX7_mayEnd := goodIn_r _ [14, 3, 15, 26, 27, 28, 29, 30, 31, 32] rfl (by decide +kernel)
set_option maxRecDepth 20000 in
theorem gX7_mayStand_X7_mayEnd : GoodIn wsX7_mayStand (va_wsS RX7 93 yX7_mayEnd wsX7_mayEnd) := goodIn_app (goodIn_of _ (by decide +kernel)) ggX7_mayStand_X7_mayEnd
set_option maxRecDepth 20000 in
theorem ggX7_open_X1_begin : GoodIn wsX7_open wsX1_begin := goodIn_r _ [9, 10, 11, 12, 13, 14, 15, 16, 27, 28, 29, 30, 31, 32, 33] rfl (by decide +kernel)
set_option maxRecDepth 20000 in
theorem gX7_open_X1_begin : GoodIn wsX7_open (wsV RX7 103 RX1 yX1_begin wsX1_begin) := goodIn_app (goodIn_of _ (by decide +kernel)) ggX7_open_X1_begin
set_option maxRecDepth 20000 in
theorem ggX7_openHeading_X8_openHeading : GoodIn wsX7_openHeading wsX8_openHeading := goodIn_r _ [8, 9, 10, 11, 12, 13, 14, 15, 16, 17, 18, 19, 20, 21, 22, 23, 24, 25, 26, 27, 58, 59, 60, 61, 62, 63, 64, 65, 66, 67, 68, 69, 70, 71, 72, 73, 74, 75, 76, 77, 78, 79, 80, 81, 82, 83, 84, 85, 86] rfl (by decide +kernel)
set_option maxRecDepth 20000 in
theorem gX7_openHeading_X8_openHeading : GoodIn wsX7_openHeading (wsV RX7 107 RX8 yX8_openHeading wsX8_openHeading) := goodIn_app (goodIn_of _ (by decide +kernel)) ggX7_openHeading_X8_openHeading
set_option maxRecDepth 20000 in
theorem ggX7_openHeading_X7_open : GoodIn wsX7_openHeading wsX7_open := goodIn_r _ [32, 33, 34, 35, 3, 36, 37, 38, 39, 40, 41, 42, 43, 44, 45, 46, 47, 48, 49, 50, 51, 52, 53, 54, 55, 56, 57, 87, 88, 89, 90, 91, 92, 93] rfl (by decide +kernel)
set_option maxRecDepth 20000 in
theorem gX7_openHeading_X7_open : GoodIn wsX7_openHeading (wsV RX7 110 RX7 yX7_open wsX7_open) := goodIn_app (goodIn_of _ (by decide +kernel)) ggX7_openHeading_X7_open
set_option maxRecDepth 20000 in
theorem ggX7_openSentence_X8_openSentence : GoodIn wsX7_openSentence wsX8_openSentence := goodIn_r _ [8, 9, 10, 11, 12, 13, 14, 15, 7, 16, 17, 18, 19, 20, 21, 22, 23, 24, 25, 26, 27, 28, 29, 66, 67, 68, 69, 70, 71, 72, 73, 74, 75, 76, 77, 78, 79, 80, 81, 82, 83, 84, 85, 86, 87, 88] rfl (by decide +kernel)
set_option maxRecDepth 20000 in
theorem gX7_openSentence_X8_openSentence : GoodIn wsX7_openSentence (wsV RX7 119 RX8 yX8_openSentence wsX8_openSentence) := goodIn_app (goodIn_of _ (by decide +kernel)) ggX7_openSentence_X8_openSentence
set_option maxRecDepth 20000 in
theorem ggX7_openSentence_X7_open : GoodIn wsX7_openSentence wsX7_open := goodIn_r _ [40, 41, 42, 43, 2, 44, 45, 46, 47, 48, 49, 50, 51, 52, 53, 54, 55, 56, 57, 58, 59, 60, 61, 62, 63, 64, 65, 89, 90, 91, 92, 93, 94, 95] rfl (by decide +kernel)
set_option maxRecDepth 20000 in
theorem gX7_openSentence_X7_open : GoodIn wsX7_openSentence (wsV RX7 110 RX7 yX7_open wsX7_open) := goodIn_app (goodIn_of _ (by decide +kernel)) ggX7_openSentence_X7_open
set_option maxRecDepth 20000 in
theorem ggX7_openSentence_X7_fail : GoodIn wsX7_openSentence wsX7_fail := goodIn_r _ [34, 35, 36, 56, 57, 58, 59, 60, 61, 62, 63, 64, 65] rfl (by decide +kernel)
set_option maxRecDepth 20000 in
theorem gX7_openSentence_X7_fail : GoodIn wsX7_openSentence (wsV RX7 62 RX7 yX7_fail wsX7_fail) := goodIn_app (goodIn_of _ (by decide +kernel)) ggX7_openSentence_X7_fail
set_option maxRecDepth 20000 in
theorem ggX7_openItem_X8_openItem : GoodIn wsX7_openItem wsX8_openItem := goodIn_r _ [12, 13, 14, 15, 16, 17, 18, 19, 20, 21, 11, 22, 23, 24, 25, 26, 27, 28, 29, 30, 31, 32, 33, 34, 35, 36, 37, 38, 39, 40, 41, 42, 43, 44, 45, 46, 71, 72, 73, 74, 75, 76, 77, 78, 79, 80, 81, 82, 83, 84, 85, 86, 87, 88, 89, 90, 91, 92, 93, 94, 95, 96, 97, 98, 99] rfl (by decide +kernel)
set_option maxRecDepth 20000 in
theorem gX7_openItem_X8_openItem : GoodIn wsX7_openItem (wsV RX7 124 RX8 yX8_openItem wsX8_openItem) := goodIn_app (goodIn_of _ (by decide +kernel)) ggX7_openItem_X8_openItem
set_option maxRecDepth 20000 in
theorem ggX7_openItem_X7_fail : GoodIn wsX7_openItem wsX7_fail := goodIn_r _ [51, 52, 53, 54, 55, 56, 57, 58, 59, 60, 61, 62, 63] rfl (by decide +kernel)
set_option maxRecDepth 20000 in
theorem gX7_openItem_X7_fail : GoodIn wsX7_openItem (wsV RX7 62 RX7 yX7_fail wsX7_fail) := goodIn_app (goodIn_of _ (by decide +kernel)) ggX7_openItem_X7_fail
set_option maxRecDepth 20000 in
theorem ggX7_beginPart_X7_openItem : GoodIn wsX7_beginPart wsX7_openItem := goodIn_r _ [65, 2, 10, 66, 67, 11, 68, 69, 70, 71, 72, 16, 73, 74, 75, 20, 76, 77, 78, 22, 23, 24, 25, 26, 27, 28, 29, 30, 31, 32, 33, 34, 35, 36, 37, 38, 79, 80, 81, 82, 83, 84, 85, 86, 87, 88, 89, 39, 40, 41, 8, 42, 43, 44, 90, 91, 92, 93, 94, 95, 96, 97, 98, 99, 100, 101, 102, 103, 104, 105, 106, 107, 108, 109, 110, 111, 112, 113, 114, 115, 116, 117, 118, 119, 120, 121, 122, 123, 124, 125, 126, 127, 128, 129, 130, 131, 132, 133, 134, 135] rfl (by decide +kernel)
set_option maxRecDepth 20000 in
theorem gX7_beginPart_X7_openItem : GoodIn wsX7_beginPart (wsV RX7 116 RX7 yX7_openItem wsX7_openItem) := goodIn_app (goodIn_of _ (by decide +kernel)) ggX7_beginPart_X7_openItem
set_option maxRecDepth 20000 in
theorem ggX7_beginPart_X7_openSentence : GoodIn wsX7_beginPart wsX7_openSentence := goodIn_r _ [9, 10, 11, 12, 13, 14, 15, 16, 17, 18, 19, 20, 21, 22, 23, 24, 25, 26, 27, 28, 29, 30, 31, 32, 33, 34, 35, 36, 37, 38, 39, 40, 41, 8, 42, 43, 44, 45, 46, 47, 48, 1, 49, 2, 50, 51, 52, 53, 54, 55, 56, 57, 58, 59, 60, 61, 90, 91, 92, 93, 94, 95, 96, 97, 98, 99, 107, 108, 109, 110, 111, 112, 113, 114, 115, 116, 117, 118, 119, 120, 121, 122, 123, 124, 125, 126, 127, 128, 129, 100, 101, 102, 103, 104, 105, 106] rfl (by decide +kernel)
set_option maxRecDepth 20000 in
theorem gX7_beginPart_X7_openSentence : GoodIn wsX7_beginPart (wsV RX7 113 RX7 yX7_openSentence wsX7_openSentence) := goodIn_app (goodIn_of _ (by decide +kernel)) ggX7_beginPart_X7_openSentence
