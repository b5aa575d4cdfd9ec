theorem dX10_canPart_0 : decode cX10_canPart 0 = .ok (.aload_n 0, 1) := by decide +kernel
theorem dX10_canPart_1 : decode cX10_canPart 1 = .ok (.invokevirtual 150, 3) := by decide +kernel
theorem dX10_canPart_10 : decode cX10_canPart 10 = .ok (.iaload, 1) := by decide +kernel
theorem dX10_canPart_11 : decode cX10_canPart 11 = .ok (.ifCond .ge 7, 3) := by decide +kernel
theorem dX10_canPart_14 : decode cX10_canPart 14 = .ok (.iconst 1, 1) := by decide +kernel
theorem dX10_canPart_15 : decode cX10_canPart 15 = .ok (.goto 4, 3) := by decide +kernel
theorem dX10_canPart_18 : decode cX10_canPart 18 = .ok (.iconst 0, 1) := by decide +kernel
theorem dX10_canPart_19 : decode cX10_canPart 19 = .ok (.istore_n 2, 1) := by decide +kernel
theorem dX10_canPart_20 : decode cX10_canPart 20 = .ok (.iload_n 1, 1) := by decide +kernel
theorem dX10_canPart_21 : decode cX10_canPart 21 = .ok (.invokestatic 164, 3) := by decide +kernel
theorem dX10_canPart_24 : decode cX10_canPart 24 = .ok (.ifCond .ne 37, 3) := by decide +kernel
theorem dX10_canPart_27 : decode cX10_canPart 27 = .ok (.iload_n 1, 1) := by decide +kernel
theorem dX10_canPart_28 : decode cX10_canPart 28 = .ok (.bipush 42, 2) := by decide +kernel
theorem dX10_canPart_30 : decode cX10_canPart 30 = .ok (.if_icmp .eq 31, 3) := by decide +kernel
theorem dX10_canPart_33 : decode cX10_canPart 33 = .ok (.iload_n 1, 1) := by decide +kernel
theorem dX10_canPart_34 : decode cX10_canPart 34 = .ok (.bipush 60, 2) := by decide +kernel
theorem dX10_canPart_36 : decode cX10_canPart 36 = .ok (.if_icmp .eq 25, 3) := by decide +kernel
theorem dX10_canPart_39 : decode cX10_canPart 39 = .ok (.iload_n 2, 1) := by decide +kernel
theorem dX10_canPart_4 : decode cX10_canPart 4 = .ok (.istore_n 1, 1) := by decide +kernel
theorem dX10_canPart_40 : decode cX10_canPart 40 = .ok (.ifCond .ne 25, 3) := by decide +kernel
theorem dX10_canPart_43 : decode cX10_canPart 43 = .ok (.iload_n 1, 1) := by decide +kernel
theorem dX10_canPart_44 : decode cX10_canPart 44 = .ok (.bipush 126, 2) := by decide +kernel
theorem dX10_canPart_46 : decode cX10_canPart 46 = .ok (.if_icmp .eq 15, 3) := by decide +kernel
theorem dX10_canPart_49 : decode cX10_canPart 49 = .ok (.iload_n 1, 1) := by decide +kernel
theorem dX10_canPart_5 : decode cX10_canPart 5 = .ok (.aload_n 0, 1) := by decide +kernel
theorem dX10_canPart_50 : decode cX10_canPart 50 = .ok (.bipush 40, 2) := by decide +kernel
theorem dX10_canPart_52 : decode cX10_canPart 52 = .ok (.if_icmp .eq 9, 3) := by decide +kernel
theorem dX10_canPart_55 : decode cX10_canPart 55 = .ok (.iload_n 1, 1) := by decide +kernel
theorem dX10_canPart_56 : decode cX10_canPart 56 = .ok (.bipush 123, 2) := by decide +kernel
theorem dX10_canPart_58 : decode cX10_canPart 58 = .ok (.if_icmp .ne 7, 3) := by decide +kernel
theorem dX10_canPart_6 : decode cX10_canPart 6 = .ok (.getfield 117, 3) := by decide +kernel
theorem dX10_canPart_61 : decode cX10_canPart 61 = .ok (.iconst 1, 1) := by decide +kernel
theorem dX10_canPart_62 : decode cX10_canPart 62 = .ok (.goto 4, 3) := by decide +kernel
theorem dX10_canPart_65 : decode cX10_canPart 65 = .ok (.iconst 0, 1) := by decide +kernel
theorem dX10_canPart_66 : decode cX10_canPart 66 = .ok (.ireturn, 1) := by decide +kernel
theorem dX10_canPart_9 : decode cX10_canPart 9 = .ok (.iconst 0, 1) := by decide +kernel
set_option maxRecDepth 20000 in
theorem ggX10_canPart_X10_see : GoodIn wsX10_canPart wsX10_see := goodIn_r _ [6, 7, 8, 9, 16, 17, 18, 19, 20, 21, 22, 23, 24, 25, 26, 27, 28, 29, 30, 31, 32, 33, 34, 35, 36, 37, 38, 39, 40, 41, 42, 43, 44, 45, 46, 47, 48, 49, 50, 51, 52, 53, 54, 55, 56, 57, 58, 59, 60, 61, 62, 63, 64, 65, 66, 67, 68, 69, 70, 71, 72, 73, 74, 75, 76, 77, 78, 79, 80, 81] (by decide +kernel) (by decide +kernel)
set_option maxRecDepth 20000 in
theorem gX10_canPart_X10_see : GoodIn wsX10_canPart (wsV RX10 150 RX10 yX10_see wsX10_see) := goodIn_app (goodIn_of _ (by decide +kernel)) ggX10_canPart_X10_see
set_option maxRecDepth 20000 in
theorem ggX10_canPart_X10_isWord : GoodIn wsX10_canPart wsX10_isWord := goodIn_r _ [12, 13, 14, 5, 15] (by decide +kernel) (by decide +kernel)
set_option maxRecDepth 20000 in
theorem gX10_canPart_X10_isWord : GoodIn wsX10_canPart (va_wsS RX10 164 yX10_isWord wsX10_isWord) := goodIn_app (goodIn_of _ (by decide +kernel)) ggX10_canPart_X10_isWord
