theorem dX10_isOwn_0 : decode cX10_isOwn 0 = .ok (.iload_n 0, 1) := by decide +kernel
theorem dX10_isOwn_1 : decode cX10_isOwn 1 = .ok (.bipush 40, 2) := by decide +kernel
theorem dX10_isOwn_12 : decode cX10_isOwn 12 = .ok (.iload_n 0, 1) := by decide +kernel
theorem dX10_isOwn_13 : decode cX10_isOwn 13 = .ok (.bipush 123, 2) := by decide +kernel
theorem dX10_isOwn_15 : decode cX10_isOwn 15 = .ok (.if_icmp .eq 51, 3) := by decide +kernel
theorem dX10_isOwn_18 : decode cX10_isOwn 18 = .ok (.iload_n 0, 1) := by decide +kernel
theorem dX10_isOwn_19 : decode cX10_isOwn 19 = .ok (.bipush 124, 2) := by decide +kernel
theorem dX10_isOwn_21 : decode cX10_isOwn 21 = .ok (.if_icmp .eq 45, 3) := by decide +kernel
theorem dX10_isOwn_24 : decode cX10_isOwn 24 = .ok (.iload_n 0, 1) := by decide +kernel
theorem dX10_isOwn_25 : decode cX10_isOwn 25 = .ok (.bipush 125, 2) := by decide +kernel
theorem dX10_isOwn_27 : decode cX10_isOwn 27 = .ok (.if_icmp .eq 39, 3) := by decide +kernel
theorem dX10_isOwn_3 : decode cX10_isOwn 3 = .ok (.if_icmp .eq 63, 3) := by decide +kernel
theorem dX10_isOwn_30 : decode cX10_isOwn 30 = .ok (.iload_n 0, 1) := by decide +kernel
theorem dX10_isOwn_31 : decode cX10_isOwn 31 = .ok (.bipush 60, 2) := by decide +kernel
theorem dX10_isOwn_33 : decode cX10_isOwn 33 = .ok (.if_icmp .eq 33, 3) := by decide +kernel
theorem dX10_isOwn_36 : decode cX10_isOwn 36 = .ok (.iload_n 0, 1) := by decide +kernel
theorem dX10_isOwn_37 : decode cX10_isOwn 37 = .ok (.bipush 62, 2) := by decide +kernel
theorem dX10_isOwn_39 : decode cX10_isOwn 39 = .ok (.if_icmp .eq 27, 3) := by decide +kernel
theorem dX10_isOwn_42 : decode cX10_isOwn 42 = .ok (.iload_n 0, 1) := by decide +kernel
theorem dX10_isOwn_43 : decode cX10_isOwn 43 = .ok (.bipush 126, 2) := by decide +kernel
theorem dX10_isOwn_45 : decode cX10_isOwn 45 = .ok (.if_icmp .eq 21, 3) := by decide +kernel
theorem dX10_isOwn_48 : decode cX10_isOwn 48 = .ok (.iload_n 0, 1) := by decide +kernel
theorem dX10_isOwn_49 : decode cX10_isOwn 49 = .ok (.bipush 42, 2) := by decide +kernel
theorem dX10_isOwn_51 : decode cX10_isOwn 51 = .ok (.if_icmp .eq 15, 3) := by decide +kernel
theorem dX10_isOwn_54 : decode cX10_isOwn 54 = .ok (.iload_n 0, 1) := by decide +kernel
theorem dX10_isOwn_55 : decode cX10_isOwn 55 = .ok (.bipush 61, 2) := by decide +kernel
theorem dX10_isOwn_57 : decode cX10_isOwn 57 = .ok (.if_icmp .eq 9, 3) := by decide +kernel
theorem dX10_isOwn_6 : decode cX10_isOwn 6 = .ok (.iload_n 0, 1) := by decide +kernel
theorem dX10_isOwn_60 : decode cX10_isOwn 60 = .ok (.iload_n 0, 1) := by decide +kernel
theorem dX10_isOwn_61 : decode cX10_isOwn 61 = .ok (.bipush 46, 2) := by decide +kernel
theorem dX10_isOwn_63 : decode cX10_isOwn 63 = .ok (.if_icmp .ne 7, 3) := by decide +kernel
theorem dX10_isOwn_66 : decode cX10_isOwn 66 = .ok (.iconst 1, 1) := by decide +kernel
theorem dX10_isOwn_67 : decode cX10_isOwn 67 = .ok (.goto 4, 3) := by decide +kernel
theorem dX10_isOwn_7 : decode cX10_isOwn 7 = .ok (.bipush 41, 2) := by decide +kernel
theorem dX10_isOwn_70 : decode cX10_isOwn 70 = .ok (.iconst 0, 1) := by decide +kernel
theorem dX10_isOwn_71 : decode cX10_isOwn 71 = .ok (.ireturn, 1) := by decide +kernel
theorem dX10_isOwn_9 : decode cX10_isOwn 9 = .ok (.if_icmp .eq 57, 3) := by decide +kernel
theorem dX10_isWord_0 : decode cX10_isWord 0 = .ok (.iload_n 0, 1) := by decide +kernel
theorem dX10_isWord_1 : decode cX10_isWord 1 = .ok (.bipush 33, 2) := by decide +kernel
theorem dX10_isWord_12 : decode cX10_isWord 12 = .ok (.iload_n 0, 1) := by decide +kernel
theorem dX10_isWord_13 : decode cX10_isWord 13 = .ok (.invokestatic 154, 3) := by decide +kernel
theorem dX10_isWord_16 : decode cX10_isWord 16 = .ok (.ifCond .ne 7, 3) := by decide +kernel
theorem dX10_isWord_19 : decode cX10_isWord 19 = .ok (.iconst 1, 1) := by decide +kernel
theorem dX10_isWord_20 : decode cX10_isWord 20 = .ok (.goto 4, 3) := by decide +kernel
theorem dX10_isWord_23 : decode cX10_isWord 23 = .ok (.iconst 0, 1) := by decide +kernel
theorem dX10_isWord_24 : decode cX10_isWord 24 = .ok (.ireturn, 1) := by decide +kernel
theorem dX10_isWord_3 : decode cX10_isWord 3 = .ok (.if_icmp .lt 20, 3) := by decide +kernel
theorem dX10_isWord_6 : decode cX10_isWord 6 = .ok (.iload_n 0, 1) := by decide +kernel
theorem dX10_isWord_7 : decode cX10_isWord 7 = .ok (.bipush 126, 2) := by decide +kernel
theorem dX10_isWord_9 : decode cX10_isWord 9 = .ok (.if_icmp .gt 14, 3) := by decide +kernel
theorem dX10_put_0 : decode cX10_put 0 = .ok (.aload_n 0, 1) := by decide +kernel
theorem dX10_put_1 : decode cX10_put 1 = .ok (.getfield 68, 3) := by decide +kernel
theorem dX10_put_10 : decode cX10_put 10 = .ok (.aload_n 0, 1) := by decide +kernel
theorem dX10_put_11 : decode cX10_put 11 = .ok (.getfield 71, 3) := by decide +kernel
theorem dX10_put_14 : decode cX10_put 14 = .ok (.aload_n 0, 1) := by decide +kernel
theorem dX10_put_15 : decode cX10_put 15 = .ok (.getfield 158, 3) := by decide +kernel
theorem dX10_put_18 : decode cX10_put 18 = .ok (.iload_n 2, 1) := by decide +kernel
theorem dX10_put_19 : decode cX10_put 19 = .ok (.iastore, 1) := by decide +kernel
theorem dX10_put_20 : decode cX10_put 20 = .ok (.aload_n 0, 1) := by decide +kernel
theorem dX10_put_21 : decode cX10_put 21 = .ok (.getfield 74, 3) := by decide +kernel
theorem dX10_put_24 : decode cX10_put 24 = .ok (.aload_n 0, 1) := by decide +kernel
theorem dX10_put_25 : decode cX10_put 25 = .ok (.getfield 158, 3) := by decide +kernel
theorem dX10_put_28 : decode cX10_put 28 = .ok (.iload_n 3, 1) := by decide +kernel
theorem dX10_put_29 : decode cX10_put 29 = .ok (.iastore, 1) := by decide +kernel
theorem dX10_put_30 : decode cX10_put 30 = .ok (.aload_n 0, 1) := by decide +kernel
theorem dX10_put_31 : decode cX10_put 31 = .ok (.getfield 77, 3) := by decide +kernel
theorem dX10_put_34 : decode cX10_put 34 = .ok (.aload_n 0, 1) := by decide +kernel
theorem dX10_put_35 : decode cX10_put 35 = .ok (.getfield 158, 3) := by decide +kernel
theorem dX10_put_38 : decode cX10_put 38 = .ok (.iload 4, 2) := by decide +kernel
theorem dX10_put_4 : decode cX10_put 4 = .ok (.aload_n 0, 1) := by decide +kernel
theorem dX10_put_40 : decode cX10_put 40 = .ok (.iastore, 1) := by decide +kernel
theorem dX10_put_41 : decode cX10_put 41 = .ok (.aload_n 0, 1) := by decide +kernel
theorem dX10_put_42 : decode cX10_put 42 = .ok (.getfield 80, 3) := by decide +kernel
theorem dX10_put_45 : decode cX10_put 45 = .ok (.aload_n 0, 1) := by decide +kernel
theorem dX10_put_46 : decode cX10_put 46 = .ok (.getfield 158, 3) := by decide +kernel
theorem dX10_put_49 : decode cX10_put 49 = .ok (.aload_n 0, 1) := by decide +kernel
theorem dX10_put_5 : decode cX10_put 5 = .ok (.getfield 158, 3) := by decide +kernel
theorem dX10_put_50 : decode cX10_put 50 = .ok (.getfield 161, 3) := by decide +kernel
theorem dX10_put_53 : decode cX10_put 53 = .ok (.iastore, 1) := by decide +kernel
theorem dX10_put_54 : decode cX10_put 54 = .ok (.aload_n 0, 1) := by decide +kernel
theorem dX10_put_55 : decode cX10_put 55 = .ok (.dup, 1) := by decide +kernel
theorem dX10_put_56 : decode cX10_put 56 = .ok (.getfield 158, 3) := by decide +kernel
theorem dX10_put_59 : decode cX10_put 59 = .ok (.iconst 1, 1) := by decide +kernel
theorem dX10_put_60 : decode cX10_put 60 = .ok (.iadd, 1) := by decide +kernel
theorem dX10_put_61 : decode cX10_put 61 = .ok (.putfield 158, 3) := by decide +kernel
theorem dX10_put_64 : decode cX10_put 64 = .ok (.return_, 1) := by decide +kernel
theorem dX10_put_8 : decode cX10_put 8 = .ok (.iload_n 1, 1) := by decide +kernel
theorem dX10_put_9 : decode cX10_put 9 = .ok (.iastore, 1) := by decide +kernel
theorem dX10_wrong_0 : decode cX10_wrong 0 = .ok (.aload_n 0, 1) := by decide +kernel
theorem dX10_wrong_1 : decode cX10_wrong 1 = .ok (.iload_n 1, 1) := by decide +kernel
theorem dX10_wrong_10 : decode cX10_wrong 10 = .ok (.iconst 0, 1) := by decide +kernel
theorem dX10_wrong_11 : decode cX10_wrong 11 = .ok (.ireturn, 1) := by decide +kernel
theorem dX10_wrong_2 : decode cX10_wrong 2 = .ok (.putfield 141, 3) := by decide +kernel
theorem dX10_wrong_5 : decode cX10_wrong 5 = .ok (.aload_n 0, 1) := by decide +kernel
theorem dX10_wrong_6 : decode cX10_wrong 6 = .ok (.iload_n 2, 1) := by decide +kernel
theorem dX10_wrong_7 : decode cX10_wrong 7 = .ok (.putfield 13, 3) := by decide +kernel
set_option maxRecDepth 20000 in
theorem ggX10_isWord_X10_isOwn : GoodIn wsX10_isWord wsX10_isOwn := goodIn_r _ [4] (by decide +kernel) (by decide +kernel)
set_option maxRecDepth 20000 in
theorem gX10_isWord_X10_isOwn : GoodIn wsX10_isWord (va_wsS RX10 154 yX10_isOwn wsX10_isOwn) := goodIn_app (goodIn_of _ (by decide +kernel)) ggX10_isWord_X10_isOwn
