theorem dX9_feed_0 : decode cX9_feed 0 = .ok (.aload_n 0, 1) := by decide +kernel
theorem dX9_feed_1 : decode cX9_feed 1 = .ok (.getfield 13, 3) := by decide +kernel
theorem dX9_feed_10 : decode cX9_feed 10 = .ok (.if_icmp .le 5, 3) := by decide +kernel
theorem dX9_feed_13 : decode cX9_feed 13 = .ok (.iconst (-1), 1) := by decide +kernel
theorem dX9_feed_14 : decode cX9_feed 14 = .ok (.ireturn, 1) := by decide +kernel
theorem dX9_feed_15 : decode cX9_feed 15 = .ok (.aload_n 0, 1) := by decide +kernel
theorem dX9_feed_16 : decode cX9_feed 16 = .ok (.iload_n 1, 1) := by decide +kernel
theorem dX9_feed_17 : decode cX9_feed 17 = .ok (.invokevirtual 65, 3) := by decide +kernel
theorem dX9_feed_20 : decode cX9_feed 20 = .ok (.aload_n 0, 1) := by decide +kernel
theorem dX9_feed_21 : decode cX9_feed 21 = .ok (.iload_n 2, 1) := by decide +kernel
theorem dX9_feed_22 : decode cX9_feed 22 = .ok (.invokevirtual 65, 3) := by decide +kernel
theorem dX9_feed_25 : decode cX9_feed 25 = .ok (.aload_n 0, 1) := by decide +kernel
theorem dX9_feed_26 : decode cX9_feed 26 = .ok (.iload_n 3, 1) := by decide +kernel
theorem dX9_feed_27 : decode cX9_feed 27 = .ok (.invokevirtual 65, 3) := by decide +kernel
theorem dX9_feed_30 : decode cX9_feed 30 = .ok (.aload_n 0, 1) := by decide +kernel
theorem dX9_feed_31 : decode cX9_feed 31 = .ok (.iload 4, 2) := by decide +kernel
theorem dX9_feed_33 : decode cX9_feed 33 = .ok (.invokevirtual 65, 3) := by decide +kernel
theorem dX9_feed_36 : decode cX9_feed 36 = .ok (.aload_n 0, 1) := by decide +kernel
theorem dX9_feed_37 : decode cX9_feed 37 = .ok (.iload 5, 2) := by decide +kernel
theorem dX9_feed_39 : decode cX9_feed 39 = .ok (.invokevirtual 65, 3) := by decide +kernel
theorem dX9_feed_4 : decode cX9_feed 4 = .ok (.bipush 20, 2) := by decide +kernel
theorem dX9_feed_42 : decode cX9_feed 42 = .ok (.aload_n 0, 1) := by decide +kernel
theorem dX9_feed_43 : decode cX9_feed 43 = .ok (.getfield 13, 3) := by decide +kernel
theorem dX9_feed_46 : decode cX9_feed 46 = .ok (.ireturn, 1) := by decide +kernel
theorem dX9_feed_6 : decode cX9_feed 6 = .ok (.iadd, 1) := by decide +kernel
theorem dX9_feed_7 : decode cX9_feed 7 = .ok (.sipush 800, 3) := by decide +kernel
theorem dX9_putOnTape_0 : decode cX9_putOnTape 0 = .ok (.bipush 24, 2) := by decide +kernel
theorem dX9_putOnTape_11 : decode cX9_putOnTape 11 = .ok (.aload_n 0, 1) := by decide +kernel
theorem dX9_putOnTape_12 : decode cX9_putOnTape 12 = .ok (.getfield 9, 3) := by decide +kernel
theorem dX9_putOnTape_15 : decode cX9_putOnTape 15 = .ok (.arraylength, 1) := by decide +kernel
theorem dX9_putOnTape_16 : decode cX9_putOnTape 16 = .ok (.if_icmp .ge 29, 3) := by decide +kernel
theorem dX9_putOnTape_19 : decode cX9_putOnTape 19 = .ok (.aload_n 0, 1) := by decide +kernel
theorem dX9_putOnTape_2 : decode cX9_putOnTape 2 = .ok (.istore_n 2, 1) := by decide +kernel
theorem dX9_putOnTape_20 : decode cX9_putOnTape 20 = .ok (.getfield 9, 3) := by decide +kernel
theorem dX9_putOnTape_23 : decode cX9_putOnTape 23 = .ok (.aload_n 0, 1) := by decide +kernel
theorem dX9_putOnTape_24 : decode cX9_putOnTape 24 = .ok (.getfield 13, 3) := by decide +kernel
theorem dX9_putOnTape_27 : decode cX9_putOnTape 27 = .ok (.iload_n 1, 1) := by decide +kernel
theorem dX9_putOnTape_28 : decode cX9_putOnTape 28 = .ok (.iload_n 2, 1) := by decide +kernel
theorem dX9_putOnTape_29 : decode cX9_putOnTape 29 = .ok (.iushr, 1) := by decide +kernel
theorem dX9_putOnTape_3 : decode cX9_putOnTape 3 = .ok (.iload_n 2, 1) := by decide +kernel
theorem dX9_putOnTape_30 : decode cX9_putOnTape 30 = .ok (.sipush 255, 3) := by decide +kernel
theorem dX9_putOnTape_33 : decode cX9_putOnTape 33 = .ok (.iand, 1) := by decide +kernel
theorem dX9_putOnTape_34 : decode cX9_putOnTape 34 = .ok (.iastore, 1) := by decide +kernel
theorem dX9_putOnTape_35 : decode cX9_putOnTape 35 = .ok (.aload_n 0, 1) := by decide +kernel
theorem dX9_putOnTape_36 : decode cX9_putOnTape 36 = .ok (.dup, 1) := by decide +kernel
theorem dX9_putOnTape_37 : decode cX9_putOnTape 37 = .ok (.getfield 13, 3) := by decide +kernel
theorem dX9_putOnTape_4 : decode cX9_putOnTape 4 = .ok (.ifCond .lt 47, 3) := by decide +kernel
theorem dX9_putOnTape_40 : decode cX9_putOnTape 40 = .ok (.iconst 1, 1) := by decide +kernel
theorem dX9_putOnTape_41 : decode cX9_putOnTape 41 = .ok (.iadd, 1) := by decide +kernel
theorem dX9_putOnTape_42 : decode cX9_putOnTape 42 = .ok (.putfield 13, 3) := by decide +kernel
theorem dX9_putOnTape_45 : decode cX9_putOnTape 45 = .ok (.iinc 2 (-8), 3) := by decide +kernel
theorem dX9_putOnTape_48 : decode cX9_putOnTape 48 = .ok (.goto (-45), 3) := by decide +kernel
theorem dX9_putOnTape_51 : decode cX9_putOnTape 51 = .ok (.return_, 1) := by decide +kernel
theorem dX9_putOnTape_7 : decode cX9_putOnTape 7 = .ok (.aload_n 0, 1) := by decide +kernel
theorem dX9_putOnTape_8 : decode cX9_putOnTape 8 = .ok (.getfield 13, 3) := by decide +kernel
set_option maxRecDepth 20000 in
theorem ggX9_feed_X9_putOnTape : GoodIn wsX9_feed wsX9_putOnTape := goodIn_r _ [6, 1, 7, 8, 9, 10, 11, 12, 13, 14, 15] (by decide +kernel) (by decide +kernel)
set_option maxRecDepth 20000 in
theorem gX9_feed_X9_putOnTape : GoodIn wsX9_feed (wsV RX9 65 RX9 yX9_putOnTape wsX9_putOnTape) := goodIn_app (goodIn_of _ (by decide +kernel)) ggX9_feed_X9_putOnTape
