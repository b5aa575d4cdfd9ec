theorem dX7_scan_0 : decode cX7_scan 0 = .ok (.aload_n 0, 1) := by decide +kernel
theorem dX7_scan_1 : decode cX7_scan 1 = .ok (.iconst 0, 1) := by decide +kernel
theorem dX7_scan_10 : decode cX7_scan 10 = .ok (.aload_n 0, 1) := by decide +kernel
theorem dX7_scan_102 : decode cX7_scan 102 = .ok (.getfield 49, 3) := by decide +kernel
theorem dX7_scan_105 : decode cX7_scan 105 = .ok (.invokevirtual 62, 3) := by decide +kernel
theorem dX7_scan_108 : decode cX7_scan 108 = .ok (.return_, 1) := by decide +kernel
theorem dX7_scan_11 : decode cX7_scan 11 = .ok (.iconst 0, 1) := by decide +kernel
theorem dX7_scan_12 : decode cX7_scan 12 = .ok (.putfield 24, 3) := by decide +kernel
theorem dX7_scan_15 : decode cX7_scan 15 = .ok (.aload_n 0, 1) := by decide +kernel
theorem dX7_scan_16 : decode cX7_scan 16 = .ok (.iconst (-1), 1) := by decide +kernel
theorem dX7_scan_17 : decode cX7_scan 17 = .ok (.putfield 27, 3) := by decide +kernel
theorem dX7_scan_2 : decode cX7_scan 2 = .ok (.putfield 17, 3) := by decide +kernel
theorem dX7_scan_20 : decode cX7_scan 20 = .ok (.aload_n 0, 1) := by decide +kernel
theorem dX7_scan_21 : decode cX7_scan 21 = .ok (.iconst 0, 1) := by decide +kernel
theorem dX7_scan_22 : decode cX7_scan 22 = .ok (.putfield 30, 3) := by decide +kernel
theorem dX7_scan_25 : decode cX7_scan 25 = .ok (.aload_n 0, 1) := by decide +kernel
theorem dX7_scan_26 : decode cX7_scan 26 = .ok (.iconst (-1), 1) := by decide +kernel
theorem dX7_scan_27 : decode cX7_scan 27 = .ok (.putfield 33, 3) := by decide +kernel
theorem dX7_scan_30 : decode cX7_scan 30 = .ok (.iconst 0, 1) := by decide +kernel
theorem dX7_scan_31 : decode cX7_scan 31 = .ok (.istore_n 1, 1) := by decide +kernel
theorem dX7_scan_32 : decode cX7_scan 32 = .ok (.iload_n 1, 1) := by decide +kernel
theorem dX7_scan_33 : decode cX7_scan 33 = .ok (.sipush 800, 3) := by decide +kernel
theorem dX7_scan_36 : decode cX7_scan 36 = .ok (.if_icmp .gt 45, 3) := by decide +kernel
theorem dX7_scan_39 : decode cX7_scan 39 = .ok (.aload_n 0, 1) := by decide +kernel
theorem dX7_scan_40 : decode cX7_scan 40 = .ok (.getfield 24, 3) := by decide +kernel
theorem dX7_scan_43 : decode cX7_scan 43 = .ok (.aload_n 0, 1) := by decide +kernel
theorem dX7_scan_44 : decode cX7_scan 44 = .ok (.getfield 36, 3) := by decide +kernel
theorem dX7_scan_47 : decode cX7_scan 47 = .ok (.getfield 49, 3) := by decide +kernel
theorem dX7_scan_5 : decode cX7_scan 5 = .ok (.aload_n 0, 1) := by decide +kernel
theorem dX7_scan_50 : decode cX7_scan 50 = .ok (.if_icmp .ge 31, 3) := by decide +kernel
theorem dX7_scan_53 : decode cX7_scan 53 = .ok (.aload_n 0, 1) := by decide +kernel
theorem dX7_scan_54 : decode cX7_scan 54 = .ok (.getfield 17, 3) := by decide +kernel
theorem dX7_scan_57 : decode cX7_scan 57 = .ok (.ifCond .ne 24, 3) := by decide +kernel
theorem dX7_scan_6 : decode cX7_scan 6 = .ok (.iconst (-1), 1) := by decide +kernel
theorem dX7_scan_60 : decode cX7_scan 60 = .ok (.aload_n 0, 1) := by decide +kernel
theorem dX7_scan_61 : decode cX7_scan 61 = .ok (.aload_n 0, 1) := by decide +kernel
theorem dX7_scan_62 : decode cX7_scan 62 = .ok (.getfield 36, 3) := by decide +kernel
theorem dX7_scan_65 : decode cX7_scan 65 = .ok (.aload_n 0, 1) := by decide +kernel
theorem dX7_scan_66 : decode cX7_scan 66 = .ok (.getfield 24, 3) := by decide +kernel
theorem dX7_scan_69 : decode cX7_scan 69 = .ok (.invokevirtual 54, 3) := by decide +kernel
theorem dX7_scan_7 : decode cX7_scan 7 = .ok (.putfield 21, 3) := by decide +kernel
theorem dX7_scan_72 : decode cX7_scan 72 = .ok (.invokevirtual 58, 3) := by decide +kernel
theorem dX7_scan_75 : decode cX7_scan 75 = .ok (.iinc 1 1, 3) := by decide +kernel
theorem dX7_scan_78 : decode cX7_scan 78 = .ok (.goto (-46), 3) := by decide +kernel
theorem dX7_scan_81 : decode cX7_scan 81 = .ok (.aload_n 0, 1) := by decide +kernel
theorem dX7_scan_82 : decode cX7_scan 82 = .ok (.getfield 17, 3) := by decide +kernel
theorem dX7_scan_85 : decode cX7_scan 85 = .ok (.ifCond .ne 23, 3) := by decide +kernel
theorem dX7_scan_88 : decode cX7_scan 88 = .ok (.aload_n 0, 1) := by decide +kernel
theorem dX7_scan_89 : decode cX7_scan 89 = .ok (.getfield 27, 3) := by decide +kernel
theorem dX7_scan_92 : decode cX7_scan 92 = .ok (.iconst (-1), 1) := by decide +kernel
theorem dX7_scan_93 : decode cX7_scan 93 = .ok (.if_icmp .eq 15, 3) := by decide +kernel
theorem dX7_scan_96 : decode cX7_scan 96 = .ok (.aload_n 0, 1) := by decide +kernel
theorem dX7_scan_97 : decode cX7_scan 97 = .ok (.iconst 1, 1) := by decide +kernel
theorem dX7_scan_98 : decode cX7_scan 98 = .ok (.aload_n 0, 1) := by decide +kernel
theorem dX7_scan_99 : decode cX7_scan 99 = .ok (.getfield 36, 3) := by decide +kernel
set_option maxRecDepth 20000 in
theorem ggX7_scan_X7_fail : GoodIn wsX7_scan wsX7_fail := goodIn_r _ [41, 1, 2, 216, 217, 218, 219, 220, 221, 222, 223, 224, 225] rfl (by decide +kernel)
set_option maxRecDepth 20000 in
theorem gX7_scan_X7_fail : GoodIn wsX7_scan (wsV RX7 62 RX7 yX7_fail wsX7_fail) := goodIn_app (goodIn_of _ (by decide +kernel)) ggX7_scan_X7_fail
set_option maxRecDepth 20000 in
theorem ggX7_scan_X8_signAt : GoodIn wsX7_scan wsX8_signAt := goodIn_r _ [13, 14, 15, 226, 227, 228, 229, 230, 231, 232, 233, 234, 235, 236, 237, 238, 239, 240, 241] rfl (by decide +kernel)
set_option maxRecDepth 20000 in
theorem gX7_scan_X8_signAt : GoodIn wsX7_scan (wsV RX7 54 RX8 yX8_signAt wsX8_signAt) := goodIn_app (goodIn_of _ (by decide +kernel)) ggX7_scan_X8_signAt
set_option maxRecDepth 20000 in
theorem ggX7_scan_X7_step : GoodIn wsX7_scan wsX7_step := goodIn_r _ [20, 3, 21, 22, 23, 19, 24, 4, 25, 26, 27, 28, 29, 30, 31, 32, 33, 34, 35, 36, 37, 38, 39, 40, 41, 1, 2, 42, 43, 44, 45, 5, 7, 46, 47, 48, 12, 49, 50, 51, 52, 53, 54, 55, 56, 57, 58, 59, 60, 61, 62, 63, 64, 65, 66, 67, 68, 69, 70, 71, 72, 73, 74, 75, 76, 77, 78, 79, 80, 81, 82, 83, 84, 85, 86, 87, 88, 89, 90, 91, 92, 93, 94, 95, 96, 97, 98, 99, 100, 101, 102, 103, 104, 105, 106, 107, 108, 109, 110, 111, 112, 113, 114, 115, 116, 117, 118, 119, 120, 121, 122, 123, 124, 125, 126, 127, 128, 129, 130, 131, 132, 133, 134, 135, 136, 137, 138, 139, 140, 141, 142, 143, 144, 145, 146, 147, 148, 149, 150, 151, 152, 153, 6, 154, 155, 156, 157, 158, 159, 160, 161, 162, 163, 164, 165, 166, 167, 168, 169, 170, 8, 171, 172, 173, 174, 175, 9, 10, 11, 13, 14, 15, 176, 177, 178, 179, 180, 181, 182, 183, 184, 185, 186, 187, 188, 189, 190, 191, 192, 193, 194, 195, 196, 197, 198, 199, 200, 201, 202, 203, 204, 205, 206, 207, 208, 209, 210, 211, 212, 213, 214, 215, 216, 217, 218, 219, 220, 221, 222, 223, 224, 225, 242, 243, 244, 245, 246, 247, 248, 226, 227, 228, 229, 230, 231, 232, 233, 234, 235, 236, 237, 238, 239, 240, 241, 249, 250, 251, 252, 253, 254, 255, 256, 257, 258, 259, 260, 261, 262, 263, 264] rfl (by decide +kernel)
set_option maxRecDepth 20000 in
theorem gX7_scan_X7_step : GoodIn wsX7_scan (wsV RX7 58 RX7 yX7_step wsX7_step) := goodIn_app (goodIn_of _ (by decide +kernel)) ggX7_scan_X7_step
