theorem dX9_text_0 : decode cX9_text 0 = .ok (.iload_n 1, 1) := by decide +kernel
theorem dX9_text_1 : decode cX9_text 1 = .ok (.ifCond .lt 11, 3) := by decide +kernel
theorem dX9_text_101 : decode cX9_text 101 = .ok (.iconst (-1), 1) := by decide +kernel
theorem dX9_text_102 : decode cX9_text 102 = .ok (.goto 10, 3) := by decide +kernel
theorem dX9_text_105 : decode cX9_text 105 = .ok (.aload_n 0, 1) := by decide +kernel
theorem dX9_text_106 : decode cX9_text 106 = .ok (.getfield 20, 3) := by decide +kernel
theorem dX9_text_109 : decode cX9_text 109 = .ok (.getfield 90, 3) := by decide +kernel
theorem dX9_text_112 : decode cX9_text 112 = .ok (.ireturn, 1) := by decide +kernel
theorem dX9_text_12 : decode cX9_text 12 = .ok (.bipush (-2), 2) := by decide +kernel
theorem dX9_text_14 : decode cX9_text 14 = .ok (.ireturn, 1) := by decide +kernel
theorem dX9_text_15 : decode cX9_text 15 = .ok (.aload_n 0, 1) := by decide +kernel
theorem dX9_text_16 : decode cX9_text 16 = .ok (.getfield 20, 3) := by decide +kernel
theorem dX9_text_19 : decode cX9_text 19 = .ok (.aload_n 0, 1) := by decide +kernel
theorem dX9_text_20 : decode cX9_text 20 = .ok (.getfield 9, 3) := by decide +kernel
theorem dX9_text_23 : decode cX9_text 23 = .ok (.iload_n 1, 1) := by decide +kernel
theorem dX9_text_24 : decode cX9_text 24 = .ok (.invokevirtual 69, 3) := by decide +kernel
theorem dX9_text_27 : decode cX9_text 27 = .ok (.aload_n 0, 1) := by decide +kernel
theorem dX9_text_28 : decode cX9_text 28 = .ok (.iconst 0, 1) := by decide +kernel
theorem dX9_text_29 : decode cX9_text 29 = .ok (.putfield 13, 3) := by decide +kernel
theorem dX9_text_32 : decode cX9_text 32 = .ok (.aload_n 0, 1) := by decide +kernel
theorem dX9_text_33 : decode cX9_text 33 = .ok (.getfield 27, 3) := by decide +kernel
theorem dX9_text_36 : decode cX9_text 36 = .ok (.invokevirtual 73, 3) := by decide +kernel
theorem dX9_text_39 : decode cX9_text 39 = .ok (.aload_n 0, 1) := by decide +kernel
theorem dX9_text_4 : decode cX9_text 4 = .ok (.iload_n 1, 1) := by decide +kernel
theorem dX9_text_40 : decode cX9_text 40 = .ok (.getfield 36, 3) := by decide +kernel
theorem dX9_text_43 : decode cX9_text 43 = .ok (.invokevirtual 76, 3) := by decide +kernel
theorem dX9_text_46 : decode cX9_text 46 = .ok (.aload_n 0, 1) := by decide +kernel
theorem dX9_text_47 : decode cX9_text 47 = .ok (.getfield 36, 3) := by decide +kernel
theorem dX9_text_5 : decode cX9_text 5 = .ok (.aload_n 0, 1) := by decide +kernel
theorem dX9_text_50 : decode cX9_text 50 = .ok (.getfield 79, 3) := by decide +kernel
theorem dX9_text_53 : decode cX9_text 53 = .ok (.ifCond .eq 17, 3) := by decide +kernel
theorem dX9_text_56 : decode cX9_text 56 = .ok (.aload_n 0, 1) := by decide +kernel
theorem dX9_text_57 : decode cX9_text 57 = .ok (.getfield 20, 3) := by decide +kernel
theorem dX9_text_6 : decode cX9_text 6 = .ok (.getfield 13, 3) := by decide +kernel
theorem dX9_text_60 : decode cX9_text 60 = .ok (.invokevirtual 82, 3) := by decide +kernel
theorem dX9_text_63 : decode cX9_text 63 = .ok (.aload_n 0, 1) := by decide +kernel
theorem dX9_text_64 : decode cX9_text 64 = .ok (.getfield 27, 3) := by decide +kernel
theorem dX9_text_67 : decode cX9_text 67 = .ok (.invokevirtual 73, 3) := by decide +kernel
theorem dX9_text_70 : decode cX9_text 70 = .ok (.aload_n 0, 1) := by decide +kernel
theorem dX9_text_71 : decode cX9_text 71 = .ok (.getfield 45, 3) := by decide +kernel
theorem dX9_text_74 : decode cX9_text 74 = .ok (.invokevirtual 83, 3) := by decide +kernel
theorem dX9_text_77 : decode cX9_text 77 = .ok (.aload_n 0, 1) := by decide +kernel
theorem dX9_text_78 : decode cX9_text 78 = .ok (.getfield 52, 3) := by decide +kernel
theorem dX9_text_81 : decode cX9_text 81 = .ok (.invokevirtual 86, 3) := by decide +kernel
theorem dX9_text_84 : decode cX9_text 84 = .ok (.aload_n 0, 1) := by decide +kernel
theorem dX9_text_85 : decode cX9_text 85 = .ok (.getfield 61, 3) := by decide +kernel
theorem dX9_text_88 : decode cX9_text 88 = .ok (.invokevirtual 89, 3) := by decide +kernel
theorem dX9_text_9 : decode cX9_text 9 = .ok (.if_icmp .le 6, 3) := by decide +kernel
theorem dX9_text_91 : decode cX9_text 91 = .ok (.aload_n 0, 1) := by decide +kernel
theorem dX9_text_92 : decode cX9_text 92 = .ok (.getfield 36, 3) := by decide +kernel
theorem dX9_text_95 : decode cX9_text 95 = .ok (.getfield 79, 3) := by decide +kernel
theorem dX9_text_98 : decode cX9_text 98 = .ok (.ifCond .eq 7, 3) := by decide +kernel
set_option maxRecDepth 20000 in
theorem ggX9_text_X8_take : GoodIn wsX9_text wsX8_take := goodIn_r _ [15, 16, 17, 18, 19, 20, 14, 21, 22, 23, 24, 25, 26, 27, 28, 29, 30, 31, 320, 321, 322, 323, 324, 325, 326, 327, 328, 329, 330, 331, 332, 333, 334, 335, 336, 337, 338, 339, 340, 341] rfl (by decide +kernel)
set_option maxRecDepth 20000 in
theorem gX9_text_X8_take : GoodIn wsX9_text (wsV RX9 69 RX8 yX8_take wsX8_take) := goodIn_app (goodIn_of _ (by decide +kernel)) ggX9_text_X8_take
set_option maxRecDepth 20000 in
theorem ggX9_text_X0_clear : GoodIn wsX9_text wsX0_clear := goodIn_r _ [36, 37, 38, 39, 342, 343, 344] rfl (by decide +kernel)
set_option maxRecDepth 20000 in
theorem gX9_text_X0_clear : GoodIn wsX9_text (wsV RX9 73 RX0 yX0_clear wsX0_clear) := goodIn_app (goodIn_of _ (by decide +kernel)) ggX9_text_X0_clear
set_option maxRecDepth 20000 in
theorem ggX9_text_X7_scan : GoodIn wsX9_text wsX7_scan := goodIn_r _ [44, 45, 46, 47, 48, 49, 50, 51, 52, 53, 54, 55, 14, 56, 17, 16, 57, 58, 59, 43, 60, 61, 62, 63, 64, 65, 66, 67, 68, 69, 70, 71, 72, 73, 74, 75, 76, 77, 78, 79, 80, 81, 82, 83, 84, 85, 86, 87, 88, 89, 26, 23, 90, 91, 29, 24, 30, 92, 93, 94, 95, 96, 97, 98, 99, 100, 101, 102, 103, 104, 105, 106, 107, 108, 109, 110, 111, 112, 113, 114, 115, 116, 117, 118, 119, 120, 121, 122, 123, 124, 125, 126, 127, 128, 129, 130, 131, 132, 133, 134, 135, 136, 137, 138, 139, 140, 141, 142, 143, 144, 145, 146, 147, 148, 149, 150, 151, 152, 153, 154, 155, 156, 157, 158, 159, 160, 161, 162, 163, 164, 25, 165, 166, 167, 168, 22, 169, 170, 171, 172, 173, 174, 175, 176, 177, 28, 178, 179, 180, 181, 182, 183, 184, 185, 186, 187, 188, 189, 190, 191, 192, 193, 194, 195, 196, 197, 198, 199, 200, 201, 202, 203, 204, 205, 206, 207, 208, 209, 210, 211, 212, 213, 35, 214, 37, 38, 215, 216, 217, 218, 219, 220, 221, 222, 223, 224, 225, 226, 227, 228, 229, 230, 231, 232, 233, 234, 235, 236, 237, 31, 238, 239, 240, 241, 242, 243, 310, 311, 312, 313, 314, 315, 316, 317, 318, 319, 320, 321, 322, 323, 324, 325, 326, 327, 328, 329, 330, 331, 332, 333, 334, 335, 345, 346, 347, 348, 349, 350, 351, 352, 353, 354, 355, 356, 357, 358, 336, 337, 338, 339, 340, 341, 342, 343, 344] rfl (by decide +kernel)
set_option maxRecDepth 20000 in
theorem gX9_text_X7_scan : GoodIn wsX9_text (wsV RX9 76 RX7 yX7_scan wsX7_scan) := goodIn_app (goodIn_of _ (by decide +kernel)) ggX9_text_X7_scan
set_option maxRecDepth 20000 in
theorem ggX9_text_X3_gatherLeanings : GoodIn wsX9_text wsX3_gatherLeanings := goodIn_r _ [249, 250, 251, 252, 253, 254, 255, 256, 141, 257, 144, 258, 259, 260, 261, 143, 262, 263, 264, 265, 145, 266, 267, 268, 248, 269, 270, 271, 272, 273, 274, 275, 276, 277, 148, 278, 279, 280, 14, 281, 90, 91, 134, 135, 136, 137, 282, 283, 284, 285, 31, 238, 286, 287, 288, 289, 147, 359, 360, 361, 362, 363, 364, 320, 321, 322, 323, 324, 325, 326, 327, 328, 329, 330, 331, 332, 333, 334, 335, 336, 337, 338, 339, 340, 341, 352, 353, 354, 355, 356, 357, 358] rfl (by decide +kernel)
set_option maxRecDepth 20000 in
theorem gX9_text_X3_gatherLeanings : GoodIn wsX9_text (wsV RX9 83 RX3 yX3_gatherLeanings wsX3_gatherLeanings) := goodIn_app (goodIn_of _ (by decide +kernel)) ggX9_text_X3_gatherLeanings
set_option maxRecDepth 20000 in
theorem ggX9_text_X6_forget : GoodIn wsX9_text wsX6_forget := goodIn_r _ [294, 295, 365, 366, 367, 368, 369, 370] rfl (by decide +kernel)
set_option maxRecDepth 20000 in
theorem gX9_text_X6_forget : GoodIn wsX9_text (wsV RX9 86 RX6 yX6_forget wsX6_forget) := goodIn_app (goodIn_of _ (by decide +kernel)) ggX9_text_X6_forget
set_option maxRecDepth 20000 in
theorem ggX9_text_X5_forget : GoodIn wsX9_text wsX5_forget := goodIn_r _ [300, 301, 371, 372, 373, 374, 375, 376, 377, 378, 379, 380, 381, 382, 383] rfl (by decide +kernel)
set_option maxRecDepth 20000 in
theorem gX9_text_X5_forget : GoodIn wsX9_text (wsV RX9 89 RX5 yX5_forget wsX5_forget) := goodIn_app (goodIn_of _ (by decide +kernel)) ggX9_text_X5_forget
set_option maxRecDepth 20000 in
theorem ggX9_text_X8_clear : GoodIn wsX9_text wsX8_clear := goodIn_r _ [21, 17, 22, 23, 24, 25, 26, 27, 28, 29, 30, 31, 320, 321, 322, 323, 324, 325, 326, 327, 328, 329, 330, 331, 332, 333, 334, 335, 336, 337, 338, 339, 340, 341] rfl (by decide +kernel)
set_option maxRecDepth 20000 in
theorem gX9_text_X8_clear : GoodIn wsX9_text (wsV RX9 82 RX8 yX8_clear wsX8_clear) := goodIn_app (goodIn_of _ (by decide +kernel)) ggX9_text_X8_clear
