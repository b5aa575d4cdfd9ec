theorem dX10_item_0 : decode cX10_item 0 = .ok (.aload_n 0, 1) := by decide +kernel
theorem dX10_item_1 : decode cX10_item 1 = .ok (.invokevirtual 184, 3) := by decide +kernel
theorem dX10_item_11 : decode cX10_item 11 = .ok (.aload_n 0, 1) := by decide +kernel
theorem dX10_item_12 : decode cX10_item 12 = .ok (.iconst 1, 1) := by decide +kernel
theorem dX10_item_13 : decode cX10_item 13 = .ok (.aload_n 0, 1) := by decide +kernel
theorem dX10_item_14 : decode cX10_item 14 = .ok (.getfield 144, 3) := by decide +kernel
theorem dX10_item_17 : decode cX10_item 17 = .ok (.invokevirtual 167, 3) := by decide +kernel
theorem dX10_item_20 : decode cX10_item 20 = .ok (.ireturn, 1) := by decide +kernel
theorem dX10_item_21 : decode cX10_item 21 = .ok (.aload_n 0, 1) := by decide +kernel
theorem dX10_item_22 : decode cX10_item 22 = .ok (.iconst 2, 1) := by decide +kernel
theorem dX10_item_23 : decode cX10_item 23 = .ok (.iload_n 1, 1) := by decide +kernel
theorem dX10_item_24 : decode cX10_item 24 = .ok (.invokevirtual 191, 3) := by decide +kernel
theorem dX10_item_27 : decode cX10_item 27 = .ok (.ifCond .ne 5, 3) := by decide +kernel
theorem dX10_item_30 : decode cX10_item 30 = .ok (.iconst 0, 1) := by decide +kernel
theorem dX10_item_31 : decode cX10_item 31 = .ok (.ireturn, 1) := by decide +kernel
theorem dX10_item_32 : decode cX10_item 32 = .ok (.aload_n 0, 1) := by decide +kernel
theorem dX10_item_33 : decode cX10_item 33 = .ok (.iconst 3, 1) := by decide +kernel
theorem dX10_item_34 : decode cX10_item 34 = .ok (.aload_n 0, 1) := by decide +kernel
theorem dX10_item_35 : decode cX10_item 35 = .ok (.getfield 181, 3) := by decide +kernel
theorem dX10_item_38 : decode cX10_item 38 = .ok (.iconst 1, 1) := by decide +kernel
theorem dX10_item_39 : decode cX10_item 39 = .ok (.isub, 1) := by decide +kernel
theorem dX10_item_4 : decode cX10_item 4 = .ok (.aload_n 0, 1) := by decide +kernel
theorem dX10_item_40 : decode cX10_item 40 = .ok (.aload_n 0, 1) := by decide +kernel
theorem dX10_item_41 : decode cX10_item 41 = .ok (.getfield 144, 3) := by decide +kernel
theorem dX10_item_44 : decode cX10_item 44 = .ok (.iconst 0, 1) := by decide +kernel
theorem dX10_item_45 : decode cX10_item 45 = .ok (.invokevirtual 177, 3) := by decide +kernel
theorem dX10_item_48 : decode cX10_item 48 = .ok (.aload_n 0, 1) := by decide +kernel
theorem dX10_item_49 : decode cX10_item 49 = .ok (.iconst 3, 1) := by decide +kernel
theorem dX10_item_5 : decode cX10_item 5 = .ok (.invokevirtual 187, 3) := by decide +kernel
theorem dX10_item_50 : decode cX10_item 50 = .ok (.aload_n 0, 1) := by decide +kernel
theorem dX10_item_51 : decode cX10_item 51 = .ok (.getfield 181, 3) := by decide +kernel
theorem dX10_item_54 : decode cX10_item 54 = .ok (.iconst 1, 1) := by decide +kernel
theorem dX10_item_55 : decode cX10_item 55 = .ok (.isub, 1) := by decide +kernel
theorem dX10_item_56 : decode cX10_item 56 = .ok (.iload_n 1, 1) := by decide +kernel
theorem dX10_item_57 : decode cX10_item 57 = .ok (.iload_n 2, 1) := by decide +kernel
theorem dX10_item_58 : decode cX10_item 58 = .ok (.invokevirtual 194, 3) := by decide +kernel
theorem dX10_item_61 : decode cX10_item 61 = .ok (.iconst 1, 1) := by decide +kernel
theorem dX10_item_62 : decode cX10_item 62 = .ok (.ireturn, 1) := by decide +kernel
theorem dX10_item_8 : decode cX10_item 8 = .ok (.ifCond .ne 13, 3) := by decide +kernel
set_option maxRecDepth 20000 in
theorem ggX10_item_X10_blanks : GoodIn wsX10_item wsX10_blanks := goodIn_r _ [7, 1, 8, 9, 10, 6, 11, 12, 13, 60, 61, 62, 63, 64, 65, 66, 67, 68, 69, 70, 71, 72, 73, 74, 75, 76, 77, 78, 79, 80, 81, 82, 83, 84, 85, 86, 87, 88, 89, 90, 91, 92, 93, 94, 95, 96, 97, 98, 99, 100, 101, 102, 103, 104, 105, 106, 107, 108, 109, 110, 111, 112, 113, 114, 115, 116, 117, 118, 119, 120, 121, 122, 123, 124, 125] rfl (by decide +kernel)
set_option maxRecDepth 20000 in
theorem gX10_item_X10_blanks : GoodIn wsX10_item (wsV RX10 184 RX10 yX10_blanks wsX10_blanks) := goodIn_app (goodIn_of _ (by decide +kernel)) ggX10_item_X10_blanks
set_option maxRecDepth 20000 in
theorem ggX10_item_X10_canPart : GoodIn wsX10_item wsX10_canPart := goodIn_r _ [17, 18, 8, 9, 10, 6, 11, 1, 12, 13, 19, 20, 21, 22, 23, 24, 60, 61, 62, 63, 64, 65, 66, 67, 68, 69, 70, 71, 72, 73, 74, 75, 76, 77, 78, 79, 80, 81, 82, 83, 84, 85, 86, 87, 88, 89, 90, 91, 92, 93, 94, 95, 96, 97, 98, 99, 100, 101, 102, 103, 104, 105, 106, 107, 108, 109, 110, 111, 112, 113, 114, 115, 116, 117, 118, 119, 120, 121, 122, 123, 124, 125] rfl (by decide +kernel)
set_option maxRecDepth 20000 in
theorem gX10_item_X10_canPart : GoodIn wsX10_item (wsV RX10 187 RX10 yX10_canPart wsX10_canPart) := goodIn_app (goodIn_of _ (by decide +kernel)) ggX10_item_X10_canPart
set_option maxRecDepth 20000 in
theorem ggX10_item_X10_begins : GoodIn wsX10_item wsX10_begins := goodIn_r _ [34, 2, 1, 35, 36, 37, 18, 38, 39, 25, 26, 27, 6, 28, 29, 30, 60, 61, 62, 63, 64, 65, 66, 67, 68, 69, 70, 71, 72, 73, 74, 75, 76, 77, 78, 79, 80, 81, 82, 83, 84, 85, 86, 87, 88, 89, 90, 91, 92, 93, 94, 95, 96, 97, 98, 99, 100, 101, 102, 103, 104, 105, 106, 107, 108, 109, 110, 111, 112, 113, 114, 115, 116, 117, 118, 119, 120, 121, 122, 123, 124, 125] rfl (by decide +kernel)
set_option maxRecDepth 20000 in
theorem gX10_item_X10_begins : GoodIn wsX10_item (wsV RX10 191 RX10 yX10_begins wsX10_begins) := goodIn_app (goodIn_of _ (by decide +kernel)) ggX10_item_X10_begins
set_option maxRecDepth 20000 in
theorem ggX10_item_X10_put : GoodIn wsX10_item wsX10_put := goodIn_r _ [43, 44, 45, 46, 47, 48, 49, 50, 60, 61, 62, 63, 64, 65, 66, 67, 68, 69, 70, 71, 72, 73, 74, 75, 76, 77, 78, 79, 80, 81, 82, 83, 84, 85, 86, 87, 88, 89, 90, 91, 92, 93, 94, 95, 96, 97, 98, 99, 100, 101, 102, 103, 104, 105, 106, 107, 108, 109, 110, 111, 112, 113, 114, 115, 116, 117, 118, 119, 120, 121, 122, 123, 124, 125] rfl (by decide +kernel)
set_option maxRecDepth 20000 in
theorem gX10_item_X10_put : GoodIn wsX10_item (wsV RX10 177 RX10 yX10_put wsX10_put) := goodIn_app (goodIn_of _ (by decide +kernel)) ggX10_item_X10_put
set_option maxRecDepth 20000 in
theorem ggX10_item_X10_opens : GoodIn wsX10_item wsX10_opens := goodIn_r _ [54, 55, 37, 56, 1, 57, 18, 58, 59, 60, 61, 62, 63, 64, 65, 66, 67, 68, 69, 70, 71, 72, 73, 74, 75, 76, 77, 78, 79, 80, 81, 82, 83, 84, 85, 86, 87, 88, 89, 90, 91, 92, 93, 94, 95, 96, 97, 98, 99, 100, 101, 102, 103, 104, 105, 106, 107, 108, 109, 110, 111, 112, 113, 114, 115, 116, 117, 118, 119, 120, 121, 122, 123, 124, 125] rfl (by decide +kernel)
set_option maxRecDepth 20000 in
theorem gX10_item_X10_opens : GoodIn wsX10_item (wsV RX10 194 RX10 yX10_opens wsX10_opens) := goodIn_app (goodIn_of _ (by decide +kernel)) ggX10_item_X10_opens
set_option maxRecDepth 20000 in
theorem ggX10_item_X10_wrong : GoodIn wsX10_item wsX10_wrong := goodIn_r _ [28, 29, 30, 60, 61, 62, 63, 64, 65, 66, 67, 68, 69, 70, 71, 72, 73, 74, 75, 76, 77, 78, 79, 80, 81, 82, 83, 84, 85, 86, 87, 88, 89, 90, 91, 92, 93, 94, 95, 96, 97, 98, 99, 100, 101, 102, 103, 104, 105, 106, 107, 108, 109, 110, 111, 112, 113, 114, 115, 116, 117, 118, 119, 120, 121, 122, 123, 124, 125] rfl (by decide +kernel)
set_option maxRecDepth 20000 in
theorem gX10_item_X10_wrong : GoodIn wsX10_item (wsV RX10 167 RX10 yX10_wrong wsX10_wrong) := goodIn_app (goodIn_of _ (by decide +kernel)) ggX10_item_X10_wrong
