theorem dX10_part_0 : decode cX10_part 0 = .ok (.aload_n 0, 1) := by decide +kernel
theorem dX10_part_1 : decode cX10_part 1 = .ok (.invokevirtual 150, 3) := by decide +kernel
theorem dX10_part_101 : decode cX10_part 101 = .ok (.aload_n 0, 1) := by decide +kernel
theorem dX10_part_102 : decode cX10_part 102 = .ok (.dup, 1) := by decide +kernel
theorem dX10_part_103 : decode cX10_part 103 = .ok (.getfield 144, 3) := by decide +kernel
theorem dX10_part_106 : decode cX10_part 106 = .ok (.iconst 1, 1) := by decide +kernel
theorem dX10_part_107 : decode cX10_part 107 = .ok (.iadd, 1) := by decide +kernel
theorem dX10_part_108 : decode cX10_part 108 = .ok (.putfield 144, 3) := by decide +kernel
theorem dX10_part_111 : decode cX10_part 111 = .ok (.aload_n 0, 1) := by decide +kernel
theorem dX10_part_112 : decode cX10_part 112 = .ok (.invokevirtual 184, 3) := by decide +kernel
theorem dX10_part_115 : decode cX10_part 115 = .ok (.aload_n 0, 1) := by decide +kernel
theorem dX10_part_116 : decode cX10_part 116 = .ok (.invokevirtual 187, 3) := by decide +kernel
theorem dX10_part_119 : decode cX10_part 119 = .ok (.ifCond .ne 15, 3) := by decide +kernel
theorem dX10_part_12 : decode cX10_part 12 = .ok (.aload_n 0, 1) := by decide +kernel
theorem dX10_part_122 : decode cX10_part 122 = .ok (.aload_n 0, 1) := by decide +kernel
theorem dX10_part_123 : decode cX10_part 123 = .ok (.iconst 1, 1) := by decide +kernel
theorem dX10_part_124 : decode cX10_part 124 = .ok (.aload_n 0, 1) := by decide +kernel
theorem dX10_part_125 : decode cX10_part 125 = .ok (.getfield 144, 3) := by decide +kernel
theorem dX10_part_128 : decode cX10_part 128 = .ok (.invokevirtual 167, 3) := by decide +kernel
theorem dX10_part_13 : decode cX10_part 13 = .ok (.iconst 0, 1) := by decide +kernel
theorem dX10_part_131 : decode cX10_part 131 = .ok (.ifCond .eq 7, 3) := by decide +kernel
theorem dX10_part_134 : decode cX10_part 134 = .ok (.iconst 1, 1) := by decide +kernel
theorem dX10_part_135 : decode cX10_part 135 = .ok (.goto 4, 3) := by decide +kernel
theorem dX10_part_138 : decode cX10_part 138 = .ok (.iconst 0, 1) := by decide +kernel
theorem dX10_part_139 : decode cX10_part 139 = .ok (.ireturn, 1) := by decide +kernel
theorem dX10_part_14 : decode cX10_part 14 = .ok (.invokevirtual 197, 3) := by decide +kernel
theorem dX10_part_140 : decode cX10_part 140 = .ok (.aload_n 0, 1) := by decide +kernel
theorem dX10_part_141 : decode cX10_part 141 = .ok (.getfield 95, 3) := by decide +kernel
theorem dX10_part_144 : decode cX10_part 144 = .ok (.aload_n 0, 1) := by decide +kernel
theorem dX10_part_145 : decode cX10_part 145 = .ok (.getfield 200, 3) := by decide +kernel
theorem dX10_part_148 : decode cX10_part 148 = .ok (.aload_n 0, 1) := by decide +kernel
theorem dX10_part_149 : decode cX10_part 149 = .ok (.getfield 117, 3) := by decide +kernel
theorem dX10_part_152 : decode cX10_part 152 = .ok (.aload_n 0, 1) := by decide +kernel
theorem dX10_part_153 : decode cX10_part 153 = .ok (.getfield 174, 3) := by decide +kernel
theorem dX10_part_156 : decode cX10_part 156 = .ok (.iconst 1, 1) := by decide +kernel
theorem dX10_part_157 : decode cX10_part 157 = .ok (.isub, 1) := by decide +kernel
theorem dX10_part_158 : decode cX10_part 158 = .ok (.iaload, 1) := by decide +kernel
theorem dX10_part_159 : decode cX10_part 159 = .ok (.iastore, 1) := by decide +kernel
theorem dX10_part_160 : decode cX10_part 160 = .ok (.aload_n 0, 1) := by decide +kernel
theorem dX10_part_161 : decode cX10_part 161 = .ok (.dup, 1) := by decide +kernel
theorem dX10_part_162 : decode cX10_part 162 = .ok (.getfield 200, 3) := by decide +kernel
theorem dX10_part_165 : decode cX10_part 165 = .ok (.iconst 1, 1) := by decide +kernel
theorem dX10_part_166 : decode cX10_part 166 = .ok (.iadd, 1) := by decide +kernel
theorem dX10_part_167 : decode cX10_part 167 = .ok (.putfield 200, 3) := by decide +kernel
theorem dX10_part_17 : decode cX10_part 17 = .ok (.ireturn, 1) := by decide +kernel
theorem dX10_part_170 : decode cX10_part 170 = .ok (.aload_n 0, 1) := by decide +kernel
theorem dX10_part_171 : decode cX10_part 171 = .ok (.dup, 1) := by decide +kernel
theorem dX10_part_172 : decode cX10_part 172 = .ok (.getfield 144, 3) := by decide +kernel
theorem dX10_part_175 : decode cX10_part 175 = .ok (.iconst 1, 1) := by decide +kernel
theorem dX10_part_176 : decode cX10_part 176 = .ok (.iadd, 1) := by decide +kernel
theorem dX10_part_177 : decode cX10_part 177 = .ok (.putfield 144, 3) := by decide +kernel
theorem dX10_part_18 : decode cX10_part 18 = .ok (.iload_n 1, 1) := by decide +kernel
theorem dX10_part_180 : decode cX10_part 180 = .ok (.aload_n 0, 1) := by decide +kernel
theorem dX10_part_181 : decode cX10_part 181 = .ok (.aload_n 0, 1) := by decide +kernel
theorem dX10_part_182 : decode cX10_part 182 = .ok (.getfield 200, 3) := by decide +kernel
theorem dX10_part_185 : decode cX10_part 185 = .ok (.iconst 1, 1) := by decide +kernel
theorem dX10_part_186 : decode cX10_part 186 = .ok (.isub, 1) := by decide +kernel
theorem dX10_part_187 : decode cX10_part 187 = .ok (.iconst 1, 1) := by decide +kernel
theorem dX10_part_188 : decode cX10_part 188 = .ok (.invokevirtual 203, 3) := by decide +kernel
theorem dX10_part_19 : decode cX10_part 19 = .ok (.bipush 126, 2) := by decide +kernel
theorem dX10_part_191 : decode cX10_part 191 = .ok (.ireturn, 1) := by decide +kernel
theorem dX10_part_192 : decode cX10_part 192 = .ok (.aload_n 0, 1) := by decide +kernel
theorem dX10_part_193 : decode cX10_part 193 = .ok (.dup, 1) := by decide +kernel
theorem dX10_part_194 : decode cX10_part 194 = .ok (.getfield 144, 3) := by decide +kernel
theorem dX10_part_197 : decode cX10_part 197 = .ok (.iconst 1, 1) := by decide +kernel
theorem dX10_part_198 : decode cX10_part 198 = .ok (.iadd, 1) := by decide +kernel
theorem dX10_part_199 : decode cX10_part 199 = .ok (.putfield 144, 3) := by decide +kernel
theorem dX10_part_202 : decode cX10_part 202 = .ok (.iload_n 1, 1) := by decide +kernel
theorem dX10_part_203 : decode cX10_part 203 = .ok (.bipush 42, 2) := by decide +kernel
theorem dX10_part_205 : decode cX10_part 205 = .ok (.if_icmp .ne 11, 3) := by decide +kernel
theorem dX10_part_208 : decode cX10_part 208 = .ok (.aload_n 0, 1) := by decide +kernel
theorem dX10_part_209 : decode cX10_part 209 = .ok (.iconst 1, 1) := by decide +kernel
theorem dX10_part_21 : decode cX10_part 21 = .ok (.if_icmp .ne 20, 3) := by decide +kernel
theorem dX10_part_210 : decode cX10_part 210 = .ok (.invokevirtual 197, 3) := by decide +kernel
theorem dX10_part_213 : decode cX10_part 213 = .ok (.goto 21, 3) := by decide +kernel
theorem dX10_part_216 : decode cX10_part 216 = .ok (.iload_n 1, 1) := by decide +kernel
theorem dX10_part_217 : decode cX10_part 217 = .ok (.bipush 126, 2) := by decide +kernel
theorem dX10_part_219 : decode cX10_part 219 = .ok (.if_icmp .ne 11, 3) := by decide +kernel
theorem dX10_part_222 : decode cX10_part 222 = .ok (.aload_n 0, 1) := by decide +kernel
theorem dX10_part_223 : decode cX10_part 223 = .ok (.iconst 2, 1) := by decide +kernel
theorem dX10_part_224 : decode cX10_part 224 = .ok (.invokevirtual 197, 3) := by decide +kernel
theorem dX10_part_227 : decode cX10_part 227 = .ok (.goto 7, 3) := by decide +kernel
theorem dX10_part_230 : decode cX10_part 230 = .ok (.aload_n 0, 1) := by decide +kernel
theorem dX10_part_231 : decode cX10_part 231 = .ok (.invokevirtual 206, 3) := by decide +kernel
theorem dX10_part_234 : decode cX10_part 234 = .ok (.ireturn, 1) := by decide +kernel
theorem dX10_part_24 : decode cX10_part 24 = .ok (.aload_n 0, 1) := by decide +kernel
theorem dX10_part_25 : decode cX10_part 25 = .ok (.getfield 161, 3) := by decide +kernel
theorem dX10_part_28 : decode cX10_part 28 = .ok (.ifCond .ge 13, 3) := by decide +kernel
theorem dX10_part_31 : decode cX10_part 31 = .ok (.aload_n 0, 1) := by decide +kernel
theorem dX10_part_32 : decode cX10_part 32 = .ok (.iconst 3, 1) := by decide +kernel
theorem dX10_part_33 : decode cX10_part 33 = .ok (.aload_n 0, 1) := by decide +kernel
theorem dX10_part_34 : decode cX10_part 34 = .ok (.getfield 144, 3) := by decide +kernel
theorem dX10_part_37 : decode cX10_part 37 = .ok (.invokevirtual 167, 3) := by decide +kernel
theorem dX10_part_4 : decode cX10_part 4 = .ok (.istore_n 1, 1) := by decide +kernel
theorem dX10_part_40 : decode cX10_part 40 = .ok (.ireturn, 1) := by decide +kernel
theorem dX10_part_41 : decode cX10_part 41 = .ok (.iload_n 1, 1) := by decide +kernel
theorem dX10_part_42 : decode cX10_part 42 = .ok (.bipush 40, 2) := by decide +kernel
theorem dX10_part_44 : decode cX10_part 44 = .ok (.if_icmp .eq 9, 3) := by decide +kernel
theorem dX10_part_47 : decode cX10_part 47 = .ok (.iload_n 1, 1) := by decide +kernel
theorem dX10_part_48 : decode cX10_part 48 = .ok (.bipush 123, 2) := by decide +kernel
theorem dX10_part_5 : decode cX10_part 5 = .ok (.iload_n 1, 1) := by decide +kernel
theorem dX10_part_50 : decode cX10_part 50 = .ok (.if_icmp .ne 142, 3) := by decide +kernel
theorem dX10_part_53 : decode cX10_part 53 = .ok (.aload_n 0, 1) := by decide +kernel
theorem dX10_part_54 : decode cX10_part 54 = .ok (.getfield 174, 3) := by decide +kernel
theorem dX10_part_57 : decode cX10_part 57 = .ok (.iconst 5, 1) := by decide +kernel
theorem dX10_part_58 : decode cX10_part 58 = .ok (.if_icmp .ne 13, 3) := by decide +kernel
theorem dX10_part_6 : decode cX10_part 6 = .ok (.invokestatic 164, 3) := by decide +kernel
theorem dX10_part_61 : decode cX10_part 61 = .ok (.aload_n 0, 1) := by decide +kernel
theorem dX10_part_62 : decode cX10_part 62 = .ok (.iconst 2, 1) := by decide +kernel
theorem dX10_part_63 : decode cX10_part 63 = .ok (.aload_n 0, 1) := by decide +kernel
theorem dX10_part_64 : decode cX10_part 64 = .ok (.getfield 144, 3) := by decide +kernel
theorem dX10_part_67 : decode cX10_part 67 = .ok (.invokevirtual 167, 3) := by decide +kernel
theorem dX10_part_70 : decode cX10_part 70 = .ok (.ireturn, 1) := by decide +kernel
theorem dX10_part_71 : decode cX10_part 71 = .ok (.iload_n 1, 1) := by decide +kernel
theorem dX10_part_72 : decode cX10_part 72 = .ok (.bipush 40, 2) := by decide +kernel
theorem dX10_part_74 : decode cX10_part 74 = .ok (.if_icmp .ne 66, 3) := by decide +kernel
theorem dX10_part_77 : decode cX10_part 77 = .ok (.aload_n 0, 1) := by decide +kernel
theorem dX10_part_78 : decode cX10_part 78 = .ok (.iconst 1, 1) := by decide +kernel
theorem dX10_part_79 : decode cX10_part 79 = .ok (.iconst (-1), 1) := by decide +kernel
theorem dX10_part_80 : decode cX10_part 80 = .ok (.invokevirtual 191, 3) := by decide +kernel
theorem dX10_part_83 : decode cX10_part 83 = .ok (.ifCond .ne 5, 3) := by decide +kernel
theorem dX10_part_86 : decode cX10_part 86 = .ok (.iconst 0, 1) := by decide +kernel
theorem dX10_part_87 : decode cX10_part 87 = .ok (.ireturn, 1) := by decide +kernel
theorem dX10_part_88 : decode cX10_part 88 = .ok (.aload_n 0, 1) := by decide +kernel
theorem dX10_part_89 : decode cX10_part 89 = .ok (.iconst 2, 1) := by decide +kernel
theorem dX10_part_9 : decode cX10_part 9 = .ok (.ifCond .eq 9, 3) := by decide +kernel
theorem dX10_part_90 : decode cX10_part 90 = .ok (.aload_n 0, 1) := by decide +kernel
theorem dX10_part_91 : decode cX10_part 91 = .ok (.getfield 181, 3) := by decide +kernel
theorem dX10_part_94 : decode cX10_part 94 = .ok (.iconst 1, 1) := by decide +kernel
theorem dX10_part_95 : decode cX10_part 95 = .ok (.isub, 1) := by decide +kernel
theorem dX10_part_96 : decode cX10_part 96 = .ok (.iconst (-1), 1) := by decide +kernel
theorem dX10_part_97 : decode cX10_part 97 = .ok (.iconst 0, 1) := by decide +kernel
theorem dX10_part_98 : decode cX10_part 98 = .ok (.invokevirtual 194, 3) := by decide +kernel
set_option maxRecDepth 20000 in
theorem ggX10_part_X10_see : GoodIn wsX10_part wsX10_see := goodIn_r _ [12, 2, 13, 14, 77, 78, 79, 80, 81, 82, 83, 84, 85, 86, 87, 88, 89, 90, 91, 92, 93, 94, 95, 96, 97, 98, 99, 100, 101, 102, 103, 104, 105, 106, 107, 108, 109, 110, 111, 112, 113, 114, 115, 116, 117, 118, 119, 120, 121, 122, 123, 124, 125, 126, 127, 128, 129, 130, 131, 132, 133, 134, 135, 136, 137, 138, 139, 140, 141, 142] rfl (by decide +kernel)
set_option maxRecDepth 20000 in
theorem gX10_part_X10_see : GoodIn wsX10_part (wsV RX10 150 RX10 yX10_see wsX10_see) := goodIn_app (goodIn_of _ (by decide +kernel)) ggX10_part_X10_see
set_option maxRecDepth 20000 in
theorem ggX10_part_X10_isWord : GoodIn wsX10_part wsX10_isWord := goodIn_r _ [17, 18, 19, 11, 20] rfl (by decide +kernel)
set_option maxRecDepth 20000 in
theorem gX10_part_X10_isWord : GoodIn wsX10_part (va_wsS RX10 164 yX10_isWord wsX10_isWord) := goodIn_app (goodIn_of _ (by decide +kernel)) ggX10_part_X10_isWord
set_option maxRecDepth 20000 in
theorem ggX10_part_X10_item : GoodIn wsX10_part wsX10_item := goodIn_r _ [70, 2, 4, 59, 60, 61, 11, 62, 8, 9, 10, 12, 13, 14, 63, 64, 65, 66, 7, 15, 16, 17, 18, 19, 20, 28, 29, 30, 31, 32, 33, 43, 44, 45, 46, 47, 48, 3, 49, 50, 34, 35, 36, 37, 38, 26, 39, 40, 41, 42, 1, 51, 52, 53, 54, 55, 56, 27, 57, 58, 77, 78, 79, 80, 81, 82, 83, 84, 85, 86, 87, 88, 89, 90, 91, 92, 93, 94, 95, 96, 97, 98, 99, 100, 101, 102, 103, 104, 105, 106, 107, 108, 109, 110, 111, 112, 113, 114, 115, 116, 117, 118, 119, 120, 121, 122, 123, 124, 125, 126, 127, 128, 129, 130, 131, 132, 133, 134, 135, 136, 137, 138, 139, 140, 141, 142] rfl (by decide +kernel)
set_option maxRecDepth 20000 in
theorem gX10_part_X10_item : GoodIn wsX10_part (wsV RX10 203 RX10 yX10_item wsX10_item) := goodIn_app (goodIn_of _ (by decide +kernel)) ggX10_part_X10_item
set_option maxRecDepth 20000 in
theorem ggX10_part_X10_begins : GoodIn wsX10_part wsX10_begins := goodIn_r _ [46, 4, 2, 47, 48, 3, 7, 49, 50, 28, 29, 30, 11, 31, 32, 33, 77, 78, 79, 80, 81, 82, 83, 84, 85, 86, 87, 88, 89, 90, 91, 92, 93, 94, 95, 96, 97, 98, 99, 100, 101, 102, 103, 104, 105, 106, 107, 108, 109, 110, 111, 112, 113, 114, 115, 116, 117, 118, 119, 120, 121, 122, 123, 124, 125, 126, 127, 128, 129, 130, 131, 132, 133, 134, 135, 136, 137, 138, 139, 140, 141, 142] rfl (by decide +kernel)
set_option maxRecDepth 20000 in
theorem gX10_part_X10_begins : GoodIn wsX10_part (wsV RX10 191 RX10 yX10_begins wsX10_begins) := goodIn_app (goodIn_of _ (by decide +kernel)) ggX10_part_X10_begins
set_option maxRecDepth 20000 in
theorem ggX10_part_X10_opens : GoodIn wsX10_part wsX10_opens := goodIn_r _ [54, 55, 3, 56, 2, 27, 7, 57, 58, 77, 78, 79, 80, 81, 82, 83, 84, 85, 86, 87, 88, 89, 90, 91, 92, 93, 94, 95, 96, 97, 98, 99, 100, 101, 102, 103, 104, 105, 106, 107, 108, 109, 110, 111, 112, 113, 114, 115, 116, 117, 118, 119, 120, 121, 122, 123, 124, 125, 126, 127, 128, 129, 130, 131, 132, 133, 134, 135, 136, 137, 138, 139, 140, 141, 142] rfl (by decide +kernel)
set_option maxRecDepth 20000 in
theorem gX10_part_X10_opens : GoodIn wsX10_part (wsV RX10 194 RX10 yX10_opens wsX10_opens) := goodIn_app (goodIn_of _ (by decide +kernel)) ggX10_part_X10_opens
set_option maxRecDepth 20000 in
theorem ggX10_part_X10_blanks : GoodIn wsX10_part wsX10_blanks := goodIn_r _ [62, 2, 8, 9, 10, 11, 12, 13, 14, 77, 78, 79, 80, 81, 82, 83, 84, 85, 86, 87, 88, 89, 90, 91, 92, 93, 94, 95, 96, 97, 98, 99, 100, 101, 102, 103, 104, 105, 106, 107, 108, 109, 110, 111, 112, 113, 114, 115, 116, 117, 118, 119, 120, 121, 122, 123, 124, 125, 126, 127, 128, 129, 130, 131, 132, 133, 134, 135, 136, 137, 138, 139, 140, 141, 142] rfl (by decide +kernel)
set_option maxRecDepth 20000 in
theorem gX10_part_X10_blanks : GoodIn wsX10_part (wsV RX10 184 RX10 yX10_blanks wsX10_blanks) := goodIn_app (goodIn_of _ (by decide +kernel)) ggX10_part_X10_blanks
set_option maxRecDepth 20000 in
theorem ggX10_part_X10_canPart : GoodIn wsX10_part wsX10_canPart := goodIn_r _ [66, 7, 8, 9, 10, 11, 12, 2, 13, 14, 15, 16, 17, 18, 19, 20, 77, 78, 79, 80, 81, 82, 83, 84, 85, 86, 87, 88, 89, 90, 91, 92, 93, 94, 95, 96, 97, 98, 99, 100, 101, 102, 103, 104, 105, 106, 107, 108, 109, 110, 111, 112, 113, 114, 115, 116, 117, 118, 119, 120, 121, 122, 123, 124, 125, 126, 127, 128, 129, 130, 131, 132, 133, 134, 135, 136, 137, 138, 139, 140, 141, 142] rfl (by decide +kernel)
set_option maxRecDepth 20000 in
theorem gX10_part_X10_canPart : GoodIn wsX10_part (wsV RX10 187 RX10 yX10_canPart wsX10_canPart) := goodIn_app (goodIn_of _ (by decide +kernel)) ggX10_part_X10_canPart
set_option maxRecDepth 20000 in
theorem ggX10_part_X10_wrong : GoodIn wsX10_part wsX10_wrong := goodIn_r _ [31, 32, 33, 77, 78, 79, 80, 81, 82, 83, 84, 85, 86, 87, 88, 89, 90, 91, 92, 93, 94, 95, 96, 97, 98, 99, 100, 101, 102, 103, 104, 105, 106, 107, 108, 109, 110, 111, 112, 113, 114, 115, 116, 117, 118, 119, 120, 121, 122, 123, 124, 125, 126, 127, 128, 129, 130, 131, 132, 133, 134, 135, 136, 137, 138, 139, 140, 141, 142] rfl (by decide +kernel)
set_option maxRecDepth 20000 in
theorem gX10_part_X10_wrong : GoodIn wsX10_part (wsV RX10 167 RX10 yX10_wrong wsX10_wrong) := goodIn_app (goodIn_of _ (by decide +kernel)) ggX10_part_X10_wrong
set_option maxRecDepth 20000 in
theorem ggX10_part_X10_fact : GoodIn wsX10_part wsX10_fact := goodIn_r _ [74, 2, 7, 3, 50, 75, 76, 8, 9, 10, 11, 12, 13, 14, 28, 29, 30, 31, 32, 33, 77, 78, 79, 80, 81, 82, 83, 84, 85, 86, 87, 88, 89, 90, 91, 92, 93, 94, 95, 96, 97, 98, 99, 100, 101, 102, 103, 104, 105, 106, 107, 108, 109, 110, 111, 112, 113, 114, 115, 116, 117, 118, 119, 120, 121, 122, 123, 124, 125, 126, 127, 128, 129, 130, 131, 132, 133, 134, 135, 136, 137, 138, 139, 140, 141, 142] rfl (by decide +kernel)
set_option maxRecDepth 20000 in
theorem gX10_part_X10_fact : GoodIn wsX10_part (wsV RX10 206 RX10 yX10_fact wsX10_fact) := goodIn_app (goodIn_of _ (by decide +kernel)) ggX10_part_X10_fact
set_option maxRecDepth 20000 in
theorem ggX10_part_X10_word : GoodIn wsX10_part wsX10_word := goodIn_r _ [24, 2, 25, 7, 3, 26, 1, 27, 8, 9, 10, 11, 12, 13, 14, 15, 16, 17, 18, 19, 20, 28, 29, 30, 31, 32, 33, 34, 35, 36, 37, 38, 39, 40, 41, 42, 77, 78, 79, 80, 81, 82, 83, 84, 85, 86, 87, 88, 89, 90, 91, 92, 93, 94, 95, 96, 97, 98, 99, 100, 101, 102, 103, 104, 105, 106, 107, 108, 109, 110, 111, 112, 113, 114, 115, 116, 117, 118, 119, 120, 121, 122, 123, 124, 125, 126, 127, 128, 129, 130, 131, 132, 133, 134, 135, 136, 137, 138, 139, 140, 141, 142] rfl (by decide +kernel)
set_option maxRecDepth 20000 in
theorem gX10_part_X10_word : GoodIn wsX10_part (wsV RX10 197 RX10 yX10_word wsX10_word) := goodIn_app (goodIn_of _ (by decide +kernel)) ggX10_part_X10_word
