theorem dX10_fact_0 : decode cX10_fact 0 = .ok (.aload_n 0, 1) := by decide +kernel
theorem dX10_fact_1 : decode cX10_fact 1 = .ok (.getfield 144, 3) := by decide +kernel
theorem dX10_fact_100 : decode cX10_fact 100 = .ok (.iconst 1, 1) := by decide +kernel
theorem dX10_fact_101 : decode cX10_fact 101 = .ok (.aload_n 0, 1) := by decide +kernel
theorem dX10_fact_102 : decode cX10_fact 102 = .ok (.getfield 144, 3) := by decide +kernel
theorem dX10_fact_105 : decode cX10_fact 105 = .ok (.invokevirtual 167, 3) := by decide +kernel
theorem dX10_fact_108 : decode cX10_fact 108 = .ok (.ireturn, 1) := by decide +kernel
theorem dX10_fact_109 : decode cX10_fact 109 = .ok (.aload_n 0, 1) := by decide +kernel
theorem dX10_fact_11 : decode cX10_fact 11 = .ok (.bipush 48, 2) := by decide +kernel
theorem dX10_fact_110 : decode cX10_fact 110 = .ok (.dup, 1) := by decide +kernel
theorem dX10_fact_111 : decode cX10_fact 111 = .ok (.getfield 144, 3) := by decide +kernel
theorem dX10_fact_114 : decode cX10_fact 114 = .ok (.iconst 1, 1) := by decide +kernel
theorem dX10_fact_115 : decode cX10_fact 115 = .ok (.iadd, 1) := by decide +kernel
theorem dX10_fact_116 : decode cX10_fact 116 = .ok (.putfield 144, 3) := by decide +kernel
theorem dX10_fact_119 : decode cX10_fact 119 = .ok (.aload_n 0, 1) := by decide +kernel
theorem dX10_fact_120 : decode cX10_fact 120 = .ok (.getfield 117, 3) := by decide +kernel
theorem dX10_fact_123 : decode cX10_fact 123 = .ok (.aload_n 0, 1) := by decide +kernel
theorem dX10_fact_124 : decode cX10_fact 124 = .ok (.getfield 174, 3) := by decide +kernel
theorem dX10_fact_127 : decode cX10_fact 127 = .ok (.iconst 1, 1) := by decide +kernel
theorem dX10_fact_128 : decode cX10_fact 128 = .ok (.isub, 1) := by decide +kernel
theorem dX10_fact_129 : decode cX10_fact 129 = .ok (.iaload, 1) := by decide +kernel
theorem dX10_fact_13 : decode cX10_fact 13 = .ok (.if_icmp .lt 49, 3) := by decide +kernel
theorem dX10_fact_130 : decode cX10_fact 130 = .ok (.istore_n 3, 1) := by decide +kernel
theorem dX10_fact_131 : decode cX10_fact 131 = .ok (.iload_n 3, 1) := by decide +kernel
theorem dX10_fact_132 : decode cX10_fact 132 = .ok (.ifCond .lt 18, 3) := by decide +kernel
theorem dX10_fact_135 : decode cX10_fact 135 = .ok (.aload_n 0, 1) := by decide +kernel
theorem dX10_fact_136 : decode cX10_fact 136 = .ok (.getfield 92, 3) := by decide +kernel
theorem dX10_fact_139 : decode cX10_fact 139 = .ok (.iload_n 3, 1) := by decide +kernel
theorem dX10_fact_140 : decode cX10_fact 140 = .ok (.dup2, 1) := by decide +kernel
theorem dX10_fact_141 : decode cX10_fact 141 = .ok (.iaload, 1) := by decide +kernel
theorem dX10_fact_142 : decode cX10_fact 142 = .ok (.iconst 1, 1) := by decide +kernel
theorem dX10_fact_143 : decode cX10_fact 143 = .ok (.iload_n 2, 1) := by decide +kernel
theorem dX10_fact_144 : decode cX10_fact 144 = .ok (.ishl, 1) := by decide +kernel
theorem dX10_fact_145 : decode cX10_fact 145 = .ok (.ior, 1) := by decide +kernel
theorem dX10_fact_146 : decode cX10_fact 146 = .ok (.iastore, 1) := by decide +kernel
theorem dX10_fact_147 : decode cX10_fact 147 = .ok (.goto 18, 3) := by decide +kernel
theorem dX10_fact_150 : decode cX10_fact 150 = .ok (.aload_n 0, 1) := by decide +kernel
theorem dX10_fact_151 : decode cX10_fact 151 = .ok (.getfield 101, 3) := by decide +kernel
theorem dX10_fact_154 : decode cX10_fact 154 = .ok (.bipush (-2), 2) := by decide +kernel
theorem dX10_fact_156 : decode cX10_fact 156 = .ok (.iload_n 3, 1) := by decide +kernel
theorem dX10_fact_157 : decode cX10_fact 157 = .ok (.isub, 1) := by decide +kernel
theorem dX10_fact_158 : decode cX10_fact 158 = .ok (.dup2, 1) := by decide +kernel
theorem dX10_fact_159 : decode cX10_fact 159 = .ok (.iaload, 1) := by decide +kernel
theorem dX10_fact_16 : decode cX10_fact 16 = .ok (.aload_n 0, 1) := by decide +kernel
theorem dX10_fact_160 : decode cX10_fact 160 = .ok (.iconst 1, 1) := by decide +kernel
theorem dX10_fact_161 : decode cX10_fact 161 = .ok (.iload_n 2, 1) := by decide +kernel
theorem dX10_fact_162 : decode cX10_fact 162 = .ok (.ishl, 1) := by decide +kernel
theorem dX10_fact_163 : decode cX10_fact 163 = .ok (.ior, 1) := by decide +kernel
theorem dX10_fact_164 : decode cX10_fact 164 = .ok (.iastore, 1) := by decide +kernel
theorem dX10_fact_165 : decode cX10_fact 165 = .ok (.aload_n 0, 1) := by decide +kernel
theorem dX10_fact_166 : decode cX10_fact 166 = .ok (.getfield 104, 3) := by decide +kernel
theorem dX10_fact_169 : decode cX10_fact 169 = .ok (.iload_n 2, 1) := by decide +kernel
theorem dX10_fact_17 : decode cX10_fact 17 = .ok (.invokevirtual 150, 3) := by decide +kernel
theorem dX10_fact_170 : decode cX10_fact 170 = .ok (.dup2, 1) := by decide +kernel
theorem dX10_fact_171 : decode cX10_fact 171 = .ok (.iaload, 1) := by decide +kernel
theorem dX10_fact_172 : decode cX10_fact 172 = .ok (.iconst 1, 1) := by decide +kernel
theorem dX10_fact_173 : decode cX10_fact 173 = .ok (.iadd, 1) := by decide +kernel
theorem dX10_fact_174 : decode cX10_fact 174 = .ok (.iastore, 1) := by decide +kernel
theorem dX10_fact_175 : decode cX10_fact 175 = .ok (.iconst 1, 1) := by decide +kernel
theorem dX10_fact_176 : decode cX10_fact 176 = .ok (.ireturn, 1) := by decide +kernel
theorem dX10_fact_20 : decode cX10_fact 20 = .ok (.bipush 57, 2) := by decide +kernel
theorem dX10_fact_22 : decode cX10_fact 22 = .ok (.if_icmp .gt 40, 3) := by decide +kernel
theorem dX10_fact_25 : decode cX10_fact 25 = .ok (.iload_n 2, 1) := by decide +kernel
theorem dX10_fact_26 : decode cX10_fact 26 = .ok (.sipush 999, 3) := by decide +kernel
theorem dX10_fact_29 : decode cX10_fact 29 = .ok (.if_icmp .le 7, 3) := by decide +kernel
theorem dX10_fact_32 : decode cX10_fact 32 = .ok (.iload_n 2, 1) := by decide +kernel
theorem dX10_fact_33 : decode cX10_fact 33 = .ok (.goto 15, 3) := by decide +kernel
theorem dX10_fact_36 : decode cX10_fact 36 = .ok (.bipush 10, 2) := by decide +kernel
theorem dX10_fact_38 : decode cX10_fact 38 = .ok (.iload_n 2, 1) := by decide +kernel
theorem dX10_fact_39 : decode cX10_fact 39 = .ok (.imul, 1) := by decide +kernel
theorem dX10_fact_4 : decode cX10_fact 4 = .ok (.istore_n 1, 1) := by decide +kernel
theorem dX10_fact_40 : decode cX10_fact 40 = .ok (.aload_n 0, 1) := by decide +kernel
theorem dX10_fact_41 : decode cX10_fact 41 = .ok (.invokevirtual 150, 3) := by decide +kernel
theorem dX10_fact_44 : decode cX10_fact 44 = .ok (.iadd, 1) := by decide +kernel
theorem dX10_fact_45 : decode cX10_fact 45 = .ok (.bipush 48, 2) := by decide +kernel
theorem dX10_fact_47 : decode cX10_fact 47 = .ok (.isub, 1) := by decide +kernel
theorem dX10_fact_48 : decode cX10_fact 48 = .ok (.istore_n 2, 1) := by decide +kernel
theorem dX10_fact_49 : decode cX10_fact 49 = .ok (.aload_n 0, 1) := by decide +kernel
theorem dX10_fact_5 : decode cX10_fact 5 = .ok (.iconst 0, 1) := by decide +kernel
theorem dX10_fact_50 : decode cX10_fact 50 = .ok (.dup, 1) := by decide +kernel
theorem dX10_fact_51 : decode cX10_fact 51 = .ok (.getfield 144, 3) := by decide +kernel
theorem dX10_fact_54 : decode cX10_fact 54 = .ok (.iconst 1, 1) := by decide +kernel
theorem dX10_fact_55 : decode cX10_fact 55 = .ok (.iadd, 1) := by decide +kernel
theorem dX10_fact_56 : decode cX10_fact 56 = .ok (.putfield 144, 3) := by decide +kernel
theorem dX10_fact_59 : decode cX10_fact 59 = .ok (.goto (-52), 3) := by decide +kernel
theorem dX10_fact_6 : decode cX10_fact 6 = .ok (.istore_n 2, 1) := by decide +kernel
theorem dX10_fact_62 : decode cX10_fact 62 = .ok (.aload_n 0, 1) := by decide +kernel
theorem dX10_fact_63 : decode cX10_fact 63 = .ok (.getfield 144, 3) := by decide +kernel
theorem dX10_fact_66 : decode cX10_fact 66 = .ok (.iload_n 1, 1) := by decide +kernel
theorem dX10_fact_67 : decode cX10_fact 67 = .ok (.if_icmp .ne 10, 3) := by decide +kernel
theorem dX10_fact_7 : decode cX10_fact 7 = .ok (.aload_n 0, 1) := by decide +kernel
theorem dX10_fact_70 : decode cX10_fact 70 = .ok (.aload_n 0, 1) := by decide +kernel
theorem dX10_fact_71 : decode cX10_fact 71 = .ok (.iconst 1, 1) := by decide +kernel
theorem dX10_fact_72 : decode cX10_fact 72 = .ok (.iload_n 1, 1) := by decide +kernel
theorem dX10_fact_73 : decode cX10_fact 73 = .ok (.invokevirtual 167, 3) := by decide +kernel
theorem dX10_fact_76 : decode cX10_fact 76 = .ok (.ireturn, 1) := by decide +kernel
theorem dX10_fact_77 : decode cX10_fact 77 = .ok (.iload_n 2, 1) := by decide +kernel
theorem dX10_fact_78 : decode cX10_fact 78 = .ok (.bipush 30, 2) := by decide +kernel
theorem dX10_fact_8 : decode cX10_fact 8 = .ok (.invokevirtual 150, 3) := by decide +kernel
theorem dX10_fact_80 : decode cX10_fact 80 = .ok (.if_icmp .le 10, 3) := by decide +kernel
theorem dX10_fact_83 : decode cX10_fact 83 = .ok (.aload_n 0, 1) := by decide +kernel
theorem dX10_fact_84 : decode cX10_fact 84 = .ok (.iconst 2, 1) := by decide +kernel
theorem dX10_fact_85 : decode cX10_fact 85 = .ok (.iload_n 1, 1) := by decide +kernel
theorem dX10_fact_86 : decode cX10_fact 86 = .ok (.invokevirtual 167, 3) := by decide +kernel
theorem dX10_fact_89 : decode cX10_fact 89 = .ok (.ireturn, 1) := by decide +kernel
theorem dX10_fact_90 : decode cX10_fact 90 = .ok (.aload_n 0, 1) := by decide +kernel
theorem dX10_fact_91 : decode cX10_fact 91 = .ok (.invokevirtual 150, 3) := by decide +kernel
theorem dX10_fact_94 : decode cX10_fact 94 = .ok (.bipush 62, 2) := by decide +kernel
theorem dX10_fact_96 : decode cX10_fact 96 = .ok (.if_icmp .eq 13, 3) := by decide +kernel
theorem dX10_fact_99 : decode cX10_fact 99 = .ok (.aload_n 0, 1) := by decide +kernel
theorem dX10_word_0 : decode cX10_word 0 = .ok (.aload_n 0, 1) := by decide +kernel
theorem dX10_word_1 : decode cX10_word 1 = .ok (.getfield 144, 3) := by decide +kernel
theorem dX10_word_100 : decode cX10_word 100 = .ok (.isub, 1) := by decide +kernel
theorem dX10_word_101 : decode cX10_word 101 = .ok (.iaload, 1) := by decide +kernel
theorem dX10_word_102 : decode cX10_word 102 = .ok (.iload_n 2, 1) := by decide +kernel
theorem dX10_word_103 : decode cX10_word 103 = .ok (.aload_n 0, 1) := by decide +kernel
theorem dX10_word_104 : decode cX10_word 104 = .ok (.getfield 144, 3) := by decide +kernel
theorem dX10_word_107 : decode cX10_word 107 = .ok (.iload_n 2, 1) := by decide +kernel
theorem dX10_word_108 : decode cX10_word 108 = .ok (.isub, 1) := by decide +kernel
theorem dX10_word_109 : decode cX10_word 109 = .ok (.invokevirtual 177, 3) := by decide +kernel
theorem dX10_word_112 : decode cX10_word 112 = .ok (.iload_n 1, 1) := by decide +kernel
theorem dX10_word_113 : decode cX10_word 113 = .ok (.iconst 1, 1) := by decide +kernel
theorem dX10_word_114 : decode cX10_word 114 = .ok (.if_icmp .ne 13, 3) := by decide +kernel
theorem dX10_word_117 : decode cX10_word 117 = .ok (.aload_n 0, 1) := by decide +kernel
theorem dX10_word_118 : decode cX10_word 118 = .ok (.aload_n 0, 1) := by decide +kernel
theorem dX10_word_119 : decode cX10_word 119 = .ok (.getfield 158, 3) := by decide +kernel
theorem dX10_word_12 : decode cX10_word 12 = .ok (.ifCond .ne 10, 3) := by decide +kernel
theorem dX10_word_122 : decode cX10_word 122 = .ok (.iconst 1, 1) := by decide +kernel
theorem dX10_word_123 : decode cX10_word 123 = .ok (.isub, 1) := by decide +kernel
theorem dX10_word_124 : decode cX10_word 124 = .ok (.putfield 161, 3) := by decide +kernel
theorem dX10_word_127 : decode cX10_word 127 = .ok (.aload_n 0, 1) := by decide +kernel
theorem dX10_word_128 : decode cX10_word 128 = .ok (.getfield 113, 3) := by decide +kernel
theorem dX10_word_131 : decode cX10_word 131 = .ok (.aload_n 0, 1) := by decide +kernel
theorem dX10_word_132 : decode cX10_word 132 = .ok (.getfield 174, 3) := by decide +kernel
theorem dX10_word_135 : decode cX10_word 135 = .ok (.iconst 1, 1) := by decide +kernel
theorem dX10_word_136 : decode cX10_word 136 = .ok (.isub, 1) := by decide +kernel
theorem dX10_word_137 : decode cX10_word 137 = .ok (.iconst 1, 1) := by decide +kernel
theorem dX10_word_138 : decode cX10_word 138 = .ok (.bastore, 1) := by decide +kernel
theorem dX10_word_139 : decode cX10_word 139 = .ok (.iconst 1, 1) := by decide +kernel
theorem dX10_word_140 : decode cX10_word 140 = .ok (.ireturn, 1) := by decide +kernel
theorem dX10_word_15 : decode cX10_word 15 = .ok (.aload_n 0, 1) := by decide +kernel
theorem dX10_word_16 : decode cX10_word 16 = .ok (.iconst 1, 1) := by decide +kernel
theorem dX10_word_17 : decode cX10_word 17 = .ok (.iload_n 2, 1) := by decide +kernel
theorem dX10_word_18 : decode cX10_word 18 = .ok (.invokevirtual 167, 3) := by decide +kernel
theorem dX10_word_21 : decode cX10_word 21 = .ok (.ireturn, 1) := by decide +kernel
theorem dX10_word_22 : decode cX10_word 22 = .ok (.aload_n 0, 1) := by decide +kernel
theorem dX10_word_23 : decode cX10_word 23 = .ok (.invokevirtual 150, 3) := by decide +kernel
theorem dX10_word_26 : decode cX10_word 26 = .ok (.invokestatic 164, 3) := by decide +kernel
theorem dX10_word_29 : decode cX10_word 29 = .ok (.ifCond .eq 16, 3) := by decide +kernel
theorem dX10_word_32 : decode cX10_word 32 = .ok (.aload_n 0, 1) := by decide +kernel
theorem dX10_word_33 : decode cX10_word 33 = .ok (.dup, 1) := by decide +kernel
theorem dX10_word_34 : decode cX10_word 34 = .ok (.getfield 144, 3) := by decide +kernel
theorem dX10_word_37 : decode cX10_word 37 = .ok (.iconst 1, 1) := by decide +kernel
theorem dX10_word_38 : decode cX10_word 38 = .ok (.iadd, 1) := by decide +kernel
theorem dX10_word_39 : decode cX10_word 39 = .ok (.putfield 144, 3) := by decide +kernel
theorem dX10_word_4 : decode cX10_word 4 = .ok (.istore_n 2, 1) := by decide +kernel
theorem dX10_word_42 : decode cX10_word 42 = .ok (.goto (-20), 3) := by decide +kernel
theorem dX10_word_45 : decode cX10_word 45 = .ok (.aload_n 0, 1) := by decide +kernel
theorem dX10_word_46 : decode cX10_word 46 = .ok (.getfield 144, 3) := by decide +kernel
theorem dX10_word_49 : decode cX10_word 49 = .ok (.iload_n 2, 1) := by decide +kernel
theorem dX10_word_5 : decode cX10_word 5 = .ok (.aload_n 0, 1) := by decide +kernel
theorem dX10_word_50 : decode cX10_word 50 = .ok (.isub, 1) := by decide +kernel
theorem dX10_word_51 : decode cX10_word 51 = .ok (.bipush 20, 2) := by decide +kernel
theorem dX10_word_53 : decode cX10_word 53 = .ok (.if_icmp .le 10, 3) := by decide +kernel
theorem dX10_word_56 : decode cX10_word 56 = .ok (.aload_n 0, 1) := by decide +kernel
theorem dX10_word_57 : decode cX10_word 57 = .ok (.iconst 2, 1) := by decide +kernel
theorem dX10_word_58 : decode cX10_word 58 = .ok (.iload_n 2, 1) := by decide +kernel
theorem dX10_word_59 : decode cX10_word 59 = .ok (.invokevirtual 167, 3) := by decide +kernel
theorem dX10_word_6 : decode cX10_word 6 = .ok (.invokevirtual 150, 3) := by decide +kernel
theorem dX10_word_62 : decode cX10_word 62 = .ok (.ireturn, 1) := by decide +kernel
theorem dX10_word_63 : decode cX10_word 63 = .ok (.aload_n 0, 1) := by decide +kernel
theorem dX10_word_64 : decode cX10_word 64 = .ok (.getfield 171, 3) := by decide +kernel
theorem dX10_word_67 : decode cX10_word 67 = .ok (.bipush 40, 2) := by decide +kernel
theorem dX10_word_69 : decode cX10_word 69 = .ok (.if_icmp .ne 10, 3) := by decide +kernel
theorem dX10_word_72 : decode cX10_word 72 = .ok (.aload_n 0, 1) := by decide +kernel
theorem dX10_word_73 : decode cX10_word 73 = .ok (.iconst 2, 1) := by decide +kernel
theorem dX10_word_74 : decode cX10_word 74 = .ok (.iload_n 2, 1) := by decide +kernel
theorem dX10_word_75 : decode cX10_word 75 = .ok (.invokevirtual 167, 3) := by decide +kernel
theorem dX10_word_78 : decode cX10_word 78 = .ok (.ireturn, 1) := by decide +kernel
theorem dX10_word_79 : decode cX10_word 79 = .ok (.aload_n 0, 1) := by decide +kernel
theorem dX10_word_80 : decode cX10_word 80 = .ok (.dup, 1) := by decide +kernel
theorem dX10_word_81 : decode cX10_word 81 = .ok (.getfield 171, 3) := by decide +kernel
theorem dX10_word_84 : decode cX10_word 84 = .ok (.iconst 1, 1) := by decide +kernel
theorem dX10_word_85 : decode cX10_word 85 = .ok (.iadd, 1) := by decide +kernel
theorem dX10_word_86 : decode cX10_word 86 = .ok (.putfield 171, 3) := by decide +kernel
theorem dX10_word_89 : decode cX10_word 89 = .ok (.aload_n 0, 1) := by decide +kernel
theorem dX10_word_9 : decode cX10_word 9 = .ok (.invokestatic 164, 3) := by decide +kernel
theorem dX10_word_90 : decode cX10_word 90 = .ok (.iload_n 1, 1) := by decide +kernel
theorem dX10_word_91 : decode cX10_word 91 = .ok (.aload_n 0, 1) := by decide +kernel
theorem dX10_word_92 : decode cX10_word 92 = .ok (.getfield 117, 3) := by decide +kernel
theorem dX10_word_95 : decode cX10_word 95 = .ok (.aload_n 0, 1) := by decide +kernel
theorem dX10_word_96 : decode cX10_word 96 = .ok (.getfield 174, 3) := by decide +kernel
theorem dX10_word_99 : decode cX10_word 99 = .ok (.iconst 1, 1) := by decide +kernel
set_option maxRecDepth 20000 in
theorem ggX10_word_X10_see : GoodIn wsX10_word wsX10_see := goodIn_r _ [12, 1, 13, 14, 36, 37, 38, 39, 40, 41, 42, 43, 44, 45, 46, 47, 48, 49, 50, 51, 52, 53, 54, 55, 56, 57, 58, 59, 60, 61, 62, 63, 64, 65, 66, 67, 68, 69, 70, 71, 72, 73, 74, 75, 76, 77, 78, 79, 80, 81, 82, 83, 84, 85, 86, 87, 88, 89, 90, 91, 92, 93, 94, 95, 96, 97, 98, 99, 100, 101] rfl (by decide +kernel)
set_option maxRecDepth 20000 in
theorem gX10_word_X10_see : GoodIn wsX10_word (wsV RX10 150 RX10 yX10_see wsX10_see) := goodIn_app (goodIn_of _ (by decide +kernel)) ggX10_word_X10_see
set_option maxRecDepth 20000 in
theorem ggX10_word_X10_isWord : GoodIn wsX10_word wsX10_isWord := goodIn_r _ [17, 18, 19, 11, 20] rfl (by decide +kernel)
set_option maxRecDepth 20000 in
theorem gX10_word_X10_isWord : GoodIn wsX10_word (va_wsS RX10 164 yX10_isWord wsX10_isWord) := goodIn_app (goodIn_of _ (by decide +kernel)) ggX10_word_X10_isWord
set_option maxRecDepth 20000 in
theorem ggX10_word_X10_put : GoodIn wsX10_word wsX10_put := goodIn_r _ [30, 31, 5, 32, 33, 34, 35, 6, 36, 37, 38, 39, 40, 41, 42, 43, 44, 45, 46, 47, 48, 49, 50, 51, 52, 53, 54, 55, 56, 57, 58, 59, 60, 61, 62, 63, 64, 65, 66, 67, 68, 69, 70, 71, 72, 73, 74, 75, 76, 77, 78, 79, 80, 81, 82, 83, 84, 85, 86, 87, 88, 89, 90, 91, 92, 93, 94, 95, 96, 97, 98, 99, 100, 101] rfl (by decide +kernel)
set_option maxRecDepth 20000 in
theorem gX10_word_X10_put : GoodIn wsX10_word (wsV RX10 177 RX10 yX10_put wsX10_put) := goodIn_app (goodIn_of _ (by decide +kernel)) ggX10_word_X10_put
set_option maxRecDepth 20000 in
theorem ggX10_word_X10_wrong : GoodIn wsX10_word wsX10_wrong := goodIn_r _ [24, 25, 26, 36, 37, 38, 39, 40, 41, 42, 43, 44, 45, 46, 47, 48, 49, 50, 51, 52, 53, 54, 55, 56, 57, 58, 59, 60, 61, 62, 63, 64, 65, 66, 67, 68, 69, 70, 71, 72, 73, 74, 75, 76, 77, 78, 79, 80, 81, 82, 83, 84, 85, 86, 87, 88, 89, 90, 91, 92, 93, 94, 95, 96, 97, 98, 99, 100, 101] rfl (by decide +kernel)
set_option maxRecDepth 20000 in
theorem gX10_word_X10_wrong : GoodIn wsX10_word (wsV RX10 167 RX10 yX10_wrong wsX10_wrong) := goodIn_app (goodIn_of _ (by decide +kernel)) ggX10_word_X10_wrong
set_option maxRecDepth 20000 in
theorem ggX10_fact_X10_see : GoodIn wsX10_fact wsX10_see := goodIn_r _ [11, 1, 12, 13, 20, 21, 22, 23, 24, 25, 26, 27, 28, 29, 30, 31, 32, 33, 34, 35, 36, 37, 38, 39, 40, 41, 42, 43, 44, 45, 46, 47, 48, 49, 50, 51, 52, 53, 54, 55, 56, 57, 58, 59, 60, 61, 62, 63, 64, 65, 66, 67, 68, 69, 70, 71, 72, 73, 74, 75, 76, 77, 78, 79, 80, 81, 82, 83, 84, 85] rfl (by decide +kernel)
set_option maxRecDepth 20000 in
theorem gX10_fact_X10_see : GoodIn wsX10_fact (wsV RX10 150 RX10 yX10_see wsX10_see) := goodIn_app (goodIn_of _ (by decide +kernel)) ggX10_fact_X10_see
set_option maxRecDepth 20000 in
theorem ggX10_fact_X10_wrong : GoodIn wsX10_fact wsX10_wrong := goodIn_r _ [17, 18, 19, 20, 21, 22, 23, 24, 25, 26, 27, 28, 29, 30, 31, 32, 33, 34, 35, 36, 37, 38, 39, 40, 41, 42, 43, 44, 45, 46, 47, 48, 49, 50, 51, 52, 53, 54, 55, 56, 57, 58, 59, 60, 61, 62, 63, 64, 65, 66, 67, 68, 69, 70, 71, 72, 73, 74, 75, 76, 77, 78, 79, 80, 81, 82, 83, 84, 85] rfl (by decide +kernel)
set_option maxRecDepth 20000 in
theorem gX10_fact_X10_wrong : GoodIn wsX10_fact (wsV RX10 167 RX10 yX10_wrong wsX10_wrong) := goodIn_app (goodIn_of _ (by decide +kernel)) ggX10_fact_X10_wrong
