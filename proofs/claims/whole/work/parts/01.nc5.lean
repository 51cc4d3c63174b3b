theorem dX6_join_124 : decode cX6_join 124 = .ok (.imul, 1) := by decide +kernel
theorem dX6_join_125 : decode cX6_join 125 = .ok (.iload 5, 2) := by decide +kernel
theorem dX6_join_127 : decode cX6_join 127 = .ok (.iadd, 1) := by decide +kernel
theorem dX6_join_128 : decode cX6_join 128 = .ok (.iconst (-1), 1) := by decide +kernel
theorem dX6_join_129 : decode cX6_join 129 = .ok (.iastore, 1) := by decide +kernel
theorem dX6_join_130 : decode cX6_join 130 = .ok (.aload_n 0, 1) := by decide +kernel
theorem dX6_join_131 : decode cX6_join 131 = .ok (.iload_n 3, 1) := by decide +kernel
theorem dX6_join_132 : decode cX6_join 132 = .ok (.iload 5, 2) := by decide +kernel
theorem dX6_join_134 : decode cX6_join 134 = .ok (.iload 6, 2) := by decide +kernel
theorem dX6_join_136 : decode cX6_join 136 = .ok (.invokevirtual 86, 3) := by decide +kernel
theorem dX6_join_139 : decode cX6_join 139 = .ok (.iinc 5 1, 3) := by decide +kernel
theorem dX6_join_142 : decode cX6_join 142 = .ok (.goto (-53), 3) := by decide +kernel
theorem dX6_join_145 : decode cX6_join 145 = .ok (.goto (-145), 3) := by decide +kernel
theorem dX6_join_148 : decode cX6_join 148 = .ok (.iconst 0, 1) := by decide +kernel
theorem dX6_join_149 : decode cX6_join 149 = .ok (.istore_n 1, 1) := by decide +kernel
theorem dX6_join_150 : decode cX6_join 150 = .ok (.iload_n 1, 1) := by decide +kernel
theorem dX6_join_151 : decode cX6_join 151 = .ok (.aload_n 0, 1) := by decide +kernel
theorem dX6_join_152 : decode cX6_join 152 = .ok (.getfield 45, 3) := by decide +kernel
theorem dX6_join_155 : decode cX6_join 155 = .ok (.if_icmp .ge 69, 3) := by decide +kernel
theorem dX6_join_158 : decode cX6_join 158 = .ok (.iconst 0, 1) := by decide +kernel
theorem dX6_join_159 : decode cX6_join 159 = .ok (.istore_n 2, 1) := by decide +kernel
theorem dX6_join_160 : decode cX6_join 160 = .ok (.iload_n 2, 1) := by decide +kernel
theorem dX6_join_161 : decode cX6_join 161 = .ok (.bipush 6, 2) := by decide +kernel
theorem dX6_join_163 : decode cX6_join 163 = .ok (.if_icmp .ge 55, 3) := by decide +kernel
theorem dX6_join_166 : decode cX6_join 166 = .ok (.aload_n 0, 1) := by decide +kernel
theorem dX6_join_167 : decode cX6_join 167 = .ok (.getfield 16, 3) := by decide +kernel
theorem dX6_join_170 : decode cX6_join 170 = .ok (.iload_n 1, 1) := by decide +kernel
theorem dX6_join_171 : decode cX6_join 171 = .ok (.iaload, 1) := by decide +kernel
theorem dX6_join_172 : decode cX6_join 172 = .ok (.iload_n 1, 1) := by decide +kernel
theorem dX6_join_173 : decode cX6_join 173 = .ok (.if_icmp .ne 45, 3) := by decide +kernel
theorem dX6_join_176 : decode cX6_join 176 = .ok (.aload_n 0, 1) := by decide +kernel
theorem dX6_join_177 : decode cX6_join 177 = .ok (.getfield 19, 3) := by decide +kernel
theorem dX6_join_180 : decode cX6_join 180 = .ok (.bipush 6, 2) := by decide +kernel
theorem dX6_join_182 : decode cX6_join 182 = .ok (.iload_n 1, 1) := by decide +kernel
theorem dX6_join_183 : decode cX6_join 183 = .ok (.imul, 1) := by decide +kernel
theorem dX6_join_184 : decode cX6_join 184 = .ok (.iload_n 2, 1) := by decide +kernel
theorem dX6_join_185 : decode cX6_join 185 = .ok (.iadd, 1) := by decide +kernel
theorem dX6_join_186 : decode cX6_join 186 = .ok (.iaload, 1) := by decide +kernel
theorem dX6_join_187 : decode cX6_join 187 = .ok (.istore_n 3, 1) := by decide +kernel
theorem dX6_join_188 : decode cX6_join 188 = .ok (.aload_n 0, 1) := by decide +kernel
theorem dX6_join_189 : decode cX6_join 189 = .ok (.getfield 19, 3) := by decide +kernel
theorem dX6_join_192 : decode cX6_join 192 = .ok (.bipush 6, 2) := by decide +kernel
theorem dX6_join_194 : decode cX6_join 194 = .ok (.iload_n 1, 1) := by decide +kernel
theorem dX6_join_195 : decode cX6_join 195 = .ok (.imul, 1) := by decide +kernel
theorem dX6_join_196 : decode cX6_join 196 = .ok (.iload_n 2, 1) := by decide +kernel
theorem dX6_join_197 : decode cX6_join 197 = .ok (.iadd, 1) := by decide +kernel
theorem dX6_join_198 : decode cX6_join 198 = .ok (.iload_n 3, 1) := by decide +kernel
theorem dX6_join_199 : decode cX6_join 199 = .ok (.ifCond .ge 7, 3) := by decide +kernel
theorem dX6_join_202 : decode cX6_join 202 = .ok (.iconst (-1), 1) := by decide +kernel
theorem dX6_join_203 : decode cX6_join 203 = .ok (.goto 8, 3) := by decide +kernel
theorem dX6_join_206 : decode cX6_join 206 = .ok (.aload_n 0, 1) := by decide +kernel
theorem dX6_join_207 : decode cX6_join 207 = .ok (.iload_n 3, 1) := by decide +kernel
theorem dX6_join_208 : decode cX6_join 208 = .ok (.invokevirtual 75, 3) := by decide +kernel
theorem dX6_join_211 : decode cX6_join 211 = .ok (.iastore, 1) := by decide +kernel
theorem dX6_join_212 : decode cX6_join 212 = .ok (.iinc 2 1, 3) := by decide +kernel
theorem dX6_join_215 : decode cX6_join 215 = .ok (.goto (-55), 3) := by decide +kernel
theorem dX6_join_218 : decode cX6_join 218 = .ok (.iinc 1 1, 3) := by decide +kernel
theorem dX6_join_221 : decode cX6_join 221 = .ok (.goto (-71), 3) := by decide +kernel
theorem dX6_join_224 : decode cX6_join 224 = .ok (.return_, 1) := by decide +kernel
set_option maxRecDepth 20000 in
theorem ggX6_attempt_X6_pair : GoodIn wsX6_attempt wsX6_pair := goodIn_r _ [8, 9, 10, 11, 27, 28, 29, 30, 31, 32, 33, 34, 35, 36, 37, 38, 39, 40, 41, 42, 43] (by decide +kernel) (by decide +kernel)
set_option maxRecDepth 20000 in
theorem gX6_attempt_X6_pair : GoodIn wsX6_attempt (wsV RX6 82 RX6 yX6_pair wsX6_pair) := goodIn_app (goodIn_of _ (by decide +kernel)) ggX6_attempt_X6_pair
set_option maxRecDepth 20000 in
theorem ggX6_attempt_X6_join : GoodIn wsX6_attempt wsX6_join := goodIn_r _ [15, 10, 9, 11, 16, 17, 2, 18, 19, 20, 21, 7, 22, 23, 24, 25, 26, 4, 5, 6, 8, 27, 28, 29, 30, 31, 32, 33, 34, 35, 36, 37, 38, 39, 40, 41, 42, 43] (by decide +kernel) (by decide +kernel)
set_option maxRecDepth 20000 in
theorem gX6_attempt_X6_join : GoodIn wsX6_attempt (wsV RX6 90 RX6 yX6_join wsX6_join) := goodIn_app (goodIn_of _ (by decide +kernel)) ggX6_attempt_X6_join
set_option maxRecDepth 20000 in
theorem ggX6_attempt_X6_learn : GoodIn wsX6_attempt wsX6_learn := goodIn_r _ [26, 2, 17, 19, 20, 21, 7, 22, 16, 4, 5, 6, 8, 9, 10, 11, 27, 28, 29, 30, 31, 32, 33, 34, 35, 36, 37, 38, 39, 40, 41, 42, 43] (by decide +kernel) (by decide +kernel)
set_option maxRecDepth 20000 in
theorem gX6_attempt_X6_learn : GoodIn wsX6_attempt (wsV RX6 86 RX6 yX6_learn wsX6_learn) := goodIn_app (goodIn_of _ (by decide +kernel)) ggX6_attempt_X6_learn
theorem dX6_attempt_0 : decode cX6_attempt 0 = .ok (.aload_n 0, 1) := by decide +kernel
theorem dX6_attempt_1 : decode cX6_attempt 1 = .ok (.getfield 13, 3) := by decide +kernel
theorem dX6_attempt_4 : decode cX6_attempt 4 = .ok (.iload_n 1, 1) := by decide +kernel
theorem dX6_attempt_5 : decode cX6_attempt 5 = .ok (.iaload, 1) := by decide +kernel
theorem dX6_attempt_6 : decode cX6_attempt 6 = .ok (.istore_n 3, 1) := by decide +kernel
theorem dX6_attempt_7 : decode cX6_attempt 7 = .ok (.bipush 24, 2) := by decide +kernel
theorem dX6_attempt_9 : decode cX6_attempt 9 = .ok (.iload_n 1, 1) := by decide +kernel
theorem dX6_attempt_10 : decode cX6_attempt 10 = .ok (.imul, 1) := by decide +kernel
theorem dX6_attempt_11 : decode cX6_attempt 11 = .ok (.istore 4, 2) := by decide +kernel
theorem dX6_attempt_13 : decode cX6_attempt 13 = .ok (.iload_n 2, 1) := by decide +kernel
theorem dX6_attempt_14 : decode cX6_attempt 14 = .ok (.istore 5, 2) := by decide +kernel
theorem dX6_attempt_16 : decode cX6_attempt 16 = .ok (.iconst 0, 1) := by decide +kernel
theorem dX6_attempt_17 : decode cX6_attempt 17 = .ok (.istore 6, 2) := by decide +kernel
theorem dX6_attempt_19 : decode cX6_attempt 19 = .ok (.iload 6, 2) := by decide +kernel
theorem dX6_attempt_21 : decode cX6_attempt 21 = .ok (.iload_n 3, 1) := by decide +kernel
theorem dX6_attempt_22 : decode cX6_attempt 22 = .ok (.if_icmp .ge 56, 3) := by decide +kernel
theorem dX6_attempt_25 : decode cX6_attempt 25 = .ok (.aload_n 0, 1) := by decide +kernel
theorem dX6_attempt_26 : decode cX6_attempt 26 = .ok (.getfield 19, 3) := by decide +kernel
theorem dX6_attempt_29 : decode cX6_attempt 29 = .ok (.bipush 6, 2) := by decide +kernel
theorem dX6_attempt_31 : decode cX6_attempt 31 = .ok (.iload 5, 2) := by decide +kernel
theorem dX6_attempt_33 : decode cX6_attempt 33 = .ok (.imul, 1) := by decide +kernel
theorem dX6_attempt_34 : decode cX6_attempt 34 = .ok (.aload_n 0, 1) := by decide +kernel
theorem dX6_attempt_35 : decode cX6_attempt 35 = .ok (.getfield 7, 3) := by decide +kernel
theorem dX6_attempt_38 : decode cX6_attempt 38 = .ok (.iload 4, 2) := by decide +kernel
theorem dX6_attempt_40 : decode cX6_attempt 40 = .ok (.iload 6, 2) := by decide +kernel
theorem dX6_attempt_42 : decode cX6_attempt 42 = .ok (.iadd, 1) := by decide +kernel
theorem dX6_attempt_43 : decode cX6_attempt 43 = .ok (.iaload, 1) := by decide +kernel
theorem dX6_attempt_44 : decode cX6_attempt 44 = .ok (.iadd, 1) := by decide +kernel
theorem dX6_attempt_45 : decode cX6_attempt 45 = .ok (.iaload, 1) := by decide +kernel
theorem dX6_attempt_46 : decode cX6_attempt 46 = .ok (.ifCond .lt 32, 3) := by decide +kernel
theorem dX6_attempt_49 : decode cX6_attempt 49 = .ok (.aload_n 0, 1) := by decide +kernel
theorem dX6_attempt_50 : decode cX6_attempt 50 = .ok (.getfield 19, 3) := by decide +kernel
theorem dX6_attempt_53 : decode cX6_attempt 53 = .ok (.bipush 6, 2) := by decide +kernel
theorem dX6_attempt_55 : decode cX6_attempt 55 = .ok (.iload 5, 2) := by decide +kernel
theorem dX6_attempt_57 : decode cX6_attempt 57 = .ok (.imul, 1) := by decide +kernel
theorem dX6_attempt_58 : decode cX6_attempt 58 = .ok (.aload_n 0, 1) := by decide +kernel
theorem dX6_attempt_59 : decode cX6_attempt 59 = .ok (.getfield 7, 3) := by decide +kernel
theorem dX6_attempt_62 : decode cX6_attempt 62 = .ok (.iload 4, 2) := by decide +kernel
theorem dX6_attempt_64 : decode cX6_attempt 64 = .ok (.iload 6, 2) := by decide +kernel
theorem dX6_attempt_66 : decode cX6_attempt 66 = .ok (.iadd, 1) := by decide +kernel
theorem dX6_attempt_67 : decode cX6_attempt 67 = .ok (.iaload, 1) := by decide +kernel
theorem dX6_attempt_68 : decode cX6_attempt 68 = .ok (.iadd, 1) := by decide +kernel
theorem dX6_attempt_69 : decode cX6_attempt 69 = .ok (.iaload, 1) := by decide +kernel
theorem dX6_attempt_70 : decode cX6_attempt 70 = .ok (.istore 5, 2) := by decide +kernel
theorem dX6_attempt_72 : decode cX6_attempt 72 = .ok (.iinc 6 1, 3) := by decide +kernel
theorem dX6_attempt_75 : decode cX6_attempt 75 = .ok (.goto (-56), 3) := by decide +kernel
theorem dX6_attempt_78 : decode cX6_attempt 78 = .ok (.iload 6, 2) := by decide +kernel
theorem dX6_attempt_80 : decode cX6_attempt 80 = .ok (.iload_n 3, 1) := by decide +kernel
theorem dX6_attempt_81 : decode cX6_attempt 81 = .ok (.if_icmp .ne 21, 3) := by decide +kernel
theorem dX6_attempt_84 : decode cX6_attempt 84 = .ok (.iload 5, 2) := by decide +kernel
theorem dX6_attempt_86 : decode cX6_attempt 86 = .ok (.iload_n 2, 1) := by decide +kernel
theorem dX6_attempt_87 : decode cX6_attempt 87 = .ok (.if_icmp .eq 14, 3) := by decide +kernel
theorem dX6_attempt_90 : decode cX6_attempt 90 = .ok (.aload_n 0, 1) := by decide +kernel
theorem dX6_attempt_91 : decode cX6_attempt 91 = .ok (.iload 5, 2) := by decide +kernel
theorem dX6_attempt_93 : decode cX6_attempt 93 = .ok (.iload_n 2, 1) := by decide +kernel
theorem dX6_attempt_94 : decode cX6_attempt 94 = .ok (.invokevirtual 82, 3) := by decide +kernel
theorem dX6_attempt_97 : decode cX6_attempt 97 = .ok (.aload_n 0, 1) := by decide +kernel
theorem dX6_attempt_98 : decode cX6_attempt 98 = .ok (.invokevirtual 90, 3) := by decide +kernel
theorem dX6_attempt_101 : decode cX6_attempt 101 = .ok (.return_, 1) := by decide +kernel
theorem dX6_attempt_102 : decode cX6_attempt 102 = .ok (.iload_n 2, 1) := by decide +kernel
theorem dX6_attempt_103 : decode cX6_attempt 103 = .ok (.istore 7, 2) := by decide +kernel
theorem dX6_attempt_105 : decode cX6_attempt 105 = .ok (.iload_n 3, 1) := by decide +kernel
theorem dX6_attempt_106 : decode cX6_attempt 106 = .ok (.istore 8, 2) := by decide +kernel
theorem dX6_attempt_108 : decode cX6_attempt 108 = .ok (.iload 8, 2) := by decide +kernel
theorem dX6_attempt_110 : decode cX6_attempt 110 = .ok (.iload 6, 2) := by decide +kernel
theorem dX6_attempt_112 : decode cX6_attempt 112 = .ok (.iconst 1, 1) := by decide +kernel
theorem dX6_attempt_113 : decode cX6_attempt 113 = .ok (.iadd, 1) := by decide +kernel
theorem dX6_attempt_114 : decode cX6_attempt 114 = .ok (.if_icmp .le 64, 3) := by decide +kernel
theorem dX6_attempt_117 : decode cX6_attempt 117 = .ok (.aload_n 0, 1) := by decide +kernel
theorem dX6_attempt_118 : decode cX6_attempt 118 = .ok (.getfield 19, 3) := by decide +kernel
theorem dX6_attempt_121 : decode cX6_attempt 121 = .ok (.bipush 6, 2) := by decide +kernel
theorem dX6_attempt_123 : decode cX6_attempt 123 = .ok (.iload 7, 2) := by decide +kernel
theorem dX6_attempt_125 : decode cX6_attempt 125 = .ok (.imul, 1) := by decide +kernel
theorem dX6_attempt_126 : decode cX6_attempt 126 = .ok (.aload_n 0, 1) := by decide +kernel
theorem dX6_attempt_127 : decode cX6_attempt 127 = .ok (.getfield 7, 3) := by decide +kernel
theorem dX6_attempt_130 : decode cX6_attempt 130 = .ok (.iload 4, 2) := by decide +kernel
theorem dX6_attempt_132 : decode cX6_attempt 132 = .ok (.iload 8, 2) := by decide +kernel
theorem dX6_attempt_134 : decode cX6_attempt 134 = .ok (.iadd, 1) := by decide +kernel
theorem dX6_attempt_135 : decode cX6_attempt 135 = .ok (.iconst 1, 1) := by decide +kernel
theorem dX6_attempt_136 : decode cX6_attempt 136 = .ok (.isub, 1) := by decide +kernel
theorem dX6_attempt_137 : decode cX6_attempt 137 = .ok (.iaload, 1) := by decide +kernel
theorem dX6_attempt_138 : decode cX6_attempt 138 = .ok (.iconst 1, 1) := by decide +kernel
theorem dX6_attempt_139 : decode cX6_attempt 139 = .ok (.ixor, 1) := by decide +kernel
theorem dX6_attempt_140 : decode cX6_attempt 140 = .ok (.iadd, 1) := by decide +kernel
theorem dX6_attempt_141 : decode cX6_attempt 141 = .ok (.iaload, 1) := by decide +kernel
theorem dX6_attempt_142 : decode cX6_attempt 142 = .ok (.ifCond .lt 36, 3) := by decide +kernel
theorem dX6_attempt_145 : decode cX6_attempt 145 = .ok (.aload_n 0, 1) := by decide +kernel
theorem dX6_attempt_146 : decode cX6_attempt 146 = .ok (.getfield 19, 3) := by decide +kernel
theorem dX6_attempt_149 : decode cX6_attempt 149 = .ok (.bipush 6, 2) := by decide +kernel
theorem dX6_attempt_151 : decode cX6_attempt 151 = .ok (.iload 7, 2) := by decide +kernel
theorem dX6_attempt_153 : decode cX6_attempt 153 = .ok (.imul, 1) := by decide +kernel
theorem dX6_attempt_154 : decode cX6_attempt 154 = .ok (.aload_n 0, 1) := by decide +kernel
theorem dX6_attempt_155 : decode cX6_attempt 155 = .ok (.getfield 7, 3) := by decide +kernel
theorem dX6_attempt_158 : decode cX6_attempt 158 = .ok (.iload 4, 2) := by decide +kernel
theorem dX6_attempt_160 : decode cX6_attempt 160 = .ok (.iload 8, 2) := by decide +kernel
theorem dX6_attempt_162 : decode cX6_attempt 162 = .ok (.iadd, 1) := by decide +kernel
theorem dX6_attempt_163 : decode cX6_attempt 163 = .ok (.iconst 1, 1) := by decide +kernel
theorem dX6_attempt_164 : decode cX6_attempt 164 = .ok (.isub, 1) := by decide +kernel
theorem dX6_attempt_165 : decode cX6_attempt 165 = .ok (.iaload, 1) := by decide +kernel
theorem dX6_attempt_166 : decode cX6_attempt 166 = .ok (.iconst 1, 1) := by decide +kernel
theorem dX6_attempt_167 : decode cX6_attempt 167 = .ok (.ixor, 1) := by decide +kernel
theorem dX6_attempt_168 : decode cX6_attempt 168 = .ok (.iadd, 1) := by decide +kernel
theorem dX6_attempt_169 : decode cX6_attempt 169 = .ok (.iaload, 1) := by decide +kernel
theorem dX6_attempt_170 : decode cX6_attempt 170 = .ok (.istore 7, 2) := by decide +kernel
theorem dX6_attempt_172 : decode cX6_attempt 172 = .ok (.iinc 8 (-1), 3) := by decide +kernel
theorem dX6_attempt_175 : decode cX6_attempt 175 = .ok (.goto (-67), 3) := by decide +kernel
theorem dX6_attempt_178 : decode cX6_attempt 178 = .ok (.iload 8, 2) := by decide +kernel
theorem dX6_attempt_180 : decode cX6_attempt 180 = .ok (.iload 6, 2) := by decide +kernel
theorem dX6_attempt_182 : decode cX6_attempt 182 = .ok (.iconst 1, 1) := by decide +kernel
theorem dX6_attempt_183 : decode cX6_attempt 183 = .ok (.iadd, 1) := by decide +kernel
theorem dX6_attempt_184 : decode cX6_attempt 184 = .ok (.if_icmp .ne 25, 3) := by decide +kernel
theorem dX6_attempt_187 : decode cX6_attempt 187 = .ok (.aload_n 0, 1) := by decide +kernel
theorem dX6_attempt_188 : decode cX6_attempt 188 = .ok (.iload 5, 2) := by decide +kernel
theorem dX6_attempt_190 : decode cX6_attempt 190 = .ok (.aload_n 0, 1) := by decide +kernel
theorem dX6_attempt_191 : decode cX6_attempt 191 = .ok (.getfield 7, 3) := by decide +kernel
theorem dX6_attempt_194 : decode cX6_attempt 194 = .ok (.iload 4, 2) := by decide +kernel
theorem dX6_attempt_196 : decode cX6_attempt 196 = .ok (.iload 6, 2) := by decide +kernel
theorem dX6_attempt_198 : decode cX6_attempt 198 = .ok (.iadd, 1) := by decide +kernel
theorem dX6_attempt_199 : decode cX6_attempt 199 = .ok (.iaload, 1) := by decide +kernel
theorem dX6_attempt_200 : decode cX6_attempt 200 = .ok (.iload 7, 2) := by decide +kernel
theorem dX6_attempt_202 : decode cX6_attempt 202 = .ok (.invokevirtual 86, 3) := by decide +kernel
theorem dX6_attempt_205 : decode cX6_attempt 205 = .ok (.aload_n 0, 1) := by decide +kernel
theorem dX6_attempt_206 : decode cX6_attempt 206 = .ok (.invokevirtual 90, 3) := by decide +kernel
theorem dX6_attempt_209 : decode cX6_attempt 209 = .ok (.return_, 1) := by decide +kernel
set_option maxRecDepth 20000 in
theorem ggX6_follow_X6_attempt : GoodIn wsX6_follow wsX6_attempt := goodIn_r _ [10, 11, 12, 13, 14, 15, 16, 9, 17, 18, 19, 20, 21, 22, 23, 24, 4, 1, 2, 25, 26, 27, 28, 29, 30, 31, 32, 33, 34, 35, 36, 37, 38, 39, 40, 41, 42, 43, 44, 45, 46, 47, 48, 49] (by decide +kernel) (by decide +kernel)
set_option maxRecDepth 20000 in
theorem gX6_follow_X6_attempt : GoodIn wsX6_follow (wsV RX6 93 RX6 yX6_attempt wsX6_attempt) := goodIn_app (goodIn_of _ (by decide +kernel)) ggX6_follow_X6_attempt
theorem dX6_follow_0 : decode cX6_follow 0 = .ok (.aload_n 0, 1) := by decide +kernel
theorem dX6_follow_1 : decode cX6_follow 1 = .ok (.iconst 1, 1) := by decide +kernel
theorem dX6_follow_2 : decode cX6_follow 2 = .ok (.putfield 78, 3) := by decide +kernel
theorem dX6_follow_5 : decode cX6_follow 5 = .ok (.aload_n 0, 1) := by decide +kernel
theorem dX6_follow_6 : decode cX6_follow 6 = .ok (.getfield 78, 3) := by decide +kernel
theorem dX6_follow_9 : decode cX6_follow 9 = .ok (.ifCond .eq 84, 3) := by decide +kernel
theorem dX6_follow_12 : decode cX6_follow 12 = .ok (.aload_n 0, 1) := by decide +kernel
theorem dX6_follow_13 : decode cX6_follow 13 = .ok (.iconst 0, 1) := by decide +kernel
theorem dX6_follow_14 : decode cX6_follow 14 = .ok (.putfield 78, 3) := by decide +kernel
theorem dX6_follow_17 : decode cX6_follow 17 = .ok (.iconst 0, 1) := by decide +kernel
theorem dX6_follow_18 : decode cX6_follow 18 = .ok (.istore_n 1, 1) := by decide +kernel
theorem dX6_follow_19 : decode cX6_follow 19 = .ok (.iload_n 1, 1) := by decide +kernel
theorem dX6_follow_20 : decode cX6_follow 20 = .ok (.aload_n 0, 1) := by decide +kernel
theorem dX6_follow_21 : decode cX6_follow 21 = .ok (.getfield 45, 3) := by decide +kernel
theorem dX6_follow_24 : decode cX6_follow 24 = .ok (.if_icmp .ge 41, 3) := by decide +kernel
theorem dX6_follow_27 : decode cX6_follow 27 = .ok (.iconst 0, 1) := by decide +kernel
theorem dX6_follow_28 : decode cX6_follow 28 = .ok (.istore_n 2, 1) := by decide +kernel
theorem dX6_follow_29 : decode cX6_follow 29 = .ok (.iload_n 2, 1) := by decide +kernel
theorem dX6_follow_30 : decode cX6_follow 30 = .ok (.aload_n 0, 1) := by decide +kernel
theorem dX6_follow_31 : decode cX6_follow 31 = .ok (.getfield 52, 3) := by decide +kernel
theorem dX6_follow_34 : decode cX6_follow 34 = .ok (.if_icmp .ge 25, 3) := by decide +kernel
theorem dX6_follow_37 : decode cX6_follow 37 = .ok (.aload_n 0, 1) := by decide +kernel
theorem dX6_follow_38 : decode cX6_follow 38 = .ok (.getfield 16, 3) := by decide +kernel
theorem dX6_follow_41 : decode cX6_follow 41 = .ok (.iload_n 1, 1) := by decide +kernel
theorem dX6_follow_42 : decode cX6_follow 42 = .ok (.iaload, 1) := by decide +kernel
theorem dX6_follow_43 : decode cX6_follow 43 = .ok (.iload_n 1, 1) := by decide +kernel
theorem dX6_follow_44 : decode cX6_follow 44 = .ok (.if_icmp .ne 9, 3) := by decide +kernel
theorem dX6_follow_47 : decode cX6_follow 47 = .ok (.aload_n 0, 1) := by decide +kernel
theorem dX6_follow_48 : decode cX6_follow 48 = .ok (.iload_n 2, 1) := by decide +kernel
theorem dX6_follow_49 : decode cX6_follow 49 = .ok (.iload_n 1, 1) := by decide +kernel
theorem dX6_follow_50 : decode cX6_follow 50 = .ok (.invokevirtual 93, 3) := by decide +kernel
theorem dX6_follow_53 : decode cX6_follow 53 = .ok (.iinc 2 1, 3) := by decide +kernel
theorem dX6_follow_56 : decode cX6_follow 56 = .ok (.goto (-27), 3) := by decide +kernel
theorem dX6_follow_59 : decode cX6_follow 59 = .ok (.iinc 1 1, 3) := by decide +kernel
theorem dX6_follow_62 : decode cX6_follow 62 = .ok (.goto (-43), 3) := by decide +kernel
theorem dX6_follow_65 : decode cX6_follow 65 = .ok (.iconst 0, 1) := by decide +kernel
theorem dX6_follow_66 : decode cX6_follow 66 = .ok (.istore_n 1, 1) := by decide +kernel
theorem dX6_follow_67 : decode cX6_follow 67 = .ok (.iload_n 1, 1) := by decide +kernel
theorem dX6_follow_68 : decode cX6_follow 68 = .ok (.aload_n 0, 1) := by decide +kernel
theorem dX6_follow_69 : decode cX6_follow 69 = .ok (.getfield 55, 3) := by decide +kernel
theorem dX6_follow_72 : decode cX6_follow 72 = .ok (.if_icmp .ge 18, 3) := by decide +kernel
theorem dX6_follow_75 : decode cX6_follow 75 = .ok (.aload_n 0, 1) := by decide +kernel
theorem dX6_follow_76 : decode cX6_follow 76 = .ok (.bipush 10, 2) := by decide +kernel
theorem dX6_follow_78 : decode cX6_follow 78 = .ok (.iload_n 1, 1) := by decide +kernel
theorem dX6_follow_79 : decode cX6_follow 79 = .ok (.iadd, 1) := by decide +kernel
theorem dX6_follow_80 : decode cX6_follow 80 = .ok (.iconst 0, 1) := by decide +kernel
theorem dX6_follow_81 : decode cX6_follow 81 = .ok (.invokevirtual 93, 3) := by decide +kernel
theorem dX6_follow_84 : decode cX6_follow 84 = .ok (.iinc 1 1, 3) := by decide +kernel
theorem dX6_follow_87 : decode cX6_follow 87 = .ok (.goto (-20), 3) := by decide +kernel
theorem dX6_follow_90 : decode cX6_follow 90 = .ok (.goto (-85), 3) := by decide +kernel
theorem dX6_follow_93 : decode cX6_follow 93 = .ok (.return_, 1) := by decide +kernel
theorem dX6_open_0 : decode cX6_open 0 = .ok (.iconst 0, 1) := by decide +kernel
theorem dX6_open_1 : decode cX6_open 1 = .ok (.istore_n 1, 1) := by decide +kernel
theorem dX6_open_2 : decode cX6_open 2 = .ok (.iload_n 1, 1) := by decide +kernel
theorem dX6_open_3 : decode cX6_open 3 = .ok (.aload_n 0, 1) := by decide +kernel
theorem dX6_open_4 : decode cX6_open 4 = .ok (.getfield 45, 3) := by decide +kernel
theorem dX6_open_7 : decode cX6_open 7 = .ok (.if_icmp .ge 58, 3) := by decide +kernel
theorem dX6_open_10 : decode cX6_open 10 = .ok (.iconst 0, 1) := by decide +kernel
theorem dX6_open_11 : decode cX6_open 11 = .ok (.istore_n 2, 1) := by decide +kernel
theorem dX6_open_12 : decode cX6_open 12 = .ok (.iload_n 2, 1) := by decide +kernel
theorem dX6_open_13 : decode cX6_open 13 = .ok (.iconst 2, 1) := by decide +kernel
theorem dX6_open_14 : decode cX6_open 14 = .ok (.aload_n 0, 1) := by decide +kernel
theorem dX6_open_15 : decode cX6_open 15 = .ok (.getfield 49, 3) := by decide +kernel
theorem dX6_open_18 : decode cX6_open 18 = .ok (.imul, 1) := by decide +kernel
theorem dX6_open_19 : decode cX6_open 19 = .ok (.if_icmp .ge 40, 3) := by decide +kernel
theorem dX6_open_22 : decode cX6_open 22 = .ok (.aload_n 0, 1) := by decide +kernel
theorem dX6_open_23 : decode cX6_open 23 = .ok (.getfield 16, 3) := by decide +kernel
theorem dX6_open_26 : decode cX6_open 26 = .ok (.iload_n 1, 1) := by decide +kernel
theorem dX6_open_27 : decode cX6_open 27 = .ok (.iaload, 1) := by decide +kernel
theorem dX6_open_28 : decode cX6_open 28 = .ok (.iload_n 1, 1) := by decide +kernel
theorem dX6_open_29 : decode cX6_open 29 = .ok (.if_icmp .ne 24, 3) := by decide +kernel
theorem dX6_open_32 : decode cX6_open 32 = .ok (.aload_n 0, 1) := by decide +kernel
theorem dX6_open_33 : decode cX6_open 33 = .ok (.getfield 19, 3) := by decide +kernel
theorem dX6_open_36 : decode cX6_open 36 = .ok (.bipush 6, 2) := by decide +kernel
theorem dX6_open_38 : decode cX6_open 38 = .ok (.iload_n 1, 1) := by decide +kernel
theorem dX6_open_39 : decode cX6_open 39 = .ok (.imul, 1) := by decide +kernel
theorem dX6_open_40 : decode cX6_open 40 = .ok (.iload_n 2, 1) := by decide +kernel
theorem dX6_open_41 : decode cX6_open 41 = .ok (.iadd, 1) := by decide +kernel
theorem dX6_open_42 : decode cX6_open 42 = .ok (.iaload, 1) := by decide +kernel
theorem dX6_open_43 : decode cX6_open 43 = .ok (.ifCond .ge 10, 3) := by decide +kernel
theorem dX6_open_46 : decode cX6_open 46 = .ok (.bipush 6, 2) := by decide +kernel
theorem dX6_open_48 : decode cX6_open 48 = .ok (.iload_n 1, 1) := by decide +kernel
theorem dX6_open_49 : decode cX6_open 49 = .ok (.imul, 1) := by decide +kernel
theorem dX6_open_50 : decode cX6_open 50 = .ok (.iload_n 2, 1) := by decide +kernel
theorem dX6_open_51 : decode cX6_open 51 = .ok (.iadd, 1) := by decide +kernel
theorem dX6_open_52 : decode cX6_open 52 = .ok (.ireturn, 1) := by decide +kernel
theorem dX6_open_53 : decode cX6_open 53 = .ok (.iinc 2 1, 3) := by decide +kernel
theorem dX6_open_56 : decode cX6_open 56 = .ok (.goto (-44), 3) := by decide +kernel
theorem dX6_open_59 : decode cX6_open 59 = .ok (.iinc 1 1, 3) := by decide +kernel
theorem dX6_open_62 : decode cX6_open 62 = .ok (.goto (-60), 3) := by decide +kernel
theorem dX6_open_65 : decode cX6_open 65 = .ok (.iconst (-1), 1) := by decide +kernel
theorem dX6_open_66 : decode cX6_open 66 = .ok (.ireturn, 1) := by decide +kernel
set_option maxRecDepth 20000 in
theorem ggX6_run_X6_follow : GoodIn wsX6_run wsX6_follow := goodIn_r _ [7, 8, 1, 9, 2, 10, 11, 12, 13, 6, 14, 15, 16, 17, 18, 19, 20, 21, 22, 23, 24, 25, 26, 27, 28, 29, 30, 31, 32, 33, 34, 35, 36, 42, 43, 44, 45, 46, 47, 48, 49, 50, 51, 52, 53, 54, 55, 56, 57, 58] (by decide +kernel) (by decide +kernel)
set_option maxRecDepth 20000 in
theorem gX6_run_X6_follow : GoodIn wsX6_run (wsV RX6 96 RX6 yX6_follow wsX6_follow) := goodIn_app (goodIn_of _ (by decide +kernel)) ggX6_run_X6_follow
set_option maxRecDepth 20000 in
theorem ggX6_run_X6_open : GoodIn wsX6_run wsX6_open := goodIn_r _ [40, 1, 41, 2, 16, 42, 43, 44, 45, 46, 47, 48, 49, 50, 51, 52, 53, 54, 55, 56, 57, 58] (by decide +kernel) (by decide +kernel)
set_option maxRecDepth 20000 in
theorem gX6_run_X6_open : GoodIn wsX6_run (wsV RX6 99 RX6 yX6_open wsX6_open) := goodIn_app (goodIn_of _ (by decide +kernel)) ggX6_run_X6_open
set_option maxRecDepth 20000 in
theorem ggX6_run_X6_learn : GoodIn wsX6_run wsX6_learn := goodIn_r _ [36, 16, 8, 29, 30, 31, 6, 32, 2, 18, 19, 20, 21, 22, 23, 24, 42, 43, 44, 45, 46, 47, 48, 49, 50, 51, 52, 53, 54, 55, 56, 57, 58] (by decide +kernel) (by decide +kernel)
set_option maxRecDepth 20000 in
theorem gX6_run_X6_learn : GoodIn wsX6_run (wsV RX6 86 RX6 yX6_learn wsX6_learn) := goodIn_app (goodIn_of _ (by decide +kernel)) ggX6_run_X6_learn
theorem dX6_run_0 : decode cX6_run 0 = .ok (.iload_n 1, 1) := by decide +kernel
theorem dX6_run_1 : decode cX6_run 1 = .ok (.iconst 1, 1) := by decide +kernel
theorem dX6_run_2 : decode cX6_run 2 = .ok (.if_icmp .lt 10, 3) := by decide +kernel
theorem dX6_run_5 : decode cX6_run 5 = .ok (.iload_n 1, 1) := by decide +kernel
theorem dX6_run_6 : decode cX6_run 6 = .ok (.sipush 200, 3) := by decide +kernel
theorem dX6_run_9 : decode cX6_run 9 = .ok (.if_icmp .le 5, 3) := by decide +kernel
theorem dX6_run_12 : decode cX6_run 12 = .ok (.iconst (-1), 1) := by decide +kernel
theorem dX6_run_13 : decode cX6_run 13 = .ok (.ireturn, 1) := by decide +kernel
theorem dX6_run_14 : decode cX6_run 14 = .ok (.aload_n 0, 1) := by decide +kernel
theorem dX6_run_15 : decode cX6_run 15 = .ok (.invokevirtual 96, 3) := by decide +kernel
theorem dX6_run_18 : decode cX6_run 18 = .ok (.aload_n 0, 1) := by decide +kernel
theorem dX6_run_19 : decode cX6_run 19 = .ok (.invokevirtual 99, 3) := by decide +kernel
theorem dX6_run_22 : decode cX6_run 22 = .ok (.istore_n 2, 1) := by decide +kernel
theorem dX6_run_23 : decode cX6_run 23 = .ok (.iload_n 2, 1) := by decide +kernel
theorem dX6_run_24 : decode cX6_run 24 = .ok (.ifCond .lt 64, 3) := by decide +kernel
theorem dX6_run_27 : decode cX6_run 27 = .ok (.aload_n 0, 1) := by decide +kernel
theorem dX6_run_28 : decode cX6_run 28 = .ok (.getfield 45, 3) := by decide +kernel
theorem dX6_run_31 : decode cX6_run 31 = .ok (.iload_n 1, 1) := by decide +kernel
theorem dX6_run_32 : decode cX6_run 32 = .ok (.if_icmp .ge 56, 3) := by decide +kernel
theorem dX6_run_35 : decode cX6_run 35 = .ok (.aload_n 0, 1) := by decide +kernel
theorem dX6_run_36 : decode cX6_run 36 = .ok (.getfield 16, 3) := by decide +kernel
theorem dX6_run_39 : decode cX6_run 39 = .ok (.aload_n 0, 1) := by decide +kernel
theorem dX6_run_40 : decode cX6_run 40 = .ok (.getfield 45, 3) := by decide +kernel
theorem dX6_run_43 : decode cX6_run 43 = .ok (.aload_n 0, 1) := by decide +kernel
theorem dX6_run_44 : decode cX6_run 44 = .ok (.getfield 45, 3) := by decide +kernel
theorem dX6_run_47 : decode cX6_run 47 = .ok (.iastore, 1) := by decide +kernel
theorem dX6_run_48 : decode cX6_run 48 = .ok (.aload_n 0, 1) := by decide +kernel
theorem dX6_run_49 : decode cX6_run 49 = .ok (.dup, 1) := by decide +kernel
theorem dX6_run_50 : decode cX6_run 50 = .ok (.getfield 45, 3) := by decide +kernel
theorem dX6_run_53 : decode cX6_run 53 = .ok (.iconst 1, 1) := by decide +kernel
theorem dX6_run_54 : decode cX6_run 54 = .ok (.iadd, 1) := by decide +kernel
theorem dX6_run_55 : decode cX6_run 55 = .ok (.putfield 45, 3) := by decide +kernel
theorem dX6_run_58 : decode cX6_run 58 = .ok (.aload_n 0, 1) := by decide +kernel
theorem dX6_run_59 : decode cX6_run 59 = .ok (.iload_n 2, 1) := by decide +kernel
theorem dX6_run_60 : decode cX6_run 60 = .ok (.bipush 6, 2) := by decide +kernel
theorem dX6_run_62 : decode cX6_run 62 = .ok (.idiv, 1) := by decide +kernel
theorem dX6_run_63 : decode cX6_run 63 = .ok (.iload_n 2, 1) := by decide +kernel
theorem dX6_run_64 : decode cX6_run 64 = .ok (.bipush 6, 2) := by decide +kernel
theorem dX6_run_66 : decode cX6_run 66 = .ok (.irem, 1) := by decide +kernel
theorem dX6_run_67 : decode cX6_run 67 = .ok (.aload_n 0, 1) := by decide +kernel
theorem dX6_run_68 : decode cX6_run 68 = .ok (.getfield 45, 3) := by decide +kernel
theorem dX6_run_71 : decode cX6_run 71 = .ok (.iconst 1, 1) := by decide +kernel
theorem dX6_run_72 : decode cX6_run 72 = .ok (.isub, 1) := by decide +kernel
theorem dX6_run_73 : decode cX6_run 73 = .ok (.invokevirtual 86, 3) := by decide +kernel
theorem dX6_run_76 : decode cX6_run 76 = .ok (.aload_n 0, 1) := by decide +kernel
theorem dX6_run_77 : decode cX6_run 77 = .ok (.invokevirtual 96, 3) := by decide +kernel
theorem dX6_run_80 : decode cX6_run 80 = .ok (.aload_n 0, 1) := by decide +kernel
theorem dX6_run_81 : decode cX6_run 81 = .ok (.invokevirtual 99, 3) := by decide +kernel
theorem dX6_run_84 : decode cX6_run 84 = .ok (.istore_n 2, 1) := by decide +kernel
theorem dX6_run_85 : decode cX6_run 85 = .ok (.goto (-62), 3) := by decide +kernel
theorem dX6_run_88 : decode cX6_run 88 = .ok (.aload_n 0, 1) := by decide +kernel
theorem dX6_run_89 : decode cX6_run 89 = .ok (.getfield 45, 3) := by decide +kernel
theorem dX6_run_92 : decode cX6_run 92 = .ok (.ireturn, 1) := by decide +kernel
theorem dX6_cosets_0 : decode cX6_cosets 0 = .ok (.iconst 0, 1) := by decide +kernel
theorem dX6_cosets_1 : decode cX6_cosets 1 = .ok (.istore_n 1, 1) := by decide +kernel
theorem dX6_cosets_2 : decode cX6_cosets 2 = .ok (.iconst 0, 1) := by decide +kernel
theorem dX6_cosets_3 : decode cX6_cosets 3 = .ok (.istore_n 2, 1) := by decide +kernel
theorem dX6_cosets_4 : decode cX6_cosets 4 = .ok (.iload_n 2, 1) := by decide +kernel
theorem dX6_cosets_5 : decode cX6_cosets 5 = .ok (.aload_n 0, 1) := by decide +kernel
theorem dX6_cosets_6 : decode cX6_cosets 6 = .ok (.getfield 45, 3) := by decide +kernel
theorem dX6_cosets_9 : decode cX6_cosets 9 = .ok (.if_icmp .ge 27, 3) := by decide +kernel
theorem dX6_cosets_12 : decode cX6_cosets 12 = .ok (.iload_n 1, 1) := by decide +kernel
theorem dX6_cosets_13 : decode cX6_cosets 13 = .ok (.aload_n 0, 1) := by decide +kernel
theorem dX6_cosets_14 : decode cX6_cosets 14 = .ok (.getfield 16, 3) := by decide +kernel
theorem dX6_cosets_17 : decode cX6_cosets 17 = .ok (.iload_n 2, 1) := by decide +kernel
theorem dX6_cosets_18 : decode cX6_cosets 18 = .ok (.iaload, 1) := by decide +kernel
theorem dX6_cosets_19 : decode cX6_cosets 19 = .ok (.iload_n 2, 1) := by decide +kernel
theorem dX6_cosets_20 : decode cX6_cosets 20 = .ok (.if_icmp .ne 7, 3) := by decide +kernel
theorem dX6_cosets_23 : decode cX6_cosets 23 = .ok (.iconst 1, 1) := by decide +kernel
theorem dX6_cosets_24 : decode cX6_cosets 24 = .ok (.goto 4, 3) := by decide +kernel
theorem dX6_cosets_27 : decode cX6_cosets 27 = .ok (.iconst 0, 1) := by decide +kernel
theorem dX6_cosets_28 : decode cX6_cosets 28 = .ok (.iadd, 1) := by decide +kernel
theorem dX6_cosets_29 : decode cX6_cosets 29 = .ok (.istore_n 1, 1) := by decide +kernel
theorem dX6_cosets_30 : decode cX6_cosets 30 = .ok (.iinc 2 1, 3) := by decide +kernel
theorem dX6_cosets_33 : decode cX6_cosets 33 = .ok (.goto (-29), 3) := by decide +kernel
theorem dX6_cosets_36 : decode cX6_cosets 36 = .ok (.iload_n 1, 1) := by decide +kernel
theorem dX6_cosets_37 : decode cX6_cosets 37 = .ok (.ireturn, 1) := by decide +kernel
theorem dX6_unknown_0 : decode cX6_unknown 0 = .ok (.iconst 0, 1) := by decide +kernel
theorem dX6_unknown_1 : decode cX6_unknown 1 = .ok (.istore_n 1, 1) := by decide +kernel
theorem dX6_unknown_2 : decode cX6_unknown 2 = .ok (.iconst 0, 1) := by decide +kernel
theorem dX6_unknown_3 : decode cX6_unknown 3 = .ok (.istore_n 2, 1) := by decide +kernel
theorem dX6_unknown_4 : decode cX6_unknown 4 = .ok (.iload_n 2, 1) := by decide +kernel
theorem dX6_unknown_5 : decode cX6_unknown 5 = .ok (.aload_n 0, 1) := by decide +kernel
theorem dX6_unknown_6 : decode cX6_unknown 6 = .ok (.getfield 45, 3) := by decide +kernel
theorem dX6_unknown_9 : decode cX6_unknown 9 = .ok (.if_icmp .ge 59, 3) := by decide +kernel
theorem dX6_unknown_12 : decode cX6_unknown 12 = .ok (.iconst 0, 1) := by decide +kernel
theorem dX6_unknown_13 : decode cX6_unknown 13 = .ok (.istore_n 3, 1) := by decide +kernel
theorem dX6_unknown_14 : decode cX6_unknown 14 = .ok (.iload_n 3, 1) := by decide +kernel
theorem dX6_unknown_15 : decode cX6_unknown 15 = .ok (.iconst 2, 1) := by decide +kernel
theorem dX6_unknown_16 : decode cX6_unknown 16 = .ok (.aload_n 0, 1) := by decide +kernel
theorem dX6_unknown_17 : decode cX6_unknown 17 = .ok (.getfield 49, 3) := by decide +kernel
theorem dX6_unknown_20 : decode cX6_unknown 20 = .ok (.imul, 1) := by decide +kernel
theorem dX6_unknown_21 : decode cX6_unknown 21 = .ok (.if_icmp .ge 41, 3) := by decide +kernel
theorem dX6_unknown_24 : decode cX6_unknown 24 = .ok (.iload_n 1, 1) := by decide +kernel
theorem dX6_unknown_25 : decode cX6_unknown 25 = .ok (.aload_n 0, 1) := by decide +kernel
theorem dX6_unknown_26 : decode cX6_unknown 26 = .ok (.getfield 16, 3) := by decide +kernel
theorem dX6_unknown_29 : decode cX6_unknown 29 = .ok (.iload_n 2, 1) := by decide +kernel
theorem dX6_unknown_30 : decode cX6_unknown 30 = .ok (.iaload, 1) := by decide +kernel
theorem dX6_unknown_31 : decode cX6_unknown 31 = .ok (.iload_n 2, 1) := by decide +kernel
theorem dX6_unknown_32 : decode cX6_unknown 32 = .ok (.if_icmp .ne 21, 3) := by decide +kernel
theorem dX6_unknown_35 : decode cX6_unknown 35 = .ok (.aload_n 0, 1) := by decide +kernel
theorem dX6_unknown_36 : decode cX6_unknown 36 = .ok (.getfield 19, 3) := by decide +kernel
theorem dX6_unknown_39 : decode cX6_unknown 39 = .ok (.bipush 6, 2) := by decide +kernel
theorem dX6_unknown_41 : decode cX6_unknown 41 = .ok (.iload_n 2, 1) := by decide +kernel
theorem dX6_unknown_42 : decode cX6_unknown 42 = .ok (.imul, 1) := by decide +kernel
theorem dX6_unknown_43 : decode cX6_unknown 43 = .ok (.iload_n 3, 1) := by decide +kernel
theorem dX6_unknown_44 : decode cX6_unknown 44 = .ok (.iadd, 1) := by decide +kernel
theorem dX6_unknown_45 : decode cX6_unknown 45 = .ok (.iaload, 1) := by decide +kernel
theorem dX6_unknown_46 : decode cX6_unknown 46 = .ok (.ifCond .ge 7, 3) := by decide +kernel
theorem dX6_unknown_49 : decode cX6_unknown 49 = .ok (.iconst 1, 1) := by decide +kernel
theorem dX6_unknown_50 : decode cX6_unknown 50 = .ok (.goto 4, 3) := by decide +kernel
theorem dX6_unknown_53 : decode cX6_unknown 53 = .ok (.iconst 0, 1) := by decide +kernel
theorem dX6_unknown_54 : decode cX6_unknown 54 = .ok (.iadd, 1) := by decide +kernel
theorem dX6_unknown_55 : decode cX6_unknown 55 = .ok (.istore_n 1, 1) := by decide +kernel
theorem dX6_unknown_56 : decode cX6_unknown 56 = .ok (.iinc 3 1, 3) := by decide +kernel
theorem dX6_unknown_59 : decode cX6_unknown 59 = .ok (.goto (-45), 3) := by decide +kernel
theorem dX6_unknown_62 : decode cX6_unknown 62 = .ok (.iinc 2 1, 3) := by decide +kernel
theorem dX6_unknown_65 : decode cX6_unknown 65 = .ok (.goto (-61), 3) := by decide +kernel
theorem dX6_unknown_68 : decode cX6_unknown 68 = .ok (.iload_n 1, 1) := by decide +kernel
theorem dX6_unknown_69 : decode cX6_unknown 69 = .ok (.ireturn, 1) := by decide +kernel
set_option maxRecDepth 20000 in
theorem ggX6_isComplete_X6_open : GoodIn wsX6_isComplete wsX6_open := goodIn_r _ [5, 6, 7, 8, 9, 10, 11, 12, 13, 14, 15, 16, 17, 18, 19, 20, 21, 22, 23, 24, 25, 26] (by decide +kernel) (by decide +kernel)
set_option maxRecDepth 20000 in
theorem gX6_isComplete_X6_open : GoodIn wsX6_isComplete (wsV RX6 99 RX6 yX6_open wsX6_open) := goodIn_app (goodIn_of _ (by decide +kernel)) ggX6_isComplete_X6_open
theorem dX6_isComplete_0 : decode cX6_isComplete 0 = .ok (.aload_n 0, 1) := by decide +kernel
theorem dX6_isComplete_1 : decode cX6_isComplete 1 = .ok (.invokevirtual 99, 3) := by decide +kernel
theorem dX6_isComplete_4 : decode cX6_isComplete 4 = .ok (.ifCond .ge 7, 3) := by decide +kernel
theorem dX6_isComplete_7 : decode cX6_isComplete 7 = .ok (.iconst 1, 1) := by decide +kernel
theorem dX6_isComplete_8 : decode cX6_isComplete 8 = .ok (.goto 4, 3) := by decide +kernel
theorem dX6_isComplete_11 : decode cX6_isComplete 11 = .ok (.iconst 0, 1) := by decide +kernel
theorem dX6_isComplete_12 : decode cX6_isComplete 12 = .ok (.ireturn, 1) := by decide +kernel
set_option maxRecDepth 20000 in
theorem ggX6_count_X6_cosets : GoodIn wsX6_count wsX6_cosets := goodIn_r _ [9, 1, 10, 25, 26, 27, 28, 29, 30, 31, 32, 33, 34, 35, 36, 37, 38, 39, 40, 41] (by decide +kernel) (by decide +kernel)
set_option maxRecDepth 20000 in
theorem gX6_count_X6_cosets : GoodIn wsX6_count (wsV RX6 103 RX6 yX6_cosets wsX6_cosets) := goodIn_app (goodIn_of _ (by decide +kernel)) ggX6_count_X6_cosets
set_option maxRecDepth 20000 in
theorem ggX6_count_X6_unknown : GoodIn wsX6_count wsX6_unknown := goodIn_r _ [14, 1, 15, 10, 16, 25, 26, 27, 28, 29, 30, 31, 32, 33, 34, 35, 36, 37, 38, 39, 40, 41] (by decide +kernel) (by decide +kernel)
set_option maxRecDepth 20000 in
theorem gX6_count_X6_unknown : GoodIn wsX6_count (wsV RX6 106 RX6 yX6_unknown wsX6_unknown) := goodIn_app (goodIn_of _ (by decide +kernel)) ggX6_count_X6_unknown
set_option maxRecDepth 20000 in
theorem ggX6_count_X6_isComplete : GoodIn wsX6_count wsX6_isComplete := goodIn_r _ [20, 21, 22, 23, 8, 24, 1, 15, 10, 16, 25, 26, 27, 28, 29, 30, 31, 32, 33, 34, 35, 36, 37, 38, 39, 40, 41] (by decide +kernel) (by decide +kernel)
set_option maxRecDepth 20000 in
theorem gX6_count_X6_isComplete : GoodIn wsX6_count (wsV RX6 109 RX6 yX6_isComplete wsX6_isComplete) := goodIn_app (goodIn_of _ (by decide +kernel)) ggX6_count_X6_isComplete
theorem dX6_count_0 : decode cX6_count 0 = .ok (.iload_n 1, 1) := by decide +kernel
theorem dX6_count_1 : decode cX6_count 1 = .ok (.tableswitch 110 0 7 #[47, 52, 57, 62, 75, 92, 97, 102], 47) := by decide +kernel
theorem dX6_count_48 : decode cX6_count 48 = .ok (.aload_n 0, 1) := by decide +kernel
theorem dX6_count_49 : decode cX6_count 49 = .ok (.getfield 45, 3) := by decide +kernel
theorem dX6_count_52 : decode cX6_count 52 = .ok (.ireturn, 1) := by decide +kernel
theorem dX6_count_53 : decode cX6_count 53 = .ok (.aload_n 0, 1) := by decide +kernel
theorem dX6_count_54 : decode cX6_count 54 = .ok (.invokevirtual 103, 3) := by decide +kernel
theorem dX6_count_57 : decode cX6_count 57 = .ok (.ireturn, 1) := by decide +kernel
theorem dX6_count_58 : decode cX6_count 58 = .ok (.aload_n 0, 1) := by decide +kernel
theorem dX6_count_59 : decode cX6_count 59 = .ok (.invokevirtual 106, 3) := by decide +kernel
theorem dX6_count_62 : decode cX6_count 62 = .ok (.ireturn, 1) := by decide +kernel
theorem dX6_count_63 : decode cX6_count 63 = .ok (.aload_n 0, 1) := by decide +kernel
theorem dX6_count_64 : decode cX6_count 64 = .ok (.invokevirtual 109, 3) := by decide +kernel
theorem dX6_count_67 : decode cX6_count 67 = .ok (.ifCond .eq 7, 3) := by decide +kernel
theorem dX6_count_70 : decode cX6_count 70 = .ok (.iconst 1, 1) := by decide +kernel
theorem dX6_count_71 : decode cX6_count 71 = .ok (.goto 4, 3) := by decide +kernel
theorem dX6_count_74 : decode cX6_count 74 = .ok (.iconst 0, 1) := by decide +kernel
theorem dX6_count_75 : decode cX6_count 75 = .ok (.ireturn, 1) := by decide +kernel
theorem dX6_count_76 : decode cX6_count 76 = .ok (.aload_n 0, 1) := by decide +kernel
theorem dX6_count_77 : decode cX6_count 77 = .ok (.invokevirtual 109, 3) := by decide +kernel
theorem dX6_count_80 : decode cX6_count 80 = .ok (.ifCond .eq 10, 3) := by decide +kernel
theorem dX6_count_83 : decode cX6_count 83 = .ok (.aload_n 0, 1) := by decide +kernel
theorem dX6_count_84 : decode cX6_count 84 = .ok (.invokevirtual 103, 3) := by decide +kernel
theorem dX6_count_87 : decode cX6_count 87 = .ok (.goto 5, 3) := by decide +kernel
theorem dX6_count_90 : decode cX6_count 90 = .ok (.bipush (-2), 2) := by decide +kernel
theorem dX6_count_92 : decode cX6_count 92 = .ok (.ireturn, 1) := by decide +kernel
theorem dX6_count_93 : decode cX6_count 93 = .ok (.aload_n 0, 1) := by decide +kernel
theorem dX6_count_94 : decode cX6_count 94 = .ok (.getfield 52, 3) := by decide +kernel
theorem dX6_count_97 : decode cX6_count 97 = .ok (.ireturn, 1) := by decide +kernel
theorem dX6_count_98 : decode cX6_count 98 = .ok (.aload_n 0, 1) := by decide +kernel
theorem dX6_count_99 : decode cX6_count 99 = .ok (.getfield 55, 3) := by decide +kernel
theorem dX6_count_102 : decode cX6_count 102 = .ok (.ireturn, 1) := by decide +kernel
theorem dX6_count_103 : decode cX6_count 103 = .ok (.aload_n 0, 1) := by decide +kernel
theorem dX6_count_104 : decode cX6_count 104 = .ok (.getfield 13, 3) := by decide +kernel
