theorem dX6_resting_50 : decode cX6_resting 50 = .ok (.if_icmp .ne 7, 3) := by decide +kernel
theorem dX6_resting_53 : decode cX6_resting 53 = .ok (.iconst 1, 1) := by decide +kernel
theorem dX6_resting_54 : decode cX6_resting 54 = .ok (.goto 4, 3) := by decide +kernel
theorem dX6_resting_57 : decode cX6_resting 57 = .ok (.iconst 0, 1) := by decide +kernel
theorem dX6_resting_58 : decode cX6_resting 58 = .ok (.istore_n 3, 1) := by decide +kernel
theorem dX6_resting_59 : decode cX6_resting 59 = .ok (.iinc 4 1, 3) := by decide +kernel
theorem dX6_resting_62 : decode cX6_resting 62 = .ok (.goto (-36), 3) := by decide +kernel
theorem dX6_resting_65 : decode cX6_resting 65 = .ok (.iload_n 1, 1) := by decide +kernel
theorem dX6_resting_66 : decode cX6_resting 66 = .ok (.iload_n 3, 1) := by decide +kernel
theorem dX6_resting_67 : decode cX6_resting 67 = .ok (.ifCond .eq 7, 3) := by decide +kernel
theorem dX6_resting_70 : decode cX6_resting 70 = .ok (.iconst 1, 1) := by decide +kernel
theorem dX6_resting_71 : decode cX6_resting 71 = .ok (.goto 4, 3) := by decide +kernel
theorem dX6_resting_74 : decode cX6_resting 74 = .ok (.iconst 0, 1) := by decide +kernel
theorem dX6_resting_75 : decode cX6_resting 75 = .ok (.iadd, 1) := by decide +kernel
theorem dX6_resting_76 : decode cX6_resting 76 = .ok (.istore_n 1, 1) := by decide +kernel
theorem dX6_resting_77 : decode cX6_resting 77 = .ok (.iinc 2 1, 3) := by decide +kernel
theorem dX6_resting_80 : decode cX6_resting 80 = .ok (.goto (-67), 3) := by decide +kernel
theorem dX6_resting_83 : decode cX6_resting 83 = .ok (.iload_n 1, 1) := by decide +kernel
theorem dX6_resting_84 : decode cX6_resting 84 = .ok (.ireturn, 1) := by decide +kernel
set_option maxRecDepth 20000 in
theorem ggX6_orbit_X6_numberAll : GoodIn wsX6_orbit wsX6_numberAll := goodIn_r _ [8, 9, 10, 1, 11, 12, 13, 14, 15, 7, 16, 17, 18, 19, 20, 21, 22, 33, 34, 35, 36, 37, 38, 39, 40, 41, 42, 43, 44, 45, 46, 47, 48, 49] (by decide +kernel) (by decide +kernel)
set_option maxRecDepth 20000 in
theorem gX6_orbit_X6_numberAll : GoodIn wsX6_orbit (wsV RX6 119 RX6 yX6_numberAll wsX6_numberAll) := goodIn_app (goodIn_of _ (by decide +kernel)) ggX6_orbit_X6_numberAll
set_option maxRecDepth 20000 in
theorem ggX6_orbit_X6_isNumber : GoodIn wsX6_orbit wsX6_isNumber := goodIn_r _ [26, 1, 33, 34, 35, 36, 37, 38, 39, 40, 41, 42, 43, 44, 45, 46, 47, 48, 49] (by decide +kernel) (by decide +kernel)
set_option maxRecDepth 20000 in
theorem gX6_orbit_X6_isNumber : GoodIn wsX6_orbit (wsV RX6 122 RX6 yX6_isNumber wsX6_isNumber) := goodIn_app (goodIn_of _ (by decide +kernel)) ggX6_orbit_X6_isNumber
set_option maxRecDepth 20000 in
theorem ggX6_orbit_X6_moved : GoodIn wsX6_orbit wsX6_moved := goodIn_r _ [30, 10, 31, 12, 32, 9, 33, 34, 35, 36, 37, 38, 39, 40, 41, 42, 43, 44, 45, 46, 47, 48, 49] (by decide +kernel) (by decide +kernel)
set_option maxRecDepth 20000 in
theorem gX6_orbit_X6_moved : GoodIn wsX6_orbit (wsV RX6 125 RX6 yX6_moved wsX6_moved) := goodIn_app (goodIn_of _ (by decide +kernel)) ggX6_orbit_X6_moved
theorem dX6_orbit_0 : decode cX6_orbit 0 = .ok (.aload_n 0, 1) := by decide +kernel
theorem dX6_orbit_1 : decode cX6_orbit 1 = .ok (.invokevirtual 119, 3) := by decide +kernel
theorem dX6_orbit_4 : decode cX6_orbit 4 = .ok (.ifCond .eq 11, 3) := by decide +kernel
theorem dX6_orbit_7 : decode cX6_orbit 7 = .ok (.aload_n 0, 1) := by decide +kernel
theorem dX6_orbit_8 : decode cX6_orbit 8 = .ok (.iload_n 1, 1) := by decide +kernel
theorem dX6_orbit_9 : decode cX6_orbit 9 = .ok (.invokevirtual 122, 3) := by decide +kernel
theorem dX6_orbit_12 : decode cX6_orbit 12 = .ok (.ifCond .ne 5, 3) := by decide +kernel
theorem dX6_orbit_15 : decode cX6_orbit 15 = .ok (.iconst (-1), 1) := by decide +kernel
theorem dX6_orbit_16 : decode cX6_orbit 16 = .ok (.ireturn, 1) := by decide +kernel
theorem dX6_orbit_17 : decode cX6_orbit 17 = .ok (.iconst 0, 1) := by decide +kernel
theorem dX6_orbit_18 : decode cX6_orbit 18 = .ok (.istore_n 2, 1) := by decide +kernel
theorem dX6_orbit_19 : decode cX6_orbit 19 = .ok (.iload_n 2, 1) := by decide +kernel
theorem dX6_orbit_20 : decode cX6_orbit 20 = .ok (.aload_n 0, 1) := by decide +kernel
theorem dX6_orbit_21 : decode cX6_orbit 21 = .ok (.getfield 116, 3) := by decide +kernel
theorem dX6_orbit_24 : decode cX6_orbit 24 = .ok (.if_icmp .ge 16, 3) := by decide +kernel
theorem dX6_orbit_27 : decode cX6_orbit 27 = .ok (.aload_n 0, 1) := by decide +kernel
theorem dX6_orbit_28 : decode cX6_orbit 28 = .ok (.getfield 38, 3) := by decide +kernel
theorem dX6_orbit_31 : decode cX6_orbit 31 = .ok (.iload_n 2, 1) := by decide +kernel
theorem dX6_orbit_32 : decode cX6_orbit 32 = .ok (.iload_n 2, 1) := by decide +kernel
theorem dX6_orbit_33 : decode cX6_orbit 33 = .ok (.iastore, 1) := by decide +kernel
theorem dX6_orbit_34 : decode cX6_orbit 34 = .ok (.iinc 2 1, 3) := by decide +kernel
theorem dX6_orbit_37 : decode cX6_orbit 37 = .ok (.goto (-18), 3) := by decide +kernel
theorem dX6_orbit_40 : decode cX6_orbit 40 = .ok (.iconst 1, 1) := by decide +kernel
theorem dX6_orbit_41 : decode cX6_orbit 41 = .ok (.istore_n 2, 1) := by decide +kernel
theorem dX6_orbit_42 : decode cX6_orbit 42 = .ok (.iload_n 2, 1) := by decide +kernel
theorem dX6_orbit_43 : decode cX6_orbit 43 = .ok (.ifCond .eq 138, 3) := by decide +kernel
theorem dX6_orbit_46 : decode cX6_orbit 46 = .ok (.iconst 0, 1) := by decide +kernel
theorem dX6_orbit_47 : decode cX6_orbit 47 = .ok (.istore_n 2, 1) := by decide +kernel
theorem dX6_orbit_48 : decode cX6_orbit 48 = .ok (.iconst 0, 1) := by decide +kernel
theorem dX6_orbit_49 : decode cX6_orbit 49 = .ok (.istore_n 3, 1) := by decide +kernel
theorem dX6_orbit_50 : decode cX6_orbit 50 = .ok (.iload_n 3, 1) := by decide +kernel
theorem dX6_orbit_51 : decode cX6_orbit 51 = .ok (.aload_n 0, 1) := by decide +kernel
theorem dX6_orbit_52 : decode cX6_orbit 52 = .ok (.getfield 116, 3) := by decide +kernel
theorem dX6_orbit_55 : decode cX6_orbit 55 = .ok (.if_icmp .ge 123, 3) := by decide +kernel
theorem dX6_orbit_58 : decode cX6_orbit 58 = .ok (.iconst 0, 1) := by decide +kernel
theorem dX6_orbit_59 : decode cX6_orbit 59 = .ok (.istore 4, 2) := by decide +kernel
theorem dX6_orbit_61 : decode cX6_orbit 61 = .ok (.iload 4, 2) := by decide +kernel
theorem dX6_orbit_63 : decode cX6_orbit 63 = .ok (.aload_n 0, 1) := by decide +kernel
theorem dX6_orbit_64 : decode cX6_orbit 64 = .ok (.getfield 55, 3) := by decide +kernel
theorem dX6_orbit_67 : decode cX6_orbit 67 = .ok (.if_icmp .ge 105, 3) := by decide +kernel
theorem dX6_orbit_70 : decode cX6_orbit 70 = .ok (.aload_n 0, 1) := by decide +kernel
theorem dX6_orbit_71 : decode cX6_orbit 71 = .ok (.bipush 10, 2) := by decide +kernel
theorem dX6_orbit_73 : decode cX6_orbit 73 = .ok (.iload 4, 2) := by decide +kernel
theorem dX6_orbit_75 : decode cX6_orbit 75 = .ok (.iadd, 1) := by decide +kernel
theorem dX6_orbit_76 : decode cX6_orbit 76 = .ok (.iload_n 3, 1) := by decide +kernel
theorem dX6_orbit_77 : decode cX6_orbit 77 = .ok (.invokevirtual 125, 3) := by decide +kernel
theorem dX6_orbit_80 : decode cX6_orbit 80 = .ok (.istore 5, 2) := by decide +kernel
theorem dX6_orbit_82 : decode cX6_orbit 82 = .ok (.aload_n 0, 1) := by decide +kernel
theorem dX6_orbit_83 : decode cX6_orbit 83 = .ok (.getfield 38, 3) := by decide +kernel
theorem dX6_orbit_86 : decode cX6_orbit 86 = .ok (.iload_n 3, 1) := by decide +kernel
theorem dX6_orbit_87 : decode cX6_orbit 87 = .ok (.iaload, 1) := by decide +kernel
theorem dX6_orbit_88 : decode cX6_orbit 88 = .ok (.aload_n 0, 1) := by decide +kernel
theorem dX6_orbit_89 : decode cX6_orbit 89 = .ok (.getfield 38, 3) := by decide +kernel
theorem dX6_orbit_92 : decode cX6_orbit 92 = .ok (.iload 5, 2) := by decide +kernel
theorem dX6_orbit_94 : decode cX6_orbit 94 = .ok (.iaload, 1) := by decide +kernel
theorem dX6_orbit_95 : decode cX6_orbit 95 = .ok (.if_icmp .ge 12, 3) := by decide +kernel
theorem dX6_orbit_98 : decode cX6_orbit 98 = .ok (.aload_n 0, 1) := by decide +kernel
theorem dX6_orbit_99 : decode cX6_orbit 99 = .ok (.getfield 38, 3) := by decide +kernel
theorem dX6_orbit_102 : decode cX6_orbit 102 = .ok (.iload_n 3, 1) := by decide +kernel
theorem dX6_orbit_103 : decode cX6_orbit 103 = .ok (.iaload, 1) := by decide +kernel
theorem dX6_orbit_104 : decode cX6_orbit 104 = .ok (.goto 10, 3) := by decide +kernel
theorem dX6_orbit_107 : decode cX6_orbit 107 = .ok (.aload_n 0, 1) := by decide +kernel
theorem dX6_orbit_108 : decode cX6_orbit 108 = .ok (.getfield 38, 3) := by decide +kernel
theorem dX6_orbit_111 : decode cX6_orbit 111 = .ok (.iload 5, 2) := by decide +kernel
theorem dX6_orbit_113 : decode cX6_orbit 113 = .ok (.iaload, 1) := by decide +kernel
theorem dX6_orbit_114 : decode cX6_orbit 114 = .ok (.istore 6, 2) := by decide +kernel
theorem dX6_orbit_116 : decode cX6_orbit 116 = .ok (.iload_n 2, 1) := by decide +kernel
theorem dX6_orbit_117 : decode cX6_orbit 117 = .ok (.ifCond .ne 26, 3) := by decide +kernel
theorem dX6_orbit_120 : decode cX6_orbit 120 = .ok (.aload_n 0, 1) := by decide +kernel
theorem dX6_orbit_121 : decode cX6_orbit 121 = .ok (.getfield 38, 3) := by decide +kernel
theorem dX6_orbit_124 : decode cX6_orbit 124 = .ok (.iload_n 3, 1) := by decide +kernel
theorem dX6_orbit_125 : decode cX6_orbit 125 = .ok (.iaload, 1) := by decide +kernel
theorem dX6_orbit_126 : decode cX6_orbit 126 = .ok (.iload 6, 2) := by decide +kernel
theorem dX6_orbit_128 : decode cX6_orbit 128 = .ok (.if_icmp .ne 15, 3) := by decide +kernel
theorem dX6_orbit_131 : decode cX6_orbit 131 = .ok (.aload_n 0, 1) := by decide +kernel
theorem dX6_orbit_132 : decode cX6_orbit 132 = .ok (.getfield 38, 3) := by decide +kernel
theorem dX6_orbit_135 : decode cX6_orbit 135 = .ok (.iload 5, 2) := by decide +kernel
theorem dX6_orbit_137 : decode cX6_orbit 137 = .ok (.iaload, 1) := by decide +kernel
theorem dX6_orbit_138 : decode cX6_orbit 138 = .ok (.iload 6, 2) := by decide +kernel
theorem dX6_orbit_140 : decode cX6_orbit 140 = .ok (.if_icmp .eq 7, 3) := by decide +kernel
theorem dX6_orbit_143 : decode cX6_orbit 143 = .ok (.iconst 1, 1) := by decide +kernel
theorem dX6_orbit_144 : decode cX6_orbit 144 = .ok (.goto 4, 3) := by decide +kernel
theorem dX6_orbit_147 : decode cX6_orbit 147 = .ok (.iconst 0, 1) := by decide +kernel
theorem dX6_orbit_148 : decode cX6_orbit 148 = .ok (.istore_n 2, 1) := by decide +kernel
theorem dX6_orbit_149 : decode cX6_orbit 149 = .ok (.aload_n 0, 1) := by decide +kernel
theorem dX6_orbit_150 : decode cX6_orbit 150 = .ok (.getfield 38, 3) := by decide +kernel
theorem dX6_orbit_153 : decode cX6_orbit 153 = .ok (.iload_n 3, 1) := by decide +kernel
theorem dX6_orbit_154 : decode cX6_orbit 154 = .ok (.iload 6, 2) := by decide +kernel
theorem dX6_orbit_156 : decode cX6_orbit 156 = .ok (.iastore, 1) := by decide +kernel
theorem dX6_orbit_157 : decode cX6_orbit 157 = .ok (.aload_n 0, 1) := by decide +kernel
theorem dX6_orbit_158 : decode cX6_orbit 158 = .ok (.getfield 38, 3) := by decide +kernel
theorem dX6_orbit_161 : decode cX6_orbit 161 = .ok (.iload 5, 2) := by decide +kernel
theorem dX6_orbit_163 : decode cX6_orbit 163 = .ok (.iload 6, 2) := by decide +kernel
theorem dX6_orbit_165 : decode cX6_orbit 165 = .ok (.iastore, 1) := by decide +kernel
theorem dX6_orbit_166 : decode cX6_orbit 166 = .ok (.iinc 4 1, 3) := by decide +kernel
theorem dX6_orbit_169 : decode cX6_orbit 169 = .ok (.goto (-108), 3) := by decide +kernel
theorem dX6_orbit_172 : decode cX6_orbit 172 = .ok (.iinc 3 1, 3) := by decide +kernel
theorem dX6_orbit_175 : decode cX6_orbit 175 = .ok (.goto (-125), 3) := by decide +kernel
theorem dX6_orbit_178 : decode cX6_orbit 178 = .ok (.goto (-136), 3) := by decide +kernel
theorem dX6_orbit_181 : decode cX6_orbit 181 = .ok (.aload_n 0, 1) := by decide +kernel
theorem dX6_orbit_182 : decode cX6_orbit 182 = .ok (.getfield 38, 3) := by decide +kernel
theorem dX6_orbit_185 : decode cX6_orbit 185 = .ok (.iload_n 1, 1) := by decide +kernel
theorem dX6_orbit_186 : decode cX6_orbit 186 = .ok (.iaload, 1) := by decide +kernel
theorem dX6_orbit_187 : decode cX6_orbit 187 = .ok (.ireturn, 1) := by decide +kernel
theorem dJ9_min_7cf53_0 : decode cJ9_min_7cf53 0 = .ok (.iload_n 0, 1) := by decide +kernel
theorem dJ9_min_7cf53_1 : decode cJ9_min_7cf53 1 = .ok (.iload_n 1, 1) := by decide +kernel
theorem dJ9_min_7cf53_2 : decode cJ9_min_7cf53 2 = .ok (.if_icmp .gt 7, 3) := by decide +kernel
theorem dJ9_min_7cf53_5 : decode cJ9_min_7cf53 5 = .ok (.iload_n 0, 1) := by decide +kernel
theorem dJ9_min_7cf53_6 : decode cJ9_min_7cf53 6 = .ok (.goto 4, 3) := by decide +kernel
theorem dJ9_min_7cf53_9 : decode cJ9_min_7cf53 9 = .ok (.iload_n 1, 1) := by decide +kernel
theorem dJ9_min_7cf53_10 : decode cJ9_min_7cf53 10 = .ok (.ireturn, 1) := by decide +kernel
theorem dJ7_fill_53178_0 : decode cJ7_fill_53178 0 = .ok (.iconst 0, 1) := by decide +kernel
theorem dJ7_fill_53178_1 : decode cJ7_fill_53178 1 = .ok (.istore_n 2, 1) := by decide +kernel
theorem dJ7_fill_53178_2 : decode cJ7_fill_53178 2 = .ok (.aload_n 0, 1) := by decide +kernel
theorem dJ7_fill_53178_3 : decode cJ7_fill_53178 3 = .ok (.arraylength, 1) := by decide +kernel
theorem dJ7_fill_53178_4 : decode cJ7_fill_53178 4 = .ok (.istore_n 3, 1) := by decide +kernel
theorem dJ7_fill_53178_5 : decode cJ7_fill_53178 5 = .ok (.iload_n 2, 1) := by decide +kernel
theorem dJ7_fill_53178_6 : decode cJ7_fill_53178 6 = .ok (.iload_n 3, 1) := by decide +kernel
theorem dJ7_fill_53178_7 : decode cJ7_fill_53178 7 = .ok (.if_icmp .ge 13, 3) := by decide +kernel
theorem dJ7_fill_53178_10 : decode cJ7_fill_53178 10 = .ok (.aload_n 0, 1) := by decide +kernel
theorem dJ7_fill_53178_11 : decode cJ7_fill_53178 11 = .ok (.iload_n 2, 1) := by decide +kernel
theorem dJ7_fill_53178_12 : decode cJ7_fill_53178 12 = .ok (.iload_n 1, 1) := by decide +kernel
theorem dJ7_fill_53178_13 : decode cJ7_fill_53178 13 = .ok (.iastore, 1) := by decide +kernel
theorem dJ7_fill_53178_14 : decode cJ7_fill_53178 14 = .ok (.iinc 2 1, 3) := by decide +kernel
theorem dJ7_fill_53178_17 : decode cJ7_fill_53178 17 = .ok (.goto (-12), 3) := by decide +kernel
theorem dJ7_fill_53178_20 : decode cJ7_fill_53178 20 = .ok (.return_, 1) := by decide +kernel
set_option maxRecDepth 20000 in
theorem ggL_law_X5_init : GoodIn wsL_law wsX5_init := goodIn_r _ [8, 9, 10, 11, 12, 13, 14, 15, 16, 17, 18, 19, 20, 21, 22, 23, 24, 25, 26, 27, 28, 29, 30, 31, 32, 33, 34, 35, 36, 37, 38, 39, 40, 41, 42, 43, 44, 45, 46, 47, 48, 49, 50, 51, 52, 53, 54, 55, 56, 57, 58, 59, 60, 61, 62, 63, 64, 65, 66, 67, 68, 69, 70, 71, 72, 73, 2, 74, 75, 76, 77, 78, 79, 80, 81, 82, 83, 84, 85, 86, 502, 503, 478, 479, 480, 481, 482, 483, 484, 504, 505, 506, 507, 508, 509, 510, 511, 512, 513, 514, 515, 516, 517, 518, 519, 520, 521, 522, 523, 524, 525, 526] (by decide +kernel) (by decide +kernel)
set_option maxRecDepth 20000 in
theorem gL_law_X5_init : GoodIn wsL_law (wsX5_init) := ggL_law_X5_init
set_option maxRecDepth 20000 in
theorem ggL_law_X6_init : GoodIn wsL_law wsX6_init := goodIn_r _ [89, 90, 10, 11, 37, 91, 92, 93, 94, 95, 96, 97, 98, 52, 99, 100, 101, 102, 103, 5, 104, 105, 106, 107, 108, 109, 110, 111, 112, 485, 486, 487, 488, 489, 490, 491, 492, 493, 494, 495, 496, 497, 498, 499, 500, 501] (by decide +kernel) (by decide +kernel)
set_option maxRecDepth 20000 in
theorem gL_law_X6_init : GoodIn wsL_law (wsX6_init) := ggL_law_X6_init
set_option maxRecDepth 20000 in
theorem ggL_law_X5_begin : GoodIn wsL_law wsX5_begin := goodIn_r _ [116, 33, 19, 20, 15, 71, 72, 73, 2, 74, 24, 32, 75, 76, 77, 23, 78, 79, 80, 81, 82, 83, 84, 85, 86, 48, 49, 478, 479, 480, 481, 482, 483, 484, 504, 505, 502, 503, 520, 521, 522, 523, 524, 525, 526, 506, 507, 508, 509, 510, 511, 512, 513, 514, 515, 516] (by decide +kernel) (by decide +kernel)
set_option maxRecDepth 20000 in
theorem gL_law_X5_begin : GoodIn wsL_law (wsV RL 13 RX5 yX5_begin wsX5_begin) := goodIn_app (goodIn_of _ (by decide +kernel)) ggL_law_X5_begin
set_option maxRecDepth 20000 in
theorem ggL_law_X6_begin : GoodIn wsL_law wsX6_begin := goodIn_r _ [104, 105, 106, 107, 92, 108, 109, 110, 5, 111, 112, 93, 94, 485, 486, 487, 488, 489, 490, 491, 492, 493, 494, 495, 496, 497, 498, 499, 500, 501] (by decide +kernel) (by decide +kernel)
set_option maxRecDepth 20000 in
theorem gL_law_X6_begin : GoodIn wsL_law (wsV RL 17 RX6 yX6_begin wsX6_begin) := goodIn_app (goodIn_of _ (by decide +kernel)) ggL_law_X6_begin
set_option maxRecDepth 20000 in
theorem ggL_law_X5_letter : GoodIn wsL_law wsX5_letter := goodIn_r _ [121, 15, 122, 123, 124, 2, 125, 33, 126, 127, 128, 129, 130, 131, 14, 132, 38, 133, 478, 479, 480, 481, 482, 483, 484, 502, 503] (by decide +kernel) (by decide +kernel)
set_option maxRecDepth 20000 in
theorem gL_law_X5_letter : GoodIn wsL_law (wsV RL 18 RX5 yX5_letter wsX5_letter) := goodIn_app (goodIn_of _ (by decide +kernel)) ggL_law_X5_letter
set_option maxRecDepth 20000 in
theorem ggL_law_X6_letter : GoodIn wsL_law wsX6_letter := goodIn_r _ [137, 92, 91, 138, 139, 140, 5, 141, 105, 142, 143, 144, 485, 486, 487, 488, 489, 490, 491, 492, 493, 494, 495, 496, 497, 498, 499, 500, 501] (by decide +kernel) (by decide +kernel)
set_option maxRecDepth 20000 in
theorem gL_law_X6_letter : GoodIn wsL_law (wsV RL 21 RX6 yX6_letter wsX6_letter) := goodIn_app (goodIn_of _ (by decide +kernel)) ggL_law_X6_letter
set_option maxRecDepth 20000 in
theorem ggL_law_X5_clear : GoodIn wsL_law wsX5_clear := goodIn_r _ [148, 15, 478, 479, 480, 481, 482, 483, 484, 502, 503] (by decide +kernel) (by decide +kernel)
set_option maxRecDepth 20000 in
theorem gL_law_X5_clear : GoodIn wsL_law (wsV RL 22 RX5 yX5_clear wsX5_clear) := goodIn_app (goodIn_of _ (by decide +kernel)) ggL_law_X5_clear
set_option maxRecDepth 20000 in
theorem ggL_law_X6_clear : GoodIn wsL_law wsX6_clear := goodIn_r _ [152, 92, 485, 486, 487, 488, 489, 490, 491, 492, 493, 494, 495, 496, 497, 498, 499, 500, 501] (by decide +kernel) (by decide +kernel)
set_option maxRecDepth 20000 in
theorem gL_law_X6_clear : GoodIn wsL_law (wsV RL 26 RX6 yX6_clear wsX6_clear) := goodIn_app (goodIn_of _ (by decide +kernel)) ggL_law_X6_clear
set_option maxRecDepth 20000 in
theorem ggL_law_X5_relator : GoodIn wsL_law wsX5_relator := goodIn_r _ [156, 19, 157, 158, 159, 2, 160, 15, 161, 162, 163, 18, 164, 165, 44, 166, 167, 168, 169, 170, 171, 172, 14, 173, 38, 133, 174, 175, 176, 177, 71, 72, 73, 74, 24, 33, 32, 75, 76, 77, 23, 78, 79, 80, 81, 82, 83, 84, 85, 86, 48, 49, 478, 479, 480, 481, 482, 483, 484, 502, 503, 504, 505, 520, 521, 522, 523, 524, 525, 526, 506, 507, 508, 509, 510, 511, 512, 513, 514, 515, 516] (by decide +kernel) (by decide +kernel)
set_option maxRecDepth 20000 in
theorem gL_law_X5_relator : GoodIn wsL_law (wsV RL 27 RX5 yX5_relator wsX5_relator) := goodIn_app (goodIn_of _ (by decide +kernel)) ggL_law_X5_relator
set_option maxRecDepth 20000 in
theorem ggL_law_X6_relator : GoodIn wsL_law wsX6_relator := goodIn_r _ [181, 92, 106, 182, 183, 184, 5, 185, 91, 108, 109, 110, 111, 112, 93, 94, 485, 486, 487, 488, 489, 490, 491, 492, 493, 494, 495, 496, 497, 498, 499, 500, 501] (by decide +kernel) (by decide +kernel)
set_option maxRecDepth 20000 in
theorem gL_law_X6_relator : GoodIn wsL_law (wsV RL 30 RX6 yX6_relator wsX6_relator) := goodIn_app (goodIn_of _ (by decide +kernel)) ggL_law_X6_relator
set_option maxRecDepth 20000 in
theorem ggL_law_X5_subgroup : GoodIn wsL_law wsX5_subgroup := goodIn_r _ [189, 20, 157, 158, 159, 2, 160, 15, 161, 162, 163, 18, 164, 165, 44, 166, 167, 168, 169, 170, 171, 172, 14, 173, 38, 133, 174, 175, 176, 177, 71, 72, 73, 74, 24, 33, 32, 75, 76, 77, 23, 78, 79, 80, 81, 82, 83, 84, 85, 86, 48, 49, 478, 479, 480, 481, 482, 483, 484, 502, 503, 504, 505, 520, 521, 522, 523, 524, 525, 526, 506, 507, 508, 509, 510, 511, 512, 513, 514, 515, 516] (by decide +kernel) (by decide +kernel)
set_option maxRecDepth 20000 in
theorem gL_law_X5_subgroup : GoodIn wsL_law (wsV RL 31 RX5 yX5_subgroup wsX5_subgroup) := goodIn_app (goodIn_of _ (by decide +kernel)) ggL_law_X5_subgroup
set_option maxRecDepth 20000 in
theorem ggL_law_X6_subgroup : GoodIn wsL_law wsX6_subgroup := goodIn_r _ [193, 92, 107, 182, 183, 184, 5, 185, 91, 108, 109, 110, 111, 112, 93, 94, 485, 486, 487, 488, 489, 490, 491, 492, 493, 494, 495, 496, 497, 498, 499, 500, 501] (by decide +kernel) (by decide +kernel)
set_option maxRecDepth 20000 in
theorem gL_law_X6_subgroup : GoodIn wsL_law (wsV RL 34 RX6 yX6_subgroup wsX6_subgroup) := goodIn_app (goodIn_of _ (by decide +kernel)) ggL_law_X6_subgroup
set_option maxRecDepth 20000 in
theorem ggL_law_X5_run : GoodIn wsL_law wsX5_run := goodIn_r _ [197, 28, 24, 32, 198, 199, 200, 27, 201, 59, 58, 202, 203, 204, 205, 23, 206, 80, 49, 207, 208, 209, 210, 211, 212, 213, 14, 214, 38, 133, 215, 216, 217, 218, 48, 219, 220, 221, 222, 223, 50, 224, 225, 226, 227, 81, 228, 229, 230, 231, 79, 232, 233, 234, 235, 236, 53, 51, 237, 238, 239, 240, 241, 242, 60, 243, 244, 245, 246, 247, 248, 249, 250, 251, 252, 253, 254, 82, 255, 256, 257, 258, 259, 260, 261, 262, 263, 83, 84, 85, 86, 264, 265, 266, 31, 267, 65, 268, 69, 66, 269, 270, 271, 272, 273, 274, 275, 276, 277, 478, 479, 480, 481, 482, 483, 484, 506, 507, 508, 509, 510, 511, 512, 513, 514, 515, 516, 517, 518, 519, 504, 505, 502, 503, 520, 521, 522, 523, 524, 525, 526] (by decide +kernel) (by decide +kernel)
set_option maxRecDepth 20000 in
theorem gL_law_X5_run : GoodIn wsL_law (wsV RL 35 RX5 yX5_run wsX5_run) := goodIn_app (goodIn_of _ (by decide +kernel)) ggL_law_X5_run
set_option maxRecDepth 20000 in
theorem ggL_law_X6_run : GoodIn wsL_law wsX6_run := goodIn_r _ [281, 112, 93, 282, 283, 284, 5, 285, 286, 106, 107, 287, 288, 289, 290, 92, 94, 91, 291, 292, 293, 294, 95, 295, 96, 296, 297, 298, 299, 300, 301, 302, 303, 304, 305, 306, 307, 308, 309, 310, 311, 105, 485, 486, 487, 488, 489, 490, 491, 492, 493, 494, 495, 496, 497, 498, 499, 500, 501] (by decide +kernel) (by decide +kernel)
set_option maxRecDepth 20000 in
theorem gL_law_X6_run : GoodIn wsL_law (wsV RL 38 RX6 yX6_run wsX6_run) := goodIn_app (goodIn_of _ (by decide +kernel)) ggL_law_X6_run
set_option maxRecDepth 20000 in
theorem ggL_law_X5_count : GoodIn wsL_law wsX5_count := goodIn_r _ [315, 24, 32, 19, 20, 15, 316, 317, 318, 23, 319, 80, 255, 256, 257, 258, 79, 48, 259, 204, 205, 206, 49, 320, 321, 322, 31, 323, 268, 478, 479, 480, 481, 482, 483, 484, 506, 507, 508, 509, 510, 511, 512, 513, 514, 515, 516, 520, 521, 522, 523, 524, 525, 526, 504, 505, 502, 503] (by decide +kernel) (by decide +kernel)
set_option maxRecDepth 20000 in
theorem gL_law_X5_count : GoodIn wsL_law (wsV RL 39 RX5 yX5_count wsX5_count) := goodIn_app (goodIn_of _ (by decide +kernel)) ggL_law_X5_count
set_option maxRecDepth 20000 in
theorem ggL_law_X6_count : GoodIn wsL_law wsX6_count := goodIn_r _ [327, 112, 106, 107, 92, 328, 329, 330, 5, 331, 93, 332, 333, 334, 335, 105, 94, 336, 337, 338, 339, 308, 309, 310, 311, 485, 486, 487, 488, 489, 490, 491, 492, 493, 494, 495, 496, 497, 498, 499, 500, 501] (by decide +kernel) (by decide +kernel)
set_option maxRecDepth 20000 in
theorem gL_law_X6_count : GoodIn wsL_law (wsV RL 42 RX6 yX6_count wsX6_count) := goodIn_app (goodIn_of _ (by decide +kernel)) ggL_law_X6_count
set_option maxRecDepth 20000 in
theorem ggL_law_X5_known : GoodIn wsL_law wsX5_known := goodIn_r _ [343, 24, 122, 123, 124, 2, 125, 33, 344, 204, 205, 23, 206, 80, 49, 126, 127, 128, 345, 216, 217, 218, 48, 478, 479, 480, 481, 482, 483, 484, 506, 507, 508, 509, 510, 511, 512, 513, 514, 515, 516] (by decide +kernel) (by decide +kernel)
set_option maxRecDepth 20000 in
theorem gL_law_X5_known : GoodIn wsL_law (wsV RL 43 RX5 yX5_known wsX5_known) := goodIn_app (goodIn_of _ (by decide +kernel)) ggL_law_X5_known
set_option maxRecDepth 20000 in
theorem ggL_law_X6_known : GoodIn wsL_law wsX6_known := goodIn_r _ [349, 94, 138, 139, 140, 5, 141, 105, 350, 351, 352, 353, 112, 93, 142, 143, 144, 485, 486, 487, 488, 489, 490, 491, 492, 493, 494, 495, 496, 497, 498, 499, 500, 501] (by decide +kernel) (by decide +kernel)
set_option maxRecDepth 20000 in
theorem gL_law_X6_known : GoodIn wsL_law (wsV RL 47 RX6 yX6_known wsX6_known) := goodIn_app (goodIn_of _ (by decide +kernel)) ggL_law_X6_known
set_option maxRecDepth 20000 in
theorem ggL_law_X5_number : GoodIn wsL_law wsX5_number := goodIn_r _ [357, 32, 24, 320, 321, 322, 31, 323, 268, 344, 204, 205, 23, 206, 80, 49, 478, 479, 480, 481, 482, 483, 484, 520, 521, 522, 523, 524, 525, 526, 506, 507, 508, 509, 510, 511, 512, 513, 514, 515, 516] (by decide +kernel) (by decide +kernel)
set_option maxRecDepth 20000 in
theorem gL_law_X5_number : GoodIn wsL_law (wsV RL 48 RX5 yX5_number wsX5_number) := goodIn_app (goodIn_of _ (by decide +kernel)) ggL_law_X5_number
set_option maxRecDepth 20000 in
theorem ggL_law_X6_number : GoodIn wsL_law wsX6_number := goodIn_r _ [361, 97, 362, 363, 364, 5, 365, 98, 366, 105, 94, 336, 337, 338, 339, 308, 309, 310, 311, 112, 93, 350, 351, 352, 353, 485, 486, 487, 488, 489, 490, 491, 492, 493, 494, 495, 496, 497, 498, 499, 500, 501] (by decide +kernel) (by decide +kernel)
set_option maxRecDepth 20000 in
theorem gL_law_X6_number : GoodIn wsL_law (wsV RL 51 RX6 yX6_number wsX6_number) := goodIn_app (goodIn_of _ (by decide +kernel)) ggL_law_X6_number
set_option maxRecDepth 20000 in
theorem ggL_law_X5_entry : GoodIn wsL_law wsX5_entry := goodIn_r _ [370, 32, 371, 372, 373, 31, 374, 268, 122, 123, 124, 2, 125, 33, 126, 127, 128, 375, 376, 377, 378, 65, 69, 66, 277, 216, 217, 23, 218, 48, 478, 479, 480, 481, 482, 483, 484, 520, 521, 522, 523, 524, 525, 526, 506, 507, 508, 509, 510, 511, 512, 513, 514, 515, 516] (by decide +kernel) (by decide +kernel)
set_option maxRecDepth 20000 in
theorem gL_law_X5_entry : GoodIn wsL_law (wsV RL 52 RX5 yX5_entry wsX5_entry) := goodIn_app (goodIn_of _ (by decide +kernel)) ggL_law_X5_entry
set_option maxRecDepth 20000 in
theorem ggL_law_X6_entry : GoodIn wsL_law wsX6_entry := goodIn_r _ [382, 97, 94, 98, 362, 363, 364, 5, 365, 366, 105, 336, 337, 338, 339, 308, 309, 310, 311, 112, 93, 383, 384, 385, 386, 138, 139, 140, 141, 142, 143, 144, 485, 486, 487, 488, 489, 490, 491, 492, 493, 494, 495, 496, 497, 498, 499, 500, 501] (by decide +kernel) (by decide +kernel)
set_option maxRecDepth 20000 in
theorem gL_law_X6_entry : GoodIn wsL_law (wsV RL 55 RX6 yX6_entry wsX6_entry) := goodIn_app (goodIn_of _ (by decide +kernel)) ggL_law_X6_entry
set_option maxRecDepth 20000 in
theorem ggL_law_X5_move : GoodIn wsL_law wsX5_move := goodIn_r _ [390, 32, 15, 371, 372, 373, 31, 374, 268, 391, 392, 393, 394, 66, 69, 65, 277, 216, 217, 23, 218, 48, 478, 479, 480, 481, 482, 483, 484, 520, 521, 522, 523, 524, 525, 526, 502, 503, 506, 507, 508, 509, 510, 511, 512, 513, 514, 515, 516] (by decide +kernel) (by decide +kernel)
set_option maxRecDepth 20000 in
theorem gL_law_X5_move : GoodIn wsL_law (wsV RL 56 RX5 yX5_move wsX5_move) := goodIn_app (goodIn_of _ (by decide +kernel)) ggL_law_X5_move
set_option maxRecDepth 20000 in
theorem ggL_law_X6_move : GoodIn wsL_law wsX6_move := goodIn_r _ [398, 362, 363, 364, 5, 365, 97, 98, 366, 105, 94, 336, 337, 338, 339, 308, 309, 310, 311, 112, 93, 383, 384, 385, 386, 399, 400, 401, 402, 92, 91, 485, 486, 487, 488, 489, 490, 491, 492, 493, 494, 495, 496, 497, 498, 499, 500, 501] (by decide +kernel) (by decide +kernel)
set_option maxRecDepth 20000 in
theorem gL_law_X6_move : GoodIn wsL_law (wsV RL 59 RX6 yX6_move wsX6_move) := goodIn_app (goodIn_of _ (by decide +kernel)) ggL_law_X6_move
set_option maxRecDepth 20000 in
theorem ggL_law_X5_cycles : GoodIn wsL_law wsX5_cycles := goodIn_r _ [406, 32, 15, 320, 321, 322, 31, 323, 268, 407, 408, 409, 410, 411, 412, 413, 414, 67, 415, 416, 417, 418, 419, 392, 393, 394, 66, 69, 65, 277, 216, 217, 23, 218, 48, 478, 479, 480, 481, 482, 483, 484, 520, 521, 522, 523, 524, 525, 526, 502, 503, 506, 507, 508, 509, 510, 511, 512, 513, 514, 515, 516] (by decide +kernel) (by decide +kernel)
set_option maxRecDepth 20000 in
theorem gL_law_X5_cycles : GoodIn wsL_law (wsV RL 60 RX5 yX5_cycles wsX5_cycles) := goodIn_app (goodIn_of _ (by decide +kernel)) ggL_law_X5_cycles
set_option maxRecDepth 20000 in
theorem ggL_law_X6_cycles : GoodIn wsL_law wsX6_cycles := goodIn_r _ [423, 366, 99, 362, 363, 364, 5, 365, 97, 98, 105, 94, 336, 337, 338, 339, 308, 309, 310, 311, 112, 93, 424, 425, 426, 427, 399, 400, 401, 402, 92, 91, 485, 486, 487, 488, 489, 490, 491, 492, 493, 494, 495, 496, 497, 498, 499, 500, 501] (by decide +kernel) (by decide +kernel)
set_option maxRecDepth 20000 in
theorem gL_law_X6_cycles : GoodIn wsL_law (wsV RL 64 RX6 yX6_cycles wsX6_cycles) := goodIn_app (goodIn_of _ (by decide +kernel)) ggL_law_X6_cycles
set_option maxRecDepth 20000 in
theorem ggL_law_X5_order : GoodIn wsL_law wsX5_order := goodIn_r _ [431, 32, 15, 432, 320, 321, 322, 31, 323, 268, 433, 434, 435, 436, 411, 412, 413, 414, 67, 415, 416, 417, 418, 419, 392, 393, 394, 66, 69, 65, 277, 216, 217, 23, 218, 48, 437, 438, 439, 440, 478, 479, 480, 481, 482, 483, 484, 520, 521, 522, 523, 524, 525, 526, 502, 503, 506, 507, 508, 509, 510, 511, 512, 513, 514, 515, 516] (by decide +kernel) (by decide +kernel)
set_option maxRecDepth 20000 in
theorem gL_law_X5_order : GoodIn wsL_law (wsV RL 65 RX5 yX5_order wsX5_order) := goodIn_app (goodIn_of _ (by decide +kernel)) ggL_law_X5_order
set_option maxRecDepth 20000 in
theorem ggL_law_X6_order : GoodIn wsL_law wsX6_order := goodIn_r _ [444, 445, 366, 99, 362, 363, 364, 5, 365, 97, 98, 105, 94, 336, 337, 338, 339, 308, 309, 310, 311, 112, 93, 424, 425, 426, 427, 399, 400, 401, 402, 92, 91, 485, 486, 487, 488, 489, 490, 491, 492, 493, 494, 495, 496, 497, 498, 499, 500, 501] (by decide +kernel) (by decide +kernel)
set_option maxRecDepth 20000 in
theorem gL_law_X6_order : GoodIn wsL_law (wsV RL 69 RX6 yX6_order wsX6_order) := goodIn_app (goodIn_of _ (by decide +kernel)) ggL_law_X6_order
set_option maxRecDepth 20000 in
theorem ggL_law_X5_resting : GoodIn wsL_law wsX5_resting := goodIn_r _ [449, 32, 320, 321, 322, 31, 323, 268, 450, 451, 452, 453, 454, 455, 456, 457, 70, 419, 392, 393, 394, 66, 69, 65, 277, 216, 217, 23, 218, 48, 478, 479, 480, 481, 482, 483, 484, 520, 521, 522, 523, 524, 525, 526, 504, 505, 502, 503, 506, 507, 508, 509, 510, 511, 512, 513, 514, 515, 516] (by decide +kernel) (by decide +kernel)
set_option maxRecDepth 20000 in
theorem gL_law_X5_resting : GoodIn wsL_law (wsV RL 70 RX5 yX5_resting wsX5_resting) := goodIn_app (goodIn_of _ (by decide +kernel)) ggL_law_X5_resting
set_option maxRecDepth 20000 in
theorem ggL_law_X6_resting : GoodIn wsL_law wsX6_resting := goodIn_r _ [461, 366, 107, 362, 363, 364, 5, 365, 97, 98, 105, 94, 336, 337, 338, 339, 308, 309, 310, 311, 112, 93, 399, 400, 401, 402, 92, 91, 485, 486, 487, 488, 489, 490, 491, 492, 493, 494, 495, 496, 497, 498, 499, 500, 501] (by decide +kernel) (by decide +kernel)
set_option maxRecDepth 20000 in
theorem gL_law_X6_resting : GoodIn wsL_law (wsV RL 73 RX6 yX6_resting wsX6_resting) := goodIn_app (goodIn_of _ (by decide +kernel)) ggL_law_X6_resting
set_option maxRecDepth 20000 in
theorem ggL_law_X5_orbit : GoodIn wsL_law wsX5_orbit := goodIn_r _ [465, 32, 371, 372, 373, 31, 374, 268, 466, 467, 468, 469, 67, 68, 70, 470, 471, 472, 473, 411, 412, 413, 414, 419, 392, 393, 394, 66, 69, 65, 277, 216, 217, 23, 218, 48, 478, 479, 480, 481, 482, 483, 484, 520, 521, 522, 523, 524, 525, 526, 504, 505, 502, 503, 506, 507, 508, 509, 510, 511, 512, 513, 514, 515, 516] (by decide +kernel) (by decide +kernel)
set_option maxRecDepth 20000 in
theorem gL_law_X5_orbit : GoodIn wsL_law (wsV RL 74 RX5 yX5_orbit wsX5_orbit) := goodIn_app (goodIn_of _ (by decide +kernel)) ggL_law_X5_orbit
set_option maxRecDepth 20000 in
theorem ggL_law_X6_orbit : GoodIn wsL_law wsX6_orbit := goodIn_r _ [477, 366, 100, 107, 362, 363, 364, 5, 365, 97, 98, 105, 94, 336, 337, 338, 339, 308, 309, 310, 311, 112, 93, 383, 384, 385, 386, 399, 400, 401, 402, 92, 91, 485, 486, 487, 488, 489, 490, 491, 492, 493, 494, 495, 496, 497, 498, 499, 500, 501] (by decide +kernel) (by decide +kernel)
set_option maxRecDepth 20000 in
theorem gL_law_X6_orbit : GoodIn wsL_law (wsV RL 77 RX6 yX6_orbit wsX6_orbit) := goodIn_app (goodIn_of _ (by decide +kernel)) ggL_law_X6_orbit
theorem dL_law_0 : decode cL_law 0 = .ok (.new 7, 3) := by decide +kernel
theorem dL_law_3 : decode cL_law 3 = .ok (.dup, 1) := by decide +kernel
theorem dL_law_4 : decode cL_law 4 = .ok (.invokespecial 9, 3) := by decide +kernel
theorem dL_law_7 : decode cL_law 7 = .ok (.astore_n 1, 1) := by decide +kernel
theorem dL_law_8 : decode cL_law 8 = .ok (.new 10, 3) := by decide +kernel
theorem dL_law_11 : decode cL_law 11 = .ok (.dup, 1) := by decide +kernel
theorem dL_law_12 : decode cL_law 12 = .ok (.invokespecial 12, 3) := by decide +kernel
theorem dL_law_15 : decode cL_law 15 = .ok (.astore_n 2, 1) := by decide +kernel
theorem dL_law_16 : decode cL_law 16 = .ok (.iconst 0, 1) := by decide +kernel
theorem dL_law_17 : decode cL_law 17 = .ok (.istore_n 3, 1) := by decide +kernel
theorem dL_law_18 : decode cL_law 18 = .ok (.iload_n 3, 1) := by decide +kernel
theorem dL_law_19 : decode cL_law 19 = .ok (.aload_n 0, 1) := by decide +kernel
theorem dL_law_20 : decode cL_law 20 = .ok (.arraylength, 1) := by decide +kernel
theorem dL_law_21 : decode cL_law 21 = .ok (.iconst 3, 1) := by decide +kernel
theorem dL_law_22 : decode cL_law 22 = .ok (.isub, 1) := by decide +kernel
theorem dL_law_23 : decode cL_law 23 = .ok (.if_icmp .gt 423, 3) := by decide +kernel
theorem dL_law_26 : decode cL_law 26 = .ok (.aload_n 0, 1) := by decide +kernel
theorem dL_law_27 : decode cL_law 27 = .ok (.iload_n 3, 1) := by decide +kernel
theorem dL_law_28 : decode cL_law 28 = .ok (.iaload, 1) := by decide +kernel
theorem dL_law_29 : decode cL_law 29 = .ok (.bipush 15, 2) := by decide +kernel
theorem dL_law_31 : decode cL_law 31 = .ok (.iand, 1) := by decide +kernel
theorem dL_law_32 : decode cL_law 32 = .ok (.tableswitch 408 0 14 #[76, 99, 122, 135, 148, 161, 184, 207, 240, 263, 296, 319, 358, 372, 385], 76) := by decide +kernel
theorem dL_law_108 : decode cL_law 108 = .ok (.aload_n 1, 1) := by decide +kernel
theorem dL_law_109 : decode cL_law 109 = .ok (.aload_n 0, 1) := by decide +kernel
theorem dL_law_110 : decode cL_law 110 = .ok (.iload_n 3, 1) := by decide +kernel
theorem dL_law_111 : decode cL_law 111 = .ok (.iconst 1, 1) := by decide +kernel
theorem dL_law_112 : decode cL_law 112 = .ok (.iadd, 1) := by decide +kernel
theorem dL_law_113 : decode cL_law 113 = .ok (.iaload, 1) := by decide +kernel
theorem dL_law_114 : decode cL_law 114 = .ok (.invokevirtual 13, 3) := by decide +kernel
theorem dL_law_117 : decode cL_law 117 = .ok (.aload_n 2, 1) := by decide +kernel
theorem dL_law_118 : decode cL_law 118 = .ok (.aload_n 0, 1) := by decide +kernel
theorem dL_law_119 : decode cL_law 119 = .ok (.iload_n 3, 1) := by decide +kernel
theorem dL_law_120 : decode cL_law 120 = .ok (.iconst 1, 1) := by decide +kernel
theorem dL_law_121 : decode cL_law 121 = .ok (.iadd, 1) := by decide +kernel
theorem dL_law_122 : decode cL_law 122 = .ok (.iaload, 1) := by decide +kernel
theorem dL_law_123 : decode cL_law 123 = .ok (.invokevirtual 17, 3) := by decide +kernel
theorem dL_law_126 : decode cL_law 126 = .ok (.if_icmp .eq 314, 3) := by decide +kernel
theorem dL_law_129 : decode cL_law 129 = .ok (.iconst 0, 1) := by decide +kernel
theorem dL_law_130 : decode cL_law 130 = .ok (.ireturn, 1) := by decide +kernel
theorem dL_law_131 : decode cL_law 131 = .ok (.aload_n 1, 1) := by decide +kernel
theorem dL_law_132 : decode cL_law 132 = .ok (.aload_n 0, 1) := by decide +kernel
theorem dL_law_133 : decode cL_law 133 = .ok (.iload_n 3, 1) := by decide +kernel
theorem dL_law_134 : decode cL_law 134 = .ok (.iconst 1, 1) := by decide +kernel
theorem dL_law_135 : decode cL_law 135 = .ok (.iadd, 1) := by decide +kernel
theorem dL_law_136 : decode cL_law 136 = .ok (.iaload, 1) := by decide +kernel
theorem dL_law_137 : decode cL_law 137 = .ok (.invokevirtual 18, 3) := by decide +kernel
theorem dL_law_140 : decode cL_law 140 = .ok (.aload_n 2, 1) := by decide +kernel
theorem dL_law_141 : decode cL_law 141 = .ok (.aload_n 0, 1) := by decide +kernel
theorem dL_law_142 : decode cL_law 142 = .ok (.iload_n 3, 1) := by decide +kernel
theorem dL_law_143 : decode cL_law 143 = .ok (.iconst 1, 1) := by decide +kernel
theorem dL_law_144 : decode cL_law 144 = .ok (.iadd, 1) := by decide +kernel
theorem dL_law_145 : decode cL_law 145 = .ok (.iaload, 1) := by decide +kernel
theorem dL_law_146 : decode cL_law 146 = .ok (.invokevirtual 21, 3) := by decide +kernel
theorem dL_law_149 : decode cL_law 149 = .ok (.if_icmp .eq 291, 3) := by decide +kernel
theorem dL_law_152 : decode cL_law 152 = .ok (.iconst 0, 1) := by decide +kernel
theorem dL_law_153 : decode cL_law 153 = .ok (.ireturn, 1) := by decide +kernel
theorem dL_law_154 : decode cL_law 154 = .ok (.aload_n 1, 1) := by decide +kernel
theorem dL_law_155 : decode cL_law 155 = .ok (.invokevirtual 22, 3) := by decide +kernel
theorem dL_law_158 : decode cL_law 158 = .ok (.aload_n 2, 1) := by decide +kernel
theorem dL_law_159 : decode cL_law 159 = .ok (.invokevirtual 26, 3) := by decide +kernel
theorem dL_law_162 : decode cL_law 162 = .ok (.if_icmp .eq 278, 3) := by decide +kernel
theorem dL_law_165 : decode cL_law 165 = .ok (.iconst 0, 1) := by decide +kernel
theorem dL_law_166 : decode cL_law 166 = .ok (.ireturn, 1) := by decide +kernel
theorem dL_law_167 : decode cL_law 167 = .ok (.aload_n 1, 1) := by decide +kernel
theorem dL_law_168 : decode cL_law 168 = .ok (.invokevirtual 27, 3) := by decide +kernel
theorem dL_law_171 : decode cL_law 171 = .ok (.aload_n 2, 1) := by decide +kernel
theorem dL_law_172 : decode cL_law 172 = .ok (.invokevirtual 30, 3) := by decide +kernel
theorem dL_law_175 : decode cL_law 175 = .ok (.if_icmp .eq 265, 3) := by decide +kernel
theorem dL_law_178 : decode cL_law 178 = .ok (.iconst 0, 1) := by decide +kernel
theorem dL_law_179 : decode cL_law 179 = .ok (.ireturn, 1) := by decide +kernel
theorem dL_law_180 : decode cL_law 180 = .ok (.aload_n 1, 1) := by decide +kernel
theorem dL_law_181 : decode cL_law 181 = .ok (.invokevirtual 31, 3) := by decide +kernel
theorem dL_law_184 : decode cL_law 184 = .ok (.aload_n 2, 1) := by decide +kernel
theorem dL_law_185 : decode cL_law 185 = .ok (.invokevirtual 34, 3) := by decide +kernel
theorem dL_law_188 : decode cL_law 188 = .ok (.if_icmp .eq 252, 3) := by decide +kernel
theorem dL_law_191 : decode cL_law 191 = .ok (.iconst 0, 1) := by decide +kernel
theorem dL_law_192 : decode cL_law 192 = .ok (.ireturn, 1) := by decide +kernel
theorem dL_law_193 : decode cL_law 193 = .ok (.aload_n 1, 1) := by decide +kernel
theorem dL_law_194 : decode cL_law 194 = .ok (.aload_n 0, 1) := by decide +kernel
theorem dL_law_195 : decode cL_law 195 = .ok (.iload_n 3, 1) := by decide +kernel
theorem dL_law_196 : decode cL_law 196 = .ok (.iconst 1, 1) := by decide +kernel
theorem dL_law_197 : decode cL_law 197 = .ok (.iadd, 1) := by decide +kernel
theorem dL_law_198 : decode cL_law 198 = .ok (.iaload, 1) := by decide +kernel
theorem dL_law_199 : decode cL_law 199 = .ok (.invokevirtual 35, 3) := by decide +kernel
theorem dL_law_202 : decode cL_law 202 = .ok (.aload_n 2, 1) := by decide +kernel
theorem dL_law_203 : decode cL_law 203 = .ok (.aload_n 0, 1) := by decide +kernel
theorem dL_law_204 : decode cL_law 204 = .ok (.iload_n 3, 1) := by decide +kernel
theorem dL_law_205 : decode cL_law 205 = .ok (.iconst 1, 1) := by decide +kernel
theorem dL_law_206 : decode cL_law 206 = .ok (.iadd, 1) := by decide +kernel
theorem dL_law_207 : decode cL_law 207 = .ok (.iaload, 1) := by decide +kernel
theorem dL_law_208 : decode cL_law 208 = .ok (.invokevirtual 38, 3) := by decide +kernel
theorem dL_law_211 : decode cL_law 211 = .ok (.if_icmp .eq 229, 3) := by decide +kernel
theorem dL_law_214 : decode cL_law 214 = .ok (.iconst 0, 1) := by decide +kernel
theorem dL_law_215 : decode cL_law 215 = .ok (.ireturn, 1) := by decide +kernel
theorem dL_law_216 : decode cL_law 216 = .ok (.aload_n 1, 1) := by decide +kernel
theorem dL_law_217 : decode cL_law 217 = .ok (.aload_n 0, 1) := by decide +kernel
theorem dL_law_218 : decode cL_law 218 = .ok (.iload_n 3, 1) := by decide +kernel
theorem dL_law_219 : decode cL_law 219 = .ok (.iconst 1, 1) := by decide +kernel
theorem dL_law_220 : decode cL_law 220 = .ok (.iadd, 1) := by decide +kernel
theorem dL_law_221 : decode cL_law 221 = .ok (.iaload, 1) := by decide +kernel
theorem dL_law_222 : decode cL_law 222 = .ok (.invokevirtual 39, 3) := by decide +kernel
theorem dL_law_225 : decode cL_law 225 = .ok (.aload_n 2, 1) := by decide +kernel
theorem dL_law_226 : decode cL_law 226 = .ok (.aload_n 0, 1) := by decide +kernel
theorem dL_law_227 : decode cL_law 227 = .ok (.iload_n 3, 1) := by decide +kernel
theorem dL_law_228 : decode cL_law 228 = .ok (.iconst 1, 1) := by decide +kernel
theorem dL_law_229 : decode cL_law 229 = .ok (.iadd, 1) := by decide +kernel
theorem dL_law_230 : decode cL_law 230 = .ok (.iaload, 1) := by decide +kernel
theorem dL_law_231 : decode cL_law 231 = .ok (.invokevirtual 42, 3) := by decide +kernel
theorem dL_law_234 : decode cL_law 234 = .ok (.if_icmp .eq 206, 3) := by decide +kernel
theorem dL_law_237 : decode cL_law 237 = .ok (.iconst 0, 1) := by decide +kernel
theorem dL_law_238 : decode cL_law 238 = .ok (.ireturn, 1) := by decide +kernel
theorem dL_law_239 : decode cL_law 239 = .ok (.aload_n 1, 1) := by decide +kernel
theorem dL_law_240 : decode cL_law 240 = .ok (.aload_n 0, 1) := by decide +kernel
theorem dL_law_241 : decode cL_law 241 = .ok (.iload_n 3, 1) := by decide +kernel
theorem dL_law_242 : decode cL_law 242 = .ok (.iconst 1, 1) := by decide +kernel
theorem dL_law_243 : decode cL_law 243 = .ok (.iadd, 1) := by decide +kernel
theorem dL_law_244 : decode cL_law 244 = .ok (.iaload, 1) := by decide +kernel
theorem dL_law_245 : decode cL_law 245 = .ok (.aload_n 0, 1) := by decide +kernel
theorem dL_law_246 : decode cL_law 246 = .ok (.iload_n 3, 1) := by decide +kernel
theorem dL_law_247 : decode cL_law 247 = .ok (.iconst 2, 1) := by decide +kernel
theorem dL_law_248 : decode cL_law 248 = .ok (.iadd, 1) := by decide +kernel
theorem dL_law_249 : decode cL_law 249 = .ok (.iaload, 1) := by decide +kernel
theorem dL_law_250 : decode cL_law 250 = .ok (.invokevirtual 43, 3) := by decide +kernel
theorem dL_law_253 : decode cL_law 253 = .ok (.aload_n 2, 1) := by decide +kernel
theorem dL_law_254 : decode cL_law 254 = .ok (.aload_n 0, 1) := by decide +kernel
theorem dL_law_255 : decode cL_law 255 = .ok (.iload_n 3, 1) := by decide +kernel
theorem dL_law_256 : decode cL_law 256 = .ok (.iconst 1, 1) := by decide +kernel
theorem dL_law_257 : decode cL_law 257 = .ok (.iadd, 1) := by decide +kernel
theorem dL_law_258 : decode cL_law 258 = .ok (.iaload, 1) := by decide +kernel
theorem dL_law_259 : decode cL_law 259 = .ok (.aload_n 0, 1) := by decide +kernel
theorem dL_law_260 : decode cL_law 260 = .ok (.iload_n 3, 1) := by decide +kernel
theorem dL_law_261 : decode cL_law 261 = .ok (.iconst 2, 1) := by decide +kernel
theorem dL_law_262 : decode cL_law 262 = .ok (.iadd, 1) := by decide +kernel
theorem dL_law_263 : decode cL_law 263 = .ok (.iaload, 1) := by decide +kernel
theorem dL_law_264 : decode cL_law 264 = .ok (.invokevirtual 47, 3) := by decide +kernel
theorem dL_law_267 : decode cL_law 267 = .ok (.if_icmp .eq 173, 3) := by decide +kernel
theorem dL_law_270 : decode cL_law 270 = .ok (.iconst 0, 1) := by decide +kernel
theorem dL_law_271 : decode cL_law 271 = .ok (.ireturn, 1) := by decide +kernel
theorem dL_law_272 : decode cL_law 272 = .ok (.aload_n 1, 1) := by decide +kernel
theorem dL_law_273 : decode cL_law 273 = .ok (.aload_n 0, 1) := by decide +kernel
theorem dL_law_274 : decode cL_law 274 = .ok (.iload_n 3, 1) := by decide +kernel
theorem dL_law_275 : decode cL_law 275 = .ok (.iconst 1, 1) := by decide +kernel
theorem dL_law_276 : decode cL_law 276 = .ok (.iadd, 1) := by decide +kernel
theorem dL_law_277 : decode cL_law 277 = .ok (.iaload, 1) := by decide +kernel
theorem dL_law_278 : decode cL_law 278 = .ok (.invokevirtual 48, 3) := by decide +kernel
theorem dL_law_281 : decode cL_law 281 = .ok (.aload_n 2, 1) := by decide +kernel
theorem dL_law_282 : decode cL_law 282 = .ok (.aload_n 0, 1) := by decide +kernel
theorem dL_law_283 : decode cL_law 283 = .ok (.iload_n 3, 1) := by decide +kernel
theorem dL_law_284 : decode cL_law 284 = .ok (.iconst 1, 1) := by decide +kernel
theorem dL_law_285 : decode cL_law 285 = .ok (.iadd, 1) := by decide +kernel
theorem dL_law_286 : decode cL_law 286 = .ok (.iaload, 1) := by decide +kernel
theorem dL_law_287 : decode cL_law 287 = .ok (.invokevirtual 51, 3) := by decide +kernel
theorem dL_law_290 : decode cL_law 290 = .ok (.if_icmp .eq 150, 3) := by decide +kernel
theorem dL_law_293 : decode cL_law 293 = .ok (.iconst 0, 1) := by decide +kernel
theorem dL_law_294 : decode cL_law 294 = .ok (.ireturn, 1) := by decide +kernel
theorem dL_law_295 : decode cL_law 295 = .ok (.aload_n 1, 1) := by decide +kernel
theorem dL_law_296 : decode cL_law 296 = .ok (.aload_n 0, 1) := by decide +kernel
theorem dL_law_297 : decode cL_law 297 = .ok (.iload_n 3, 1) := by decide +kernel
theorem dL_law_298 : decode cL_law 298 = .ok (.iconst 1, 1) := by decide +kernel
theorem dL_law_299 : decode cL_law 299 = .ok (.iadd, 1) := by decide +kernel
theorem dL_law_300 : decode cL_law 300 = .ok (.iaload, 1) := by decide +kernel
theorem dL_law_301 : decode cL_law 301 = .ok (.aload_n 0, 1) := by decide +kernel
theorem dL_law_302 : decode cL_law 302 = .ok (.iload_n 3, 1) := by decide +kernel
theorem dL_law_303 : decode cL_law 303 = .ok (.iconst 2, 1) := by decide +kernel
theorem dL_law_304 : decode cL_law 304 = .ok (.iadd, 1) := by decide +kernel
theorem dL_law_305 : decode cL_law 305 = .ok (.iaload, 1) := by decide +kernel
theorem dL_law_306 : decode cL_law 306 = .ok (.invokevirtual 52, 3) := by decide +kernel
theorem dL_law_309 : decode cL_law 309 = .ok (.aload_n 2, 1) := by decide +kernel
theorem dL_law_310 : decode cL_law 310 = .ok (.aload_n 0, 1) := by decide +kernel
theorem dL_law_311 : decode cL_law 311 = .ok (.iload_n 3, 1) := by decide +kernel
theorem dL_law_312 : decode cL_law 312 = .ok (.iconst 1, 1) := by decide +kernel
theorem dL_law_313 : decode cL_law 313 = .ok (.iadd, 1) := by decide +kernel
theorem dL_law_314 : decode cL_law 314 = .ok (.iaload, 1) := by decide +kernel
theorem dL_law_315 : decode cL_law 315 = .ok (.aload_n 0, 1) := by decide +kernel
theorem dL_law_316 : decode cL_law 316 = .ok (.iload_n 3, 1) := by decide +kernel
theorem dL_law_317 : decode cL_law 317 = .ok (.iconst 2, 1) := by decide +kernel
theorem dL_law_318 : decode cL_law 318 = .ok (.iadd, 1) := by decide +kernel
theorem dL_law_319 : decode cL_law 319 = .ok (.iaload, 1) := by decide +kernel
theorem dL_law_320 : decode cL_law 320 = .ok (.invokevirtual 55, 3) := by decide +kernel
theorem dL_law_323 : decode cL_law 323 = .ok (.if_icmp .eq 117, 3) := by decide +kernel
theorem dL_law_326 : decode cL_law 326 = .ok (.iconst 0, 1) := by decide +kernel
theorem dL_law_327 : decode cL_law 327 = .ok (.ireturn, 1) := by decide +kernel
theorem dL_law_328 : decode cL_law 328 = .ok (.aload_n 1, 1) := by decide +kernel
theorem dL_law_329 : decode cL_law 329 = .ok (.aload_n 0, 1) := by decide +kernel
theorem dL_law_330 : decode cL_law 330 = .ok (.iload_n 3, 1) := by decide +kernel
theorem dL_law_331 : decode cL_law 331 = .ok (.iconst 1, 1) := by decide +kernel
theorem dL_law_332 : decode cL_law 332 = .ok (.iadd, 1) := by decide +kernel
theorem dL_law_333 : decode cL_law 333 = .ok (.iaload, 1) := by decide +kernel
theorem dL_law_334 : decode cL_law 334 = .ok (.invokevirtual 56, 3) := by decide +kernel
theorem dL_law_337 : decode cL_law 337 = .ok (.aload_n 2, 1) := by decide +kernel
theorem dL_law_338 : decode cL_law 338 = .ok (.aload_n 0, 1) := by decide +kernel
theorem dL_law_339 : decode cL_law 339 = .ok (.iload_n 3, 1) := by decide +kernel
theorem dL_law_340 : decode cL_law 340 = .ok (.iconst 1, 1) := by decide +kernel
theorem dL_law_341 : decode cL_law 341 = .ok (.iadd, 1) := by decide +kernel
theorem dL_law_342 : decode cL_law 342 = .ok (.iaload, 1) := by decide +kernel
