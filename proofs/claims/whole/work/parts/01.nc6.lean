theorem dX6_count_107 : decode cX6_count 107 = .ok (.bipush 15, 2) := by decide +kernel
theorem dX6_count_109 : decode cX6_count 109 = .ok (.iaload, 1) := by decide +kernel
theorem dX6_count_110 : decode cX6_count 110 = .ok (.ireturn, 1) := by decide +kernel
theorem dX6_count_111 : decode cX6_count 111 = .ok (.iconst (-1), 1) := by decide +kernel
theorem dX6_count_112 : decode cX6_count 112 = .ok (.ireturn, 1) := by decide +kernel
theorem dX6_isCoset_0 : decode cX6_isCoset 0 = .ok (.iload_n 1, 1) := by decide +kernel
theorem dX6_isCoset_1 : decode cX6_isCoset 1 = .ok (.ifCond .lt 25, 3) := by decide +kernel
theorem dX6_isCoset_4 : decode cX6_isCoset 4 = .ok (.iload_n 1, 1) := by decide +kernel
theorem dX6_isCoset_5 : decode cX6_isCoset 5 = .ok (.aload_n 0, 1) := by decide +kernel
theorem dX6_isCoset_6 : decode cX6_isCoset 6 = .ok (.getfield 45, 3) := by decide +kernel
theorem dX6_isCoset_9 : decode cX6_isCoset 9 = .ok (.if_icmp .ge 17, 3) := by decide +kernel
theorem dX6_isCoset_12 : decode cX6_isCoset 12 = .ok (.aload_n 0, 1) := by decide +kernel
theorem dX6_isCoset_13 : decode cX6_isCoset 13 = .ok (.getfield 16, 3) := by decide +kernel
theorem dX6_isCoset_16 : decode cX6_isCoset 16 = .ok (.iload_n 1, 1) := by decide +kernel
theorem dX6_isCoset_17 : decode cX6_isCoset 17 = .ok (.iaload, 1) := by decide +kernel
theorem dX6_isCoset_18 : decode cX6_isCoset 18 = .ok (.iload_n 1, 1) := by decide +kernel
theorem dX6_isCoset_19 : decode cX6_isCoset 19 = .ok (.if_icmp .ne 7, 3) := by decide +kernel
theorem dX6_isCoset_22 : decode cX6_isCoset 22 = .ok (.iconst 1, 1) := by decide +kernel
theorem dX6_isCoset_23 : decode cX6_isCoset 23 = .ok (.goto 4, 3) := by decide +kernel
theorem dX6_isCoset_26 : decode cX6_isCoset 26 = .ok (.iconst 0, 1) := by decide +kernel
theorem dX6_isCoset_27 : decode cX6_isCoset 27 = .ok (.ireturn, 1) := by decide +kernel
set_option maxRecDepth 20000 in
theorem ggX6_known_X6_isLetter : GoodIn wsX6_known wsX6_isLetter := goodIn_r _ [6, 7, 17, 18, 19, 20, 21, 22, 23, 24, 25, 26, 27, 28, 29, 30, 31, 32, 33] (by decide +kernel) (by decide +kernel)
set_option maxRecDepth 20000 in
theorem gX6_known_X6_isLetter : GoodIn wsX6_known (wsV RX6 61 RX6 yX6_isLetter wsX6_isLetter) := goodIn_app (goodIn_of _ (by decide +kernel)) ggX6_known_X6_isLetter
set_option maxRecDepth 20000 in
theorem ggX6_known_X6_isCoset : GoodIn wsX6_known wsX6_isCoset := goodIn_r _ [11, 12, 13, 17, 18, 19, 20, 21, 22, 23, 24, 25, 26, 27, 28, 29, 30, 31, 32, 33] (by decide +kernel) (by decide +kernel)
set_option maxRecDepth 20000 in
theorem gX6_known_X6_isCoset : GoodIn wsX6_known (wsV RX6 113 RX6 yX6_isCoset wsX6_isCoset) := goodIn_app (goodIn_of _ (by decide +kernel)) ggX6_known_X6_isCoset
set_option maxRecDepth 20000 in
theorem ggX6_known_X6_column : GoodIn wsX6_known wsX6_column := goodIn_r _ [16] (by decide +kernel) (by decide +kernel)
set_option maxRecDepth 20000 in
theorem gX6_known_X6_column : GoodIn wsX6_known (va_wsS RX6 65 yX6_column wsX6_column) := goodIn_app (goodIn_of _ (by decide +kernel)) ggX6_known_X6_column
theorem dX6_known_0 : decode cX6_known 0 = .ok (.aload_n 0, 1) := by decide +kernel
theorem dX6_known_1 : decode cX6_known 1 = .ok (.iload_n 2, 1) := by decide +kernel
theorem dX6_known_2 : decode cX6_known 2 = .ok (.invokevirtual 61, 3) := by decide +kernel
theorem dX6_known_5 : decode cX6_known 5 = .ok (.ifCond .eq 11, 3) := by decide +kernel
theorem dX6_known_8 : decode cX6_known 8 = .ok (.aload_n 0, 1) := by decide +kernel
theorem dX6_known_9 : decode cX6_known 9 = .ok (.iload_n 1, 1) := by decide +kernel
theorem dX6_known_10 : decode cX6_known 10 = .ok (.invokevirtual 113, 3) := by decide +kernel
theorem dX6_known_13 : decode cX6_known 13 = .ok (.ifCond .ne 5, 3) := by decide +kernel
theorem dX6_known_16 : decode cX6_known 16 = .ok (.iconst (-1), 1) := by decide +kernel
theorem dX6_known_17 : decode cX6_known 17 = .ok (.ireturn, 1) := by decide +kernel
theorem dX6_known_18 : decode cX6_known 18 = .ok (.aload_n 0, 1) := by decide +kernel
theorem dX6_known_19 : decode cX6_known 19 = .ok (.getfield 19, 3) := by decide +kernel
theorem dX6_known_22 : decode cX6_known 22 = .ok (.bipush 6, 2) := by decide +kernel
theorem dX6_known_24 : decode cX6_known 24 = .ok (.iload_n 1, 1) := by decide +kernel
theorem dX6_known_25 : decode cX6_known 25 = .ok (.imul, 1) := by decide +kernel
theorem dX6_known_26 : decode cX6_known 26 = .ok (.iload_n 2, 1) := by decide +kernel
theorem dX6_known_27 : decode cX6_known 27 = .ok (.invokestatic 65, 3) := by decide +kernel
theorem dX6_known_30 : decode cX6_known 30 = .ok (.iadd, 1) := by decide +kernel
theorem dX6_known_31 : decode cX6_known 31 = .ok (.iaload, 1) := by decide +kernel
theorem dX6_known_32 : decode cX6_known 32 = .ok (.istore_n 3, 1) := by decide +kernel
theorem dX6_known_33 : decode cX6_known 33 = .ok (.iload_n 3, 1) := by decide +kernel
theorem dX6_known_34 : decode cX6_known 34 = .ok (.ifCond .ge 8, 3) := by decide +kernel
theorem dX6_known_37 : decode cX6_known 37 = .ok (.bipush (-2), 2) := by decide +kernel
theorem dX6_known_39 : decode cX6_known 39 = .ok (.goto 4, 3) := by decide +kernel
theorem dX6_known_42 : decode cX6_known 42 = .ok (.iload_n 3, 1) := by decide +kernel
theorem dX6_known_43 : decode cX6_known 43 = .ok (.ireturn, 1) := by decide +kernel
set_option maxRecDepth 20000 in
theorem ggX6_numberAll_X6_isComplete : GoodIn wsX6_numberAll wsX6_isComplete := goodIn_r _ [10, 11, 12, 13, 9, 14, 15, 4, 16, 5, 17, 18, 19, 20, 21, 22, 23, 24, 25, 26, 27, 28, 29, 30, 31, 32, 33] (by decide +kernel) (by decide +kernel)
set_option maxRecDepth 20000 in
theorem gX6_numberAll_X6_isComplete : GoodIn wsX6_numberAll (wsV RX6 109 RX6 yX6_isComplete wsX6_isComplete) := goodIn_app (goodIn_of _ (by decide +kernel)) ggX6_numberAll_X6_isComplete
theorem dX6_numberAll_0 : decode cX6_numberAll 0 = .ok (.aload_n 0, 1) := by decide +kernel
theorem dX6_numberAll_1 : decode cX6_numberAll 1 = .ok (.invokevirtual 109, 3) := by decide +kernel
theorem dX6_numberAll_4 : decode cX6_numberAll 4 = .ok (.ifCond .ne 5, 3) := by decide +kernel
theorem dX6_numberAll_7 : decode cX6_numberAll 7 = .ok (.iconst 0, 1) := by decide +kernel
theorem dX6_numberAll_8 : decode cX6_numberAll 8 = .ok (.ireturn, 1) := by decide +kernel
theorem dX6_numberAll_9 : decode cX6_numberAll 9 = .ok (.iconst 0, 1) := by decide +kernel
theorem dX6_numberAll_10 : decode cX6_numberAll 10 = .ok (.istore_n 1, 1) := by decide +kernel
theorem dX6_numberAll_11 : decode cX6_numberAll 11 = .ok (.iload_n 1, 1) := by decide +kernel
theorem dX6_numberAll_12 : decode cX6_numberAll 12 = .ok (.sipush 200, 3) := by decide +kernel
theorem dX6_numberAll_15 : decode cX6_numberAll 15 = .ok (.if_icmp .ge 16, 3) := by decide +kernel
theorem dX6_numberAll_18 : decode cX6_numberAll 18 = .ok (.aload_n 0, 1) := by decide +kernel
theorem dX6_numberAll_19 : decode cX6_numberAll 19 = .ok (.getfield 28, 3) := by decide +kernel
theorem dX6_numberAll_22 : decode cX6_numberAll 22 = .ok (.iload_n 1, 1) := by decide +kernel
theorem dX6_numberAll_23 : decode cX6_numberAll 23 = .ok (.iconst (-1), 1) := by decide +kernel
theorem dX6_numberAll_24 : decode cX6_numberAll 24 = .ok (.iastore, 1) := by decide +kernel
theorem dX6_numberAll_25 : decode cX6_numberAll 25 = .ok (.iinc 1 1, 3) := by decide +kernel
theorem dX6_numberAll_28 : decode cX6_numberAll 28 = .ok (.goto (-17), 3) := by decide +kernel
theorem dX6_numberAll_31 : decode cX6_numberAll 31 = .ok (.aload_n 0, 1) := by decide +kernel
theorem dX6_numberAll_32 : decode cX6_numberAll 32 = .ok (.getfield 28, 3) := by decide +kernel
theorem dX6_numberAll_35 : decode cX6_numberAll 35 = .ok (.iconst 0, 1) := by decide +kernel
theorem dX6_numberAll_36 : decode cX6_numberAll 36 = .ok (.iconst 0, 1) := by decide +kernel
theorem dX6_numberAll_37 : decode cX6_numberAll 37 = .ok (.iastore, 1) := by decide +kernel
theorem dX6_numberAll_38 : decode cX6_numberAll 38 = .ok (.aload_n 0, 1) := by decide +kernel
theorem dX6_numberAll_39 : decode cX6_numberAll 39 = .ok (.getfield 31, 3) := by decide +kernel
theorem dX6_numberAll_42 : decode cX6_numberAll 42 = .ok (.iconst 0, 1) := by decide +kernel
theorem dX6_numberAll_43 : decode cX6_numberAll 43 = .ok (.iconst 0, 1) := by decide +kernel
theorem dX6_numberAll_44 : decode cX6_numberAll 44 = .ok (.iastore, 1) := by decide +kernel
theorem dX6_numberAll_45 : decode cX6_numberAll 45 = .ok (.aload_n 0, 1) := by decide +kernel
theorem dX6_numberAll_46 : decode cX6_numberAll 46 = .ok (.iconst 1, 1) := by decide +kernel
theorem dX6_numberAll_47 : decode cX6_numberAll 47 = .ok (.putfield 116, 3) := by decide +kernel
theorem dX6_numberAll_50 : decode cX6_numberAll 50 = .ok (.iconst 0, 1) := by decide +kernel
theorem dX6_numberAll_51 : decode cX6_numberAll 51 = .ok (.istore_n 1, 1) := by decide +kernel
theorem dX6_numberAll_52 : decode cX6_numberAll 52 = .ok (.iload_n 1, 1) := by decide +kernel
theorem dX6_numberAll_53 : decode cX6_numberAll 53 = .ok (.aload_n 0, 1) := by decide +kernel
theorem dX6_numberAll_54 : decode cX6_numberAll 54 = .ok (.getfield 116, 3) := by decide +kernel
theorem dX6_numberAll_57 : decode cX6_numberAll 57 = .ok (.if_icmp .ge 83, 3) := by decide +kernel
theorem dX6_numberAll_60 : decode cX6_numberAll 60 = .ok (.iconst 0, 1) := by decide +kernel
theorem dX6_numberAll_61 : decode cX6_numberAll 61 = .ok (.istore_n 2, 1) := by decide +kernel
theorem dX6_numberAll_62 : decode cX6_numberAll 62 = .ok (.iload_n 2, 1) := by decide +kernel
theorem dX6_numberAll_63 : decode cX6_numberAll 63 = .ok (.iconst 2, 1) := by decide +kernel
theorem dX6_numberAll_64 : decode cX6_numberAll 64 = .ok (.aload_n 0, 1) := by decide +kernel
theorem dX6_numberAll_65 : decode cX6_numberAll 65 = .ok (.getfield 49, 3) := by decide +kernel
theorem dX6_numberAll_68 : decode cX6_numberAll 68 = .ok (.imul, 1) := by decide +kernel
theorem dX6_numberAll_69 : decode cX6_numberAll 69 = .ok (.if_icmp .ge 65, 3) := by decide +kernel
theorem dX6_numberAll_72 : decode cX6_numberAll 72 = .ok (.aload_n 0, 1) := by decide +kernel
theorem dX6_numberAll_73 : decode cX6_numberAll 73 = .ok (.getfield 19, 3) := by decide +kernel
theorem dX6_numberAll_76 : decode cX6_numberAll 76 = .ok (.bipush 6, 2) := by decide +kernel
theorem dX6_numberAll_78 : decode cX6_numberAll 78 = .ok (.aload_n 0, 1) := by decide +kernel
theorem dX6_numberAll_79 : decode cX6_numberAll 79 = .ok (.getfield 31, 3) := by decide +kernel
theorem dX6_numberAll_82 : decode cX6_numberAll 82 = .ok (.iload_n 1, 1) := by decide +kernel
theorem dX6_numberAll_83 : decode cX6_numberAll 83 = .ok (.iaload, 1) := by decide +kernel
theorem dX6_numberAll_84 : decode cX6_numberAll 84 = .ok (.imul, 1) := by decide +kernel
theorem dX6_numberAll_85 : decode cX6_numberAll 85 = .ok (.iload_n 2, 1) := by decide +kernel
theorem dX6_numberAll_86 : decode cX6_numberAll 86 = .ok (.iadd, 1) := by decide +kernel
theorem dX6_numberAll_87 : decode cX6_numberAll 87 = .ok (.iaload, 1) := by decide +kernel
theorem dX6_numberAll_88 : decode cX6_numberAll 88 = .ok (.istore_n 3, 1) := by decide +kernel
theorem dX6_numberAll_89 : decode cX6_numberAll 89 = .ok (.aload_n 0, 1) := by decide +kernel
theorem dX6_numberAll_90 : decode cX6_numberAll 90 = .ok (.getfield 28, 3) := by decide +kernel
theorem dX6_numberAll_93 : decode cX6_numberAll 93 = .ok (.iload_n 3, 1) := by decide +kernel
theorem dX6_numberAll_94 : decode cX6_numberAll 94 = .ok (.iaload, 1) := by decide +kernel
theorem dX6_numberAll_95 : decode cX6_numberAll 95 = .ok (.ifCond .ge 33, 3) := by decide +kernel
theorem dX6_numberAll_98 : decode cX6_numberAll 98 = .ok (.aload_n 0, 1) := by decide +kernel
theorem dX6_numberAll_99 : decode cX6_numberAll 99 = .ok (.getfield 28, 3) := by decide +kernel
theorem dX6_numberAll_102 : decode cX6_numberAll 102 = .ok (.iload_n 3, 1) := by decide +kernel
theorem dX6_numberAll_103 : decode cX6_numberAll 103 = .ok (.aload_n 0, 1) := by decide +kernel
theorem dX6_numberAll_104 : decode cX6_numberAll 104 = .ok (.getfield 116, 3) := by decide +kernel
theorem dX6_numberAll_107 : decode cX6_numberAll 107 = .ok (.iastore, 1) := by decide +kernel
theorem dX6_numberAll_108 : decode cX6_numberAll 108 = .ok (.aload_n 0, 1) := by decide +kernel
theorem dX6_numberAll_109 : decode cX6_numberAll 109 = .ok (.getfield 31, 3) := by decide +kernel
theorem dX6_numberAll_112 : decode cX6_numberAll 112 = .ok (.aload_n 0, 1) := by decide +kernel
theorem dX6_numberAll_113 : decode cX6_numberAll 113 = .ok (.getfield 116, 3) := by decide +kernel
theorem dX6_numberAll_116 : decode cX6_numberAll 116 = .ok (.iload_n 3, 1) := by decide +kernel
theorem dX6_numberAll_117 : decode cX6_numberAll 117 = .ok (.iastore, 1) := by decide +kernel
theorem dX6_numberAll_118 : decode cX6_numberAll 118 = .ok (.aload_n 0, 1) := by decide +kernel
theorem dX6_numberAll_119 : decode cX6_numberAll 119 = .ok (.dup, 1) := by decide +kernel
theorem dX6_numberAll_120 : decode cX6_numberAll 120 = .ok (.getfield 116, 3) := by decide +kernel
theorem dX6_numberAll_123 : decode cX6_numberAll 123 = .ok (.iconst 1, 1) := by decide +kernel
theorem dX6_numberAll_124 : decode cX6_numberAll 124 = .ok (.iadd, 1) := by decide +kernel
theorem dX6_numberAll_125 : decode cX6_numberAll 125 = .ok (.putfield 116, 3) := by decide +kernel
theorem dX6_numberAll_128 : decode cX6_numberAll 128 = .ok (.iinc 2 1, 3) := by decide +kernel
theorem dX6_numberAll_131 : decode cX6_numberAll 131 = .ok (.goto (-69), 3) := by decide +kernel
theorem dX6_numberAll_134 : decode cX6_numberAll 134 = .ok (.iinc 1 1, 3) := by decide +kernel
theorem dX6_numberAll_137 : decode cX6_numberAll 137 = .ok (.goto (-85), 3) := by decide +kernel
theorem dX6_numberAll_140 : decode cX6_numberAll 140 = .ok (.iconst 1, 1) := by decide +kernel
theorem dX6_numberAll_141 : decode cX6_numberAll 141 = .ok (.ireturn, 1) := by decide +kernel
theorem dX6_isNumber_0 : decode cX6_isNumber 0 = .ok (.iload_n 1, 1) := by decide +kernel
theorem dX6_isNumber_1 : decode cX6_isNumber 1 = .ok (.ifCond .lt 15, 3) := by decide +kernel
theorem dX6_isNumber_4 : decode cX6_isNumber 4 = .ok (.iload_n 1, 1) := by decide +kernel
theorem dX6_isNumber_5 : decode cX6_isNumber 5 = .ok (.aload_n 0, 1) := by decide +kernel
theorem dX6_isNumber_6 : decode cX6_isNumber 6 = .ok (.getfield 116, 3) := by decide +kernel
theorem dX6_isNumber_9 : decode cX6_isNumber 9 = .ok (.if_icmp .ge 7, 3) := by decide +kernel
theorem dX6_isNumber_12 : decode cX6_isNumber 12 = .ok (.iconst 1, 1) := by decide +kernel
theorem dX6_isNumber_13 : decode cX6_isNumber 13 = .ok (.goto 4, 3) := by decide +kernel
theorem dX6_isNumber_16 : decode cX6_isNumber 16 = .ok (.iconst 0, 1) := by decide +kernel
theorem dX6_isNumber_17 : decode cX6_isNumber 17 = .ok (.ireturn, 1) := by decide +kernel
theorem dX6_moved_0 : decode cX6_moved 0 = .ok (.aload_n 0, 1) := by decide +kernel
theorem dX6_moved_1 : decode cX6_moved 1 = .ok (.getfield 31, 3) := by decide +kernel
theorem dX6_moved_4 : decode cX6_moved 4 = .ok (.iload_n 2, 1) := by decide +kernel
theorem dX6_moved_5 : decode cX6_moved 5 = .ok (.iaload, 1) := by decide +kernel
theorem dX6_moved_6 : decode cX6_moved 6 = .ok (.istore_n 3, 1) := by decide +kernel
theorem dX6_moved_7 : decode cX6_moved 7 = .ok (.iconst 0, 1) := by decide +kernel
theorem dX6_moved_8 : decode cX6_moved 8 = .ok (.istore 4, 2) := by decide +kernel
theorem dX6_moved_10 : decode cX6_moved 10 = .ok (.iload 4, 2) := by decide +kernel
theorem dX6_moved_12 : decode cX6_moved 12 = .ok (.aload_n 0, 1) := by decide +kernel
theorem dX6_moved_13 : decode cX6_moved 13 = .ok (.getfield 13, 3) := by decide +kernel
theorem dX6_moved_16 : decode cX6_moved 16 = .ok (.iload_n 1, 1) := by decide +kernel
theorem dX6_moved_17 : decode cX6_moved 17 = .ok (.iaload, 1) := by decide +kernel
theorem dX6_moved_18 : decode cX6_moved 18 = .ok (.if_icmp .ge 32, 3) := by decide +kernel
theorem dX6_moved_21 : decode cX6_moved 21 = .ok (.aload_n 0, 1) := by decide +kernel
theorem dX6_moved_22 : decode cX6_moved 22 = .ok (.getfield 19, 3) := by decide +kernel
theorem dX6_moved_25 : decode cX6_moved 25 = .ok (.bipush 6, 2) := by decide +kernel
theorem dX6_moved_27 : decode cX6_moved 27 = .ok (.iload_n 3, 1) := by decide +kernel
theorem dX6_moved_28 : decode cX6_moved 28 = .ok (.imul, 1) := by decide +kernel
theorem dX6_moved_29 : decode cX6_moved 29 = .ok (.aload_n 0, 1) := by decide +kernel
theorem dX6_moved_30 : decode cX6_moved 30 = .ok (.getfield 7, 3) := by decide +kernel
theorem dX6_moved_33 : decode cX6_moved 33 = .ok (.bipush 24, 2) := by decide +kernel
theorem dX6_moved_35 : decode cX6_moved 35 = .ok (.iload_n 1, 1) := by decide +kernel
theorem dX6_moved_36 : decode cX6_moved 36 = .ok (.imul, 1) := by decide +kernel
theorem dX6_moved_37 : decode cX6_moved 37 = .ok (.iload 4, 2) := by decide +kernel
theorem dX6_moved_39 : decode cX6_moved 39 = .ok (.iadd, 1) := by decide +kernel
theorem dX6_moved_40 : decode cX6_moved 40 = .ok (.iaload, 1) := by decide +kernel
theorem dX6_moved_41 : decode cX6_moved 41 = .ok (.iadd, 1) := by decide +kernel
theorem dX6_moved_42 : decode cX6_moved 42 = .ok (.iaload, 1) := by decide +kernel
theorem dX6_moved_43 : decode cX6_moved 43 = .ok (.istore_n 3, 1) := by decide +kernel
theorem dX6_moved_44 : decode cX6_moved 44 = .ok (.iinc 4 1, 3) := by decide +kernel
theorem dX6_moved_47 : decode cX6_moved 47 = .ok (.goto (-37), 3) := by decide +kernel
theorem dX6_moved_50 : decode cX6_moved 50 = .ok (.aload_n 0, 1) := by decide +kernel
theorem dX6_moved_51 : decode cX6_moved 51 = .ok (.getfield 28, 3) := by decide +kernel
theorem dX6_moved_54 : decode cX6_moved 54 = .ok (.iload_n 3, 1) := by decide +kernel
theorem dX6_moved_55 : decode cX6_moved 55 = .ok (.iaload, 1) := by decide +kernel
theorem dX6_moved_56 : decode cX6_moved 56 = .ok (.ireturn, 1) := by decide +kernel
set_option maxRecDepth 20000 in
theorem ggX6_number_X6_numberAll : GoodIn wsX6_number wsX6_numberAll := goodIn_r _ [6, 1, 7, 8, 9, 10, 11, 12, 13, 5, 14, 15, 16, 17, 18, 19, 20, 25, 26, 27, 28, 29, 30, 31, 32, 33, 34, 35, 36, 37, 38, 39, 40, 41] (by decide +kernel) (by decide +kernel)
set_option maxRecDepth 20000 in
theorem gX6_number_X6_numberAll : GoodIn wsX6_number (wsV RX6 119 RX6 yX6_numberAll wsX6_numberAll) := goodIn_app (goodIn_of _ (by decide +kernel)) ggX6_number_X6_numberAll
set_option maxRecDepth 20000 in
theorem ggX6_number_X6_isCoset : GoodIn wsX6_number wsX6_isCoset := goodIn_r _ [24, 19, 20, 25, 26, 27, 28, 29, 30, 31, 32, 33, 34, 35, 36, 37, 38, 39, 40, 41] (by decide +kernel) (by decide +kernel)
set_option maxRecDepth 20000 in
theorem gX6_number_X6_isCoset : GoodIn wsX6_number (wsV RX6 113 RX6 yX6_isCoset wsX6_isCoset) := goodIn_app (goodIn_of _ (by decide +kernel)) ggX6_number_X6_isCoset
theorem dX6_number_0 : decode cX6_number 0 = .ok (.aload_n 0, 1) := by decide +kernel
theorem dX6_number_1 : decode cX6_number 1 = .ok (.invokevirtual 119, 3) := by decide +kernel
theorem dX6_number_4 : decode cX6_number 4 = .ok (.ifCond .eq 20, 3) := by decide +kernel
theorem dX6_number_7 : decode cX6_number 7 = .ok (.aload_n 0, 1) := by decide +kernel
theorem dX6_number_8 : decode cX6_number 8 = .ok (.iload_n 1, 1) := by decide +kernel
theorem dX6_number_9 : decode cX6_number 9 = .ok (.invokevirtual 113, 3) := by decide +kernel
theorem dX6_number_12 : decode cX6_number 12 = .ok (.ifCond .eq 12, 3) := by decide +kernel
theorem dX6_number_15 : decode cX6_number 15 = .ok (.aload_n 0, 1) := by decide +kernel
theorem dX6_number_16 : decode cX6_number 16 = .ok (.getfield 28, 3) := by decide +kernel
theorem dX6_number_19 : decode cX6_number 19 = .ok (.iload_n 1, 1) := by decide +kernel
theorem dX6_number_20 : decode cX6_number 20 = .ok (.iaload, 1) := by decide +kernel
theorem dX6_number_21 : decode cX6_number 21 = .ok (.goto 4, 3) := by decide +kernel
theorem dX6_number_24 : decode cX6_number 24 = .ok (.iconst (-1), 1) := by decide +kernel
theorem dX6_number_25 : decode cX6_number 25 = .ok (.ireturn, 1) := by decide +kernel
set_option maxRecDepth 20000 in
theorem ggX6_entry_X6_numberAll : GoodIn wsX6_entry wsX6_numberAll := goodIn_r _ [8, 1, 3, 9, 10, 2, 11, 12, 13, 7, 14, 15, 16, 17, 18, 19, 20, 32, 33, 34, 35, 36, 37, 38, 39, 40, 41, 42, 43, 44, 45, 46, 47, 48] (by decide +kernel) (by decide +kernel)
set_option maxRecDepth 20000 in
theorem gX6_entry_X6_numberAll : GoodIn wsX6_entry (wsV RX6 119 RX6 yX6_numberAll wsX6_numberAll) := goodIn_app (goodIn_of _ (by decide +kernel)) ggX6_entry_X6_numberAll
set_option maxRecDepth 20000 in
theorem ggX6_entry_X6_isNumber : GoodIn wsX6_entry wsX6_isNumber := goodIn_r _ [24, 9, 32, 33, 34, 35, 36, 37, 38, 39, 40, 41, 42, 43, 44, 45, 46, 47, 48] (by decide +kernel) (by decide +kernel)
set_option maxRecDepth 20000 in
theorem gX6_entry_X6_isNumber : GoodIn wsX6_entry (wsV RX6 122 RX6 yX6_isNumber wsX6_isNumber) := goodIn_app (goodIn_of _ (by decide +kernel)) ggX6_entry_X6_isNumber
set_option maxRecDepth 20000 in
theorem ggX6_entry_X6_isLetter : GoodIn wsX6_entry wsX6_isLetter := goodIn_r _ [28, 10, 32, 33, 34, 35, 36, 37, 38, 39, 40, 41, 42, 43, 44, 45, 46, 47, 48] (by decide +kernel) (by decide +kernel)
set_option maxRecDepth 20000 in
theorem gX6_entry_X6_isLetter : GoodIn wsX6_entry (wsV RX6 61 RX6 yX6_isLetter wsX6_isLetter) := goodIn_app (goodIn_of _ (by decide +kernel)) ggX6_entry_X6_isLetter
set_option maxRecDepth 20000 in
theorem ggX6_entry_X6_column : GoodIn wsX6_entry wsX6_column := goodIn_r _ [31] (by decide +kernel) (by decide +kernel)
set_option maxRecDepth 20000 in
theorem gX6_entry_X6_column : GoodIn wsX6_entry (va_wsS RX6 65 yX6_column wsX6_column) := goodIn_app (goodIn_of _ (by decide +kernel)) ggX6_entry_X6_column
theorem dX6_entry_0 : decode cX6_entry 0 = .ok (.aload_n 0, 1) := by decide +kernel
theorem dX6_entry_1 : decode cX6_entry 1 = .ok (.invokevirtual 119, 3) := by decide +kernel
theorem dX6_entry_4 : decode cX6_entry 4 = .ok (.ifCond .eq 46, 3) := by decide +kernel
theorem dX6_entry_7 : decode cX6_entry 7 = .ok (.aload_n 0, 1) := by decide +kernel
theorem dX6_entry_8 : decode cX6_entry 8 = .ok (.iload_n 1, 1) := by decide +kernel
theorem dX6_entry_9 : decode cX6_entry 9 = .ok (.invokevirtual 122, 3) := by decide +kernel
theorem dX6_entry_12 : decode cX6_entry 12 = .ok (.ifCond .eq 38, 3) := by decide +kernel
theorem dX6_entry_15 : decode cX6_entry 15 = .ok (.aload_n 0, 1) := by decide +kernel
theorem dX6_entry_16 : decode cX6_entry 16 = .ok (.iload_n 2, 1) := by decide +kernel
theorem dX6_entry_17 : decode cX6_entry 17 = .ok (.invokevirtual 61, 3) := by decide +kernel
theorem dX6_entry_20 : decode cX6_entry 20 = .ok (.ifCond .eq 30, 3) := by decide +kernel
theorem dX6_entry_23 : decode cX6_entry 23 = .ok (.aload_n 0, 1) := by decide +kernel
theorem dX6_entry_24 : decode cX6_entry 24 = .ok (.getfield 28, 3) := by decide +kernel
theorem dX6_entry_27 : decode cX6_entry 27 = .ok (.aload_n 0, 1) := by decide +kernel
theorem dX6_entry_28 : decode cX6_entry 28 = .ok (.getfield 19, 3) := by decide +kernel
theorem dX6_entry_31 : decode cX6_entry 31 = .ok (.bipush 6, 2) := by decide +kernel
theorem dX6_entry_33 : decode cX6_entry 33 = .ok (.aload_n 0, 1) := by decide +kernel
theorem dX6_entry_34 : decode cX6_entry 34 = .ok (.getfield 31, 3) := by decide +kernel
theorem dX6_entry_37 : decode cX6_entry 37 = .ok (.iload_n 1, 1) := by decide +kernel
theorem dX6_entry_38 : decode cX6_entry 38 = .ok (.iaload, 1) := by decide +kernel
theorem dX6_entry_39 : decode cX6_entry 39 = .ok (.imul, 1) := by decide +kernel
theorem dX6_entry_40 : decode cX6_entry 40 = .ok (.iload_n 2, 1) := by decide +kernel
theorem dX6_entry_41 : decode cX6_entry 41 = .ok (.invokestatic 65, 3) := by decide +kernel
theorem dX6_entry_44 : decode cX6_entry 44 = .ok (.iadd, 1) := by decide +kernel
theorem dX6_entry_45 : decode cX6_entry 45 = .ok (.iaload, 1) := by decide +kernel
theorem dX6_entry_46 : decode cX6_entry 46 = .ok (.iaload, 1) := by decide +kernel
theorem dX6_entry_47 : decode cX6_entry 47 = .ok (.goto 4, 3) := by decide +kernel
theorem dX6_entry_50 : decode cX6_entry 50 = .ok (.iconst (-1), 1) := by decide +kernel
theorem dX6_entry_51 : decode cX6_entry 51 = .ok (.ireturn, 1) := by decide +kernel
set_option maxRecDepth 20000 in
theorem ggX6_move_X6_numberAll : GoodIn wsX6_move wsX6_numberAll := goodIn_r _ [5, 6, 7, 8, 9, 10, 11, 12, 13, 4, 14, 15, 16, 17, 18, 19, 20, 31, 32, 33, 34, 35, 36, 37, 38, 39, 40, 41, 42, 43, 44, 45, 46, 47] (by decide +kernel) (by decide +kernel)
set_option maxRecDepth 20000 in
theorem gX6_move_X6_numberAll : GoodIn wsX6_move (wsV RX6 119 RX6 yX6_numberAll wsX6_numberAll) := goodIn_app (goodIn_of _ (by decide +kernel)) ggX6_move_X6_numberAll
set_option maxRecDepth 20000 in
theorem ggX6_move_X6_isNumber : GoodIn wsX6_move wsX6_isNumber := goodIn_r _ [24, 8, 31, 32, 33, 34, 35, 36, 37, 38, 39, 40, 41, 42, 43, 44, 45, 46, 47] (by decide +kernel) (by decide +kernel)
set_option maxRecDepth 20000 in
theorem gX6_move_X6_isNumber : GoodIn wsX6_move (wsV RX6 122 RX6 yX6_isNumber wsX6_isNumber) := goodIn_app (goodIn_of _ (by decide +kernel)) ggX6_move_X6_isNumber
set_option maxRecDepth 20000 in
theorem ggX6_move_X6_moved : GoodIn wsX6_move wsX6_moved := goodIn_r _ [28, 7, 29, 10, 30, 6, 31, 32, 33, 34, 35, 36, 37, 38, 39, 40, 41, 42, 43, 44, 45, 46, 47] (by decide +kernel) (by decide +kernel)
set_option maxRecDepth 20000 in
theorem gX6_move_X6_moved : GoodIn wsX6_move (wsV RX6 125 RX6 yX6_moved wsX6_moved) := goodIn_app (goodIn_of _ (by decide +kernel)) ggX6_move_X6_moved
theorem dX6_move_0 : decode cX6_move 0 = .ok (.aload_n 0, 1) := by decide +kernel
theorem dX6_move_1 : decode cX6_move 1 = .ok (.invokevirtual 119, 3) := by decide +kernel
theorem dX6_move_4 : decode cX6_move 4 = .ok (.ifCond .eq 21, 3) := by decide +kernel
theorem dX6_move_7 : decode cX6_move 7 = .ok (.aload_n 0, 1) := by decide +kernel
theorem dX6_move_8 : decode cX6_move 8 = .ok (.iload_n 1, 1) := by decide +kernel
theorem dX6_move_9 : decode cX6_move 9 = .ok (.invokevirtual 122, 3) := by decide +kernel
theorem dX6_move_12 : decode cX6_move 12 = .ok (.ifCond .eq 13, 3) := by decide +kernel
theorem dX6_move_15 : decode cX6_move 15 = .ok (.aload_n 0, 1) := by decide +kernel
theorem dX6_move_16 : decode cX6_move 16 = .ok (.bipush 15, 2) := by decide +kernel
theorem dX6_move_18 : decode cX6_move 18 = .ok (.iload_n 1, 1) := by decide +kernel
theorem dX6_move_19 : decode cX6_move 19 = .ok (.invokevirtual 125, 3) := by decide +kernel
theorem dX6_move_22 : decode cX6_move 22 = .ok (.goto 4, 3) := by decide +kernel
theorem dX6_move_25 : decode cX6_move 25 = .ok (.iconst (-1), 1) := by decide +kernel
theorem dX6_move_26 : decode cX6_move 26 = .ok (.ireturn, 1) := by decide +kernel
set_option maxRecDepth 20000 in
theorem ggX6_cycle_X6_moved : GoodIn wsX6_cycle wsX6_moved := goodIn_r _ [6, 7, 8, 9, 10, 11, 12, 13, 14, 15, 16, 17, 18, 19, 20, 21, 22, 23, 24, 25, 26, 27, 28] (by decide +kernel) (by decide +kernel)
set_option maxRecDepth 20000 in
theorem gX6_cycle_X6_moved : GoodIn wsX6_cycle (wsV RX6 125 RX6 yX6_moved wsX6_moved) := goodIn_app (goodIn_of _ (by decide +kernel)) ggX6_cycle_X6_moved
theorem dX6_cycle_0 : decode cX6_cycle 0 = .ok (.iconst 0, 1) := by decide +kernel
theorem dX6_cycle_1 : decode cX6_cycle 1 = .ok (.istore_n 2, 1) := by decide +kernel
theorem dX6_cycle_2 : decode cX6_cycle 2 = .ok (.iload_n 1, 1) := by decide +kernel
theorem dX6_cycle_3 : decode cX6_cycle 3 = .ok (.istore_n 3, 1) := by decide +kernel
theorem dX6_cycle_4 : decode cX6_cycle 4 = .ok (.aload_n 0, 1) := by decide +kernel
theorem dX6_cycle_5 : decode cX6_cycle 5 = .ok (.getfield 34, 3) := by decide +kernel
theorem dX6_cycle_8 : decode cX6_cycle 8 = .ok (.iload_n 3, 1) := by decide +kernel
theorem dX6_cycle_9 : decode cX6_cycle 9 = .ok (.baload, 1) := by decide +kernel
theorem dX6_cycle_10 : decode cX6_cycle 10 = .ok (.ifCond .ne 24, 3) := by decide +kernel
theorem dX6_cycle_13 : decode cX6_cycle 13 = .ok (.aload_n 0, 1) := by decide +kernel
theorem dX6_cycle_14 : decode cX6_cycle 14 = .ok (.getfield 34, 3) := by decide +kernel
theorem dX6_cycle_17 : decode cX6_cycle 17 = .ok (.iload_n 3, 1) := by decide +kernel
theorem dX6_cycle_18 : decode cX6_cycle 18 = .ok (.iconst 1, 1) := by decide +kernel
theorem dX6_cycle_19 : decode cX6_cycle 19 = .ok (.bastore, 1) := by decide +kernel
theorem dX6_cycle_20 : decode cX6_cycle 20 = .ok (.iinc 2 1, 3) := by decide +kernel
theorem dX6_cycle_23 : decode cX6_cycle 23 = .ok (.aload_n 0, 1) := by decide +kernel
theorem dX6_cycle_24 : decode cX6_cycle 24 = .ok (.bipush 15, 2) := by decide +kernel
theorem dX6_cycle_26 : decode cX6_cycle 26 = .ok (.iload_n 3, 1) := by decide +kernel
theorem dX6_cycle_27 : decode cX6_cycle 27 = .ok (.invokevirtual 125, 3) := by decide +kernel
theorem dX6_cycle_30 : decode cX6_cycle 30 = .ok (.istore_n 3, 1) := by decide +kernel
theorem dX6_cycle_31 : decode cX6_cycle 31 = .ok (.goto (-27), 3) := by decide +kernel
theorem dX6_cycle_34 : decode cX6_cycle 34 = .ok (.iload_n 2, 1) := by decide +kernel
theorem dX6_cycle_35 : decode cX6_cycle 35 = .ok (.ireturn, 1) := by decide +kernel
set_option maxRecDepth 20000 in
theorem ggX6_cycles_X6_numberAll : GoodIn wsX6_cycles wsX6_numberAll := goodIn_r _ [7, 8, 9, 1, 10, 11, 12, 13, 14, 6, 15, 16, 17, 18, 19, 20, 21, 32, 33, 34, 35, 36, 37, 38, 39, 40, 41, 42, 43, 44, 45, 46, 47, 48] (by decide +kernel) (by decide +kernel)
set_option maxRecDepth 20000 in
theorem gX6_cycles_X6_numberAll : GoodIn wsX6_cycles (wsV RX6 119 RX6 yX6_numberAll wsX6_numberAll) := goodIn_app (goodIn_of _ (by decide +kernel)) ggX6_cycles_X6_numberAll
set_option maxRecDepth 20000 in
theorem ggX6_cycles_X6_cycle : GoodIn wsX6_cycles wsX6_cycle := goodIn_r _ [25, 2, 26, 27, 28, 6, 29, 9, 30, 11, 31, 8, 32, 33, 34, 35, 36, 37, 38, 39, 40, 41, 42, 43, 44, 45, 46, 47, 48] (by decide +kernel) (by decide +kernel)
set_option maxRecDepth 20000 in
theorem gX6_cycles_X6_cycle : GoodIn wsX6_cycles (wsV RX6 129 RX6 yX6_cycle wsX6_cycle) := goodIn_app (goodIn_of _ (by decide +kernel)) ggX6_cycles_X6_cycle
theorem dX6_cycles_0 : decode cX6_cycles 0 = .ok (.aload_n 0, 1) := by decide +kernel
theorem dX6_cycles_1 : decode cX6_cycles 1 = .ok (.invokevirtual 119, 3) := by decide +kernel
theorem dX6_cycles_4 : decode cX6_cycles 4 = .ok (.ifCond .ne 5, 3) := by decide +kernel
theorem dX6_cycles_7 : decode cX6_cycles 7 = .ok (.iconst (-1), 1) := by decide +kernel
theorem dX6_cycles_8 : decode cX6_cycles 8 = .ok (.ireturn, 1) := by decide +kernel
theorem dX6_cycles_9 : decode cX6_cycles 9 = .ok (.iconst 0, 1) := by decide +kernel
theorem dX6_cycles_10 : decode cX6_cycles 10 = .ok (.istore_n 2, 1) := by decide +kernel
theorem dX6_cycles_11 : decode cX6_cycles 11 = .ok (.iload_n 2, 1) := by decide +kernel
theorem dX6_cycles_12 : decode cX6_cycles 12 = .ok (.aload_n 0, 1) := by decide +kernel
theorem dX6_cycles_13 : decode cX6_cycles 13 = .ok (.getfield 116, 3) := by decide +kernel
theorem dX6_cycles_16 : decode cX6_cycles 16 = .ok (.if_icmp .ge 16, 3) := by decide +kernel
theorem dX6_cycles_19 : decode cX6_cycles 19 = .ok (.aload_n 0, 1) := by decide +kernel
theorem dX6_cycles_20 : decode cX6_cycles 20 = .ok (.getfield 34, 3) := by decide +kernel
theorem dX6_cycles_23 : decode cX6_cycles 23 = .ok (.iload_n 2, 1) := by decide +kernel
theorem dX6_cycles_24 : decode cX6_cycles 24 = .ok (.iconst 0, 1) := by decide +kernel
theorem dX6_cycles_25 : decode cX6_cycles 25 = .ok (.bastore, 1) := by decide +kernel
theorem dX6_cycles_26 : decode cX6_cycles 26 = .ok (.iinc 2 1, 3) := by decide +kernel
theorem dX6_cycles_29 : decode cX6_cycles 29 = .ok (.goto (-18), 3) := by decide +kernel
theorem dX6_cycles_32 : decode cX6_cycles 32 = .ok (.iconst 0, 1) := by decide +kernel
theorem dX6_cycles_33 : decode cX6_cycles 33 = .ok (.istore_n 2, 1) := by decide +kernel
theorem dX6_cycles_34 : decode cX6_cycles 34 = .ok (.iconst 0, 1) := by decide +kernel
theorem dX6_cycles_35 : decode cX6_cycles 35 = .ok (.istore_n 3, 1) := by decide +kernel
theorem dX6_cycles_36 : decode cX6_cycles 36 = .ok (.iload_n 3, 1) := by decide +kernel
theorem dX6_cycles_37 : decode cX6_cycles 37 = .ok (.aload_n 0, 1) := by decide +kernel
theorem dX6_cycles_38 : decode cX6_cycles 38 = .ok (.getfield 116, 3) := by decide +kernel
theorem dX6_cycles_41 : decode cX6_cycles 41 = .ok (.if_icmp .ge 40, 3) := by decide +kernel
theorem dX6_cycles_44 : decode cX6_cycles 44 = .ok (.aload_n 0, 1) := by decide +kernel
theorem dX6_cycles_45 : decode cX6_cycles 45 = .ok (.iload_n 3, 1) := by decide +kernel
theorem dX6_cycles_46 : decode cX6_cycles 46 = .ok (.invokevirtual 129, 3) := by decide +kernel
theorem dX6_cycles_49 : decode cX6_cycles 49 = .ok (.istore 4, 2) := by decide +kernel
theorem dX6_cycles_51 : decode cX6_cycles 51 = .ok (.iload_n 2, 1) := by decide +kernel
theorem dX6_cycles_52 : decode cX6_cycles 52 = .ok (.iload 4, 2) := by decide +kernel
theorem dX6_cycles_54 : decode cX6_cycles 54 = .ok (.iconst 1, 1) := by decide +kernel
theorem dX6_cycles_55 : decode cX6_cycles 55 = .ok (.if_icmp .eq 13, 3) := by decide +kernel
theorem dX6_cycles_58 : decode cX6_cycles 58 = .ok (.iload 4, 2) := by decide +kernel
theorem dX6_cycles_60 : decode cX6_cycles 60 = .ok (.iconst 1, 1) := by decide +kernel
theorem dX6_cycles_61 : decode cX6_cycles 61 = .ok (.if_icmp .le 11, 3) := by decide +kernel
theorem dX6_cycles_64 : decode cX6_cycles 64 = .ok (.iload_n 1, 1) := by decide +kernel
theorem dX6_cycles_65 : decode cX6_cycles 65 = .ok (.ifCond .ne 7, 3) := by decide +kernel
theorem dX6_cycles_68 : decode cX6_cycles 68 = .ok (.iconst 1, 1) := by decide +kernel
theorem dX6_cycles_69 : decode cX6_cycles 69 = .ok (.goto 4, 3) := by decide +kernel
theorem dX6_cycles_72 : decode cX6_cycles 72 = .ok (.iconst 0, 1) := by decide +kernel
theorem dX6_cycles_73 : decode cX6_cycles 73 = .ok (.iadd, 1) := by decide +kernel
theorem dX6_cycles_74 : decode cX6_cycles 74 = .ok (.istore_n 2, 1) := by decide +kernel
theorem dX6_cycles_75 : decode cX6_cycles 75 = .ok (.iinc 3 1, 3) := by decide +kernel
theorem dX6_cycles_78 : decode cX6_cycles 78 = .ok (.goto (-42), 3) := by decide +kernel
theorem dX6_cycles_81 : decode cX6_cycles 81 = .ok (.iload_n 2, 1) := by decide +kernel
theorem dX6_cycles_82 : decode cX6_cycles 82 = .ok (.ireturn, 1) := by decide +kernel
set_option maxRecDepth 20000 in
theorem ggX6_order_X6_numberAll : GoodIn wsX6_order wsX6_numberAll := goodIn_r _ [8, 9, 10, 2, 11, 12, 13, 14, 15, 7, 16, 17, 18, 19, 20, 21, 22, 33, 34, 35, 36, 37, 38, 39, 40, 41, 42, 43, 44, 45, 46, 47, 48, 49] (by decide +kernel) (by decide +kernel)
set_option maxRecDepth 20000 in
theorem gX6_order_X6_numberAll : GoodIn wsX6_order (wsV RX6 119 RX6 yX6_numberAll wsX6_numberAll) := goodIn_app (goodIn_of _ (by decide +kernel)) ggX6_order_X6_numberAll
set_option maxRecDepth 20000 in
theorem ggX6_order_X6_cycle : GoodIn wsX6_order wsX6_cycle := goodIn_r _ [26, 3, 27, 28, 29, 7, 30, 10, 31, 12, 32, 9, 33, 34, 35, 36, 37, 38, 39, 40, 41, 42, 43, 44, 45, 46, 47, 48, 49] (by decide +kernel) (by decide +kernel)
set_option maxRecDepth 20000 in
theorem gX6_order_X6_cycle : GoodIn wsX6_order (wsV RX6 129 RX6 yX6_cycle wsX6_cycle) := goodIn_app (goodIn_of _ (by decide +kernel)) ggX6_order_X6_cycle
theorem dX6_order_0 : decode cX6_order 0 = .ok (.aload_n 0, 1) := by decide +kernel
theorem dX6_order_1 : decode cX6_order 1 = .ok (.invokevirtual 119, 3) := by decide +kernel
theorem dX6_order_4 : decode cX6_order 4 = .ok (.ifCond .ne 7, 3) := by decide +kernel
theorem dX6_order_7 : decode cX6_order 7 = .ok (.ldc2_w 132, 3) := by decide +kernel
theorem dX6_order_10 : decode cX6_order 10 = .ok (.lreturn, 1) := by decide +kernel
theorem dX6_order_11 : decode cX6_order 11 = .ok (.iconst 0, 1) := by decide +kernel
theorem dX6_order_12 : decode cX6_order 12 = .ok (.istore_n 1, 1) := by decide +kernel
theorem dX6_order_13 : decode cX6_order 13 = .ok (.iload_n 1, 1) := by decide +kernel
theorem dX6_order_14 : decode cX6_order 14 = .ok (.aload_n 0, 1) := by decide +kernel
theorem dX6_order_15 : decode cX6_order 15 = .ok (.getfield 116, 3) := by decide +kernel
theorem dX6_order_18 : decode cX6_order 18 = .ok (.if_icmp .ge 16, 3) := by decide +kernel
theorem dX6_order_21 : decode cX6_order 21 = .ok (.aload_n 0, 1) := by decide +kernel
theorem dX6_order_22 : decode cX6_order 22 = .ok (.getfield 34, 3) := by decide +kernel
theorem dX6_order_25 : decode cX6_order 25 = .ok (.iload_n 1, 1) := by decide +kernel
theorem dX6_order_26 : decode cX6_order 26 = .ok (.iconst 0, 1) := by decide +kernel
theorem dX6_order_27 : decode cX6_order 27 = .ok (.bastore, 1) := by decide +kernel
theorem dX6_order_28 : decode cX6_order 28 = .ok (.iinc 1 1, 3) := by decide +kernel
theorem dX6_order_31 : decode cX6_order 31 = .ok (.goto (-18), 3) := by decide +kernel
theorem dX6_order_34 : decode cX6_order 34 = .ok (.lconst 1, 1) := by decide +kernel
theorem dX6_order_35 : decode cX6_order 35 = .ok (.lstore_n 1, 1) := by decide +kernel
theorem dX6_order_36 : decode cX6_order 36 = .ok (.iconst 0, 1) := by decide +kernel
theorem dX6_order_37 : decode cX6_order 37 = .ok (.istore_n 3, 1) := by decide +kernel
theorem dX6_order_38 : decode cX6_order 38 = .ok (.iload_n 3, 1) := by decide +kernel
theorem dX6_order_39 : decode cX6_order 39 = .ok (.aload_n 0, 1) := by decide +kernel
theorem dX6_order_40 : decode cX6_order 40 = .ok (.getfield 116, 3) := by decide +kernel
theorem dX6_order_43 : decode cX6_order 43 = .ok (.if_icmp .ge 68, 3) := by decide +kernel
theorem dX6_order_46 : decode cX6_order 46 = .ok (.aload_n 0, 1) := by decide +kernel
theorem dX6_order_47 : decode cX6_order 47 = .ok (.iload_n 3, 1) := by decide +kernel
theorem dX6_order_48 : decode cX6_order 48 = .ok (.invokevirtual 129, 3) := by decide +kernel
theorem dX6_order_51 : decode cX6_order 51 = .ok (.i2l, 1) := by decide +kernel
theorem dX6_order_52 : decode cX6_order 52 = .ok (.lstore 4, 2) := by decide +kernel
theorem dX6_order_54 : decode cX6_order 54 = .ok (.lload_n 1, 1) := by decide +kernel
theorem dX6_order_55 : decode cX6_order 55 = .ok (.lstore 6, 2) := by decide +kernel
theorem dX6_order_57 : decode cX6_order 57 = .ok (.lload 4, 2) := by decide +kernel
theorem dX6_order_59 : decode cX6_order 59 = .ok (.lstore 8, 2) := by decide +kernel
theorem dX6_order_61 : decode cX6_order 61 = .ok (.lload 8, 2) := by decide +kernel
theorem dX6_order_63 : decode cX6_order 63 = .ok (.lconst 0, 1) := by decide +kernel
theorem dX6_order_64 : decode cX6_order 64 = .ok (.lcmp, 1) := by decide +kernel
theorem dX6_order_65 : decode cX6_order 65 = .ok (.ifCond .le 21, 3) := by decide +kernel
theorem dX6_order_68 : decode cX6_order 68 = .ok (.lload 6, 2) := by decide +kernel
theorem dX6_order_70 : decode cX6_order 70 = .ok (.lload 8, 2) := by decide +kernel
theorem dX6_order_72 : decode cX6_order 72 = .ok (.lrem, 1) := by decide +kernel
theorem dX6_order_73 : decode cX6_order 73 = .ok (.lstore 10, 2) := by decide +kernel
theorem dX6_order_75 : decode cX6_order 75 = .ok (.lload 8, 2) := by decide +kernel
theorem dX6_order_77 : decode cX6_order 77 = .ok (.lstore 6, 2) := by decide +kernel
theorem dX6_order_79 : decode cX6_order 79 = .ok (.lload 10, 2) := by decide +kernel
theorem dX6_order_81 : decode cX6_order 81 = .ok (.lstore 8, 2) := by decide +kernel
theorem dX6_order_83 : decode cX6_order 83 = .ok (.goto (-22), 3) := by decide +kernel
theorem dX6_order_86 : decode cX6_order 86 = .ok (.lload 4, 2) := by decide +kernel
theorem dX6_order_88 : decode cX6_order 88 = .ok (.lconst 0, 1) := by decide +kernel
theorem dX6_order_89 : decode cX6_order 89 = .ok (.lcmp, 1) := by decide +kernel
theorem dX6_order_90 : decode cX6_order 90 = .ok (.ifCond .le 13, 3) := by decide +kernel
theorem dX6_order_93 : decode cX6_order 93 = .ok (.lload_n 1, 1) := by decide +kernel
theorem dX6_order_94 : decode cX6_order 94 = .ok (.lload 6, 2) := by decide +kernel
theorem dX6_order_96 : decode cX6_order 96 = .ok (.ldiv, 1) := by decide +kernel
theorem dX6_order_97 : decode cX6_order 97 = .ok (.lload 4, 2) := by decide +kernel
theorem dX6_order_99 : decode cX6_order 99 = .ok (.lmul, 1) := by decide +kernel
theorem dX6_order_100 : decode cX6_order 100 = .ok (.goto 4, 3) := by decide +kernel
theorem dX6_order_103 : decode cX6_order 103 = .ok (.lload_n 1, 1) := by decide +kernel
theorem dX6_order_104 : decode cX6_order 104 = .ok (.lstore_n 1, 1) := by decide +kernel
theorem dX6_order_105 : decode cX6_order 105 = .ok (.iinc 3 1, 3) := by decide +kernel
theorem dX6_order_108 : decode cX6_order 108 = .ok (.goto (-70), 3) := by decide +kernel
theorem dX6_order_111 : decode cX6_order 111 = .ok (.lload_n 1, 1) := by decide +kernel
theorem dX6_order_112 : decode cX6_order 112 = .ok (.lreturn, 1) := by decide +kernel
set_option maxRecDepth 20000 in
theorem ggX6_resting_X6_numberAll : GoodIn wsX6_resting wsX6_numberAll := goodIn_r _ [7, 8, 9, 1, 10, 11, 12, 13, 14, 6, 15, 16, 17, 18, 19, 20, 21, 28, 29, 30, 31, 32, 33, 34, 35, 36, 37, 38, 39, 40, 41, 42, 43, 44] (by decide +kernel) (by decide +kernel)
set_option maxRecDepth 20000 in
theorem gX6_resting_X6_numberAll : GoodIn wsX6_resting (wsV RX6 119 RX6 yX6_numberAll wsX6_numberAll) := goodIn_app (goodIn_of _ (by decide +kernel)) ggX6_resting_X6_numberAll
set_option maxRecDepth 20000 in
theorem ggX6_resting_X6_moved : GoodIn wsX6_resting wsX6_moved := goodIn_r _ [25, 9, 26, 11, 27, 8, 28, 29, 30, 31, 32, 33, 34, 35, 36, 37, 38, 39, 40, 41, 42, 43, 44] (by decide +kernel) (by decide +kernel)
set_option maxRecDepth 20000 in
theorem gX6_resting_X6_moved : GoodIn wsX6_resting (wsV RX6 125 RX6 yX6_moved wsX6_moved) := goodIn_app (goodIn_of _ (by decide +kernel)) ggX6_resting_X6_moved
theorem dX6_resting_0 : decode cX6_resting 0 = .ok (.aload_n 0, 1) := by decide +kernel
theorem dX6_resting_1 : decode cX6_resting 1 = .ok (.invokevirtual 119, 3) := by decide +kernel
theorem dX6_resting_4 : decode cX6_resting 4 = .ok (.ifCond .ne 5, 3) := by decide +kernel
theorem dX6_resting_7 : decode cX6_resting 7 = .ok (.iconst (-1), 1) := by decide +kernel
theorem dX6_resting_8 : decode cX6_resting 8 = .ok (.ireturn, 1) := by decide +kernel
theorem dX6_resting_9 : decode cX6_resting 9 = .ok (.iconst 0, 1) := by decide +kernel
theorem dX6_resting_10 : decode cX6_resting 10 = .ok (.istore_n 1, 1) := by decide +kernel
theorem dX6_resting_11 : decode cX6_resting 11 = .ok (.iconst 0, 1) := by decide +kernel
theorem dX6_resting_12 : decode cX6_resting 12 = .ok (.istore_n 2, 1) := by decide +kernel
theorem dX6_resting_13 : decode cX6_resting 13 = .ok (.iload_n 2, 1) := by decide +kernel
theorem dX6_resting_14 : decode cX6_resting 14 = .ok (.aload_n 0, 1) := by decide +kernel
theorem dX6_resting_15 : decode cX6_resting 15 = .ok (.getfield 116, 3) := by decide +kernel
theorem dX6_resting_18 : decode cX6_resting 18 = .ok (.if_icmp .ge 65, 3) := by decide +kernel
theorem dX6_resting_21 : decode cX6_resting 21 = .ok (.iconst 1, 1) := by decide +kernel
theorem dX6_resting_22 : decode cX6_resting 22 = .ok (.istore_n 3, 1) := by decide +kernel
theorem dX6_resting_23 : decode cX6_resting 23 = .ok (.iconst 0, 1) := by decide +kernel
theorem dX6_resting_24 : decode cX6_resting 24 = .ok (.istore 4, 2) := by decide +kernel
theorem dX6_resting_26 : decode cX6_resting 26 = .ok (.iload 4, 2) := by decide +kernel
theorem dX6_resting_28 : decode cX6_resting 28 = .ok (.aload_n 0, 1) := by decide +kernel
theorem dX6_resting_29 : decode cX6_resting 29 = .ok (.getfield 55, 3) := by decide +kernel
theorem dX6_resting_32 : decode cX6_resting 32 = .ok (.if_icmp .ge 33, 3) := by decide +kernel
theorem dX6_resting_35 : decode cX6_resting 35 = .ok (.iload_n 3, 1) := by decide +kernel
theorem dX6_resting_36 : decode cX6_resting 36 = .ok (.ifCond .eq 21, 3) := by decide +kernel
theorem dX6_resting_39 : decode cX6_resting 39 = .ok (.aload_n 0, 1) := by decide +kernel
theorem dX6_resting_40 : decode cX6_resting 40 = .ok (.bipush 10, 2) := by decide +kernel
theorem dX6_resting_42 : decode cX6_resting 42 = .ok (.iload 4, 2) := by decide +kernel
theorem dX6_resting_44 : decode cX6_resting 44 = .ok (.iadd, 1) := by decide +kernel
theorem dX6_resting_45 : decode cX6_resting 45 = .ok (.iload_n 2, 1) := by decide +kernel
theorem dX6_resting_46 : decode cX6_resting 46 = .ok (.invokevirtual 125, 3) := by decide +kernel
theorem dX6_resting_49 : decode cX6_resting 49 = .ok (.iload_n 2, 1) := by decide +kernel
