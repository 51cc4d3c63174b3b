theorem dX5_begin_17 : decode cX5_begin 17 = .ok (.aload_n 0, 1) := by decide +kernel
theorem dX5_begin_18 : decode cX5_begin 18 = .ok (.getfield 21, 3) := by decide +kernel
theorem dX5_begin_21 : decode cX5_begin 21 = .ok (.iconst 0, 1) := by decide +kernel
theorem dX5_begin_22 : decode cX5_begin 22 = .ok (.putfield 60, 3) := by decide +kernel
theorem dX5_begin_25 : decode cX5_begin 25 = .ok (.aload_n 0, 1) := by decide +kernel
theorem dX5_begin_26 : decode cX5_begin 26 = .ok (.getfield 25, 3) := by decide +kernel
theorem dX5_begin_29 : decode cX5_begin 29 = .ok (.iconst 0, 1) := by decide +kernel
theorem dX5_begin_30 : decode cX5_begin 30 = .ok (.putfield 60, 3) := by decide +kernel
theorem dX5_begin_33 : decode cX5_begin 33 = .ok (.aload_n 0, 1) := by decide +kernel
theorem dX5_begin_34 : decode cX5_begin 34 = .ok (.getfield 12, 3) := by decide +kernel
theorem dX5_begin_37 : decode cX5_begin 37 = .ok (.iconst 0, 1) := by decide +kernel
theorem dX5_begin_38 : decode cX5_begin 38 = .ok (.putfield 63, 3) := by decide +kernel
theorem dX5_begin_41 : decode cX5_begin 41 = .ok (.aload_n 0, 1) := by decide +kernel
theorem dX5_begin_42 : decode cX5_begin 42 = .ok (.invokevirtual 57, 3) := by decide +kernel
theorem dX5_begin_45 : decode cX5_begin 45 = .ok (.iconst 0, 1) := by decide +kernel
theorem dX5_begin_46 : decode cX5_begin 46 = .ok (.ireturn, 1) := by decide +kernel
set_option maxRecDepth 20000 in
theorem ggX5_letter_X5_isLetter : GoodIn wsX5_letter wsX5_isLetter := goodIn_r _ [6, 7, 18, 19, 20, 21, 22, 23, 24] (by decide +kernel) (by decide +kernel)
set_option maxRecDepth 20000 in
theorem gX5_letter_X5_isLetter : GoodIn wsX5_letter (wsV RX5 66 RX5 yX5_isLetter wsX5_isLetter) := goodIn_app (goodIn_of _ (by decide +kernel)) ggX5_letter_X5_isLetter
set_option maxRecDepth 20000 in
theorem ggX5_letter_X5_columnOf : GoodIn wsX5_letter wsX5_columnOf := goodIn_r _ [10] (by decide +kernel) (by decide +kernel)
set_option maxRecDepth 20000 in
theorem gX5_letter_X5_columnOf : GoodIn wsX5_letter (va_wsS RX5 70 yX5_columnOf wsX5_columnOf) := goodIn_app (goodIn_of _ (by decide +kernel)) ggX5_letter_X5_columnOf
set_option maxRecDepth 20000 in
theorem ggX5_letter_X3_append : GoodIn wsX5_letter wsX3_append := goodIn_r _ [15, 16, 17, 25, 26] (by decide +kernel) (by decide +kernel)
set_option maxRecDepth 20000 in
theorem gX5_letter_X3_append : GoodIn wsX5_letter (wsV RX5 74 RX3 yX3_append wsX3_append) := goodIn_app (goodIn_of _ (by decide +kernel)) ggX5_letter_X3_append
theorem dX5_letter_0 : decode cX5_letter 0 = .ok (.aload_n 0, 1) := by decide +kernel
theorem dX5_letter_1 : decode cX5_letter 1 = .ok (.iload_n 1, 1) := by decide +kernel
theorem dX5_letter_2 : decode cX5_letter 2 = .ok (.invokevirtual 66, 3) := by decide +kernel
theorem dX5_letter_5 : decode cX5_letter 5 = .ok (.ifCond .eq 15, 3) := by decide +kernel
theorem dX5_letter_8 : decode cX5_letter 8 = .ok (.aload_n 0, 1) := by decide +kernel
theorem dX5_letter_9 : decode cX5_letter 9 = .ok (.getfield 12, 3) := by decide +kernel
theorem dX5_letter_12 : decode cX5_letter 12 = .ok (.getfield 63, 3) := by decide +kernel
theorem dX5_letter_15 : decode cX5_letter 15 = .ok (.bipush 24, 2) := by decide +kernel
theorem dX5_letter_17 : decode cX5_letter 17 = .ok (.if_icmp .ne 5, 3) := by decide +kernel
theorem dX5_letter_20 : decode cX5_letter 20 = .ok (.iconst (-1), 1) := by decide +kernel
theorem dX5_letter_21 : decode cX5_letter 21 = .ok (.ireturn, 1) := by decide +kernel
theorem dX5_letter_22 : decode cX5_letter 22 = .ok (.aload_n 0, 1) := by decide +kernel
theorem dX5_letter_23 : decode cX5_letter 23 = .ok (.getfield 12, 3) := by decide +kernel
theorem dX5_letter_26 : decode cX5_letter 26 = .ok (.iload_n 1, 1) := by decide +kernel
theorem dX5_letter_27 : decode cX5_letter 27 = .ok (.invokestatic 70, 3) := by decide +kernel
theorem dX5_letter_30 : decode cX5_letter 30 = .ok (.invokevirtual 74, 3) := by decide +kernel
theorem dX5_letter_33 : decode cX5_letter 33 = .ok (.aload_n 0, 1) := by decide +kernel
theorem dX5_letter_34 : decode cX5_letter 34 = .ok (.getfield 12, 3) := by decide +kernel
theorem dX5_letter_37 : decode cX5_letter 37 = .ok (.getfield 63, 3) := by decide +kernel
theorem dX5_letter_40 : decode cX5_letter 40 = .ok (.ireturn, 1) := by decide +kernel
theorem dX5_clear_0 : decode cX5_clear 0 = .ok (.aload_n 0, 1) := by decide +kernel
theorem dX5_clear_1 : decode cX5_clear 1 = .ok (.getfield 12, 3) := by decide +kernel
theorem dX5_clear_4 : decode cX5_clear 4 = .ok (.getfield 63, 3) := by decide +kernel
theorem dX5_clear_7 : decode cX5_clear 7 = .ok (.istore_n 1, 1) := by decide +kernel
theorem dX5_clear_8 : decode cX5_clear 8 = .ok (.aload_n 0, 1) := by decide +kernel
theorem dX5_clear_9 : decode cX5_clear 9 = .ok (.getfield 12, 3) := by decide +kernel
theorem dX5_clear_12 : decode cX5_clear 12 = .ok (.iconst 0, 1) := by decide +kernel
theorem dX5_clear_13 : decode cX5_clear 13 = .ok (.putfield 63, 3) := by decide +kernel
theorem dX5_clear_16 : decode cX5_clear 16 = .ok (.iload_n 1, 1) := by decide +kernel
theorem dX5_clear_17 : decode cX5_clear 17 = .ok (.ireturn, 1) := by decide +kernel
set_option maxRecDepth 20000 in
theorem ggX5_relator_X5_giveHandTo : GoodIn wsX5_relator wsX5_giveHandTo := goodIn_r _ [6, 7, 8, 9, 10, 11, 12, 13, 14, 15, 16, 17, 18, 19, 20, 21, 22, 23, 24, 25, 26, 27, 28, 29, 30, 31, 32, 5, 33, 34, 35, 36, 37, 38, 39, 40, 41, 42, 43, 44, 45, 46, 47, 48, 49, 50, 51, 52, 53, 54, 55, 56, 57, 58, 59, 60, 61, 62, 63, 64, 65, 66, 67, 68, 69, 70, 71, 72, 73, 74, 75, 76, 77, 78, 79, 80] (by decide +kernel) (by decide +kernel)
set_option maxRecDepth 20000 in
theorem gX5_relator_X5_giveHandTo : GoodIn wsX5_relator (wsV RX5 77 RX5 yX5_giveHandTo wsX5_giveHandTo) := goodIn_app (goodIn_of _ (by decide +kernel)) ggX5_relator_X5_giveHandTo
theorem dX5_relator_0 : decode cX5_relator 0 = .ok (.aload_n 0, 1) := by decide +kernel
theorem dX5_relator_1 : decode cX5_relator 1 = .ok (.aload_n 0, 1) := by decide +kernel
theorem dX5_relator_2 : decode cX5_relator 2 = .ok (.getfield 21, 3) := by decide +kernel
theorem dX5_relator_5 : decode cX5_relator 5 = .ok (.invokevirtual 77, 3) := by decide +kernel
theorem dX5_relator_8 : decode cX5_relator 8 = .ok (.ireturn, 1) := by decide +kernel
set_option maxRecDepth 20000 in
theorem ggX5_subgroup_X5_giveHandTo : GoodIn wsX5_subgroup wsX5_giveHandTo := goodIn_r _ [6, 7, 8, 9, 10, 11, 12, 13, 14, 15, 16, 17, 18, 19, 20, 21, 22, 23, 24, 25, 26, 27, 28, 29, 30, 31, 32, 5, 33, 34, 35, 36, 37, 38, 39, 40, 41, 42, 43, 44, 45, 46, 47, 48, 49, 50, 51, 52, 53, 54, 55, 56, 57, 58, 59, 60, 61, 62, 63, 64, 65, 66, 67, 68, 69, 70, 71, 72, 73, 74, 75, 76, 77, 78, 79, 80] (by decide +kernel) (by decide +kernel)
set_option maxRecDepth 20000 in
theorem gX5_subgroup_X5_giveHandTo : GoodIn wsX5_subgroup (wsV RX5 77 RX5 yX5_giveHandTo wsX5_giveHandTo) := goodIn_app (goodIn_of _ (by decide +kernel)) ggX5_subgroup_X5_giveHandTo
theorem dX5_subgroup_0 : decode cX5_subgroup 0 = .ok (.aload_n 0, 1) := by decide +kernel
theorem dX5_subgroup_1 : decode cX5_subgroup 1 = .ok (.aload_n 0, 1) := by decide +kernel
theorem dX5_subgroup_2 : decode cX5_subgroup 2 = .ok (.getfield 25, 3) := by decide +kernel
theorem dX5_subgroup_5 : decode cX5_subgroup 5 = .ok (.invokevirtual 77, 3) := by decide +kernel
theorem dX5_subgroup_8 : decode cX5_subgroup 8 = .ok (.ireturn, 1) := by decide +kernel
set_option maxRecDepth 20000 in
theorem ggX5_run_X2_drawFrom : GoodIn wsX5_run wsX2_drawFrom := goodIn_r _ [8, 9, 10, 11, 12, 13, 14, 15, 16, 17, 18, 19, 20, 21, 7, 22, 23, 24, 25, 26, 27, 28, 29, 30, 31, 32, 33, 34, 35, 36, 37, 38, 39, 40, 41, 42, 43, 44, 45, 46, 47, 48, 49, 50, 51, 52, 53, 54, 55, 56, 57, 58, 59, 60, 61, 62, 63, 64, 65, 66, 67, 68, 69, 70, 71, 72, 127, 128, 129, 130, 131, 116, 117, 118, 119, 120, 121, 122, 123, 124, 125, 126, 132, 133] (by decide +kernel) (by decide +kernel)
set_option maxRecDepth 20000 in
theorem gX5_run_X2_drawFrom : GoodIn wsX5_run (wsV RX5 81 RX2 yX2_drawFrom wsX2_drawFrom) := goodIn_app (goodIn_of _ (by decide +kernel)) ggX5_run_X2_drawFrom
set_option maxRecDepth 20000 in
theorem ggX5_run_X1_findOpen : GoodIn wsX5_run wsX1_findOpen := goodIn_r _ [76, 77, 17, 78, 79, 80, 15, 81, 50, 34, 82, 13, 14, 16, 18, 116, 117, 118, 119, 120, 121, 122, 123, 124, 125, 126] (by decide +kernel) (by decide +kernel)
set_option maxRecDepth 20000 in
theorem gX5_run_X1_findOpen : GoodIn wsX5_run (wsV RX5 87 RX1 yX1_findOpen wsX1_findOpen) := goodIn_app (goodIn_of _ (by decide +kernel)) ggX5_run_X1_findOpen
set_option maxRecDepth 20000 in
theorem ggX5_run_X1_makeNeighbour : GoodIn wsX5_run wsX1_makeNeighbour := goodIn_r _ [86, 77, 87, 88, 89, 15, 90, 17, 34, 18, 45, 52, 53, 54, 55, 56, 57, 58, 116, 117, 118, 119, 120, 121, 122, 123, 124, 125, 126] (by decide +kernel) (by decide +kernel)
set_option maxRecDepth 20000 in
theorem gX5_run_X1_makeNeighbour : GoodIn wsX5_run (wsV RX5 91 RX1 yX1_makeNeighbour wsX1_makeNeighbour) := goodIn_app (goodIn_of _ (by decide +kernel)) ggX5_run_X1_makeNeighbour
set_option maxRecDepth 20000 in
theorem ggX5_run_X0_giveNumbers : GoodIn wsX5_run wsX0_giveNumbers := goodIn_r _ [95, 96, 97, 98, 99, 100, 101, 102, 103, 104, 105, 106, 94, 107, 108, 31, 32, 15, 33, 34, 134, 135, 136, 137, 138, 139, 140, 116, 117, 118, 119, 120, 121, 122, 123, 124, 125, 126] (by decide +kernel) (by decide +kernel)
set_option maxRecDepth 20000 in
theorem gX5_run_X0_giveNumbers : GoodIn wsX5_run (wsV RX5 95 RX0 yX0_giveNumbers wsX0_giveNumbers) := goodIn_app (goodIn_of _ (by decide +kernel)) ggX5_run_X0_giveNumbers
theorem dX5_run_0 : decode cX5_run 0 = .ok (.iload_n 1, 1) := by decide +kernel
theorem dX5_run_1 : decode cX5_run 1 = .ok (.iconst 1, 1) := by decide +kernel
theorem dX5_run_2 : decode cX5_run 2 = .ok (.if_icmp .lt 10, 3) := by decide +kernel
theorem dX5_run_5 : decode cX5_run 5 = .ok (.iload_n 1, 1) := by decide +kernel
theorem dX5_run_6 : decode cX5_run 6 = .ok (.sipush 200, 3) := by decide +kernel
theorem dX5_run_9 : decode cX5_run 9 = .ok (.if_icmp .le 5, 3) := by decide +kernel
theorem dX5_run_12 : decode cX5_run 12 = .ok (.iconst (-1), 1) := by decide +kernel
theorem dX5_run_13 : decode cX5_run 13 = .ok (.ireturn, 1) := by decide +kernel
theorem dX5_run_14 : decode cX5_run 14 = .ok (.aload_n 0, 1) := by decide +kernel
theorem dX5_run_15 : decode cX5_run 15 = .ok (.getfield 40, 3) := by decide +kernel
theorem dX5_run_18 : decode cX5_run 18 = .ok (.iconst 0, 1) := by decide +kernel
theorem dX5_run_19 : decode cX5_run 19 = .ok (.invokevirtual 81, 3) := by decide +kernel
theorem dX5_run_22 : decode cX5_run 22 = .ok (.aload_n 0, 1) := by decide +kernel
theorem dX5_run_23 : decode cX5_run 23 = .ok (.getfield 31, 3) := by decide +kernel
theorem dX5_run_26 : decode cX5_run 26 = .ok (.getfield 84, 3) := by decide +kernel
theorem dX5_run_29 : decode cX5_run 29 = .ok (.istore_n 2, 1) := by decide +kernel
theorem dX5_run_30 : decode cX5_run 30 = .ok (.iload_n 2, 1) := by decide +kernel
theorem dX5_run_31 : decode cX5_run 31 = .ok (.iload_n 1, 1) := by decide +kernel
theorem dX5_run_32 : decode cX5_run 32 = .ok (.if_icmp .ge 33, 3) := by decide +kernel
theorem dX5_run_35 : decode cX5_run 35 = .ok (.aload_n 0, 1) := by decide +kernel
theorem dX5_run_36 : decode cX5_run 36 = .ok (.getfield 31, 3) := by decide +kernel
theorem dX5_run_39 : decode cX5_run 39 = .ok (.invokevirtual 87, 3) := by decide +kernel
theorem dX5_run_42 : decode cX5_run 42 = .ok (.ifCond .eq 23, 3) := by decide +kernel
theorem dX5_run_45 : decode cX5_run 45 = .ok (.aload_n 0, 1) := by decide +kernel
theorem dX5_run_46 : decode cX5_run 46 = .ok (.getfield 40, 3) := by decide +kernel
theorem dX5_run_49 : decode cX5_run 49 = .ok (.aload_n 0, 1) := by decide +kernel
theorem dX5_run_50 : decode cX5_run 50 = .ok (.getfield 31, 3) := by decide +kernel
theorem dX5_run_53 : decode cX5_run 53 = .ok (.invokevirtual 91, 3) := by decide +kernel
theorem dX5_run_56 : decode cX5_run 56 = .ok (.invokevirtual 81, 3) := by decide +kernel
theorem dX5_run_59 : decode cX5_run 59 = .ok (.iinc 2 1, 3) := by decide +kernel
theorem dX5_run_62 : decode cX5_run 62 = .ok (.goto (-32), 3) := by decide +kernel
theorem dX5_run_65 : decode cX5_run 65 = .ok (.aload_n 0, 1) := by decide +kernel
theorem dX5_run_66 : decode cX5_run 66 = .ok (.getfield 31, 3) := by decide +kernel
theorem dX5_run_69 : decode cX5_run 69 = .ok (.invokevirtual 87, 3) := by decide +kernel
theorem dX5_run_72 : decode cX5_run 72 = .ok (.ifCond .ne 10, 3) := by decide +kernel
theorem dX5_run_75 : decode cX5_run 75 = .ok (.aload_n 0, 1) := by decide +kernel
theorem dX5_run_76 : decode cX5_run 76 = .ok (.getfield 49, 3) := by decide +kernel
theorem dX5_run_79 : decode cX5_run 79 = .ok (.invokevirtual 95, 3) := by decide +kernel
theorem dX5_run_82 : decode cX5_run 82 = .ok (.aload_n 0, 1) := by decide +kernel
theorem dX5_run_83 : decode cX5_run 83 = .ok (.getfield 31, 3) := by decide +kernel
theorem dX5_run_86 : decode cX5_run 86 = .ok (.getfield 84, 3) := by decide +kernel
theorem dX5_run_89 : decode cX5_run 89 = .ok (.ireturn, 1) := by decide +kernel
set_option maxRecDepth 20000 in
theorem ggX5_count_X1_countOpen : GoodIn wsX5_count wsX1_countOpen := goodIn_r _ [10, 11, 12, 13, 14, 9, 15, 16, 17, 18, 19, 20, 21, 22, 36, 37, 38, 39, 40, 41, 42, 43, 44, 45, 46] (by decide +kernel) (by decide +kernel)
set_option maxRecDepth 20000 in
theorem gX5_count_X1_countOpen : GoodIn wsX5_count (wsV RX5 101 RX1 yX1_countOpen wsX1_countOpen) := goodIn_app (goodIn_of _ (by decide +kernel)) ggX5_count_X1_countOpen
set_option maxRecDepth 20000 in
theorem ggX5_count_X0_isReady : GoodIn wsX5_count wsX0_isReady := goodIn_r _ [27, 28, 47, 48, 49, 50, 51, 52, 53] (by decide +kernel) (by decide +kernel)
set_option maxRecDepth 20000 in
theorem gX5_count_X0_isReady : GoodIn wsX5_count (wsV RX5 104 RX0 yX0_isReady wsX0_isReady) := goodIn_app (goodIn_of _ (by decide +kernel)) ggX5_count_X0_isReady
theorem dX5_count_0 : decode cX5_count 0 = .ok (.iload_n 1, 1) := by decide +kernel
theorem dX5_count_1 : decode cX5_count 1 = .ok (.tableswitch 134 0 7 #[47, 55, 63, 71, 87, 110, 118, 126], 47) := by decide +kernel
theorem dX5_count_48 : decode cX5_count 48 = .ok (.aload_n 0, 1) := by decide +kernel
theorem dX5_count_49 : decode cX5_count 49 = .ok (.getfield 31, 3) := by decide +kernel
theorem dX5_count_52 : decode cX5_count 52 = .ok (.getfield 84, 3) := by decide +kernel
theorem dX5_count_55 : decode cX5_count 55 = .ok (.ireturn, 1) := by decide +kernel
theorem dX5_count_56 : decode cX5_count 56 = .ok (.aload_n 0, 1) := by decide +kernel
theorem dX5_count_57 : decode cX5_count 57 = .ok (.getfield 31, 3) := by decide +kernel
theorem dX5_count_60 : decode cX5_count 60 = .ok (.getfield 98, 3) := by decide +kernel
theorem dX5_count_63 : decode cX5_count 63 = .ok (.ireturn, 1) := by decide +kernel
theorem dX5_count_64 : decode cX5_count 64 = .ok (.aload_n 0, 1) := by decide +kernel
theorem dX5_count_65 : decode cX5_count 65 = .ok (.getfield 31, 3) := by decide +kernel
theorem dX5_count_68 : decode cX5_count 68 = .ok (.invokevirtual 101, 3) := by decide +kernel
theorem dX5_count_71 : decode cX5_count 71 = .ok (.ireturn, 1) := by decide +kernel
theorem dX5_count_72 : decode cX5_count 72 = .ok (.aload_n 0, 1) := by decide +kernel
theorem dX5_count_73 : decode cX5_count 73 = .ok (.getfield 49, 3) := by decide +kernel
theorem dX5_count_76 : decode cX5_count 76 = .ok (.invokevirtual 104, 3) := by decide +kernel
theorem dX5_count_79 : decode cX5_count 79 = .ok (.ifCond .eq 7, 3) := by decide +kernel
theorem dX5_count_82 : decode cX5_count 82 = .ok (.iconst 1, 1) := by decide +kernel
theorem dX5_count_83 : decode cX5_count 83 = .ok (.goto 4, 3) := by decide +kernel
theorem dX5_count_86 : decode cX5_count 86 = .ok (.iconst 0, 1) := by decide +kernel
theorem dX5_count_87 : decode cX5_count 87 = .ok (.ireturn, 1) := by decide +kernel
theorem dX5_count_88 : decode cX5_count 88 = .ok (.aload_n 0, 1) := by decide +kernel
theorem dX5_count_89 : decode cX5_count 89 = .ok (.getfield 49, 3) := by decide +kernel
theorem dX5_count_92 : decode cX5_count 92 = .ok (.invokevirtual 104, 3) := by decide +kernel
theorem dX5_count_95 : decode cX5_count 95 = .ok (.ifCond .eq 13, 3) := by decide +kernel
theorem dX5_count_98 : decode cX5_count 98 = .ok (.aload_n 0, 1) := by decide +kernel
theorem dX5_count_99 : decode cX5_count 99 = .ok (.getfield 49, 3) := by decide +kernel
theorem dX5_count_102 : decode cX5_count 102 = .ok (.getfield 107, 3) := by decide +kernel
theorem dX5_count_105 : decode cX5_count 105 = .ok (.goto 5, 3) := by decide +kernel
theorem dX5_count_108 : decode cX5_count 108 = .ok (.bipush (-2), 2) := by decide +kernel
theorem dX5_count_110 : decode cX5_count 110 = .ok (.ireturn, 1) := by decide +kernel
theorem dX5_count_111 : decode cX5_count 111 = .ok (.aload_n 0, 1) := by decide +kernel
theorem dX5_count_112 : decode cX5_count 112 = .ok (.getfield 21, 3) := by decide +kernel
theorem dX5_count_115 : decode cX5_count 115 = .ok (.getfield 60, 3) := by decide +kernel
theorem dX5_count_118 : decode cX5_count 118 = .ok (.ireturn, 1) := by decide +kernel
theorem dX5_count_119 : decode cX5_count 119 = .ok (.aload_n 0, 1) := by decide +kernel
theorem dX5_count_120 : decode cX5_count 120 = .ok (.getfield 25, 3) := by decide +kernel
theorem dX5_count_123 : decode cX5_count 123 = .ok (.getfield 60, 3) := by decide +kernel
theorem dX5_count_126 : decode cX5_count 126 = .ok (.ireturn, 1) := by decide +kernel
theorem dX5_count_127 : decode cX5_count 127 = .ok (.aload_n 0, 1) := by decide +kernel
theorem dX5_count_128 : decode cX5_count 128 = .ok (.getfield 12, 3) := by decide +kernel
theorem dX5_count_131 : decode cX5_count 131 = .ok (.getfield 63, 3) := by decide +kernel
theorem dX5_count_134 : decode cX5_count 134 = .ok (.ireturn, 1) := by decide +kernel
theorem dX5_count_135 : decode cX5_count 135 = .ok (.iconst (-1), 1) := by decide +kernel
theorem dX5_count_136 : decode cX5_count 136 = .ok (.ireturn, 1) := by decide +kernel
set_option maxRecDepth 20000 in
theorem ggX5_known_X5_isLetter : GoodIn wsX5_known wsX5_isLetter := goodIn_r _ [6, 7, 23, 24, 25, 26, 27, 28, 29] (by decide +kernel) (by decide +kernel)
set_option maxRecDepth 20000 in
theorem gX5_known_X5_isLetter : GoodIn wsX5_known (wsV RX5 66 RX5 yX5_isLetter wsX5_isLetter) := goodIn_app (goodIn_of _ (by decide +kernel)) ggX5_known_X5_isLetter
set_option maxRecDepth 20000 in
theorem ggX5_known_X1_lives : GoodIn wsX5_known wsX1_lives := goodIn_r _ [12, 13, 14, 30, 31, 32, 33, 34, 35, 36, 37, 38, 39, 40] (by decide +kernel) (by decide +kernel)
set_option maxRecDepth 20000 in
theorem gX5_known_X1_lives : GoodIn wsX5_known (wsV RX5 108 RX1 yX1_lives wsX1_lives) := goodIn_app (goodIn_of _ (by decide +kernel)) ggX5_known_X1_lives
set_option maxRecDepth 20000 in
theorem ggX5_known_X5_columnOf : GoodIn wsX5_known wsX5_columnOf := goodIn_r _ [17] (by decide +kernel) (by decide +kernel)
set_option maxRecDepth 20000 in
theorem gX5_known_X5_columnOf : GoodIn wsX5_known (va_wsS RX5 70 yX5_columnOf wsX5_columnOf) := goodIn_app (goodIn_of _ (by decide +kernel)) ggX5_known_X5_columnOf
set_option maxRecDepth 20000 in
theorem ggX5_known_X1_at : GoodIn wsX5_known wsX1_at := goodIn_r _ [21, 22, 30, 31, 32, 33, 34, 35, 36, 37, 38, 39, 40] (by decide +kernel) (by decide +kernel)
set_option maxRecDepth 20000 in
theorem gX5_known_X1_at : GoodIn wsX5_known (wsV RX5 111 RX1 yX1_at wsX1_at) := goodIn_app (goodIn_of _ (by decide +kernel)) ggX5_known_X1_at
theorem dX5_known_0 : decode cX5_known 0 = .ok (.aload_n 0, 1) := by decide +kernel
theorem dX5_known_1 : decode cX5_known 1 = .ok (.iload_n 2, 1) := by decide +kernel
theorem dX5_known_2 : decode cX5_known 2 = .ok (.invokevirtual 66, 3) := by decide +kernel
theorem dX5_known_5 : decode cX5_known 5 = .ok (.ifCond .eq 14, 3) := by decide +kernel
theorem dX5_known_8 : decode cX5_known 8 = .ok (.aload_n 0, 1) := by decide +kernel
theorem dX5_known_9 : decode cX5_known 9 = .ok (.getfield 31, 3) := by decide +kernel
theorem dX5_known_12 : decode cX5_known 12 = .ok (.iload_n 1, 1) := by decide +kernel
theorem dX5_known_13 : decode cX5_known 13 = .ok (.invokevirtual 108, 3) := by decide +kernel
theorem dX5_known_16 : decode cX5_known 16 = .ok (.ifCond .ne 5, 3) := by decide +kernel
theorem dX5_known_19 : decode cX5_known 19 = .ok (.iconst (-1), 1) := by decide +kernel
theorem dX5_known_20 : decode cX5_known 20 = .ok (.ireturn, 1) := by decide +kernel
theorem dX5_known_21 : decode cX5_known 21 = .ok (.aload_n 0, 1) := by decide +kernel
theorem dX5_known_22 : decode cX5_known 22 = .ok (.getfield 31, 3) := by decide +kernel
theorem dX5_known_25 : decode cX5_known 25 = .ok (.iload_n 1, 1) := by decide +kernel
theorem dX5_known_26 : decode cX5_known 26 = .ok (.iload_n 2, 1) := by decide +kernel
theorem dX5_known_27 : decode cX5_known 27 = .ok (.invokestatic 70, 3) := by decide +kernel
theorem dX5_known_30 : decode cX5_known 30 = .ok (.invokevirtual 111, 3) := by decide +kernel
theorem dX5_known_33 : decode cX5_known 33 = .ok (.istore_n 3, 1) := by decide +kernel
theorem dX5_known_34 : decode cX5_known 34 = .ok (.iload_n 3, 1) := by decide +kernel
theorem dX5_known_35 : decode cX5_known 35 = .ok (.iconst (-1), 1) := by decide +kernel
theorem dX5_known_36 : decode cX5_known 36 = .ok (.if_icmp .ne 8, 3) := by decide +kernel
theorem dX5_known_39 : decode cX5_known 39 = .ok (.bipush (-2), 2) := by decide +kernel
theorem dX5_known_41 : decode cX5_known 41 = .ok (.goto 4, 3) := by decide +kernel
theorem dX5_known_44 : decode cX5_known 44 = .ok (.iload_n 3, 1) := by decide +kernel
theorem dX5_known_45 : decode cX5_known 45 = .ok (.ireturn, 1) := by decide +kernel
set_option maxRecDepth 20000 in
theorem ggX5_number_X0_isReady : GoodIn wsX5_number wsX0_isReady := goodIn_r _ [7, 8, 23, 24, 25, 26, 27, 28, 29] (by decide +kernel) (by decide +kernel)
set_option maxRecDepth 20000 in
theorem gX5_number_X0_isReady : GoodIn wsX5_number (wsV RX5 104 RX0 yX0_isReady wsX0_isReady) := goodIn_app (goodIn_of _ (by decide +kernel)) ggX5_number_X0_isReady
set_option maxRecDepth 20000 in
theorem ggX5_number_X1_lives : GoodIn wsX5_number wsX1_lives := goodIn_r _ [13, 14, 15, 30, 31, 32, 33, 34, 35, 36, 37, 38, 39, 40] (by decide +kernel) (by decide +kernel)
set_option maxRecDepth 20000 in
theorem gX5_number_X1_lives : GoodIn wsX5_number (wsV RX5 108 RX1 yX1_lives wsX1_lives) := goodIn_app (goodIn_of _ (by decide +kernel)) ggX5_number_X1_lives
theorem dX5_number_0 : decode cX5_number 0 = .ok (.aload_n 0, 1) := by decide +kernel
theorem dX5_number_1 : decode cX5_number 1 = .ok (.getfield 49, 3) := by decide +kernel
theorem dX5_number_4 : decode cX5_number 4 = .ok (.invokevirtual 104, 3) := by decide +kernel
theorem dX5_number_7 : decode cX5_number 7 = .ok (.ifCond .eq 14, 3) := by decide +kernel
theorem dX5_number_10 : decode cX5_number 10 = .ok (.aload_n 0, 1) := by decide +kernel
theorem dX5_number_11 : decode cX5_number 11 = .ok (.getfield 31, 3) := by decide +kernel
theorem dX5_number_14 : decode cX5_number 14 = .ok (.iload_n 1, 1) := by decide +kernel
theorem dX5_number_15 : decode cX5_number 15 = .ok (.invokevirtual 108, 3) := by decide +kernel
theorem dX5_number_18 : decode cX5_number 18 = .ok (.ifCond .ne 5, 3) := by decide +kernel
theorem dX5_number_21 : decode cX5_number 21 = .ok (.iconst (-1), 1) := by decide +kernel
theorem dX5_number_22 : decode cX5_number 22 = .ok (.ireturn, 1) := by decide +kernel
theorem dX5_number_23 : decode cX5_number 23 = .ok (.aload_n 0, 1) := by decide +kernel
theorem dX5_number_24 : decode cX5_number 24 = .ok (.getfield 49, 3) := by decide +kernel
theorem dX5_number_27 : decode cX5_number 27 = .ok (.getfield 115, 3) := by decide +kernel
theorem dX5_number_30 : decode cX5_number 30 = .ok (.iload_n 1, 1) := by decide +kernel
theorem dX5_number_31 : decode cX5_number 31 = .ok (.iaload, 1) := by decide +kernel
theorem dX5_number_32 : decode cX5_number 32 = .ok (.ireturn, 1) := by decide +kernel
set_option maxRecDepth 20000 in
theorem ggX5_entry_X0_hasNumber : GoodIn wsX5_entry wsX0_hasNumber := goodIn_r _ [6, 7, 37, 38, 39, 40, 41, 42, 43] (by decide +kernel) (by decide +kernel)
set_option maxRecDepth 20000 in
theorem gX5_entry_X0_hasNumber : GoodIn wsX5_entry (wsV RX5 119 RX0 yX0_hasNumber wsX0_hasNumber) := goodIn_app (goodIn_of _ (by decide +kernel)) ggX5_entry_X0_hasNumber
set_option maxRecDepth 20000 in
theorem ggX5_entry_X5_isLetter : GoodIn wsX5_entry wsX5_isLetter := goodIn_r _ [12, 13, 30, 31, 32, 33, 34, 35, 36] (by decide +kernel) (by decide +kernel)
set_option maxRecDepth 20000 in
theorem gX5_entry_X5_isLetter : GoodIn wsX5_entry (wsV RX5 66 RX5 yX5_isLetter wsX5_isLetter) := goodIn_app (goodIn_of _ (by decide +kernel)) ggX5_entry_X5_isLetter
set_option maxRecDepth 20000 in
theorem ggX5_entry_X5_columnOf : GoodIn wsX5_entry wsX5_columnOf := goodIn_r _ [16] (by decide +kernel) (by decide +kernel)
set_option maxRecDepth 20000 in
theorem gX5_entry_X5_columnOf : GoodIn wsX5_entry (va_wsS RX5 70 yX5_columnOf wsX5_columnOf) := goodIn_app (goodIn_of _ (by decide +kernel)) ggX5_entry_X5_columnOf
set_option maxRecDepth 20000 in
theorem ggX5_entry_X0_letterImage : GoodIn wsX5_entry wsX0_letterImage := goodIn_r _ [20, 21, 22, 23, 24, 25, 26, 27, 28, 29, 37, 38, 39, 40, 41, 42, 43, 44, 45, 46, 47, 48, 49, 50, 51, 52, 53, 54] (by decide +kernel) (by decide +kernel)
set_option maxRecDepth 20000 in
theorem gX5_entry_X0_letterImage : GoodIn wsX5_entry (wsV RX5 122 RX0 yX0_letterImage wsX0_letterImage) := goodIn_app (goodIn_of _ (by decide +kernel)) ggX5_entry_X0_letterImage
theorem dX5_entry_0 : decode cX5_entry 0 = .ok (.aload_n 0, 1) := by decide +kernel
theorem dX5_entry_1 : decode cX5_entry 1 = .ok (.getfield 49, 3) := by decide +kernel
theorem dX5_entry_4 : decode cX5_entry 4 = .ok (.iload_n 1, 1) := by decide +kernel
theorem dX5_entry_5 : decode cX5_entry 5 = .ok (.invokevirtual 119, 3) := by decide +kernel
theorem dX5_entry_8 : decode cX5_entry 8 = .ok (.ifCond .eq 11, 3) := by decide +kernel
theorem dX5_entry_11 : decode cX5_entry 11 = .ok (.aload_n 0, 1) := by decide +kernel
theorem dX5_entry_12 : decode cX5_entry 12 = .ok (.iload_n 2, 1) := by decide +kernel
theorem dX5_entry_13 : decode cX5_entry 13 = .ok (.invokevirtual 66, 3) := by decide +kernel
theorem dX5_entry_16 : decode cX5_entry 16 = .ok (.ifCond .ne 5, 3) := by decide +kernel
theorem dX5_entry_19 : decode cX5_entry 19 = .ok (.iconst (-1), 1) := by decide +kernel
theorem dX5_entry_20 : decode cX5_entry 20 = .ok (.ireturn, 1) := by decide +kernel
theorem dX5_entry_21 : decode cX5_entry 21 = .ok (.aload_n 0, 1) := by decide +kernel
theorem dX5_entry_22 : decode cX5_entry 22 = .ok (.getfield 49, 3) := by decide +kernel
theorem dX5_entry_25 : decode cX5_entry 25 = .ok (.iload_n 1, 1) := by decide +kernel
theorem dX5_entry_26 : decode cX5_entry 26 = .ok (.iload_n 2, 1) := by decide +kernel
theorem dX5_entry_27 : decode cX5_entry 27 = .ok (.invokestatic 70, 3) := by decide +kernel
theorem dX5_entry_30 : decode cX5_entry 30 = .ok (.invokevirtual 122, 3) := by decide +kernel
theorem dX5_entry_33 : decode cX5_entry 33 = .ok (.ireturn, 1) := by decide +kernel
set_option maxRecDepth 20000 in
theorem ggX5_move_X0_hasNumber : GoodIn wsX5_move wsX0_hasNumber := goodIn_r _ [7, 8, 29, 30, 31, 32, 33, 34, 35] (by decide +kernel) (by decide +kernel)
set_option maxRecDepth 20000 in
theorem gX5_move_X0_hasNumber : GoodIn wsX5_move (wsV RX5 119 RX0 yX0_hasNumber wsX0_hasNumber) := goodIn_app (goodIn_of _ (by decide +kernel)) ggX5_move_X0_hasNumber
set_option maxRecDepth 20000 in
theorem ggX5_move_X0_image : GoodIn wsX5_move wsX0_image := goodIn_r _ [12, 13, 14, 15, 16, 17, 18, 19, 20, 21, 29, 30, 31, 32, 33, 34, 35, 36, 37, 38, 39, 40, 41, 42, 43, 44, 45, 46, 47, 48] (by decide +kernel) (by decide +kernel)
set_option maxRecDepth 20000 in
theorem gX5_move_X0_image : GoodIn wsX5_move (wsV RX5 125 RX0 yX0_image wsX0_image) := goodIn_app (goodIn_of _ (by decide +kernel)) ggX5_move_X0_image
theorem dX5_move_0 : decode cX5_move 0 = .ok (.aload_n 0, 1) := by decide +kernel
theorem dX5_move_1 : decode cX5_move 1 = .ok (.getfield 49, 3) := by decide +kernel
theorem dX5_move_4 : decode cX5_move 4 = .ok (.iload_n 1, 1) := by decide +kernel
theorem dX5_move_5 : decode cX5_move 5 = .ok (.invokevirtual 119, 3) := by decide +kernel
theorem dX5_move_8 : decode cX5_move 8 = .ok (.ifCond .eq 18, 3) := by decide +kernel
theorem dX5_move_11 : decode cX5_move 11 = .ok (.aload_n 0, 1) := by decide +kernel
theorem dX5_move_12 : decode cX5_move 12 = .ok (.getfield 49, 3) := by decide +kernel
theorem dX5_move_15 : decode cX5_move 15 = .ok (.iload_n 1, 1) := by decide +kernel
theorem dX5_move_16 : decode cX5_move 16 = .ok (.aload_n 0, 1) := by decide +kernel
theorem dX5_move_17 : decode cX5_move 17 = .ok (.getfield 12, 3) := by decide +kernel
theorem dX5_move_20 : decode cX5_move 20 = .ok (.invokevirtual 125, 3) := by decide +kernel
theorem dX5_move_23 : decode cX5_move 23 = .ok (.goto 4, 3) := by decide +kernel
theorem dX5_move_26 : decode cX5_move 26 = .ok (.iconst (-1), 1) := by decide +kernel
theorem dX5_move_27 : decode cX5_move 27 = .ok (.ireturn, 1) := by decide +kernel
set_option maxRecDepth 20000 in
theorem ggX5_cycles_X0_isReady : GoodIn wsX5_cycles wsX0_isReady := goodIn_r _ [7, 8, 42, 43, 44, 45, 46, 47, 48] (by decide +kernel) (by decide +kernel)
set_option maxRecDepth 20000 in
theorem gX5_cycles_X0_isReady : GoodIn wsX5_cycles (wsV RX5 104 RX0 yX0_isReady wsX0_isReady) := goodIn_app (goodIn_of _ (by decide +kernel)) ggX5_cycles_X0_isReady
set_option maxRecDepth 20000 in
theorem ggX5_cycles_X0_countCycles : GoodIn wsX5_cycles wsX0_countCycles := goodIn_r _ [12, 8, 13, 14, 15, 6, 16, 17, 18, 19, 20, 21, 22, 23, 24, 25, 26, 27, 28, 29, 30, 31, 32, 33, 34, 42, 43, 44, 45, 46, 47, 48, 49, 50, 51, 52, 53, 54, 55, 56, 57, 58, 59, 60, 61] (by decide +kernel) (by decide +kernel)
set_option maxRecDepth 20000 in
theorem gX5_cycles_X0_countCycles : GoodIn wsX5_cycles (wsV RX5 129 RX0 yX0_countCycles wsX0_countCycles) := goodIn_app (goodIn_of _ (by decide +kernel)) ggX5_cycles_X0_countCycles
theorem dX5_cycles_0 : decode cX5_cycles 0 = .ok (.aload_n 0, 1) := by decide +kernel
theorem dX5_cycles_1 : decode cX5_cycles 1 = .ok (.getfield 49, 3) := by decide +kernel
theorem dX5_cycles_4 : decode cX5_cycles 4 = .ok (.invokevirtual 104, 3) := by decide +kernel
theorem dX5_cycles_7 : decode cX5_cycles 7 = .ok (.ifCond .eq 18, 3) := by decide +kernel
theorem dX5_cycles_10 : decode cX5_cycles 10 = .ok (.aload_n 0, 1) := by decide +kernel
theorem dX5_cycles_11 : decode cX5_cycles 11 = .ok (.getfield 49, 3) := by decide +kernel
theorem dX5_cycles_14 : decode cX5_cycles 14 = .ok (.aload_n 0, 1) := by decide +kernel
theorem dX5_cycles_15 : decode cX5_cycles 15 = .ok (.getfield 12, 3) := by decide +kernel
theorem dX5_cycles_18 : decode cX5_cycles 18 = .ok (.iload_n 1, 1) := by decide +kernel
theorem dX5_cycles_19 : decode cX5_cycles 19 = .ok (.invokevirtual 129, 3) := by decide +kernel
theorem dX5_cycles_22 : decode cX5_cycles 22 = .ok (.goto 4, 3) := by decide +kernel
theorem dX5_cycles_25 : decode cX5_cycles 25 = .ok (.iconst (-1), 1) := by decide +kernel
theorem dX5_cycles_26 : decode cX5_cycles 26 = .ok (.ireturn, 1) := by decide +kernel
set_option maxRecDepth 20000 in
theorem ggX5_order_X0_isReady : GoodIn wsX5_order wsX0_isReady := goodIn_r _ [8, 9, 47, 48, 49, 50, 51, 52, 53] (by decide +kernel) (by decide +kernel)
set_option maxRecDepth 20000 in
theorem gX5_order_X0_isReady : GoodIn wsX5_order (wsV RX5 104 RX0 yX0_isReady wsX0_isReady) := goodIn_app (goodIn_of _ (by decide +kernel)) ggX5_order_X0_isReady
set_option maxRecDepth 20000 in
theorem ggX5_order_X0_orderOf : GoodIn wsX5_order wsX0_orderOf := goodIn_r _ [13, 9, 14, 15, 16, 7, 17, 18, 19, 20, 21, 22, 23, 24, 25, 26, 27, 28, 29, 30, 31, 32, 33, 34, 35, 36, 37, 38, 39, 47, 48, 49, 50, 51, 52, 53, 54, 55, 56, 57, 58, 59, 60, 61, 62, 63, 64, 65, 66] (by decide +kernel) (by decide +kernel)
set_option maxRecDepth 20000 in
theorem gX5_order_X0_orderOf : GoodIn wsX5_order (wsV RX5 133 RX0 yX0_orderOf wsX0_orderOf) := goodIn_app (goodIn_of _ (by decide +kernel)) ggX5_order_X0_orderOf
theorem dX5_order_0 : decode cX5_order 0 = .ok (.aload_n 0, 1) := by decide +kernel
theorem dX5_order_1 : decode cX5_order 1 = .ok (.getfield 49, 3) := by decide +kernel
theorem dX5_order_4 : decode cX5_order 4 = .ok (.invokevirtual 104, 3) := by decide +kernel
theorem dX5_order_7 : decode cX5_order 7 = .ok (.ifCond .eq 17, 3) := by decide +kernel
theorem dX5_order_10 : decode cX5_order 10 = .ok (.aload_n 0, 1) := by decide +kernel
theorem dX5_order_11 : decode cX5_order 11 = .ok (.getfield 49, 3) := by decide +kernel
theorem dX5_order_14 : decode cX5_order 14 = .ok (.aload_n 0, 1) := by decide +kernel
theorem dX5_order_15 : decode cX5_order 15 = .ok (.getfield 12, 3) := by decide +kernel
theorem dX5_order_18 : decode cX5_order 18 = .ok (.invokevirtual 133, 3) := by decide +kernel
theorem dX5_order_21 : decode cX5_order 21 = .ok (.goto 6, 3) := by decide +kernel
theorem dX5_order_24 : decode cX5_order 24 = .ok (.ldc2_w 137, 3) := by decide +kernel
theorem dX5_order_27 : decode cX5_order 27 = .ok (.lreturn, 1) := by decide +kernel
set_option maxRecDepth 20000 in
theorem ggX5_resting_X0_isReady : GoodIn wsX5_resting wsX0_isReady := goodIn_r _ [6, 7, 37, 38, 39, 40, 41, 42, 43] (by decide +kernel) (by decide +kernel)
set_option maxRecDepth 20000 in
theorem gX5_resting_X0_isReady : GoodIn wsX5_resting (wsV RX5 104 RX0 yX0_isReady wsX0_isReady) := goodIn_app (goodIn_of _ (by decide +kernel)) ggX5_resting_X0_isReady
set_option maxRecDepth 20000 in
theorem ggX5_resting_X0_countResting : GoodIn wsX5_resting wsX0_countResting := goodIn_r _ [11, 7, 12, 13, 14, 5, 15, 16, 17, 18, 19, 20, 21, 22, 23, 24, 25, 26, 27, 28, 29, 37, 38, 39, 40, 41, 42, 43, 44, 45, 46, 47, 48, 49, 50, 51, 52, 53, 54, 55, 56, 57, 58] (by decide +kernel) (by decide +kernel)
set_option maxRecDepth 20000 in
theorem gX5_resting_X0_countResting : GoodIn wsX5_resting (wsV RX5 139 RX0 yX0_countResting wsX0_countResting) := goodIn_app (goodIn_of _ (by decide +kernel)) ggX5_resting_X0_countResting
theorem dX5_resting_0 : decode cX5_resting 0 = .ok (.aload_n 0, 1) := by decide +kernel
theorem dX5_resting_1 : decode cX5_resting 1 = .ok (.getfield 49, 3) := by decide +kernel
theorem dX5_resting_4 : decode cX5_resting 4 = .ok (.invokevirtual 104, 3) := by decide +kernel
theorem dX5_resting_7 : decode cX5_resting 7 = .ok (.ifCond .eq 13, 3) := by decide +kernel
theorem dX5_resting_10 : decode cX5_resting 10 = .ok (.aload_n 0, 1) := by decide +kernel
theorem dX5_resting_11 : decode cX5_resting 11 = .ok (.getfield 49, 3) := by decide +kernel
theorem dX5_resting_14 : decode cX5_resting 14 = .ok (.invokevirtual 139, 3) := by decide +kernel
theorem dX5_resting_17 : decode cX5_resting 17 = .ok (.goto 4, 3) := by decide +kernel
theorem dX5_resting_20 : decode cX5_resting 20 = .ok (.iconst (-1), 1) := by decide +kernel
theorem dX5_resting_21 : decode cX5_resting 21 = .ok (.ireturn, 1) := by decide +kernel
set_option maxRecDepth 20000 in
theorem ggX5_orbit_X0_hasNumber : GoodIn wsX5_orbit wsX0_hasNumber := goodIn_r _ [6, 7, 43, 44, 45, 46, 47, 48, 49] (by decide +kernel) (by decide +kernel)
set_option maxRecDepth 20000 in
theorem gX5_orbit_X0_hasNumber : GoodIn wsX5_orbit (wsV RX5 119 RX0 yX0_hasNumber wsX0_hasNumber) := goodIn_app (goodIn_of _ (by decide +kernel)) ggX5_orbit_X0_hasNumber
set_option maxRecDepth 20000 in
theorem ggX5_orbit_X0_lowestJoined : GoodIn wsX5_orbit wsX0_lowestJoined := goodIn_r _ [11, 12, 13, 7, 14, 15, 16, 17, 18, 19, 20, 21, 5, 22, 23, 24, 25, 26, 27, 28, 29, 30, 31, 32, 33, 34, 35, 43, 44, 45, 46, 47, 48, 49, 50, 51, 52, 53, 54, 55, 56, 57, 58, 59, 60, 61, 62, 63, 64] (by decide +kernel) (by decide +kernel)
set_option maxRecDepth 20000 in
theorem gX5_orbit_X0_lowestJoined : GoodIn wsX5_orbit (wsV RX5 142 RX0 yX0_lowestJoined wsX0_lowestJoined) := goodIn_app (goodIn_of _ (by decide +kernel)) ggX5_orbit_X0_lowestJoined
theorem dX5_orbit_0 : decode cX5_orbit 0 = .ok (.aload_n 0, 1) := by decide +kernel
theorem dX5_orbit_1 : decode cX5_orbit 1 = .ok (.getfield 49, 3) := by decide +kernel
theorem dX5_orbit_4 : decode cX5_orbit 4 = .ok (.iload_n 1, 1) := by decide +kernel
theorem dX5_orbit_5 : decode cX5_orbit 5 = .ok (.invokevirtual 119, 3) := by decide +kernel
theorem dX5_orbit_8 : decode cX5_orbit 8 = .ok (.ifCond .eq 14, 3) := by decide +kernel
theorem dX5_orbit_11 : decode cX5_orbit 11 = .ok (.aload_n 0, 1) := by decide +kernel
theorem dX5_orbit_12 : decode cX5_orbit 12 = .ok (.getfield 49, 3) := by decide +kernel
theorem dX5_orbit_15 : decode cX5_orbit 15 = .ok (.iload_n 1, 1) := by decide +kernel
theorem dX5_orbit_16 : decode cX5_orbit 16 = .ok (.invokevirtual 142, 3) := by decide +kernel
theorem dX5_orbit_19 : decode cX5_orbit 19 = .ok (.goto 4, 3) := by decide +kernel
theorem dX5_orbit_22 : decode cX5_orbit 22 = .ok (.iconst (-1), 1) := by decide +kernel
theorem dX5_orbit_23 : decode cX5_orbit 23 = .ok (.ireturn, 1) := by decide +kernel
theorem dX5_isLetter_0 : decode cX5_isLetter 0 = .ok (.iload_n 1, 1) := by decide +kernel
theorem dX5_isLetter_1 : decode cX5_isLetter 1 = .ok (.ifCond .eq 24, 3) := by decide +kernel
theorem dX5_isLetter_4 : decode cX5_isLetter 4 = .ok (.iload_n 1, 1) := by decide +kernel
theorem dX5_isLetter_5 : decode cX5_isLetter 5 = .ok (.aload_n 0, 1) := by decide +kernel
theorem dX5_isLetter_6 : decode cX5_isLetter 6 = .ok (.getfield 53, 3) := by decide +kernel
theorem dX5_isLetter_9 : decode cX5_isLetter 9 = .ok (.ineg, 1) := by decide +kernel
theorem dX5_isLetter_10 : decode cX5_isLetter 10 = .ok (.if_icmp .lt 15, 3) := by decide +kernel
theorem dX5_isLetter_13 : decode cX5_isLetter 13 = .ok (.iload_n 1, 1) := by decide +kernel
theorem dX5_isLetter_14 : decode cX5_isLetter 14 = .ok (.aload_n 0, 1) := by decide +kernel
theorem dX5_isLetter_15 : decode cX5_isLetter 15 = .ok (.getfield 53, 3) := by decide +kernel
theorem dX5_isLetter_18 : decode cX5_isLetter 18 = .ok (.if_icmp .gt 7, 3) := by decide +kernel
theorem dX5_isLetter_21 : decode cX5_isLetter 21 = .ok (.iconst 1, 1) := by decide +kernel
theorem dX5_isLetter_22 : decode cX5_isLetter 22 = .ok (.goto 4, 3) := by decide +kernel
theorem dX5_isLetter_25 : decode cX5_isLetter 25 = .ok (.iconst 0, 1) := by decide +kernel
theorem dX5_isLetter_26 : decode cX5_isLetter 26 = .ok (.ireturn, 1) := by decide +kernel
theorem dX5_columnOf_0 : decode cX5_columnOf 0 = .ok (.iload_n 0, 1) := by decide +kernel
theorem dX5_columnOf_1 : decode cX5_columnOf 1 = .ok (.ifCond .le 11, 3) := by decide +kernel
theorem dX5_columnOf_4 : decode cX5_columnOf 4 = .ok (.iconst 2, 1) := by decide +kernel
theorem dX5_columnOf_5 : decode cX5_columnOf 5 = .ok (.iload_n 0, 1) := by decide +kernel
theorem dX5_columnOf_6 : decode cX5_columnOf 6 = .ok (.iconst 1, 1) := by decide +kernel
theorem dX5_columnOf_7 : decode cX5_columnOf 7 = .ok (.isub, 1) := by decide +kernel
theorem dX5_columnOf_8 : decode cX5_columnOf 8 = .ok (.imul, 1) := by decide +kernel
theorem dX5_columnOf_9 : decode cX5_columnOf 9 = .ok (.goto 11, 3) := by decide +kernel
theorem dX5_columnOf_12 : decode cX5_columnOf 12 = .ok (.iconst 2, 1) := by decide +kernel
theorem dX5_columnOf_13 : decode cX5_columnOf 13 = .ok (.iload_n 0, 1) := by decide +kernel
theorem dX5_columnOf_14 : decode cX5_columnOf 14 = .ok (.ineg, 1) := by decide +kernel
theorem dX5_columnOf_15 : decode cX5_columnOf 15 = .ok (.iconst 1, 1) := by decide +kernel
theorem dX5_columnOf_16 : decode cX5_columnOf 16 = .ok (.isub, 1) := by decide +kernel
theorem dX5_columnOf_17 : decode cX5_columnOf 17 = .ok (.imul, 1) := by decide +kernel
theorem dX5_columnOf_18 : decode cX5_columnOf 18 = .ok (.iconst 1, 1) := by decide +kernel
theorem dX5_columnOf_19 : decode cX5_columnOf 19 = .ok (.iadd, 1) := by decide +kernel
theorem dX5_columnOf_20 : decode cX5_columnOf 20 = .ok (.ireturn, 1) := by decide +kernel
set_option maxRecDepth 20000 in
theorem ggX5_startTable_X1_start : GoodIn wsX5_startTable wsX1_start := goodIn_r _ [8, 9, 10, 11, 12, 13, 14, 15, 7, 16, 17, 18, 33, 34, 35, 36, 37, 38, 39, 40, 41, 42, 43] (by decide +kernel) (by decide +kernel)
set_option maxRecDepth 20000 in
theorem gX5_startTable_X1_start : GoodIn wsX5_startTable (wsV RX5 145 RX1 yX1_start wsX1_start) := goodIn_app (goodIn_of _ (by decide +kernel)) ggX5_startTable_X1_start
theorem dX5_startTable_0 : decode cX5_startTable 0 = .ok (.aload_n 0, 1) := by decide +kernel
theorem dX5_startTable_1 : decode cX5_startTable 1 = .ok (.getfield 31, 3) := by decide +kernel
theorem dX5_startTable_4 : decode cX5_startTable 4 = .ok (.iconst 2, 1) := by decide +kernel
theorem dX5_startTable_5 : decode cX5_startTable 5 = .ok (.aload_n 0, 1) := by decide +kernel
theorem dX5_startTable_6 : decode cX5_startTable 6 = .ok (.getfield 53, 3) := by decide +kernel
theorem dX5_startTable_9 : decode cX5_startTable 9 = .ok (.imul, 1) := by decide +kernel
theorem dX5_startTable_10 : decode cX5_startTable 10 = .ok (.invokevirtual 145, 3) := by decide +kernel
theorem dX5_startTable_13 : decode cX5_startTable 13 = .ok (.aload_n 0, 1) := by decide +kernel
theorem dX5_startTable_14 : decode cX5_startTable 14 = .ok (.getfield 49, 3) := by decide +kernel
theorem dX5_startTable_17 : decode cX5_startTable 17 = .ok (.iconst 0, 1) := by decide +kernel
theorem dX5_startTable_18 : decode cX5_startTable 18 = .ok (.putfield 107, 3) := by decide +kernel
theorem dX5_startTable_21 : decode cX5_startTable 21 = .ok (.return_, 1) := by decide +kernel
set_option maxRecDepth 20000 in
theorem ggX5_giveHandTo_X4_isFull : GoodIn wsX5_giveHandTo wsX4_isFull := goodIn_r _ [6, 7, 8, 56, 57] (by decide +kernel) (by decide +kernel)
set_option maxRecDepth 20000 in
theorem gX5_giveHandTo_X4_isFull : GoodIn wsX5_giveHandTo (wsV RX5 148 RX4 yX4_isFull wsX4_isFull) := goodIn_app (goodIn_of _ (by decide +kernel)) ggX5_giveHandTo_X4_isFull
set_option maxRecDepth 20000 in
theorem ggX5_giveHandTo_X4_add : GoodIn wsX5_giveHandTo wsX4_add := goodIn_r _ [12, 8, 7, 13, 14, 15, 16, 17, 18, 19, 20, 21, 22, 23, 56, 57, 54, 55] (by decide +kernel) (by decide +kernel)
set_option maxRecDepth 20000 in
theorem gX5_giveHandTo_X4_add : GoodIn wsX5_giveHandTo (wsV RX5 151 RX4 yX4_add wsX4_add) := goodIn_app (goodIn_of _ (by decide +kernel)) ggX5_giveHandTo_X4_add
set_option maxRecDepth 20000 in
theorem ggX5_giveHandTo_X5_startTable : GoodIn wsX5_giveHandTo wsX5_startTable := goodIn_r _ [28, 29, 30, 31, 32, 33, 34, 35, 36, 37, 38, 39, 40, 41, 42, 43, 44, 45, 46, 47, 48, 49, 50, 51, 52, 53, 58, 59, 60, 61, 62, 63, 64, 65, 66, 67, 68, 69, 70, 71, 72, 73, 74, 75] (by decide +kernel) (by decide +kernel)
set_option maxRecDepth 20000 in
theorem gX5_giveHandTo_X5_startTable : GoodIn wsX5_giveHandTo (wsV RX5 57 RX5 yX5_startTable wsX5_startTable) := goodIn_app (goodIn_of _ (by decide +kernel)) ggX5_giveHandTo_X5_startTable
theorem dX5_giveHandTo_0 : decode cX5_giveHandTo 0 = .ok (.aload_n 0, 1) := by decide +kernel
theorem dX5_giveHandTo_1 : decode cX5_giveHandTo 1 = .ok (.getfield 12, 3) := by decide +kernel
theorem dX5_giveHandTo_4 : decode cX5_giveHandTo 4 = .ok (.getfield 63, 3) := by decide +kernel
theorem dX5_giveHandTo_7 : decode cX5_giveHandTo 7 = .ok (.ifCond .eq 10, 3) := by decide +kernel
theorem dX5_giveHandTo_10 : decode cX5_giveHandTo 10 = .ok (.aload_n 1, 1) := by decide +kernel
theorem dX5_giveHandTo_11 : decode cX5_giveHandTo 11 = .ok (.invokevirtual 148, 3) := by decide +kernel
theorem dX5_giveHandTo_14 : decode cX5_giveHandTo 14 = .ok (.ifCond .eq 5, 3) := by decide +kernel
theorem dX5_giveHandTo_17 : decode cX5_giveHandTo 17 = .ok (.iconst (-1), 1) := by decide +kernel
theorem dX5_giveHandTo_18 : decode cX5_giveHandTo 18 = .ok (.ireturn, 1) := by decide +kernel
theorem dX5_giveHandTo_19 : decode cX5_giveHandTo 19 = .ok (.aload_n 1, 1) := by decide +kernel
theorem dX5_giveHandTo_20 : decode cX5_giveHandTo 20 = .ok (.aload_n 0, 1) := by decide +kernel
theorem dX5_giveHandTo_21 : decode cX5_giveHandTo 21 = .ok (.getfield 12, 3) := by decide +kernel
theorem dX5_giveHandTo_24 : decode cX5_giveHandTo 24 = .ok (.invokevirtual 151, 3) := by decide +kernel
theorem dX5_giveHandTo_27 : decode cX5_giveHandTo 27 = .ok (.aload_n 0, 1) := by decide +kernel
theorem dX5_giveHandTo_28 : decode cX5_giveHandTo 28 = .ok (.getfield 12, 3) := by decide +kernel
theorem dX5_giveHandTo_31 : decode cX5_giveHandTo 31 = .ok (.iconst 0, 1) := by decide +kernel
theorem dX5_giveHandTo_32 : decode cX5_giveHandTo 32 = .ok (.putfield 63, 3) := by decide +kernel
theorem dX5_giveHandTo_35 : decode cX5_giveHandTo 35 = .ok (.aload_n 0, 1) := by decide +kernel
theorem dX5_giveHandTo_36 : decode cX5_giveHandTo 36 = .ok (.invokevirtual 57, 3) := by decide +kernel
theorem dX5_giveHandTo_39 : decode cX5_giveHandTo 39 = .ok (.aload_n 1, 1) := by decide +kernel
theorem dX5_giveHandTo_40 : decode cX5_giveHandTo 40 = .ok (.getfield 60, 3) := by decide +kernel
theorem dX5_giveHandTo_43 : decode cX5_giveHandTo 43 = .ok (.ireturn, 1) := by decide +kernel
set_option maxRecDepth 20000 in
theorem ggX6_init_X6_begin : GoodIn wsX6_init wsX6_begin := goodIn_r _ [20, 21, 22, 23, 6, 24, 25, 26, 19, 27, 28, 7, 8, 29, 30, 31, 32, 33, 34, 35, 36, 37, 38, 39, 40, 41, 42, 43, 44, 45] (by decide +kernel) (by decide +kernel)
set_option maxRecDepth 20000 in
theorem gX6_init_X6_begin : GoodIn wsX6_init (wsV RX6 41 RX6 yX6_begin wsX6_begin) := goodIn_app (goodIn_of _ (by decide +kernel)) ggX6_init_X6_begin
theorem dX6_init_0 : decode cX6_init 0 = .ok (.aload_n 0, 1) := by decide +kernel
theorem dX6_init_1 : decode cX6_init 1 = .ok (.invokespecial 1, 3) := by decide +kernel
theorem dX6_init_4 : decode cX6_init 4 = .ok (.aload_n 0, 1) := by decide +kernel
theorem dX6_init_5 : decode cX6_init 5 = .ok (.sipush 384, 3) := by decide +kernel
theorem dX6_init_8 : decode cX6_init 8 = .ok (.newarray .int, 2) := by decide +kernel
