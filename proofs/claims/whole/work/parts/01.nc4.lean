theorem dX6_init_10 : decode cX6_init 10 = .ok (.putfield 7, 3) := by decide +kernel
theorem dX6_init_13 : decode cX6_init 13 = .ok (.aload_n 0, 1) := by decide +kernel
theorem dX6_init_14 : decode cX6_init 14 = .ok (.bipush 16, 2) := by decide +kernel
theorem dX6_init_16 : decode cX6_init 16 = .ok (.newarray .int, 2) := by decide +kernel
theorem dX6_init_18 : decode cX6_init 18 = .ok (.putfield 13, 3) := by decide +kernel
theorem dX6_init_21 : decode cX6_init 21 = .ok (.aload_n 0, 1) := by decide +kernel
theorem dX6_init_22 : decode cX6_init 22 = .ok (.sipush 200, 3) := by decide +kernel
theorem dX6_init_25 : decode cX6_init 25 = .ok (.newarray .int, 2) := by decide +kernel
theorem dX6_init_27 : decode cX6_init 27 = .ok (.putfield 16, 3) := by decide +kernel
theorem dX6_init_30 : decode cX6_init 30 = .ok (.aload_n 0, 1) := by decide +kernel
theorem dX6_init_31 : decode cX6_init 31 = .ok (.sipush 1200, 3) := by decide +kernel
theorem dX6_init_34 : decode cX6_init 34 = .ok (.newarray .int, 2) := by decide +kernel
theorem dX6_init_36 : decode cX6_init 36 = .ok (.putfield 19, 3) := by decide +kernel
theorem dX6_init_39 : decode cX6_init 39 = .ok (.aload_n 0, 1) := by decide +kernel
theorem dX6_init_40 : decode cX6_init 40 = .ok (.sipush 8000, 3) := by decide +kernel
theorem dX6_init_43 : decode cX6_init 43 = .ok (.newarray .int, 2) := by decide +kernel
theorem dX6_init_45 : decode cX6_init 45 = .ok (.putfield 22, 3) := by decide +kernel
theorem dX6_init_48 : decode cX6_init 48 = .ok (.aload_n 0, 1) := by decide +kernel
theorem dX6_init_49 : decode cX6_init 49 = .ok (.sipush 8000, 3) := by decide +kernel
theorem dX6_init_52 : decode cX6_init 52 = .ok (.newarray .int, 2) := by decide +kernel
theorem dX6_init_54 : decode cX6_init 54 = .ok (.putfield 25, 3) := by decide +kernel
theorem dX6_init_57 : decode cX6_init 57 = .ok (.aload_n 0, 1) := by decide +kernel
theorem dX6_init_58 : decode cX6_init 58 = .ok (.sipush 200, 3) := by decide +kernel
theorem dX6_init_61 : decode cX6_init 61 = .ok (.newarray .int, 2) := by decide +kernel
theorem dX6_init_63 : decode cX6_init 63 = .ok (.putfield 28, 3) := by decide +kernel
theorem dX6_init_66 : decode cX6_init 66 = .ok (.aload_n 0, 1) := by decide +kernel
theorem dX6_init_67 : decode cX6_init 67 = .ok (.sipush 200, 3) := by decide +kernel
theorem dX6_init_70 : decode cX6_init 70 = .ok (.newarray .int, 2) := by decide +kernel
theorem dX6_init_72 : decode cX6_init 72 = .ok (.putfield 31, 3) := by decide +kernel
theorem dX6_init_75 : decode cX6_init 75 = .ok (.aload_n 0, 1) := by decide +kernel
theorem dX6_init_76 : decode cX6_init 76 = .ok (.sipush 200, 3) := by decide +kernel
theorem dX6_init_79 : decode cX6_init 79 = .ok (.newarray .boolean, 2) := by decide +kernel
theorem dX6_init_81 : decode cX6_init 81 = .ok (.putfield 34, 3) := by decide +kernel
theorem dX6_init_84 : decode cX6_init 84 = .ok (.aload_n 0, 1) := by decide +kernel
theorem dX6_init_85 : decode cX6_init 85 = .ok (.sipush 200, 3) := by decide +kernel
theorem dX6_init_88 : decode cX6_init 88 = .ok (.newarray .int, 2) := by decide +kernel
theorem dX6_init_90 : decode cX6_init 90 = .ok (.putfield 38, 3) := by decide +kernel
theorem dX6_init_93 : decode cX6_init 93 = .ok (.aload_n 0, 1) := by decide +kernel
theorem dX6_init_94 : decode cX6_init 94 = .ok (.iconst 1, 1) := by decide +kernel
theorem dX6_init_95 : decode cX6_init 95 = .ok (.invokevirtual 41, 3) := by decide +kernel
theorem dX6_init_98 : decode cX6_init 98 = .ok (.istore_n 1, 1) := by decide +kernel
theorem dX6_init_99 : decode cX6_init 99 = .ok (.return_, 1) := by decide +kernel
theorem dX6_fresh_0 : decode cX6_fresh 0 = .ok (.aload_n 0, 1) := by decide +kernel
theorem dX6_fresh_1 : decode cX6_fresh 1 = .ok (.iconst 1, 1) := by decide +kernel
theorem dX6_fresh_2 : decode cX6_fresh 2 = .ok (.putfield 45, 3) := by decide +kernel
theorem dX6_fresh_5 : decode cX6_fresh 5 = .ok (.aload_n 0, 1) := by decide +kernel
theorem dX6_fresh_6 : decode cX6_fresh 6 = .ok (.getfield 16, 3) := by decide +kernel
theorem dX6_fresh_9 : decode cX6_fresh 9 = .ok (.iconst 0, 1) := by decide +kernel
theorem dX6_fresh_10 : decode cX6_fresh 10 = .ok (.iconst 0, 1) := by decide +kernel
theorem dX6_fresh_11 : decode cX6_fresh 11 = .ok (.iastore, 1) := by decide +kernel
theorem dX6_fresh_12 : decode cX6_fresh 12 = .ok (.iconst 0, 1) := by decide +kernel
theorem dX6_fresh_13 : decode cX6_fresh 13 = .ok (.istore_n 1, 1) := by decide +kernel
theorem dX6_fresh_14 : decode cX6_fresh 14 = .ok (.iload_n 1, 1) := by decide +kernel
theorem dX6_fresh_15 : decode cX6_fresh 15 = .ok (.sipush 1200, 3) := by decide +kernel
theorem dX6_fresh_18 : decode cX6_fresh 18 = .ok (.if_icmp .ge 16, 3) := by decide +kernel
theorem dX6_fresh_21 : decode cX6_fresh 21 = .ok (.aload_n 0, 1) := by decide +kernel
theorem dX6_fresh_22 : decode cX6_fresh 22 = .ok (.getfield 19, 3) := by decide +kernel
theorem dX6_fresh_25 : decode cX6_fresh 25 = .ok (.iload_n 1, 1) := by decide +kernel
theorem dX6_fresh_26 : decode cX6_fresh 26 = .ok (.iconst (-1), 1) := by decide +kernel
theorem dX6_fresh_27 : decode cX6_fresh 27 = .ok (.iastore, 1) := by decide +kernel
theorem dX6_fresh_28 : decode cX6_fresh 28 = .ok (.iinc 1 1, 3) := by decide +kernel
theorem dX6_fresh_31 : decode cX6_fresh 31 = .ok (.goto (-17), 3) := by decide +kernel
theorem dX6_fresh_34 : decode cX6_fresh 34 = .ok (.return_, 1) := by decide +kernel
set_option maxRecDepth 20000 in
theorem ggX6_begin_X6_fresh : GoodIn wsX6_begin wsX6_fresh := goodIn_r _ [9, 10, 11, 12, 13, 14, 15, 16, 17, 18, 19, 20, 21, 22, 23, 24, 25, 26, 27, 28, 29] (by decide +kernel) (by decide +kernel)
set_option maxRecDepth 20000 in
theorem gX6_begin_X6_fresh : GoodIn wsX6_begin (wsV RX6 58 RX6 yX6_fresh wsX6_fresh) := goodIn_app (goodIn_of _ (by decide +kernel)) ggX6_begin_X6_fresh
theorem dX6_begin_0 : decode cX6_begin 0 = .ok (.iload_n 1, 1) := by decide +kernel
theorem dX6_begin_1 : decode cX6_begin 1 = .ok (.iconst 1, 1) := by decide +kernel
theorem dX6_begin_2 : decode cX6_begin 2 = .ok (.if_icmp .lt 8, 3) := by decide +kernel
theorem dX6_begin_5 : decode cX6_begin 5 = .ok (.iload_n 1, 1) := by decide +kernel
theorem dX6_begin_6 : decode cX6_begin 6 = .ok (.iconst 3, 1) := by decide +kernel
theorem dX6_begin_7 : decode cX6_begin 7 = .ok (.if_icmp .le 5, 3) := by decide +kernel
theorem dX6_begin_10 : decode cX6_begin 10 = .ok (.iconst (-1), 1) := by decide +kernel
theorem dX6_begin_11 : decode cX6_begin 11 = .ok (.ireturn, 1) := by decide +kernel
theorem dX6_begin_12 : decode cX6_begin 12 = .ok (.aload_n 0, 1) := by decide +kernel
theorem dX6_begin_13 : decode cX6_begin 13 = .ok (.iload_n 1, 1) := by decide +kernel
theorem dX6_begin_14 : decode cX6_begin 14 = .ok (.putfield 49, 3) := by decide +kernel
theorem dX6_begin_17 : decode cX6_begin 17 = .ok (.aload_n 0, 1) := by decide +kernel
theorem dX6_begin_18 : decode cX6_begin 18 = .ok (.iconst 0, 1) := by decide +kernel
theorem dX6_begin_19 : decode cX6_begin 19 = .ok (.putfield 52, 3) := by decide +kernel
theorem dX6_begin_22 : decode cX6_begin 22 = .ok (.aload_n 0, 1) := by decide +kernel
theorem dX6_begin_23 : decode cX6_begin 23 = .ok (.iconst 0, 1) := by decide +kernel
theorem dX6_begin_24 : decode cX6_begin 24 = .ok (.putfield 55, 3) := by decide +kernel
theorem dX6_begin_27 : decode cX6_begin 27 = .ok (.aload_n 0, 1) := by decide +kernel
theorem dX6_begin_28 : decode cX6_begin 28 = .ok (.getfield 13, 3) := by decide +kernel
theorem dX6_begin_31 : decode cX6_begin 31 = .ok (.bipush 15, 2) := by decide +kernel
theorem dX6_begin_33 : decode cX6_begin 33 = .ok (.iconst 0, 1) := by decide +kernel
theorem dX6_begin_34 : decode cX6_begin 34 = .ok (.iastore, 1) := by decide +kernel
theorem dX6_begin_35 : decode cX6_begin 35 = .ok (.aload_n 0, 1) := by decide +kernel
theorem dX6_begin_36 : decode cX6_begin 36 = .ok (.invokevirtual 58, 3) := by decide +kernel
theorem dX6_begin_39 : decode cX6_begin 39 = .ok (.iconst 0, 1) := by decide +kernel
theorem dX6_begin_40 : decode cX6_begin 40 = .ok (.ireturn, 1) := by decide +kernel
theorem dX6_isLetter_0 : decode cX6_isLetter 0 = .ok (.iload_n 1, 1) := by decide +kernel
theorem dX6_isLetter_1 : decode cX6_isLetter 1 = .ok (.ifCond .eq 24, 3) := by decide +kernel
theorem dX6_isLetter_4 : decode cX6_isLetter 4 = .ok (.iload_n 1, 1) := by decide +kernel
theorem dX6_isLetter_5 : decode cX6_isLetter 5 = .ok (.aload_n 0, 1) := by decide +kernel
theorem dX6_isLetter_6 : decode cX6_isLetter 6 = .ok (.getfield 49, 3) := by decide +kernel
theorem dX6_isLetter_9 : decode cX6_isLetter 9 = .ok (.ineg, 1) := by decide +kernel
theorem dX6_isLetter_10 : decode cX6_isLetter 10 = .ok (.if_icmp .lt 15, 3) := by decide +kernel
theorem dX6_isLetter_13 : decode cX6_isLetter 13 = .ok (.iload_n 1, 1) := by decide +kernel
theorem dX6_isLetter_14 : decode cX6_isLetter 14 = .ok (.aload_n 0, 1) := by decide +kernel
theorem dX6_isLetter_15 : decode cX6_isLetter 15 = .ok (.getfield 49, 3) := by decide +kernel
theorem dX6_isLetter_18 : decode cX6_isLetter 18 = .ok (.if_icmp .gt 7, 3) := by decide +kernel
theorem dX6_isLetter_21 : decode cX6_isLetter 21 = .ok (.iconst 1, 1) := by decide +kernel
theorem dX6_isLetter_22 : decode cX6_isLetter 22 = .ok (.goto 4, 3) := by decide +kernel
theorem dX6_isLetter_25 : decode cX6_isLetter 25 = .ok (.iconst 0, 1) := by decide +kernel
theorem dX6_isLetter_26 : decode cX6_isLetter 26 = .ok (.ireturn, 1) := by decide +kernel
theorem dX6_column_0 : decode cX6_column 0 = .ok (.iload_n 0, 1) := by decide +kernel
theorem dX6_column_1 : decode cX6_column 1 = .ok (.ifCond .le 11, 3) := by decide +kernel
theorem dX6_column_4 : decode cX6_column 4 = .ok (.iconst 2, 1) := by decide +kernel
theorem dX6_column_5 : decode cX6_column 5 = .ok (.iload_n 0, 1) := by decide +kernel
theorem dX6_column_6 : decode cX6_column 6 = .ok (.imul, 1) := by decide +kernel
theorem dX6_column_7 : decode cX6_column 7 = .ok (.iconst 2, 1) := by decide +kernel
theorem dX6_column_8 : decode cX6_column 8 = .ok (.isub, 1) := by decide +kernel
theorem dX6_column_9 : decode cX6_column 9 = .ok (.goto 9, 3) := by decide +kernel
theorem dX6_column_12 : decode cX6_column 12 = .ok (.bipush (-2), 2) := by decide +kernel
theorem dX6_column_14 : decode cX6_column 14 = .ok (.iload_n 0, 1) := by decide +kernel
theorem dX6_column_15 : decode cX6_column 15 = .ok (.imul, 1) := by decide +kernel
theorem dX6_column_16 : decode cX6_column 16 = .ok (.iconst 1, 1) := by decide +kernel
theorem dX6_column_17 : decode cX6_column 17 = .ok (.isub, 1) := by decide +kernel
theorem dX6_column_18 : decode cX6_column 18 = .ok (.ireturn, 1) := by decide +kernel
set_option maxRecDepth 20000 in
theorem ggX6_letter_X6_isLetter : GoodIn wsX6_letter wsX6_isLetter := goodIn_r _ [7, 8, 12, 13, 14, 15, 16, 17, 18, 19, 20, 21, 22, 23, 24, 25, 26, 27, 28] (by decide +kernel) (by decide +kernel)
set_option maxRecDepth 20000 in
theorem gX6_letter_X6_isLetter : GoodIn wsX6_letter (wsV RX6 61 RX6 yX6_isLetter wsX6_isLetter) := goodIn_app (goodIn_of _ (by decide +kernel)) ggX6_letter_X6_isLetter
set_option maxRecDepth 20000 in
theorem ggX6_letter_X6_column : GoodIn wsX6_letter wsX6_column := goodIn_r _ [11] (by decide +kernel) (by decide +kernel)
set_option maxRecDepth 20000 in
theorem gX6_letter_X6_column : GoodIn wsX6_letter (va_wsS RX6 65 yX6_column wsX6_column) := goodIn_app (goodIn_of _ (by decide +kernel)) ggX6_letter_X6_column
theorem dX6_letter_0 : decode cX6_letter 0 = .ok (.aload_n 0, 1) := by decide +kernel
theorem dX6_letter_1 : decode cX6_letter 1 = .ok (.iload_n 1, 1) := by decide +kernel
theorem dX6_letter_2 : decode cX6_letter 2 = .ok (.invokevirtual 61, 3) := by decide +kernel
theorem dX6_letter_5 : decode cX6_letter 5 = .ok (.ifCond .eq 15, 3) := by decide +kernel
theorem dX6_letter_8 : decode cX6_letter 8 = .ok (.aload_n 0, 1) := by decide +kernel
theorem dX6_letter_9 : decode cX6_letter 9 = .ok (.getfield 13, 3) := by decide +kernel
theorem dX6_letter_12 : decode cX6_letter 12 = .ok (.bipush 15, 2) := by decide +kernel
theorem dX6_letter_14 : decode cX6_letter 14 = .ok (.iaload, 1) := by decide +kernel
theorem dX6_letter_15 : decode cX6_letter 15 = .ok (.bipush 24, 2) := by decide +kernel
theorem dX6_letter_17 : decode cX6_letter 17 = .ok (.if_icmp .ne 5, 3) := by decide +kernel
theorem dX6_letter_20 : decode cX6_letter 20 = .ok (.iconst (-1), 1) := by decide +kernel
theorem dX6_letter_21 : decode cX6_letter 21 = .ok (.ireturn, 1) := by decide +kernel
theorem dX6_letter_22 : decode cX6_letter 22 = .ok (.aload_n 0, 1) := by decide +kernel
theorem dX6_letter_23 : decode cX6_letter 23 = .ok (.getfield 7, 3) := by decide +kernel
theorem dX6_letter_26 : decode cX6_letter 26 = .ok (.sipush 360, 3) := by decide +kernel
theorem dX6_letter_29 : decode cX6_letter 29 = .ok (.aload_n 0, 1) := by decide +kernel
theorem dX6_letter_30 : decode cX6_letter 30 = .ok (.getfield 13, 3) := by decide +kernel
theorem dX6_letter_33 : decode cX6_letter 33 = .ok (.bipush 15, 2) := by decide +kernel
theorem dX6_letter_35 : decode cX6_letter 35 = .ok (.iaload, 1) := by decide +kernel
theorem dX6_letter_36 : decode cX6_letter 36 = .ok (.iadd, 1) := by decide +kernel
theorem dX6_letter_37 : decode cX6_letter 37 = .ok (.iload_n 1, 1) := by decide +kernel
theorem dX6_letter_38 : decode cX6_letter 38 = .ok (.invokestatic 65, 3) := by decide +kernel
theorem dX6_letter_41 : decode cX6_letter 41 = .ok (.iastore, 1) := by decide +kernel
theorem dX6_letter_42 : decode cX6_letter 42 = .ok (.aload_n 0, 1) := by decide +kernel
theorem dX6_letter_43 : decode cX6_letter 43 = .ok (.getfield 13, 3) := by decide +kernel
theorem dX6_letter_46 : decode cX6_letter 46 = .ok (.bipush 15, 2) := by decide +kernel
theorem dX6_letter_48 : decode cX6_letter 48 = .ok (.dup2, 1) := by decide +kernel
theorem dX6_letter_49 : decode cX6_letter 49 = .ok (.iaload, 1) := by decide +kernel
theorem dX6_letter_50 : decode cX6_letter 50 = .ok (.iconst 1, 1) := by decide +kernel
theorem dX6_letter_51 : decode cX6_letter 51 = .ok (.iadd, 1) := by decide +kernel
theorem dX6_letter_52 : decode cX6_letter 52 = .ok (.iastore, 1) := by decide +kernel
theorem dX6_letter_53 : decode cX6_letter 53 = .ok (.aload_n 0, 1) := by decide +kernel
theorem dX6_letter_54 : decode cX6_letter 54 = .ok (.getfield 13, 3) := by decide +kernel
theorem dX6_letter_57 : decode cX6_letter 57 = .ok (.bipush 15, 2) := by decide +kernel
theorem dX6_letter_59 : decode cX6_letter 59 = .ok (.iaload, 1) := by decide +kernel
theorem dX6_letter_60 : decode cX6_letter 60 = .ok (.ireturn, 1) := by decide +kernel
theorem dX6_clear_0 : decode cX6_clear 0 = .ok (.aload_n 0, 1) := by decide +kernel
theorem dX6_clear_1 : decode cX6_clear 1 = .ok (.getfield 13, 3) := by decide +kernel
theorem dX6_clear_4 : decode cX6_clear 4 = .ok (.bipush 15, 2) := by decide +kernel
theorem dX6_clear_6 : decode cX6_clear 6 = .ok (.iaload, 1) := by decide +kernel
theorem dX6_clear_7 : decode cX6_clear 7 = .ok (.istore_n 1, 1) := by decide +kernel
theorem dX6_clear_8 : decode cX6_clear 8 = .ok (.aload_n 0, 1) := by decide +kernel
theorem dX6_clear_9 : decode cX6_clear 9 = .ok (.getfield 13, 3) := by decide +kernel
theorem dX6_clear_12 : decode cX6_clear 12 = .ok (.bipush 15, 2) := by decide +kernel
theorem dX6_clear_14 : decode cX6_clear 14 = .ok (.iconst 0, 1) := by decide +kernel
theorem dX6_clear_15 : decode cX6_clear 15 = .ok (.iastore, 1) := by decide +kernel
theorem dX6_clear_16 : decode cX6_clear 16 = .ok (.iload_n 1, 1) := by decide +kernel
theorem dX6_clear_17 : decode cX6_clear 17 = .ok (.ireturn, 1) := by decide +kernel
set_option maxRecDepth 20000 in
theorem ggX6_become_X6_fresh : GoodIn wsX6_become wsX6_fresh := goodIn_r _ [7, 8, 9, 10, 11, 12, 13, 14, 15, 16, 17, 18, 19, 20, 21, 22, 23, 24, 25, 26, 27] (by decide +kernel) (by decide +kernel)
set_option maxRecDepth 20000 in
theorem gX6_become_X6_fresh : GoodIn wsX6_become (wsV RX6 58 RX6 yX6_fresh wsX6_fresh) := goodIn_app (goodIn_of _ (by decide +kernel)) ggX6_become_X6_fresh
theorem dX6_become_0 : decode cX6_become 0 = .ok (.iconst 0, 1) := by decide +kernel
theorem dX6_become_1 : decode cX6_become 1 = .ok (.istore_n 2, 1) := by decide +kernel
theorem dX6_become_2 : decode cX6_become 2 = .ok (.iload_n 2, 1) := by decide +kernel
theorem dX6_become_3 : decode cX6_become 3 = .ok (.aload_n 0, 1) := by decide +kernel
theorem dX6_become_4 : decode cX6_become 4 = .ok (.getfield 13, 3) := by decide +kernel
theorem dX6_become_7 : decode cX6_become 7 = .ok (.bipush 15, 2) := by decide +kernel
theorem dX6_become_9 : decode cX6_become 9 = .ok (.iaload, 1) := by decide +kernel
theorem dX6_become_10 : decode cX6_become 10 = .ok (.if_icmp .ge 30, 3) := by decide +kernel
theorem dX6_become_13 : decode cX6_become 13 = .ok (.aload_n 0, 1) := by decide +kernel
theorem dX6_become_14 : decode cX6_become 14 = .ok (.getfield 7, 3) := by decide +kernel
theorem dX6_become_17 : decode cX6_become 17 = .ok (.bipush 24, 2) := by decide +kernel
theorem dX6_become_19 : decode cX6_become 19 = .ok (.iload_n 1, 1) := by decide +kernel
theorem dX6_become_20 : decode cX6_become 20 = .ok (.imul, 1) := by decide +kernel
theorem dX6_become_21 : decode cX6_become 21 = .ok (.iload_n 2, 1) := by decide +kernel
theorem dX6_become_22 : decode cX6_become 22 = .ok (.iadd, 1) := by decide +kernel
theorem dX6_become_23 : decode cX6_become 23 = .ok (.aload_n 0, 1) := by decide +kernel
theorem dX6_become_24 : decode cX6_become 24 = .ok (.getfield 7, 3) := by decide +kernel
theorem dX6_become_27 : decode cX6_become 27 = .ok (.sipush 360, 3) := by decide +kernel
theorem dX6_become_30 : decode cX6_become 30 = .ok (.iload_n 2, 1) := by decide +kernel
theorem dX6_become_31 : decode cX6_become 31 = .ok (.iadd, 1) := by decide +kernel
theorem dX6_become_32 : decode cX6_become 32 = .ok (.iaload, 1) := by decide +kernel
theorem dX6_become_33 : decode cX6_become 33 = .ok (.iastore, 1) := by decide +kernel
theorem dX6_become_34 : decode cX6_become 34 = .ok (.iinc 2 1, 3) := by decide +kernel
theorem dX6_become_37 : decode cX6_become 37 = .ok (.goto (-35), 3) := by decide +kernel
theorem dX6_become_40 : decode cX6_become 40 = .ok (.aload_n 0, 1) := by decide +kernel
theorem dX6_become_41 : decode cX6_become 41 = .ok (.getfield 13, 3) := by decide +kernel
theorem dX6_become_44 : decode cX6_become 44 = .ok (.iload_n 1, 1) := by decide +kernel
theorem dX6_become_45 : decode cX6_become 45 = .ok (.aload_n 0, 1) := by decide +kernel
theorem dX6_become_46 : decode cX6_become 46 = .ok (.getfield 13, 3) := by decide +kernel
theorem dX6_become_49 : decode cX6_become 49 = .ok (.bipush 15, 2) := by decide +kernel
theorem dX6_become_51 : decode cX6_become 51 = .ok (.iaload, 1) := by decide +kernel
theorem dX6_become_52 : decode cX6_become 52 = .ok (.iastore, 1) := by decide +kernel
theorem dX6_become_53 : decode cX6_become 53 = .ok (.aload_n 0, 1) := by decide +kernel
theorem dX6_become_54 : decode cX6_become 54 = .ok (.getfield 13, 3) := by decide +kernel
theorem dX6_become_57 : decode cX6_become 57 = .ok (.bipush 15, 2) := by decide +kernel
theorem dX6_become_59 : decode cX6_become 59 = .ok (.iconst 0, 1) := by decide +kernel
theorem dX6_become_60 : decode cX6_become 60 = .ok (.iastore, 1) := by decide +kernel
theorem dX6_become_61 : decode cX6_become 61 = .ok (.aload_n 0, 1) := by decide +kernel
theorem dX6_become_62 : decode cX6_become 62 = .ok (.invokevirtual 58, 3) := by decide +kernel
theorem dX6_become_65 : decode cX6_become 65 = .ok (.return_, 1) := by decide +kernel
set_option maxRecDepth 20000 in
theorem ggX6_relator_X6_become : GoodIn wsX6_relator wsX6_become := goodIn_r _ [7, 1, 8, 9, 10, 11, 6, 12, 13, 14, 15, 16, 17, 18, 19, 20, 21, 22, 23, 24, 25, 26, 27, 28, 29, 30, 31, 32] (by decide +kernel) (by decide +kernel)
set_option maxRecDepth 20000 in
theorem gX6_relator_X6_become : GoodIn wsX6_relator (wsV RX6 68 RX6 yX6_become wsX6_become) := goodIn_app (goodIn_of _ (by decide +kernel)) ggX6_relator_X6_become
theorem dX6_relator_0 : decode cX6_relator 0 = .ok (.aload_n 0, 1) := by decide +kernel
theorem dX6_relator_1 : decode cX6_relator 1 = .ok (.getfield 13, 3) := by decide +kernel
theorem dX6_relator_4 : decode cX6_relator 4 = .ok (.bipush 15, 2) := by decide +kernel
theorem dX6_relator_6 : decode cX6_relator 6 = .ok (.iaload, 1) := by decide +kernel
theorem dX6_relator_7 : decode cX6_relator 7 = .ok (.ifCond .eq 12, 3) := by decide +kernel
theorem dX6_relator_10 : decode cX6_relator 10 = .ok (.aload_n 0, 1) := by decide +kernel
theorem dX6_relator_11 : decode cX6_relator 11 = .ok (.getfield 52, 3) := by decide +kernel
theorem dX6_relator_14 : decode cX6_relator 14 = .ok (.bipush 10, 2) := by decide +kernel
theorem dX6_relator_16 : decode cX6_relator 16 = .ok (.if_icmp .ne 5, 3) := by decide +kernel
theorem dX6_relator_19 : decode cX6_relator 19 = .ok (.iconst (-1), 1) := by decide +kernel
theorem dX6_relator_20 : decode cX6_relator 20 = .ok (.ireturn, 1) := by decide +kernel
theorem dX6_relator_21 : decode cX6_relator 21 = .ok (.aload_n 0, 1) := by decide +kernel
theorem dX6_relator_22 : decode cX6_relator 22 = .ok (.aload_n 0, 1) := by decide +kernel
theorem dX6_relator_23 : decode cX6_relator 23 = .ok (.getfield 52, 3) := by decide +kernel
theorem dX6_relator_26 : decode cX6_relator 26 = .ok (.invokevirtual 68, 3) := by decide +kernel
theorem dX6_relator_29 : decode cX6_relator 29 = .ok (.aload_n 0, 1) := by decide +kernel
theorem dX6_relator_30 : decode cX6_relator 30 = .ok (.dup, 1) := by decide +kernel
theorem dX6_relator_31 : decode cX6_relator 31 = .ok (.getfield 52, 3) := by decide +kernel
theorem dX6_relator_34 : decode cX6_relator 34 = .ok (.iconst 1, 1) := by decide +kernel
theorem dX6_relator_35 : decode cX6_relator 35 = .ok (.iadd, 1) := by decide +kernel
theorem dX6_relator_36 : decode cX6_relator 36 = .ok (.putfield 52, 3) := by decide +kernel
theorem dX6_relator_39 : decode cX6_relator 39 = .ok (.aload_n 0, 1) := by decide +kernel
theorem dX6_relator_40 : decode cX6_relator 40 = .ok (.getfield 52, 3) := by decide +kernel
theorem dX6_relator_43 : decode cX6_relator 43 = .ok (.ireturn, 1) := by decide +kernel
set_option maxRecDepth 20000 in
theorem ggX6_subgroup_X6_become : GoodIn wsX6_subgroup wsX6_become := goodIn_r _ [7, 1, 8, 9, 10, 11, 6, 12, 13, 14, 15, 16, 17, 18, 19, 20, 21, 22, 23, 24, 25, 26, 27, 28, 29, 30, 31, 32] (by decide +kernel) (by decide +kernel)
set_option maxRecDepth 20000 in
theorem gX6_subgroup_X6_become : GoodIn wsX6_subgroup (wsV RX6 68 RX6 yX6_become wsX6_become) := goodIn_app (goodIn_of _ (by decide +kernel)) ggX6_subgroup_X6_become
theorem dX6_subgroup_0 : decode cX6_subgroup 0 = .ok (.aload_n 0, 1) := by decide +kernel
theorem dX6_subgroup_1 : decode cX6_subgroup 1 = .ok (.getfield 13, 3) := by decide +kernel
theorem dX6_subgroup_4 : decode cX6_subgroup 4 = .ok (.bipush 15, 2) := by decide +kernel
theorem dX6_subgroup_6 : decode cX6_subgroup 6 = .ok (.iaload, 1) := by decide +kernel
theorem dX6_subgroup_7 : decode cX6_subgroup 7 = .ok (.ifCond .eq 11, 3) := by decide +kernel
theorem dX6_subgroup_10 : decode cX6_subgroup 10 = .ok (.aload_n 0, 1) := by decide +kernel
theorem dX6_subgroup_11 : decode cX6_subgroup 11 = .ok (.getfield 55, 3) := by decide +kernel
theorem dX6_subgroup_14 : decode cX6_subgroup 14 = .ok (.iconst 5, 1) := by decide +kernel
theorem dX6_subgroup_15 : decode cX6_subgroup 15 = .ok (.if_icmp .ne 5, 3) := by decide +kernel
theorem dX6_subgroup_18 : decode cX6_subgroup 18 = .ok (.iconst (-1), 1) := by decide +kernel
theorem dX6_subgroup_19 : decode cX6_subgroup 19 = .ok (.ireturn, 1) := by decide +kernel
theorem dX6_subgroup_20 : decode cX6_subgroup 20 = .ok (.aload_n 0, 1) := by decide +kernel
theorem dX6_subgroup_21 : decode cX6_subgroup 21 = .ok (.bipush 10, 2) := by decide +kernel
theorem dX6_subgroup_23 : decode cX6_subgroup 23 = .ok (.aload_n 0, 1) := by decide +kernel
theorem dX6_subgroup_24 : decode cX6_subgroup 24 = .ok (.getfield 55, 3) := by decide +kernel
theorem dX6_subgroup_27 : decode cX6_subgroup 27 = .ok (.iadd, 1) := by decide +kernel
theorem dX6_subgroup_28 : decode cX6_subgroup 28 = .ok (.invokevirtual 68, 3) := by decide +kernel
theorem dX6_subgroup_31 : decode cX6_subgroup 31 = .ok (.aload_n 0, 1) := by decide +kernel
theorem dX6_subgroup_32 : decode cX6_subgroup 32 = .ok (.dup, 1) := by decide +kernel
theorem dX6_subgroup_33 : decode cX6_subgroup 33 = .ok (.getfield 55, 3) := by decide +kernel
theorem dX6_subgroup_36 : decode cX6_subgroup 36 = .ok (.iconst 1, 1) := by decide +kernel
theorem dX6_subgroup_37 : decode cX6_subgroup 37 = .ok (.iadd, 1) := by decide +kernel
theorem dX6_subgroup_38 : decode cX6_subgroup 38 = .ok (.putfield 55, 3) := by decide +kernel
theorem dX6_subgroup_41 : decode cX6_subgroup 41 = .ok (.aload_n 0, 1) := by decide +kernel
theorem dX6_subgroup_42 : decode cX6_subgroup 42 = .ok (.getfield 55, 3) := by decide +kernel
theorem dX6_subgroup_45 : decode cX6_subgroup 45 = .ok (.ireturn, 1) := by decide +kernel
theorem dX6_real_0 : decode cX6_real 0 = .ok (.iload_n 1, 1) := by decide +kernel
theorem dX6_real_1 : decode cX6_real 1 = .ok (.istore_n 2, 1) := by decide +kernel
theorem dX6_real_2 : decode cX6_real 2 = .ok (.aload_n 0, 1) := by decide +kernel
theorem dX6_real_3 : decode cX6_real 3 = .ok (.getfield 16, 3) := by decide +kernel
theorem dX6_real_6 : decode cX6_real 6 = .ok (.iload_n 2, 1) := by decide +kernel
theorem dX6_real_7 : decode cX6_real 7 = .ok (.iaload, 1) := by decide +kernel
theorem dX6_real_8 : decode cX6_real 8 = .ok (.iload_n 2, 1) := by decide +kernel
theorem dX6_real_9 : decode cX6_real 9 = .ok (.if_icmp .eq 13, 3) := by decide +kernel
theorem dX6_real_12 : decode cX6_real 12 = .ok (.aload_n 0, 1) := by decide +kernel
theorem dX6_real_13 : decode cX6_real 13 = .ok (.getfield 16, 3) := by decide +kernel
theorem dX6_real_16 : decode cX6_real 16 = .ok (.iload_n 2, 1) := by decide +kernel
theorem dX6_real_17 : decode cX6_real 17 = .ok (.iaload, 1) := by decide +kernel
theorem dX6_real_18 : decode cX6_real 18 = .ok (.istore_n 2, 1) := by decide +kernel
theorem dX6_real_19 : decode cX6_real 19 = .ok (.goto (-17), 3) := by decide +kernel
theorem dX6_real_22 : decode cX6_real 22 = .ok (.iload_n 2, 1) := by decide +kernel
theorem dX6_real_23 : decode cX6_real 23 = .ok (.ireturn, 1) := by decide +kernel
theorem dX6_pair_0 : decode cX6_pair 0 = .ok (.aload_n 0, 1) := by decide +kernel
theorem dX6_pair_1 : decode cX6_pair 1 = .ok (.getfield 22, 3) := by decide +kernel
theorem dX6_pair_4 : decode cX6_pair 4 = .ok (.aload_n 0, 1) := by decide +kernel
theorem dX6_pair_5 : decode cX6_pair 5 = .ok (.getfield 72, 3) := by decide +kernel
theorem dX6_pair_8 : decode cX6_pair 8 = .ok (.iload_n 1, 1) := by decide +kernel
theorem dX6_pair_9 : decode cX6_pair 9 = .ok (.iastore, 1) := by decide +kernel
theorem dX6_pair_10 : decode cX6_pair 10 = .ok (.aload_n 0, 1) := by decide +kernel
theorem dX6_pair_11 : decode cX6_pair 11 = .ok (.getfield 25, 3) := by decide +kernel
theorem dX6_pair_14 : decode cX6_pair 14 = .ok (.aload_n 0, 1) := by decide +kernel
theorem dX6_pair_15 : decode cX6_pair 15 = .ok (.getfield 72, 3) := by decide +kernel
theorem dX6_pair_18 : decode cX6_pair 18 = .ok (.iload_n 2, 1) := by decide +kernel
theorem dX6_pair_19 : decode cX6_pair 19 = .ok (.iastore, 1) := by decide +kernel
theorem dX6_pair_20 : decode cX6_pair 20 = .ok (.aload_n 0, 1) := by decide +kernel
theorem dX6_pair_21 : decode cX6_pair 21 = .ok (.dup, 1) := by decide +kernel
theorem dX6_pair_22 : decode cX6_pair 22 = .ok (.getfield 72, 3) := by decide +kernel
theorem dX6_pair_25 : decode cX6_pair 25 = .ok (.iconst 1, 1) := by decide +kernel
theorem dX6_pair_26 : decode cX6_pair 26 = .ok (.iadd, 1) := by decide +kernel
theorem dX6_pair_27 : decode cX6_pair 27 = .ok (.putfield 72, 3) := by decide +kernel
theorem dX6_pair_30 : decode cX6_pair 30 = .ok (.return_, 1) := by decide +kernel
set_option maxRecDepth 20000 in
theorem ggX6_learn_X6_real : GoodIn wsX6_learn wsX6_real := goodIn_r _ [7, 8, 16, 17, 18, 19, 20, 21, 22, 23, 24, 25, 26, 27, 28, 29, 30, 31, 32] (by decide +kernel) (by decide +kernel)
set_option maxRecDepth 20000 in
theorem gX6_learn_X6_real : GoodIn wsX6_learn (wsV RX6 75 RX6 yX6_real wsX6_real) := goodIn_app (goodIn_of _ (by decide +kernel)) ggX6_learn_X6_real
set_option maxRecDepth 20000 in
theorem ggX6_learn_X6_pair : GoodIn wsX6_learn wsX6_pair := goodIn_r _ [12, 13, 14, 15, 16, 17, 18, 19, 20, 21, 22, 23, 24, 25, 26, 27, 28, 29, 30, 31, 32] (by decide +kernel) (by decide +kernel)
set_option maxRecDepth 20000 in
theorem gX6_learn_X6_pair : GoodIn wsX6_learn (wsV RX6 82 RX6 yX6_pair wsX6_pair) := goodIn_app (goodIn_of _ (by decide +kernel)) ggX6_learn_X6_pair
theorem dX6_learn_0 : decode cX6_learn 0 = .ok (.aload_n 0, 1) := by decide +kernel
theorem dX6_learn_1 : decode cX6_learn 1 = .ok (.iload_n 1, 1) := by decide +kernel
theorem dX6_learn_2 : decode cX6_learn 2 = .ok (.invokevirtual 75, 3) := by decide +kernel
theorem dX6_learn_5 : decode cX6_learn 5 = .ok (.istore 4, 2) := by decide +kernel
theorem dX6_learn_7 : decode cX6_learn 7 = .ok (.aload_n 0, 1) := by decide +kernel
theorem dX6_learn_8 : decode cX6_learn 8 = .ok (.iload_n 3, 1) := by decide +kernel
theorem dX6_learn_9 : decode cX6_learn 9 = .ok (.invokevirtual 75, 3) := by decide +kernel
theorem dX6_learn_12 : decode cX6_learn 12 = .ok (.istore 5, 2) := by decide +kernel
theorem dX6_learn_14 : decode cX6_learn 14 = .ok (.aload_n 0, 1) := by decide +kernel
theorem dX6_learn_15 : decode cX6_learn 15 = .ok (.getfield 19, 3) := by decide +kernel
theorem dX6_learn_18 : decode cX6_learn 18 = .ok (.bipush 6, 2) := by decide +kernel
theorem dX6_learn_20 : decode cX6_learn 20 = .ok (.iload 4, 2) := by decide +kernel
theorem dX6_learn_22 : decode cX6_learn 22 = .ok (.imul, 1) := by decide +kernel
theorem dX6_learn_23 : decode cX6_learn 23 = .ok (.iload_n 2, 1) := by decide +kernel
theorem dX6_learn_24 : decode cX6_learn 24 = .ok (.iadd, 1) := by decide +kernel
theorem dX6_learn_25 : decode cX6_learn 25 = .ok (.iaload, 1) := by decide +kernel
theorem dX6_learn_26 : decode cX6_learn 26 = .ok (.istore 6, 2) := by decide +kernel
theorem dX6_learn_28 : decode cX6_learn 28 = .ok (.iload 6, 2) := by decide +kernel
theorem dX6_learn_30 : decode cX6_learn 30 = .ok (.ifCond .ge 25, 3) := by decide +kernel
theorem dX6_learn_33 : decode cX6_learn 33 = .ok (.aload_n 0, 1) := by decide +kernel
theorem dX6_learn_34 : decode cX6_learn 34 = .ok (.getfield 19, 3) := by decide +kernel
theorem dX6_learn_37 : decode cX6_learn 37 = .ok (.bipush 6, 2) := by decide +kernel
theorem dX6_learn_39 : decode cX6_learn 39 = .ok (.iload 4, 2) := by decide +kernel
theorem dX6_learn_41 : decode cX6_learn 41 = .ok (.imul, 1) := by decide +kernel
theorem dX6_learn_42 : decode cX6_learn 42 = .ok (.iload_n 2, 1) := by decide +kernel
theorem dX6_learn_43 : decode cX6_learn 43 = .ok (.iadd, 1) := by decide +kernel
theorem dX6_learn_44 : decode cX6_learn 44 = .ok (.iload 5, 2) := by decide +kernel
theorem dX6_learn_46 : decode cX6_learn 46 = .ok (.iastore, 1) := by decide +kernel
theorem dX6_learn_47 : decode cX6_learn 47 = .ok (.aload_n 0, 1) := by decide +kernel
theorem dX6_learn_48 : decode cX6_learn 48 = .ok (.iconst 1, 1) := by decide +kernel
theorem dX6_learn_49 : decode cX6_learn 49 = .ok (.putfield 78, 3) := by decide +kernel
theorem dX6_learn_52 : decode cX6_learn 52 = .ok (.goto 22, 3) := by decide +kernel
theorem dX6_learn_55 : decode cX6_learn 55 = .ok (.aload_n 0, 1) := by decide +kernel
theorem dX6_learn_56 : decode cX6_learn 56 = .ok (.iload 6, 2) := by decide +kernel
theorem dX6_learn_58 : decode cX6_learn 58 = .ok (.invokevirtual 75, 3) := by decide +kernel
theorem dX6_learn_61 : decode cX6_learn 61 = .ok (.iload 5, 2) := by decide +kernel
theorem dX6_learn_63 : decode cX6_learn 63 = .ok (.if_icmp .eq 11, 3) := by decide +kernel
theorem dX6_learn_66 : decode cX6_learn 66 = .ok (.aload_n 0, 1) := by decide +kernel
theorem dX6_learn_67 : decode cX6_learn 67 = .ok (.iload 6, 2) := by decide +kernel
theorem dX6_learn_69 : decode cX6_learn 69 = .ok (.iload 5, 2) := by decide +kernel
theorem dX6_learn_71 : decode cX6_learn 71 = .ok (.invokevirtual 82, 3) := by decide +kernel
theorem dX6_learn_74 : decode cX6_learn 74 = .ok (.iload_n 2, 1) := by decide +kernel
theorem dX6_learn_75 : decode cX6_learn 75 = .ok (.iconst 1, 1) := by decide +kernel
theorem dX6_learn_76 : decode cX6_learn 76 = .ok (.ixor, 1) := by decide +kernel
theorem dX6_learn_77 : decode cX6_learn 77 = .ok (.istore 7, 2) := by decide +kernel
theorem dX6_learn_79 : decode cX6_learn 79 = .ok (.aload_n 0, 1) := by decide +kernel
theorem dX6_learn_80 : decode cX6_learn 80 = .ok (.getfield 19, 3) := by decide +kernel
theorem dX6_learn_83 : decode cX6_learn 83 = .ok (.bipush 6, 2) := by decide +kernel
theorem dX6_learn_85 : decode cX6_learn 85 = .ok (.iload 5, 2) := by decide +kernel
theorem dX6_learn_87 : decode cX6_learn 87 = .ok (.imul, 1) := by decide +kernel
theorem dX6_learn_88 : decode cX6_learn 88 = .ok (.iload 7, 2) := by decide +kernel
theorem dX6_learn_90 : decode cX6_learn 90 = .ok (.iadd, 1) := by decide +kernel
theorem dX6_learn_91 : decode cX6_learn 91 = .ok (.iaload, 1) := by decide +kernel
theorem dX6_learn_92 : decode cX6_learn 92 = .ok (.istore 8, 2) := by decide +kernel
theorem dX6_learn_94 : decode cX6_learn 94 = .ok (.iload 8, 2) := by decide +kernel
theorem dX6_learn_96 : decode cX6_learn 96 = .ok (.ifCond .ge 26, 3) := by decide +kernel
theorem dX6_learn_99 : decode cX6_learn 99 = .ok (.aload_n 0, 1) := by decide +kernel
theorem dX6_learn_100 : decode cX6_learn 100 = .ok (.getfield 19, 3) := by decide +kernel
theorem dX6_learn_103 : decode cX6_learn 103 = .ok (.bipush 6, 2) := by decide +kernel
theorem dX6_learn_105 : decode cX6_learn 105 = .ok (.iload 5, 2) := by decide +kernel
theorem dX6_learn_107 : decode cX6_learn 107 = .ok (.imul, 1) := by decide +kernel
theorem dX6_learn_108 : decode cX6_learn 108 = .ok (.iload 7, 2) := by decide +kernel
theorem dX6_learn_110 : decode cX6_learn 110 = .ok (.iadd, 1) := by decide +kernel
theorem dX6_learn_111 : decode cX6_learn 111 = .ok (.iload 4, 2) := by decide +kernel
theorem dX6_learn_113 : decode cX6_learn 113 = .ok (.iastore, 1) := by decide +kernel
theorem dX6_learn_114 : decode cX6_learn 114 = .ok (.aload_n 0, 1) := by decide +kernel
theorem dX6_learn_115 : decode cX6_learn 115 = .ok (.iconst 1, 1) := by decide +kernel
theorem dX6_learn_116 : decode cX6_learn 116 = .ok (.putfield 78, 3) := by decide +kernel
theorem dX6_learn_119 : decode cX6_learn 119 = .ok (.goto 22, 3) := by decide +kernel
theorem dX6_learn_122 : decode cX6_learn 122 = .ok (.aload_n 0, 1) := by decide +kernel
theorem dX6_learn_123 : decode cX6_learn 123 = .ok (.iload 8, 2) := by decide +kernel
theorem dX6_learn_125 : decode cX6_learn 125 = .ok (.invokevirtual 75, 3) := by decide +kernel
theorem dX6_learn_128 : decode cX6_learn 128 = .ok (.iload 4, 2) := by decide +kernel
theorem dX6_learn_130 : decode cX6_learn 130 = .ok (.if_icmp .eq 11, 3) := by decide +kernel
theorem dX6_learn_133 : decode cX6_learn 133 = .ok (.aload_n 0, 1) := by decide +kernel
theorem dX6_learn_134 : decode cX6_learn 134 = .ok (.iload 8, 2) := by decide +kernel
theorem dX6_learn_136 : decode cX6_learn 136 = .ok (.iload 4, 2) := by decide +kernel
theorem dX6_learn_138 : decode cX6_learn 138 = .ok (.invokevirtual 82, 3) := by decide +kernel
theorem dX6_learn_141 : decode cX6_learn 141 = .ok (.return_, 1) := by decide +kernel
set_option maxRecDepth 20000 in
theorem ggX6_join_X6_real : GoodIn wsX6_join wsX6_real := goodIn_r _ [12, 4, 21, 22, 23, 24, 25, 26, 27, 28, 29, 30, 31, 32, 33, 34, 35, 36, 37] (by decide +kernel) (by decide +kernel)
set_option maxRecDepth 20000 in
theorem gX6_join_X6_real : GoodIn wsX6_join (wsV RX6 75 RX6 yX6_real wsX6_real) := goodIn_app (goodIn_of _ (by decide +kernel)) ggX6_join_X6_real
set_option maxRecDepth 20000 in
theorem ggX6_join_X6_learn : GoodIn wsX6_join wsX6_learn := goodIn_r _ [16, 6, 5, 8, 9, 10, 11, 12, 4, 17, 18, 19, 20, 2, 1, 3, 21, 22, 23, 24, 25, 26, 27, 28, 29, 30, 31, 32, 33, 34, 35, 36, 37] (by decide +kernel) (by decide +kernel)
set_option maxRecDepth 20000 in
theorem gX6_join_X6_learn : GoodIn wsX6_join (wsV RX6 86 RX6 yX6_learn wsX6_learn) := goodIn_app (goodIn_of _ (by decide +kernel)) ggX6_join_X6_learn
theorem dX6_join_0 : decode cX6_join 0 = .ok (.aload_n 0, 1) := by decide +kernel
theorem dX6_join_1 : decode cX6_join 1 = .ok (.getfield 72, 3) := by decide +kernel
theorem dX6_join_4 : decode cX6_join 4 = .ok (.ifCond .le 144, 3) := by decide +kernel
theorem dX6_join_7 : decode cX6_join 7 = .ok (.aload_n 0, 1) := by decide +kernel
theorem dX6_join_8 : decode cX6_join 8 = .ok (.dup, 1) := by decide +kernel
theorem dX6_join_9 : decode cX6_join 9 = .ok (.getfield 72, 3) := by decide +kernel
theorem dX6_join_12 : decode cX6_join 12 = .ok (.iconst 1, 1) := by decide +kernel
theorem dX6_join_13 : decode cX6_join 13 = .ok (.isub, 1) := by decide +kernel
theorem dX6_join_14 : decode cX6_join 14 = .ok (.putfield 72, 3) := by decide +kernel
theorem dX6_join_17 : decode cX6_join 17 = .ok (.aload_n 0, 1) := by decide +kernel
theorem dX6_join_18 : decode cX6_join 18 = .ok (.aload_n 0, 1) := by decide +kernel
theorem dX6_join_19 : decode cX6_join 19 = .ok (.getfield 22, 3) := by decide +kernel
theorem dX6_join_22 : decode cX6_join 22 = .ok (.aload_n 0, 1) := by decide +kernel
theorem dX6_join_23 : decode cX6_join 23 = .ok (.getfield 72, 3) := by decide +kernel
theorem dX6_join_26 : decode cX6_join 26 = .ok (.iaload, 1) := by decide +kernel
theorem dX6_join_27 : decode cX6_join 27 = .ok (.invokevirtual 75, 3) := by decide +kernel
theorem dX6_join_30 : decode cX6_join 30 = .ok (.istore_n 1, 1) := by decide +kernel
theorem dX6_join_31 : decode cX6_join 31 = .ok (.aload_n 0, 1) := by decide +kernel
theorem dX6_join_32 : decode cX6_join 32 = .ok (.aload_n 0, 1) := by decide +kernel
theorem dX6_join_33 : decode cX6_join 33 = .ok (.getfield 25, 3) := by decide +kernel
theorem dX6_join_36 : decode cX6_join 36 = .ok (.aload_n 0, 1) := by decide +kernel
theorem dX6_join_37 : decode cX6_join 37 = .ok (.getfield 72, 3) := by decide +kernel
theorem dX6_join_40 : decode cX6_join 40 = .ok (.iaload, 1) := by decide +kernel
theorem dX6_join_41 : decode cX6_join 41 = .ok (.invokevirtual 75, 3) := by decide +kernel
theorem dX6_join_44 : decode cX6_join 44 = .ok (.istore_n 2, 1) := by decide +kernel
theorem dX6_join_45 : decode cX6_join 45 = .ok (.iload_n 1, 1) := by decide +kernel
theorem dX6_join_46 : decode cX6_join 46 = .ok (.iload_n 2, 1) := by decide +kernel
theorem dX6_join_47 : decode cX6_join 47 = .ok (.if_icmp .eq 98, 3) := by decide +kernel
theorem dX6_join_50 : decode cX6_join 50 = .ok (.iload_n 1, 1) := by decide +kernel
theorem dX6_join_51 : decode cX6_join 51 = .ok (.iload_n 2, 1) := by decide +kernel
theorem dX6_join_52 : decode cX6_join 52 = .ok (.if_icmp .ge 7, 3) := by decide +kernel
theorem dX6_join_55 : decode cX6_join 55 = .ok (.iload_n 1, 1) := by decide +kernel
theorem dX6_join_56 : decode cX6_join 56 = .ok (.goto 4, 3) := by decide +kernel
theorem dX6_join_59 : decode cX6_join 59 = .ok (.iload_n 2, 1) := by decide +kernel
theorem dX6_join_60 : decode cX6_join 60 = .ok (.istore_n 3, 1) := by decide +kernel
theorem dX6_join_61 : decode cX6_join 61 = .ok (.iload_n 1, 1) := by decide +kernel
theorem dX6_join_62 : decode cX6_join 62 = .ok (.iload_n 2, 1) := by decide +kernel
theorem dX6_join_63 : decode cX6_join 63 = .ok (.if_icmp .ge 7, 3) := by decide +kernel
theorem dX6_join_66 : decode cX6_join 66 = .ok (.iload_n 2, 1) := by decide +kernel
theorem dX6_join_67 : decode cX6_join 67 = .ok (.goto 4, 3) := by decide +kernel
theorem dX6_join_70 : decode cX6_join 70 = .ok (.iload_n 1, 1) := by decide +kernel
theorem dX6_join_71 : decode cX6_join 71 = .ok (.istore 4, 2) := by decide +kernel
theorem dX6_join_73 : decode cX6_join 73 = .ok (.aload_n 0, 1) := by decide +kernel
theorem dX6_join_74 : decode cX6_join 74 = .ok (.getfield 16, 3) := by decide +kernel
theorem dX6_join_77 : decode cX6_join 77 = .ok (.iload 4, 2) := by decide +kernel
theorem dX6_join_79 : decode cX6_join 79 = .ok (.iload_n 3, 1) := by decide +kernel
theorem dX6_join_80 : decode cX6_join 80 = .ok (.iastore, 1) := by decide +kernel
theorem dX6_join_81 : decode cX6_join 81 = .ok (.aload_n 0, 1) := by decide +kernel
theorem dX6_join_82 : decode cX6_join 82 = .ok (.iconst 1, 1) := by decide +kernel
theorem dX6_join_83 : decode cX6_join 83 = .ok (.putfield 78, 3) := by decide +kernel
theorem dX6_join_86 : decode cX6_join 86 = .ok (.iconst 0, 1) := by decide +kernel
theorem dX6_join_87 : decode cX6_join 87 = .ok (.istore 5, 2) := by decide +kernel
theorem dX6_join_89 : decode cX6_join 89 = .ok (.iload 5, 2) := by decide +kernel
theorem dX6_join_91 : decode cX6_join 91 = .ok (.bipush 6, 2) := by decide +kernel
theorem dX6_join_93 : decode cX6_join 93 = .ok (.if_icmp .ge 52, 3) := by decide +kernel
theorem dX6_join_96 : decode cX6_join 96 = .ok (.aload_n 0, 1) := by decide +kernel
theorem dX6_join_97 : decode cX6_join 97 = .ok (.getfield 19, 3) := by decide +kernel
theorem dX6_join_100 : decode cX6_join 100 = .ok (.bipush 6, 2) := by decide +kernel
theorem dX6_join_102 : decode cX6_join 102 = .ok (.iload 4, 2) := by decide +kernel
theorem dX6_join_104 : decode cX6_join 104 = .ok (.imul, 1) := by decide +kernel
theorem dX6_join_105 : decode cX6_join 105 = .ok (.iload 5, 2) := by decide +kernel
theorem dX6_join_107 : decode cX6_join 107 = .ok (.iadd, 1) := by decide +kernel
theorem dX6_join_108 : decode cX6_join 108 = .ok (.iaload, 1) := by decide +kernel
theorem dX6_join_109 : decode cX6_join 109 = .ok (.istore 6, 2) := by decide +kernel
theorem dX6_join_111 : decode cX6_join 111 = .ok (.iload 6, 2) := by decide +kernel
theorem dX6_join_113 : decode cX6_join 113 = .ok (.ifCond .lt 26, 3) := by decide +kernel
theorem dX6_join_116 : decode cX6_join 116 = .ok (.aload_n 0, 1) := by decide +kernel
theorem dX6_join_117 : decode cX6_join 117 = .ok (.getfield 19, 3) := by decide +kernel
theorem dX6_join_120 : decode cX6_join 120 = .ok (.bipush 6, 2) := by decide +kernel
theorem dX6_join_122 : decode cX6_join 122 = .ok (.iload 4, 2) := by decide +kernel
