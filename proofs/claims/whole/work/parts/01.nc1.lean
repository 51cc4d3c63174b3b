theorem dX1_init_35 : decode cX1_init 35 = .ok (.newarray .int, 2) := by decide +kernel
theorem dX1_init_37 : decode cX1_init 37 = .ok (.putfield 21, 3) := by decide +kernel
theorem dX1_init_40 : decode cX1_init 40 = .ok (.aload_n 0, 1) := by decide +kernel
theorem dX1_init_41 : decode cX1_init 41 = .ok (.sipush 1200, 3) := by decide +kernel
theorem dX1_init_44 : decode cX1_init 44 = .ok (.newarray .boolean, 2) := by decide +kernel
theorem dX1_init_46 : decode cX1_init 46 = .ok (.putfield 24, 3) := by decide +kernel
theorem dX1_init_49 : decode cX1_init 49 = .ok (.return_, 1) := by decide +kernel
set_option maxRecDepth 20000 in
theorem ggX1_start_X1_make : GoodIn wsX1_start wsX1_make := goodIn_r _ [9, 2, 10, 11, 3, 12, 13, 14, 15, 16, 17, 18, 19, 20, 21, 22] (by decide +kernel) (by decide +kernel)
set_option maxRecDepth 20000 in
theorem gX1_start_X1_make : GoodIn wsX1_start (wsV RX1 41 RX1 yX1_make wsX1_make) := goodIn_app (goodIn_of _ (by decide +kernel)) ggX1_start_X1_make
theorem dX1_start_0 : decode cX1_start 0 = .ok (.aload_n 0, 1) := by decide +kernel
theorem dX1_start_1 : decode cX1_start 1 = .ok (.iload_n 1, 1) := by decide +kernel
theorem dX1_start_2 : decode cX1_start 2 = .ok (.putfield 28, 3) := by decide +kernel
theorem dX1_start_5 : decode cX1_start 5 = .ok (.aload_n 0, 1) := by decide +kernel
theorem dX1_start_6 : decode cX1_start 6 = .ok (.iconst 0, 1) := by decide +kernel
theorem dX1_start_7 : decode cX1_start 7 = .ok (.putfield 32, 3) := by decide +kernel
theorem dX1_start_10 : decode cX1_start 10 = .ok (.aload_n 0, 1) := by decide +kernel
theorem dX1_start_11 : decode cX1_start 11 = .ok (.iconst 0, 1) := by decide +kernel
theorem dX1_start_12 : decode cX1_start 12 = .ok (.putfield 35, 3) := by decide +kernel
theorem dX1_start_15 : decode cX1_start 15 = .ok (.aload_n 0, 1) := by decide +kernel
theorem dX1_start_16 : decode cX1_start 16 = .ok (.iconst 0, 1) := by decide +kernel
theorem dX1_start_17 : decode cX1_start 17 = .ok (.putfield 38, 3) := by decide +kernel
theorem dX1_start_20 : decode cX1_start 20 = .ok (.aload_n 0, 1) := by decide +kernel
theorem dX1_start_21 : decode cX1_start 21 = .ok (.invokevirtual 41, 3) := by decide +kernel
theorem dX1_start_24 : decode cX1_start 24 = .ok (.pop, 1) := by decide +kernel
theorem dX1_start_25 : decode cX1_start 25 = .ok (.return_, 1) := by decide +kernel
theorem dX1_make_0 : decode cX1_make 0 = .ok (.aload_n 0, 1) := by decide +kernel
theorem dX1_make_1 : decode cX1_make 1 = .ok (.getfield 32, 3) := by decide +kernel
theorem dX1_make_4 : decode cX1_make 4 = .ok (.istore_n 1, 1) := by decide +kernel
theorem dX1_make_5 : decode cX1_make 5 = .ok (.iconst 0, 1) := by decide +kernel
theorem dX1_make_6 : decode cX1_make 6 = .ok (.istore_n 2, 1) := by decide +kernel
theorem dX1_make_7 : decode cX1_make 7 = .ok (.iload_n 2, 1) := by decide +kernel
theorem dX1_make_8 : decode cX1_make 8 = .ok (.bipush 6, 2) := by decide +kernel
theorem dX1_make_10 : decode cX1_make 10 = .ok (.if_icmp .ge 21, 3) := by decide +kernel
theorem dX1_make_13 : decode cX1_make 13 = .ok (.aload_n 0, 1) := by decide +kernel
theorem dX1_make_14 : decode cX1_make 14 = .ok (.getfield 9, 3) := by decide +kernel
theorem dX1_make_17 : decode cX1_make 17 = .ok (.iload_n 1, 1) := by decide +kernel
theorem dX1_make_18 : decode cX1_make 18 = .ok (.bipush 6, 2) := by decide +kernel
theorem dX1_make_20 : decode cX1_make 20 = .ok (.imul, 1) := by decide +kernel
theorem dX1_make_21 : decode cX1_make 21 = .ok (.iload_n 2, 1) := by decide +kernel
theorem dX1_make_22 : decode cX1_make 22 = .ok (.iadd, 1) := by decide +kernel
theorem dX1_make_23 : decode cX1_make 23 = .ok (.iconst (-1), 1) := by decide +kernel
theorem dX1_make_24 : decode cX1_make 24 = .ok (.iastore, 1) := by decide +kernel
theorem dX1_make_25 : decode cX1_make 25 = .ok (.iinc 2 1, 3) := by decide +kernel
theorem dX1_make_28 : decode cX1_make 28 = .ok (.goto (-21), 3) := by decide +kernel
theorem dX1_make_31 : decode cX1_make 31 = .ok (.aload_n 0, 1) := by decide +kernel
theorem dX1_make_32 : decode cX1_make 32 = .ok (.getfield 15, 3) := by decide +kernel
theorem dX1_make_35 : decode cX1_make 35 = .ok (.iload_n 1, 1) := by decide +kernel
theorem dX1_make_36 : decode cX1_make 36 = .ok (.iload_n 1, 1) := by decide +kernel
theorem dX1_make_37 : decode cX1_make 37 = .ok (.iastore, 1) := by decide +kernel
theorem dX1_make_38 : decode cX1_make 38 = .ok (.aload_n 0, 1) := by decide +kernel
theorem dX1_make_39 : decode cX1_make 39 = .ok (.dup, 1) := by decide +kernel
theorem dX1_make_40 : decode cX1_make 40 = .ok (.getfield 32, 3) := by decide +kernel
theorem dX1_make_43 : decode cX1_make 43 = .ok (.iconst 1, 1) := by decide +kernel
theorem dX1_make_44 : decode cX1_make 44 = .ok (.iadd, 1) := by decide +kernel
theorem dX1_make_45 : decode cX1_make 45 = .ok (.putfield 32, 3) := by decide +kernel
theorem dX1_make_48 : decode cX1_make 48 = .ok (.aload_n 0, 1) := by decide +kernel
theorem dX1_make_49 : decode cX1_make 49 = .ok (.dup, 1) := by decide +kernel
theorem dX1_make_50 : decode cX1_make 50 = .ok (.getfield 35, 3) := by decide +kernel
theorem dX1_make_53 : decode cX1_make 53 = .ok (.iconst 1, 1) := by decide +kernel
theorem dX1_make_54 : decode cX1_make 54 = .ok (.iadd, 1) := by decide +kernel
theorem dX1_make_55 : decode cX1_make 55 = .ok (.putfield 35, 3) := by decide +kernel
theorem dX1_make_58 : decode cX1_make 58 = .ok (.iload_n 1, 1) := by decide +kernel
theorem dX1_make_59 : decode cX1_make 59 = .ok (.ireturn, 1) := by decide +kernel
set_option maxRecDepth 20000 in
theorem ggX1_findOpen_X1_isOpen : GoodIn wsX1_findOpen wsX1_isOpen := goodIn_r _ [7, 8, 9, 10, 11, 12, 6, 13, 2, 14, 15, 16, 17, 18, 19, 20, 21, 22, 23, 24, 25] (by decide +kernel) (by decide +kernel)
set_option maxRecDepth 20000 in
theorem gX1_findOpen_X1_isOpen : GoodIn wsX1_findOpen (wsV RX1 45 RX1 yX1_isOpen wsX1_isOpen) := goodIn_app (goodIn_of _ (by decide +kernel)) ggX1_findOpen_X1_isOpen
theorem dX1_findOpen_0 : decode cX1_findOpen 0 = .ok (.aload_n 0, 1) := by decide +kernel
theorem dX1_findOpen_1 : decode cX1_findOpen 1 = .ok (.getfield 38, 3) := by decide +kernel
theorem dX1_findOpen_4 : decode cX1_findOpen 4 = .ok (.aload_n 0, 1) := by decide +kernel
theorem dX1_findOpen_5 : decode cX1_findOpen 5 = .ok (.getfield 32, 3) := by decide +kernel
theorem dX1_findOpen_8 : decode cX1_findOpen 8 = .ok (.bipush 6, 2) := by decide +kernel
theorem dX1_findOpen_10 : decode cX1_findOpen 10 = .ok (.imul, 1) := by decide +kernel
theorem dX1_findOpen_11 : decode cX1_findOpen 11 = .ok (.if_icmp .ge 27, 3) := by decide +kernel
theorem dX1_findOpen_14 : decode cX1_findOpen 14 = .ok (.aload_n 0, 1) := by decide +kernel
theorem dX1_findOpen_15 : decode cX1_findOpen 15 = .ok (.aload_n 0, 1) := by decide +kernel
theorem dX1_findOpen_16 : decode cX1_findOpen 16 = .ok (.getfield 38, 3) := by decide +kernel
theorem dX1_findOpen_19 : decode cX1_findOpen 19 = .ok (.invokevirtual 45, 3) := by decide +kernel
theorem dX1_findOpen_22 : decode cX1_findOpen 22 = .ok (.ifCond .ne 16, 3) := by decide +kernel
theorem dX1_findOpen_25 : decode cX1_findOpen 25 = .ok (.aload_n 0, 1) := by decide +kernel
theorem dX1_findOpen_26 : decode cX1_findOpen 26 = .ok (.dup, 1) := by decide +kernel
theorem dX1_findOpen_27 : decode cX1_findOpen 27 = .ok (.getfield 38, 3) := by decide +kernel
theorem dX1_findOpen_30 : decode cX1_findOpen 30 = .ok (.iconst 1, 1) := by decide +kernel
theorem dX1_findOpen_31 : decode cX1_findOpen 31 = .ok (.iadd, 1) := by decide +kernel
theorem dX1_findOpen_32 : decode cX1_findOpen 32 = .ok (.putfield 38, 3) := by decide +kernel
theorem dX1_findOpen_35 : decode cX1_findOpen 35 = .ok (.goto (-35), 3) := by decide +kernel
theorem dX1_findOpen_38 : decode cX1_findOpen 38 = .ok (.aload_n 0, 1) := by decide +kernel
theorem dX1_findOpen_39 : decode cX1_findOpen 39 = .ok (.getfield 38, 3) := by decide +kernel
theorem dX1_findOpen_42 : decode cX1_findOpen 42 = .ok (.aload_n 0, 1) := by decide +kernel
theorem dX1_findOpen_43 : decode cX1_findOpen 43 = .ok (.getfield 32, 3) := by decide +kernel
theorem dX1_findOpen_46 : decode cX1_findOpen 46 = .ok (.bipush 6, 2) := by decide +kernel
theorem dX1_findOpen_48 : decode cX1_findOpen 48 = .ok (.imul, 1) := by decide +kernel
theorem dX1_findOpen_49 : decode cX1_findOpen 49 = .ok (.if_icmp .ge 7, 3) := by decide +kernel
theorem dX1_findOpen_52 : decode cX1_findOpen 52 = .ok (.iconst 1, 1) := by decide +kernel
theorem dX1_findOpen_53 : decode cX1_findOpen 53 = .ok (.goto 4, 3) := by decide +kernel
theorem dX1_findOpen_56 : decode cX1_findOpen 56 = .ok (.iconst 0, 1) := by decide +kernel
theorem dX1_findOpen_57 : decode cX1_findOpen 57 = .ok (.ireturn, 1) := by decide +kernel
set_option maxRecDepth 20000 in
theorem ggX1_isOpen_X1_lives : GoodIn wsX1_isOpen wsX1_lives := goodIn_r _ [7, 8, 9, 10, 11, 12, 13, 14, 15, 16, 17, 18, 19, 20] (by decide +kernel) (by decide +kernel)
set_option maxRecDepth 20000 in
theorem gX1_isOpen_X1_lives : GoodIn wsX1_isOpen (wsV RX1 49 RX1 yX1_lives wsX1_lives) := goodIn_app (goodIn_of _ (by decide +kernel)) ggX1_isOpen_X1_lives
theorem dX1_isOpen_0 : decode cX1_isOpen 0 = .ok (.iload_n 1, 1) := by decide +kernel
theorem dX1_isOpen_1 : decode cX1_isOpen 1 = .ok (.bipush 6, 2) := by decide +kernel
theorem dX1_isOpen_3 : decode cX1_isOpen 3 = .ok (.irem, 1) := by decide +kernel
theorem dX1_isOpen_4 : decode cX1_isOpen 4 = .ok (.aload_n 0, 1) := by decide +kernel
theorem dX1_isOpen_5 : decode cX1_isOpen 5 = .ok (.getfield 28, 3) := by decide +kernel
theorem dX1_isOpen_8 : decode cX1_isOpen 8 = .ok (.if_icmp .ge 28, 3) := by decide +kernel
theorem dX1_isOpen_11 : decode cX1_isOpen 11 = .ok (.aload_n 0, 1) := by decide +kernel
theorem dX1_isOpen_12 : decode cX1_isOpen 12 = .ok (.iload_n 1, 1) := by decide +kernel
theorem dX1_isOpen_13 : decode cX1_isOpen 13 = .ok (.bipush 6, 2) := by decide +kernel
theorem dX1_isOpen_15 : decode cX1_isOpen 15 = .ok (.idiv, 1) := by decide +kernel
theorem dX1_isOpen_16 : decode cX1_isOpen 16 = .ok (.invokevirtual 49, 3) := by decide +kernel
theorem dX1_isOpen_19 : decode cX1_isOpen 19 = .ok (.ifCond .eq 17, 3) := by decide +kernel
theorem dX1_isOpen_22 : decode cX1_isOpen 22 = .ok (.aload_n 0, 1) := by decide +kernel
theorem dX1_isOpen_23 : decode cX1_isOpen 23 = .ok (.getfield 9, 3) := by decide +kernel
theorem dX1_isOpen_26 : decode cX1_isOpen 26 = .ok (.iload_n 1, 1) := by decide +kernel
theorem dX1_isOpen_27 : decode cX1_isOpen 27 = .ok (.iaload, 1) := by decide +kernel
theorem dX1_isOpen_28 : decode cX1_isOpen 28 = .ok (.iconst (-1), 1) := by decide +kernel
theorem dX1_isOpen_29 : decode cX1_isOpen 29 = .ok (.if_icmp .ne 7, 3) := by decide +kernel
theorem dX1_isOpen_32 : decode cX1_isOpen 32 = .ok (.iconst 1, 1) := by decide +kernel
theorem dX1_isOpen_33 : decode cX1_isOpen 33 = .ok (.goto 4, 3) := by decide +kernel
theorem dX1_isOpen_36 : decode cX1_isOpen 36 = .ok (.iconst 0, 1) := by decide +kernel
theorem dX1_isOpen_37 : decode cX1_isOpen 37 = .ok (.ireturn, 1) := by decide +kernel
set_option maxRecDepth 20000 in
theorem ggX1_makeNeighbour_X1_make : GoodIn wsX1_makeNeighbour wsX1_make := goodIn_r _ [6, 7, 8, 9, 10, 18, 19, 20, 21, 22, 23, 24, 25, 26, 27, 28] (by decide +kernel) (by decide +kernel)
set_option maxRecDepth 20000 in
theorem gX1_makeNeighbour_X1_make : GoodIn wsX1_makeNeighbour (wsV RX1 41 RX1 yX1_make wsX1_make) := goodIn_app (goodIn_of _ (by decide +kernel)) ggX1_makeNeighbour_X1_make
set_option maxRecDepth 20000 in
theorem ggX1_makeNeighbour_X1_join : GoodIn wsX1_makeNeighbour wsX1_join := goodIn_r _ [14, 8, 15, 16, 17, 18, 19, 20, 21, 22, 23, 24, 25, 26, 27, 28] (by decide +kernel) (by decide +kernel)
set_option maxRecDepth 20000 in
theorem gX1_makeNeighbour_X1_join : GoodIn wsX1_makeNeighbour (wsV RX1 52 RX1 yX1_join wsX1_join) := goodIn_app (goodIn_of _ (by decide +kernel)) ggX1_makeNeighbour_X1_join
theorem dX1_makeNeighbour_0 : decode cX1_makeNeighbour 0 = .ok (.aload_n 0, 1) := by decide +kernel
theorem dX1_makeNeighbour_1 : decode cX1_makeNeighbour 1 = .ok (.invokevirtual 41, 3) := by decide +kernel
theorem dX1_makeNeighbour_4 : decode cX1_makeNeighbour 4 = .ok (.istore_n 1, 1) := by decide +kernel
theorem dX1_makeNeighbour_5 : decode cX1_makeNeighbour 5 = .ok (.aload_n 0, 1) := by decide +kernel
theorem dX1_makeNeighbour_6 : decode cX1_makeNeighbour 6 = .ok (.aload_n 0, 1) := by decide +kernel
theorem dX1_makeNeighbour_7 : decode cX1_makeNeighbour 7 = .ok (.getfield 38, 3) := by decide +kernel
theorem dX1_makeNeighbour_10 : decode cX1_makeNeighbour 10 = .ok (.bipush 6, 2) := by decide +kernel
theorem dX1_makeNeighbour_12 : decode cX1_makeNeighbour 12 = .ok (.idiv, 1) := by decide +kernel
theorem dX1_makeNeighbour_13 : decode cX1_makeNeighbour 13 = .ok (.aload_n 0, 1) := by decide +kernel
theorem dX1_makeNeighbour_14 : decode cX1_makeNeighbour 14 = .ok (.getfield 38, 3) := by decide +kernel
theorem dX1_makeNeighbour_17 : decode cX1_makeNeighbour 17 = .ok (.bipush 6, 2) := by decide +kernel
theorem dX1_makeNeighbour_19 : decode cX1_makeNeighbour 19 = .ok (.irem, 1) := by decide +kernel
theorem dX1_makeNeighbour_20 : decode cX1_makeNeighbour 20 = .ok (.iload_n 1, 1) := by decide +kernel
theorem dX1_makeNeighbour_21 : decode cX1_makeNeighbour 21 = .ok (.invokevirtual 52, 3) := by decide +kernel
theorem dX1_makeNeighbour_24 : decode cX1_makeNeighbour 24 = .ok (.iload_n 1, 1) := by decide +kernel
theorem dX1_makeNeighbour_25 : decode cX1_makeNeighbour 25 = .ok (.ireturn, 1) := by decide +kernel
theorem dX1_lives_0 : decode cX1_lives 0 = .ok (.iload_n 1, 1) := by decide +kernel
theorem dX1_lives_1 : decode cX1_lives 1 = .ok (.ifCond .lt 25, 3) := by decide +kernel
theorem dX1_lives_4 : decode cX1_lives 4 = .ok (.iload_n 1, 1) := by decide +kernel
theorem dX1_lives_5 : decode cX1_lives 5 = .ok (.aload_n 0, 1) := by decide +kernel
theorem dX1_lives_6 : decode cX1_lives 6 = .ok (.getfield 32, 3) := by decide +kernel
theorem dX1_lives_9 : decode cX1_lives 9 = .ok (.if_icmp .ge 17, 3) := by decide +kernel
theorem dX1_lives_12 : decode cX1_lives 12 = .ok (.aload_n 0, 1) := by decide +kernel
theorem dX1_lives_13 : decode cX1_lives 13 = .ok (.getfield 15, 3) := by decide +kernel
theorem dX1_lives_16 : decode cX1_lives 16 = .ok (.iload_n 1, 1) := by decide +kernel
theorem dX1_lives_17 : decode cX1_lives 17 = .ok (.iaload, 1) := by decide +kernel
theorem dX1_lives_18 : decode cX1_lives 18 = .ok (.iload_n 1, 1) := by decide +kernel
theorem dX1_lives_19 : decode cX1_lives 19 = .ok (.if_icmp .ne 7, 3) := by decide +kernel
theorem dX1_lives_22 : decode cX1_lives 22 = .ok (.iconst 1, 1) := by decide +kernel
theorem dX1_lives_23 : decode cX1_lives 23 = .ok (.goto 4, 3) := by decide +kernel
theorem dX1_lives_26 : decode cX1_lives 26 = .ok (.iconst 0, 1) := by decide +kernel
theorem dX1_lives_27 : decode cX1_lives 27 = .ok (.ireturn, 1) := by decide +kernel
theorem dX1_at_0 : decode cX1_at 0 = .ok (.aload_n 0, 1) := by decide +kernel
theorem dX1_at_1 : decode cX1_at 1 = .ok (.getfield 9, 3) := by decide +kernel
theorem dX1_at_4 : decode cX1_at 4 = .ok (.iload_n 1, 1) := by decide +kernel
theorem dX1_at_5 : decode cX1_at 5 = .ok (.bipush 6, 2) := by decide +kernel
theorem dX1_at_7 : decode cX1_at 7 = .ok (.imul, 1) := by decide +kernel
theorem dX1_at_8 : decode cX1_at 8 = .ok (.iload_n 2, 1) := by decide +kernel
theorem dX1_at_9 : decode cX1_at 9 = .ok (.iadd, 1) := by decide +kernel
theorem dX1_at_10 : decode cX1_at 10 = .ok (.iaload, 1) := by decide +kernel
theorem dX1_at_11 : decode cX1_at 11 = .ok (.ireturn, 1) := by decide +kernel
set_option maxRecDepth 20000 in
theorem ggX1_countOpen_X1_isOpen : GoodIn wsX1_countOpen wsX1_isOpen := goodIn_r _ [6, 7, 8, 9, 10, 11, 5, 12, 1, 13, 14, 15, 16, 17, 18, 19, 20, 21, 22, 23, 24] (by decide +kernel) (by decide +kernel)
set_option maxRecDepth 20000 in
theorem gX1_countOpen_X1_isOpen : GoodIn wsX1_countOpen (wsV RX1 45 RX1 yX1_isOpen wsX1_isOpen) := goodIn_app (goodIn_of _ (by decide +kernel)) ggX1_countOpen_X1_isOpen
theorem dX1_countOpen_0 : decode cX1_countOpen 0 = .ok (.iconst 0, 1) := by decide +kernel
theorem dX1_countOpen_1 : decode cX1_countOpen 1 = .ok (.istore_n 1, 1) := by decide +kernel
theorem dX1_countOpen_2 : decode cX1_countOpen 2 = .ok (.iconst 0, 1) := by decide +kernel
theorem dX1_countOpen_3 : decode cX1_countOpen 3 = .ok (.istore_n 2, 1) := by decide +kernel
theorem dX1_countOpen_4 : decode cX1_countOpen 4 = .ok (.iload_n 2, 1) := by decide +kernel
theorem dX1_countOpen_5 : decode cX1_countOpen 5 = .ok (.aload_n 0, 1) := by decide +kernel
theorem dX1_countOpen_6 : decode cX1_countOpen 6 = .ok (.getfield 32, 3) := by decide +kernel
theorem dX1_countOpen_9 : decode cX1_countOpen 9 = .ok (.bipush 6, 2) := by decide +kernel
theorem dX1_countOpen_11 : decode cX1_countOpen 11 = .ok (.imul, 1) := by decide +kernel
theorem dX1_countOpen_12 : decode cX1_countOpen 12 = .ok (.if_icmp .ge 20, 3) := by decide +kernel
theorem dX1_countOpen_15 : decode cX1_countOpen 15 = .ok (.aload_n 0, 1) := by decide +kernel
theorem dX1_countOpen_16 : decode cX1_countOpen 16 = .ok (.iload_n 2, 1) := by decide +kernel
theorem dX1_countOpen_17 : decode cX1_countOpen 17 = .ok (.invokevirtual 45, 3) := by decide +kernel
theorem dX1_countOpen_20 : decode cX1_countOpen 20 = .ok (.ifCond .eq 6, 3) := by decide +kernel
theorem dX1_countOpen_23 : decode cX1_countOpen 23 = .ok (.iinc 1 1, 3) := by decide +kernel
theorem dX1_countOpen_26 : decode cX1_countOpen 26 = .ok (.iinc 2 1, 3) := by decide +kernel
theorem dX1_countOpen_29 : decode cX1_countOpen 29 = .ok (.goto (-25), 3) := by decide +kernel
theorem dX1_countOpen_32 : decode cX1_countOpen 32 = .ok (.iload_n 1, 1) := by decide +kernel
theorem dX1_countOpen_33 : decode cX1_countOpen 33 = .ok (.ireturn, 1) := by decide +kernel
theorem dX1_takeFresh_0 : decode cX1_takeFresh 0 = .ok (.aload_n 0, 1) := by decide +kernel
theorem dX1_takeFresh_1 : decode cX1_takeFresh 1 = .ok (.dup, 1) := by decide +kernel
theorem dX1_takeFresh_2 : decode cX1_takeFresh 2 = .ok (.getfield 56, 3) := by decide +kernel
theorem dX1_takeFresh_5 : decode cX1_takeFresh 5 = .ok (.iconst 1, 1) := by decide +kernel
theorem dX1_takeFresh_6 : decode cX1_takeFresh 6 = .ok (.isub, 1) := by decide +kernel
theorem dX1_takeFresh_7 : decode cX1_takeFresh 7 = .ok (.putfield 56, 3) := by decide +kernel
theorem dX1_takeFresh_10 : decode cX1_takeFresh 10 = .ok (.aload_n 0, 1) := by decide +kernel
theorem dX1_takeFresh_11 : decode cX1_takeFresh 11 = .ok (.getfield 24, 3) := by decide +kernel
theorem dX1_takeFresh_14 : decode cX1_takeFresh 14 = .ok (.aload_n 0, 1) := by decide +kernel
theorem dX1_takeFresh_15 : decode cX1_takeFresh 15 = .ok (.getfield 21, 3) := by decide +kernel
theorem dX1_takeFresh_18 : decode cX1_takeFresh 18 = .ok (.aload_n 0, 1) := by decide +kernel
theorem dX1_takeFresh_19 : decode cX1_takeFresh 19 = .ok (.getfield 56, 3) := by decide +kernel
theorem dX1_takeFresh_22 : decode cX1_takeFresh 22 = .ok (.iaload, 1) := by decide +kernel
theorem dX1_takeFresh_23 : decode cX1_takeFresh 23 = .ok (.iconst 0, 1) := by decide +kernel
theorem dX1_takeFresh_24 : decode cX1_takeFresh 24 = .ok (.bastore, 1) := by decide +kernel
theorem dX1_takeFresh_25 : decode cX1_takeFresh 25 = .ok (.aload_n 0, 1) := by decide +kernel
theorem dX1_takeFresh_26 : decode cX1_takeFresh 26 = .ok (.getfield 21, 3) := by decide +kernel
theorem dX1_takeFresh_29 : decode cX1_takeFresh 29 = .ok (.aload_n 0, 1) := by decide +kernel
theorem dX1_takeFresh_30 : decode cX1_takeFresh 30 = .ok (.getfield 56, 3) := by decide +kernel
theorem dX1_takeFresh_33 : decode cX1_takeFresh 33 = .ok (.iaload, 1) := by decide +kernel
theorem dX1_takeFresh_34 : decode cX1_takeFresh 34 = .ok (.ireturn, 1) := by decide +kernel
theorem dX1_join_0 : decode cX1_join 0 = .ok (.iload_n 1, 1) := by decide +kernel
theorem dX1_join_1 : decode cX1_join 1 = .ok (.bipush 6, 2) := by decide +kernel
theorem dX1_join_3 : decode cX1_join 3 = .ok (.imul, 1) := by decide +kernel
theorem dX1_join_4 : decode cX1_join 4 = .ok (.iload_n 2, 1) := by decide +kernel
theorem dX1_join_5 : decode cX1_join 5 = .ok (.iadd, 1) := by decide +kernel
theorem dX1_join_6 : decode cX1_join 6 = .ok (.istore 4, 2) := by decide +kernel
theorem dX1_join_8 : decode cX1_join 8 = .ok (.aload_n 0, 1) := by decide +kernel
theorem dX1_join_9 : decode cX1_join 9 = .ok (.getfield 9, 3) := by decide +kernel
theorem dX1_join_12 : decode cX1_join 12 = .ok (.iload 4, 2) := by decide +kernel
theorem dX1_join_14 : decode cX1_join 14 = .ok (.iload_n 3, 1) := by decide +kernel
theorem dX1_join_15 : decode cX1_join 15 = .ok (.iastore, 1) := by decide +kernel
theorem dX1_join_16 : decode cX1_join 16 = .ok (.aload_n 0, 1) := by decide +kernel
theorem dX1_join_17 : decode cX1_join 17 = .ok (.getfield 9, 3) := by decide +kernel
theorem dX1_join_20 : decode cX1_join 20 = .ok (.iload_n 3, 1) := by decide +kernel
theorem dX1_join_21 : decode cX1_join 21 = .ok (.bipush 6, 2) := by decide +kernel
theorem dX1_join_23 : decode cX1_join 23 = .ok (.imul, 1) := by decide +kernel
theorem dX1_join_24 : decode cX1_join 24 = .ok (.iload_n 2, 1) := by decide +kernel
theorem dX1_join_25 : decode cX1_join 25 = .ok (.iconst 1, 1) := by decide +kernel
theorem dX1_join_26 : decode cX1_join 26 = .ok (.ixor, 1) := by decide +kernel
theorem dX1_join_27 : decode cX1_join 27 = .ok (.iadd, 1) := by decide +kernel
theorem dX1_join_28 : decode cX1_join 28 = .ok (.iload_n 1, 1) := by decide +kernel
theorem dX1_join_29 : decode cX1_join 29 = .ok (.iastore, 1) := by decide +kernel
theorem dX1_join_30 : decode cX1_join 30 = .ok (.aload_n 0, 1) := by decide +kernel
theorem dX1_join_31 : decode cX1_join 31 = .ok (.getfield 24, 3) := by decide +kernel
theorem dX1_join_34 : decode cX1_join 34 = .ok (.iload 4, 2) := by decide +kernel
theorem dX1_join_36 : decode cX1_join 36 = .ok (.baload, 1) := by decide +kernel
theorem dX1_join_37 : decode cX1_join 37 = .ok (.ifCond .ne 32, 3) := by decide +kernel
theorem dX1_join_40 : decode cX1_join 40 = .ok (.aload_n 0, 1) := by decide +kernel
theorem dX1_join_41 : decode cX1_join 41 = .ok (.getfield 24, 3) := by decide +kernel
theorem dX1_join_44 : decode cX1_join 44 = .ok (.iload 4, 2) := by decide +kernel
theorem dX1_join_46 : decode cX1_join 46 = .ok (.iconst 1, 1) := by decide +kernel
theorem dX1_join_47 : decode cX1_join 47 = .ok (.bastore, 1) := by decide +kernel
theorem dX1_join_48 : decode cX1_join 48 = .ok (.aload_n 0, 1) := by decide +kernel
theorem dX1_join_49 : decode cX1_join 49 = .ok (.getfield 21, 3) := by decide +kernel
theorem dX1_join_52 : decode cX1_join 52 = .ok (.aload_n 0, 1) := by decide +kernel
theorem dX1_join_53 : decode cX1_join 53 = .ok (.getfield 56, 3) := by decide +kernel
theorem dX1_join_56 : decode cX1_join 56 = .ok (.iload 4, 2) := by decide +kernel
theorem dX1_join_58 : decode cX1_join 58 = .ok (.iastore, 1) := by decide +kernel
theorem dX1_join_59 : decode cX1_join 59 = .ok (.aload_n 0, 1) := by decide +kernel
theorem dX1_join_60 : decode cX1_join 60 = .ok (.dup, 1) := by decide +kernel
theorem dX1_join_61 : decode cX1_join 61 = .ok (.getfield 56, 3) := by decide +kernel
theorem dX1_join_64 : decode cX1_join 64 = .ok (.iconst 1, 1) := by decide +kernel
theorem dX1_join_65 : decode cX1_join 65 = .ok (.iadd, 1) := by decide +kernel
theorem dX1_join_66 : decode cX1_join 66 = .ok (.putfield 56, 3) := by decide +kernel
theorem dX1_join_69 : decode cX1_join 69 = .ok (.return_, 1) := by decide +kernel
set_option maxRecDepth 20000 in
theorem ggX1_unite_X1_fall : GoodIn wsX1_unite wsX1_fall := goodIn_r _ [7, 8, 9, 2, 1, 10, 28, 29, 30, 31, 32, 33, 34, 35, 36, 37, 38] (by decide +kernel) (by decide +kernel)
set_option maxRecDepth 20000 in
theorem gX1_unite_X1_fall : GoodIn wsX1_unite (wsV RX1 62 RX1 yX1_fall wsX1_fall) := goodIn_app (goodIn_of _ (by decide +kernel)) ggX1_unite_X1_fall
set_option maxRecDepth 20000 in
theorem ggX1_unite_X1_handOver : GoodIn wsX1_unite wsX1_handOver := goodIn_r _ [14, 15, 16, 8, 17, 18, 19, 6, 20, 3, 4, 5, 7, 9, 2, 1, 10, 21, 22, 23, 24, 25, 26, 27, 28, 29, 30, 31, 32, 33, 34, 35, 36, 37, 38] (by decide +kernel) (by decide +kernel)
set_option maxRecDepth 20000 in
theorem gX1_unite_X1_handOver : GoodIn wsX1_unite (wsV RX1 66 RX1 yX1_handOver wsX1_handOver) := goodIn_app (goodIn_of _ (by decide +kernel)) ggX1_unite_X1_handOver
theorem dX1_unite_0 : decode cX1_unite 0 = .ok (.aload_n 0, 1) := by decide +kernel
theorem dX1_unite_1 : decode cX1_unite 1 = .ok (.iconst 0, 1) := by decide +kernel
theorem dX1_unite_2 : decode cX1_unite 2 = .ok (.putfield 59, 3) := by decide +kernel
theorem dX1_unite_5 : decode cX1_unite 5 = .ok (.aload_n 0, 1) := by decide +kernel
theorem dX1_unite_6 : decode cX1_unite 6 = .ok (.iload_n 1, 1) := by decide +kernel
theorem dX1_unite_7 : decode cX1_unite 7 = .ok (.iload_n 2, 1) := by decide +kernel
theorem dX1_unite_8 : decode cX1_unite 8 = .ok (.invokevirtual 62, 3) := by decide +kernel
theorem dX1_unite_11 : decode cX1_unite 11 = .ok (.iconst 0, 1) := by decide +kernel
theorem dX1_unite_12 : decode cX1_unite 12 = .ok (.istore_n 3, 1) := by decide +kernel
theorem dX1_unite_13 : decode cX1_unite 13 = .ok (.iload_n 3, 1) := by decide +kernel
theorem dX1_unite_14 : decode cX1_unite 14 = .ok (.aload_n 0, 1) := by decide +kernel
theorem dX1_unite_15 : decode cX1_unite 15 = .ok (.getfield 59, 3) := by decide +kernel
theorem dX1_unite_18 : decode cX1_unite 18 = .ok (.if_icmp .ge 26, 3) := by decide +kernel
theorem dX1_unite_21 : decode cX1_unite 21 = .ok (.iload_n 3, 1) := by decide +kernel
theorem dX1_unite_22 : decode cX1_unite 22 = .ok (.sipush 200, 3) := by decide +kernel
theorem dX1_unite_25 : decode cX1_unite 25 = .ok (.if_icmp .ge 19, 3) := by decide +kernel
theorem dX1_unite_28 : decode cX1_unite 28 = .ok (.aload_n 0, 1) := by decide +kernel
theorem dX1_unite_29 : decode cX1_unite 29 = .ok (.aload_n 0, 1) := by decide +kernel
theorem dX1_unite_30 : decode cX1_unite 30 = .ok (.getfield 18, 3) := by decide +kernel
theorem dX1_unite_33 : decode cX1_unite 33 = .ok (.iload_n 3, 1) := by decide +kernel
theorem dX1_unite_34 : decode cX1_unite 34 = .ok (.iaload, 1) := by decide +kernel
theorem dX1_unite_35 : decode cX1_unite 35 = .ok (.invokevirtual 66, 3) := by decide +kernel
theorem dX1_unite_38 : decode cX1_unite 38 = .ok (.iinc 3 1, 3) := by decide +kernel
theorem dX1_unite_41 : decode cX1_unite 41 = .ok (.goto (-28), 3) := by decide +kernel
theorem dX1_unite_44 : decode cX1_unite 44 = .ok (.return_, 1) := by decide +kernel
theorem dX1_fall_0 : decode cX1_fall 0 = .ok (.aload_n 0, 1) := by decide +kernel
theorem dX1_fall_1 : decode cX1_fall 1 = .ok (.getfield 15, 3) := by decide +kernel
theorem dX1_fall_4 : decode cX1_fall 4 = .ok (.iload_n 1, 1) := by decide +kernel
theorem dX1_fall_5 : decode cX1_fall 5 = .ok (.iaload, 1) := by decide +kernel
theorem dX1_fall_6 : decode cX1_fall 6 = .ok (.aload_n 0, 1) := by decide +kernel
theorem dX1_fall_7 : decode cX1_fall 7 = .ok (.getfield 15, 3) := by decide +kernel
theorem dX1_fall_10 : decode cX1_fall 10 = .ok (.iload_n 2, 1) := by decide +kernel
theorem dX1_fall_11 : decode cX1_fall 11 = .ok (.iaload, 1) := by decide +kernel
theorem dX1_fall_12 : decode cX1_fall 12 = .ok (.if_icmp .ne 4, 3) := by decide +kernel
theorem dX1_fall_15 : decode cX1_fall 15 = .ok (.return_, 1) := by decide +kernel
theorem dX1_fall_16 : decode cX1_fall 16 = .ok (.aload_n 0, 1) := by decide +kernel
theorem dX1_fall_17 : decode cX1_fall 17 = .ok (.getfield 15, 3) := by decide +kernel
theorem dX1_fall_20 : decode cX1_fall 20 = .ok (.iload_n 1, 1) := by decide +kernel
theorem dX1_fall_21 : decode cX1_fall 21 = .ok (.iaload, 1) := by decide +kernel
theorem dX1_fall_22 : decode cX1_fall 22 = .ok (.aload_n 0, 1) := by decide +kernel
theorem dX1_fall_23 : decode cX1_fall 23 = .ok (.getfield 15, 3) := by decide +kernel
theorem dX1_fall_26 : decode cX1_fall 26 = .ok (.iload_n 2, 1) := by decide +kernel
theorem dX1_fall_27 : decode cX1_fall 27 = .ok (.iaload, 1) := by decide +kernel
theorem dX1_fall_28 : decode cX1_fall 28 = .ok (.if_icmp .ge 12, 3) := by decide +kernel
theorem dX1_fall_31 : decode cX1_fall 31 = .ok (.aload_n 0, 1) := by decide +kernel
theorem dX1_fall_32 : decode cX1_fall 32 = .ok (.getfield 15, 3) := by decide +kernel
theorem dX1_fall_35 : decode cX1_fall 35 = .ok (.iload_n 1, 1) := by decide +kernel
theorem dX1_fall_36 : decode cX1_fall 36 = .ok (.iaload, 1) := by decide +kernel
theorem dX1_fall_37 : decode cX1_fall 37 = .ok (.goto 9, 3) := by decide +kernel
theorem dX1_fall_40 : decode cX1_fall 40 = .ok (.aload_n 0, 1) := by decide +kernel
theorem dX1_fall_41 : decode cX1_fall 41 = .ok (.getfield 15, 3) := by decide +kernel
theorem dX1_fall_44 : decode cX1_fall 44 = .ok (.iload_n 2, 1) := by decide +kernel
theorem dX1_fall_45 : decode cX1_fall 45 = .ok (.iaload, 1) := by decide +kernel
theorem dX1_fall_46 : decode cX1_fall 46 = .ok (.istore_n 3, 1) := by decide +kernel
theorem dX1_fall_47 : decode cX1_fall 47 = .ok (.aload_n 0, 1) := by decide +kernel
theorem dX1_fall_48 : decode cX1_fall 48 = .ok (.getfield 15, 3) := by decide +kernel
theorem dX1_fall_51 : decode cX1_fall 51 = .ok (.iload_n 1, 1) := by decide +kernel
theorem dX1_fall_52 : decode cX1_fall 52 = .ok (.iaload, 1) := by decide +kernel
theorem dX1_fall_53 : decode cX1_fall 53 = .ok (.aload_n 0, 1) := by decide +kernel
theorem dX1_fall_54 : decode cX1_fall 54 = .ok (.getfield 15, 3) := by decide +kernel
theorem dX1_fall_57 : decode cX1_fall 57 = .ok (.iload_n 2, 1) := by decide +kernel
theorem dX1_fall_58 : decode cX1_fall 58 = .ok (.iaload, 1) := by decide +kernel
theorem dX1_fall_59 : decode cX1_fall 59 = .ok (.if_icmp .ge 12, 3) := by decide +kernel
theorem dX1_fall_62 : decode cX1_fall 62 = .ok (.aload_n 0, 1) := by decide +kernel
theorem dX1_fall_63 : decode cX1_fall 63 = .ok (.getfield 15, 3) := by decide +kernel
theorem dX1_fall_66 : decode cX1_fall 66 = .ok (.iload_n 2, 1) := by decide +kernel
theorem dX1_fall_67 : decode cX1_fall 67 = .ok (.iaload, 1) := by decide +kernel
theorem dX1_fall_68 : decode cX1_fall 68 = .ok (.goto 9, 3) := by decide +kernel
theorem dX1_fall_71 : decode cX1_fall 71 = .ok (.aload_n 0, 1) := by decide +kernel
theorem dX1_fall_72 : decode cX1_fall 72 = .ok (.getfield 15, 3) := by decide +kernel
theorem dX1_fall_75 : decode cX1_fall 75 = .ok (.iload_n 1, 1) := by decide +kernel
theorem dX1_fall_76 : decode cX1_fall 76 = .ok (.iaload, 1) := by decide +kernel
theorem dX1_fall_77 : decode cX1_fall 77 = .ok (.istore 4, 2) := by decide +kernel
theorem dX1_fall_79 : decode cX1_fall 79 = .ok (.iload 4, 2) := by decide +kernel
theorem dX1_fall_81 : decode cX1_fall 81 = .ok (.istore 5, 2) := by decide +kernel
theorem dX1_fall_83 : decode cX1_fall 83 = .ok (.iload 5, 2) := by decide +kernel
theorem dX1_fall_85 : decode cX1_fall 85 = .ok (.aload_n 0, 1) := by decide +kernel
theorem dX1_fall_86 : decode cX1_fall 86 = .ok (.getfield 32, 3) := by decide +kernel
theorem dX1_fall_89 : decode cX1_fall 89 = .ok (.if_icmp .ge 29, 3) := by decide +kernel
theorem dX1_fall_92 : decode cX1_fall 92 = .ok (.aload_n 0, 1) := by decide +kernel
theorem dX1_fall_93 : decode cX1_fall 93 = .ok (.getfield 15, 3) := by decide +kernel
theorem dX1_fall_96 : decode cX1_fall 96 = .ok (.iload 5, 2) := by decide +kernel
theorem dX1_fall_98 : decode cX1_fall 98 = .ok (.iaload, 1) := by decide +kernel
theorem dX1_fall_99 : decode cX1_fall 99 = .ok (.iload 4, 2) := by decide +kernel
theorem dX1_fall_101 : decode cX1_fall 101 = .ok (.if_icmp .ne 11, 3) := by decide +kernel
theorem dX1_fall_104 : decode cX1_fall 104 = .ok (.aload_n 0, 1) := by decide +kernel
theorem dX1_fall_105 : decode cX1_fall 105 = .ok (.getfield 15, 3) := by decide +kernel
theorem dX1_fall_108 : decode cX1_fall 108 = .ok (.iload 5, 2) := by decide +kernel
theorem dX1_fall_110 : decode cX1_fall 110 = .ok (.iload_n 3, 1) := by decide +kernel
theorem dX1_fall_111 : decode cX1_fall 111 = .ok (.iastore, 1) := by decide +kernel
theorem dX1_fall_112 : decode cX1_fall 112 = .ok (.iinc 5 1, 3) := by decide +kernel
theorem dX1_fall_115 : decode cX1_fall 115 = .ok (.goto (-32), 3) := by decide +kernel
theorem dX1_fall_118 : decode cX1_fall 118 = .ok (.aload_n 0, 1) := by decide +kernel
theorem dX1_fall_119 : decode cX1_fall 119 = .ok (.getfield 18, 3) := by decide +kernel
theorem dX1_fall_122 : decode cX1_fall 122 = .ok (.aload_n 0, 1) := by decide +kernel
theorem dX1_fall_123 : decode cX1_fall 123 = .ok (.getfield 59, 3) := by decide +kernel
theorem dX1_fall_126 : decode cX1_fall 126 = .ok (.iload 4, 2) := by decide +kernel
theorem dX1_fall_128 : decode cX1_fall 128 = .ok (.iastore, 1) := by decide +kernel
theorem dX1_fall_129 : decode cX1_fall 129 = .ok (.aload_n 0, 1) := by decide +kernel
theorem dX1_fall_130 : decode cX1_fall 130 = .ok (.dup, 1) := by decide +kernel
theorem dX1_fall_131 : decode cX1_fall 131 = .ok (.getfield 59, 3) := by decide +kernel
theorem dX1_fall_134 : decode cX1_fall 134 = .ok (.iconst 1, 1) := by decide +kernel
theorem dX1_fall_135 : decode cX1_fall 135 = .ok (.iadd, 1) := by decide +kernel
theorem dX1_fall_136 : decode cX1_fall 136 = .ok (.putfield 59, 3) := by decide +kernel
theorem dX1_fall_139 : decode cX1_fall 139 = .ok (.aload_n 0, 1) := by decide +kernel
theorem dX1_fall_140 : decode cX1_fall 140 = .ok (.dup, 1) := by decide +kernel
theorem dX1_fall_141 : decode cX1_fall 141 = .ok (.getfield 35, 3) := by decide +kernel
theorem dX1_fall_144 : decode cX1_fall 144 = .ok (.iconst 1, 1) := by decide +kernel
theorem dX1_fall_145 : decode cX1_fall 145 = .ok (.isub, 1) := by decide +kernel
theorem dX1_fall_146 : decode cX1_fall 146 = .ok (.putfield 35, 3) := by decide +kernel
theorem dX1_fall_149 : decode cX1_fall 149 = .ok (.return_, 1) := by decide +kernel
set_option maxRecDepth 20000 in
theorem ggX1_handOver_X1_at : GoodIn wsX1_handOver wsX1_at := goodIn_r _ [8, 2, 24, 25, 26, 27, 28, 29, 30, 31, 32, 33, 34] (by decide +kernel) (by decide +kernel)
set_option maxRecDepth 20000 in
theorem gX1_handOver_X1_at : GoodIn wsX1_handOver (wsV RX1 70 RX1 yX1_at wsX1_at) := goodIn_app (goodIn_of _ (by decide +kernel)) ggX1_handOver_X1_at
set_option maxRecDepth 20000 in
theorem ggX1_handOver_X1_fall : GoodIn wsX1_handOver wsX1_fall := goodIn_r _ [12, 3, 13, 14, 15, 16, 24, 25, 26, 27, 28, 29, 30, 31, 32, 33, 34] (by decide +kernel) (by decide +kernel)
set_option maxRecDepth 20000 in
theorem gX1_handOver_X1_fall : GoodIn wsX1_handOver (wsV RX1 62 RX1 yX1_fall wsX1_fall) := goodIn_app (goodIn_of _ (by decide +kernel)) ggX1_handOver_X1_fall
set_option maxRecDepth 20000 in
theorem ggX1_handOver_X1_join : GoodIn wsX1_handOver wsX1_join := goodIn_r _ [20, 2, 21, 22, 23, 24, 25, 26, 27, 28, 29, 30, 31, 32, 33, 34] (by decide +kernel) (by decide +kernel)
set_option maxRecDepth 20000 in
theorem gX1_handOver_X1_join : GoodIn wsX1_handOver (wsV RX1 52 RX1 yX1_join wsX1_join) := goodIn_app (goodIn_of _ (by decide +kernel)) ggX1_handOver_X1_join
theorem dX1_handOver_0 : decode cX1_handOver 0 = .ok (.iconst 0, 1) := by decide +kernel
theorem dX1_handOver_1 : decode cX1_handOver 1 = .ok (.istore_n 2, 1) := by decide +kernel
theorem dX1_handOver_2 : decode cX1_handOver 2 = .ok (.iload_n 2, 1) := by decide +kernel
theorem dX1_handOver_3 : decode cX1_handOver 3 = .ok (.aload_n 0, 1) := by decide +kernel
theorem dX1_handOver_4 : decode cX1_handOver 4 = .ok (.getfield 28, 3) := by decide +kernel
theorem dX1_handOver_7 : decode cX1_handOver 7 = .ok (.if_icmp .ge 133, 3) := by decide +kernel
theorem dX1_handOver_10 : decode cX1_handOver 10 = .ok (.aload_n 0, 1) := by decide +kernel
theorem dX1_handOver_11 : decode cX1_handOver 11 = .ok (.iload_n 1, 1) := by decide +kernel
theorem dX1_handOver_12 : decode cX1_handOver 12 = .ok (.iload_n 2, 1) := by decide +kernel
theorem dX1_handOver_13 : decode cX1_handOver 13 = .ok (.invokevirtual 70, 3) := by decide +kernel
theorem dX1_handOver_16 : decode cX1_handOver 16 = .ok (.istore_n 3, 1) := by decide +kernel
theorem dX1_handOver_17 : decode cX1_handOver 17 = .ok (.iload_n 3, 1) := by decide +kernel
theorem dX1_handOver_18 : decode cX1_handOver 18 = .ok (.iconst (-1), 1) := by decide +kernel
theorem dX1_handOver_19 : decode cX1_handOver 19 = .ok (.if_icmp .ne 6, 3) := by decide +kernel
theorem dX1_handOver_22 : decode cX1_handOver 22 = .ok (.goto 112, 3) := by decide +kernel
theorem dX1_handOver_25 : decode cX1_handOver 25 = .ok (.aload_n 0, 1) := by decide +kernel
theorem dX1_handOver_26 : decode cX1_handOver 26 = .ok (.getfield 9, 3) := by decide +kernel
theorem dX1_handOver_29 : decode cX1_handOver 29 = .ok (.iload_n 1, 1) := by decide +kernel
theorem dX1_handOver_30 : decode cX1_handOver 30 = .ok (.bipush 6, 2) := by decide +kernel
theorem dX1_handOver_32 : decode cX1_handOver 32 = .ok (.imul, 1) := by decide +kernel
theorem dX1_handOver_33 : decode cX1_handOver 33 = .ok (.iload_n 2, 1) := by decide +kernel
theorem dX1_handOver_34 : decode cX1_handOver 34 = .ok (.iadd, 1) := by decide +kernel
theorem dX1_handOver_35 : decode cX1_handOver 35 = .ok (.iconst (-1), 1) := by decide +kernel
theorem dX1_handOver_36 : decode cX1_handOver 36 = .ok (.iastore, 1) := by decide +kernel
theorem dX1_handOver_37 : decode cX1_handOver 37 = .ok (.aload_n 0, 1) := by decide +kernel
theorem dX1_handOver_38 : decode cX1_handOver 38 = .ok (.getfield 9, 3) := by decide +kernel
theorem dX1_handOver_41 : decode cX1_handOver 41 = .ok (.iload_n 3, 1) := by decide +kernel
theorem dX1_handOver_42 : decode cX1_handOver 42 = .ok (.bipush 6, 2) := by decide +kernel
theorem dX1_handOver_44 : decode cX1_handOver 44 = .ok (.imul, 1) := by decide +kernel
theorem dX1_handOver_45 : decode cX1_handOver 45 = .ok (.iload_n 2, 1) := by decide +kernel
theorem dX1_handOver_46 : decode cX1_handOver 46 = .ok (.iconst 1, 1) := by decide +kernel
theorem dX1_handOver_47 : decode cX1_handOver 47 = .ok (.ixor, 1) := by decide +kernel
theorem dX1_handOver_48 : decode cX1_handOver 48 = .ok (.iadd, 1) := by decide +kernel
theorem dX1_handOver_49 : decode cX1_handOver 49 = .ok (.iconst (-1), 1) := by decide +kernel
theorem dX1_handOver_50 : decode cX1_handOver 50 = .ok (.iastore, 1) := by decide +kernel
theorem dX1_handOver_51 : decode cX1_handOver 51 = .ok (.aload_n 0, 1) := by decide +kernel
theorem dX1_handOver_52 : decode cX1_handOver 52 = .ok (.getfield 15, 3) := by decide +kernel
theorem dX1_handOver_55 : decode cX1_handOver 55 = .ok (.iload_n 1, 1) := by decide +kernel
theorem dX1_handOver_56 : decode cX1_handOver 56 = .ok (.iaload, 1) := by decide +kernel
theorem dX1_handOver_57 : decode cX1_handOver 57 = .ok (.istore 4, 2) := by decide +kernel
theorem dX1_handOver_59 : decode cX1_handOver 59 = .ok (.aload_n 0, 1) := by decide +kernel
theorem dX1_handOver_60 : decode cX1_handOver 60 = .ok (.getfield 15, 3) := by decide +kernel
theorem dX1_handOver_63 : decode cX1_handOver 63 = .ok (.iload_n 3, 1) := by decide +kernel
theorem dX1_handOver_64 : decode cX1_handOver 64 = .ok (.iaload, 1) := by decide +kernel
theorem dX1_handOver_65 : decode cX1_handOver 65 = .ok (.istore 5, 2) := by decide +kernel
theorem dX1_handOver_67 : decode cX1_handOver 67 = .ok (.aload_n 0, 1) := by decide +kernel
theorem dX1_handOver_68 : decode cX1_handOver 68 = .ok (.iload 4, 2) := by decide +kernel
theorem dX1_handOver_70 : decode cX1_handOver 70 = .ok (.iload_n 2, 1) := by decide +kernel
theorem dX1_handOver_71 : decode cX1_handOver 71 = .ok (.invokevirtual 70, 3) := by decide +kernel
theorem dX1_handOver_74 : decode cX1_handOver 74 = .ok (.iconst (-1), 1) := by decide +kernel
theorem dX1_handOver_75 : decode cX1_handOver 75 = .ok (.if_icmp .eq 19, 3) := by decide +kernel
theorem dX1_handOver_78 : decode cX1_handOver 78 = .ok (.aload_n 0, 1) := by decide +kernel
theorem dX1_handOver_79 : decode cX1_handOver 79 = .ok (.aload_n 0, 1) := by decide +kernel
theorem dX1_handOver_80 : decode cX1_handOver 80 = .ok (.iload 4, 2) := by decide +kernel
theorem dX1_handOver_82 : decode cX1_handOver 82 = .ok (.iload_n 2, 1) := by decide +kernel
theorem dX1_handOver_83 : decode cX1_handOver 83 = .ok (.invokevirtual 70, 3) := by decide +kernel
theorem dX1_handOver_86 : decode cX1_handOver 86 = .ok (.iload 5, 2) := by decide +kernel
theorem dX1_handOver_88 : decode cX1_handOver 88 = .ok (.invokevirtual 62, 3) := by decide +kernel
theorem dX1_handOver_91 : decode cX1_handOver 91 = .ok (.goto 43, 3) := by decide +kernel
theorem dX1_handOver_94 : decode cX1_handOver 94 = .ok (.aload_n 0, 1) := by decide +kernel
theorem dX1_handOver_95 : decode cX1_handOver 95 = .ok (.iload 5, 2) := by decide +kernel
theorem dX1_handOver_97 : decode cX1_handOver 97 = .ok (.iload_n 2, 1) := by decide +kernel
theorem dX1_handOver_98 : decode cX1_handOver 98 = .ok (.iconst 1, 1) := by decide +kernel
theorem dX1_handOver_99 : decode cX1_handOver 99 = .ok (.ixor, 1) := by decide +kernel
theorem dX1_handOver_100 : decode cX1_handOver 100 = .ok (.invokevirtual 70, 3) := by decide +kernel
theorem dX1_handOver_103 : decode cX1_handOver 103 = .ok (.iconst (-1), 1) := by decide +kernel
theorem dX1_handOver_104 : decode cX1_handOver 104 = .ok (.if_icmp .eq 21, 3) := by decide +kernel
theorem dX1_handOver_107 : decode cX1_handOver 107 = .ok (.aload_n 0, 1) := by decide +kernel
theorem dX1_handOver_108 : decode cX1_handOver 108 = .ok (.aload_n 0, 1) := by decide +kernel
theorem dX1_handOver_109 : decode cX1_handOver 109 = .ok (.iload 5, 2) := by decide +kernel
theorem dX1_handOver_111 : decode cX1_handOver 111 = .ok (.iload_n 2, 1) := by decide +kernel
theorem dX1_handOver_112 : decode cX1_handOver 112 = .ok (.iconst 1, 1) := by decide +kernel
theorem dX1_handOver_113 : decode cX1_handOver 113 = .ok (.ixor, 1) := by decide +kernel
theorem dX1_handOver_114 : decode cX1_handOver 114 = .ok (.invokevirtual 70, 3) := by decide +kernel
theorem dX1_handOver_117 : decode cX1_handOver 117 = .ok (.iload 4, 2) := by decide +kernel
theorem dX1_handOver_119 : decode cX1_handOver 119 = .ok (.invokevirtual 62, 3) := by decide +kernel
theorem dX1_handOver_122 : decode cX1_handOver 122 = .ok (.goto 12, 3) := by decide +kernel
theorem dX1_handOver_125 : decode cX1_handOver 125 = .ok (.aload_n 0, 1) := by decide +kernel
theorem dX1_handOver_126 : decode cX1_handOver 126 = .ok (.iload 4, 2) := by decide +kernel
theorem dX1_handOver_128 : decode cX1_handOver 128 = .ok (.iload_n 2, 1) := by decide +kernel
theorem dX1_handOver_129 : decode cX1_handOver 129 = .ok (.iload 5, 2) := by decide +kernel
theorem dX1_handOver_131 : decode cX1_handOver 131 = .ok (.invokevirtual 52, 3) := by decide +kernel
theorem dX1_handOver_134 : decode cX1_handOver 134 = .ok (.iinc 2 1, 3) := by decide +kernel
theorem dX1_handOver_137 : decode cX1_handOver 137 = .ok (.goto (-135), 3) := by decide +kernel
theorem dX1_handOver_140 : decode cX1_handOver 140 = .ok (.return_, 1) := by decide +kernel
theorem dX2_init_0 : decode cX2_init 0 = .ok (.aload_n 0, 1) := by decide +kernel
