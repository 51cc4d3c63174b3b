theorem dX2_init_1 : decode cX2_init 1 = .ok (.invokespecial 3, 3) := by decide +kernel
theorem dX2_init_4 : decode cX2_init 4 = .ok (.aload_n 0, 1) := by decide +kernel
theorem dX2_init_5 : decode cX2_init 5 = .ok (.aload_n 1, 1) := by decide +kernel
theorem dX2_init_6 : decode cX2_init 6 = .ok (.putfield 9, 3) := by decide +kernel
theorem dX2_init_9 : decode cX2_init 9 = .ok (.aload_n 0, 1) := by decide +kernel
theorem dX2_init_10 : decode cX2_init 10 = .ok (.aload_n 2, 1) := by decide +kernel
theorem dX2_init_11 : decode cX2_init 11 = .ok (.putfield 15, 3) := by decide +kernel
theorem dX2_init_14 : decode cX2_init 14 = .ok (.aload_n 0, 1) := by decide +kernel
theorem dX2_init_15 : decode cX2_init 15 = .ok (.aload_n 3, 1) := by decide +kernel
theorem dX2_init_16 : decode cX2_init 16 = .ok (.putfield 19, 3) := by decide +kernel
theorem dX2_init_19 : decode cX2_init 19 = .ok (.return_, 1) := by decide +kernel
set_option maxRecDepth 20000 in
theorem ggX2_drawFrom_X1_lives : GoodIn wsX2_drawFrom wsX1_lives := goodIn_r _ [8, 9, 10, 71, 72, 73, 74, 75, 76, 77, 78, 79, 80, 81] (by decide +kernel) (by decide +kernel)
set_option maxRecDepth 20000 in
theorem gX2_drawFrom_X1_lives : GoodIn wsX2_drawFrom (wsV RX2 28 RX1 yX1_lives wsX1_lives) := goodIn_app (goodIn_of _ (by decide +kernel)) ggX2_drawFrom_X1_lives
set_option maxRecDepth 20000 in
theorem ggX2_drawFrom_X2_close : GoodIn wsX2_drawFrom wsX2_close := goodIn_r _ [15, 2, 16, 17, 18, 19, 20, 21, 22, 23, 24, 25, 7, 26, 27, 28, 29, 30, 31, 32, 33, 34, 35, 36, 37, 10, 9, 38, 39, 40, 41, 42, 43, 44, 45, 46, 47, 48, 49, 50, 51, 52, 82, 83, 66, 67, 68, 71, 72, 73, 74, 75, 76, 77, 78, 79, 80, 81] (by decide +kernel) (by decide +kernel)
set_option maxRecDepth 20000 in
theorem gX2_drawFrom_X2_close : GoodIn wsX2_drawFrom (wsV RX2 38 RX2 yX2_close wsX2_close) := goodIn_app (goodIn_of _ (by decide +kernel)) ggX2_drawFrom_X2_close
set_option maxRecDepth 20000 in
theorem ggX2_drawFrom_X2_drawFromSubgroup : GoodIn wsX2_drawFrom wsX2_drawFromSubgroup := goodIn_r _ [56, 57, 11, 12, 13, 14, 15, 2, 16, 17, 18, 19, 20, 21, 22, 23, 24, 25, 7, 26, 27, 28, 29, 30, 31, 32, 33, 34, 35, 36, 37, 10, 9, 38, 39, 40, 41, 42, 43, 44, 45, 46, 47, 48, 49, 50, 51, 52, 66, 67, 68, 69, 70, 82, 83, 71, 72, 73, 74, 75, 76, 77, 78, 79, 80, 81] (by decide +kernel) (by decide +kernel)
set_option maxRecDepth 20000 in
theorem gX2_drawFrom_X2_drawFromSubgroup : GoodIn wsX2_drawFrom (wsV RX2 42 RX2 yX2_drawFromSubgroup wsX2_drawFromSubgroup) := goodIn_app (goodIn_of _ (by decide +kernel)) ggX2_drawFrom_X2_drawFromSubgroup
set_option maxRecDepth 20000 in
theorem ggX2_drawFrom_X1_takeFresh : GoodIn wsX2_drawFrom wsX1_takeFresh := goodIn_r _ [61, 51, 49, 50, 71, 72, 73, 74, 75, 76, 77, 78, 79, 80, 81] (by decide +kernel) (by decide +kernel)
set_option maxRecDepth 20000 in
theorem gX2_drawFrom_X1_takeFresh : GoodIn wsX2_drawFrom (wsV RX2 49 RX1 yX1_takeFresh wsX1_takeFresh) := goodIn_app (goodIn_of _ (by decide +kernel)) ggX2_drawFrom_X1_takeFresh
set_option maxRecDepth 20000 in
theorem ggX2_drawFrom_X2_drawThrough : GoodIn wsX2_drawFrom wsX2_drawThrough := goodIn_r _ [65, 2, 23, 24, 25, 7, 26, 27, 11, 12, 13, 14, 15, 16, 17, 18, 19, 20, 21, 22, 28, 29, 30, 31, 32, 33, 34, 35, 36, 37, 10, 9, 38, 39, 40, 41, 42, 43, 44, 45, 46, 47, 48, 49, 50, 51, 52, 82, 83, 66, 67, 68, 71, 72, 73, 74, 75, 76, 77, 78, 79, 80, 81] (by decide +kernel) (by decide +kernel)
set_option maxRecDepth 20000 in
theorem gX2_drawFrom_X2_drawThrough : GoodIn wsX2_drawFrom (wsV RX2 53 RX2 yX2_drawThrough wsX2_drawThrough) := goodIn_app (goodIn_of _ (by decide +kernel)) ggX2_drawFrom_X2_drawThrough
theorem dX2_drawFrom_0 : decode cX2_drawFrom 0 = .ok (.iconst 0, 1) := by decide +kernel
theorem dX2_drawFrom_1 : decode cX2_drawFrom 1 = .ok (.istore_n 2, 1) := by decide +kernel
theorem dX2_drawFrom_2 : decode cX2_drawFrom 2 = .ok (.iload_n 2, 1) := by decide +kernel
theorem dX2_drawFrom_3 : decode cX2_drawFrom 3 = .ok (.aload_n 0, 1) := by decide +kernel
theorem dX2_drawFrom_4 : decode cX2_drawFrom 4 = .ok (.getfield 15, 3) := by decide +kernel
theorem dX2_drawFrom_7 : decode cX2_drawFrom 7 = .ok (.getfield 22, 3) := by decide +kernel
theorem dX2_drawFrom_10 : decode cX2_drawFrom 10 = .ok (.if_icmp .ge 35, 3) := by decide +kernel
theorem dX2_drawFrom_13 : decode cX2_drawFrom 13 = .ok (.aload_n 0, 1) := by decide +kernel
theorem dX2_drawFrom_14 : decode cX2_drawFrom 14 = .ok (.getfield 9, 3) := by decide +kernel
theorem dX2_drawFrom_17 : decode cX2_drawFrom 17 = .ok (.iload_n 1, 1) := by decide +kernel
theorem dX2_drawFrom_18 : decode cX2_drawFrom 18 = .ok (.invokevirtual 28, 3) := by decide +kernel
theorem dX2_drawFrom_21 : decode cX2_drawFrom 21 = .ok (.ifCond .eq 24, 3) := by decide +kernel
theorem dX2_drawFrom_24 : decode cX2_drawFrom 24 = .ok (.aload_n 0, 1) := by decide +kernel
theorem dX2_drawFrom_25 : decode cX2_drawFrom 25 = .ok (.aload_n 0, 1) := by decide +kernel
theorem dX2_drawFrom_26 : decode cX2_drawFrom 26 = .ok (.getfield 15, 3) := by decide +kernel
theorem dX2_drawFrom_29 : decode cX2_drawFrom 29 = .ok (.getfield 34, 3) := by decide +kernel
theorem dX2_drawFrom_32 : decode cX2_drawFrom 32 = .ok (.iload_n 2, 1) := by decide +kernel
theorem dX2_drawFrom_33 : decode cX2_drawFrom 33 = .ok (.aaload, 1) := by decide +kernel
theorem dX2_drawFrom_34 : decode cX2_drawFrom 34 = .ok (.iconst 0, 1) := by decide +kernel
theorem dX2_drawFrom_35 : decode cX2_drawFrom 35 = .ok (.iload_n 1, 1) := by decide +kernel
theorem dX2_drawFrom_36 : decode cX2_drawFrom 36 = .ok (.invokevirtual 38, 3) := by decide +kernel
theorem dX2_drawFrom_39 : decode cX2_drawFrom 39 = .ok (.iinc 2 1, 3) := by decide +kernel
theorem dX2_drawFrom_42 : decode cX2_drawFrom 42 = .ok (.goto (-40), 3) := by decide +kernel
theorem dX2_drawFrom_45 : decode cX2_drawFrom 45 = .ok (.aload_n 0, 1) := by decide +kernel
theorem dX2_drawFrom_46 : decode cX2_drawFrom 46 = .ok (.invokevirtual 42, 3) := by decide +kernel
theorem dX2_drawFrom_49 : decode cX2_drawFrom 49 = .ok (.iconst 0, 1) := by decide +kernel
theorem dX2_drawFrom_50 : decode cX2_drawFrom 50 = .ok (.istore_n 2, 1) := by decide +kernel
theorem dX2_drawFrom_51 : decode cX2_drawFrom 51 = .ok (.iload_n 2, 1) := by decide +kernel
theorem dX2_drawFrom_52 : decode cX2_drawFrom 52 = .ok (.ldc 45, 2) := by decide +kernel
theorem dX2_drawFrom_54 : decode cX2_drawFrom 54 = .ok (.if_icmp .ge 84, 3) := by decide +kernel
theorem dX2_drawFrom_57 : decode cX2_drawFrom 57 = .ok (.aload_n 0, 1) := by decide +kernel
theorem dX2_drawFrom_58 : decode cX2_drawFrom 58 = .ok (.getfield 9, 3) := by decide +kernel
theorem dX2_drawFrom_61 : decode cX2_drawFrom 61 = .ok (.getfield 46, 3) := by decide +kernel
theorem dX2_drawFrom_64 : decode cX2_drawFrom 64 = .ok (.ifCond .le 74, 3) := by decide +kernel
theorem dX2_drawFrom_67 : decode cX2_drawFrom 67 = .ok (.aload_n 0, 1) := by decide +kernel
theorem dX2_drawFrom_68 : decode cX2_drawFrom 68 = .ok (.getfield 9, 3) := by decide +kernel
theorem dX2_drawFrom_71 : decode cX2_drawFrom 71 = .ok (.invokevirtual 49, 3) := by decide +kernel
theorem dX2_drawFrom_74 : decode cX2_drawFrom 74 = .ok (.istore_n 3, 1) := by decide +kernel
theorem dX2_drawFrom_75 : decode cX2_drawFrom 75 = .ok (.iconst 0, 1) := by decide +kernel
theorem dX2_drawFrom_76 : decode cX2_drawFrom 76 = .ok (.istore 4, 2) := by decide +kernel
theorem dX2_drawFrom_78 : decode cX2_drawFrom 78 = .ok (.iload 4, 2) := by decide +kernel
theorem dX2_drawFrom_80 : decode cX2_drawFrom 80 = .ok (.aload_n 0, 1) := by decide +kernel
theorem dX2_drawFrom_81 : decode cX2_drawFrom 81 = .ok (.getfield 15, 3) := by decide +kernel
theorem dX2_drawFrom_84 : decode cX2_drawFrom 84 = .ok (.getfield 22, 3) := by decide +kernel
theorem dX2_drawFrom_87 : decode cX2_drawFrom 87 = .ok (.if_icmp .ge 31, 3) := by decide +kernel
theorem dX2_drawFrom_90 : decode cX2_drawFrom 90 = .ok (.aload_n 0, 1) := by decide +kernel
theorem dX2_drawFrom_91 : decode cX2_drawFrom 91 = .ok (.iload_n 3, 1) := by decide +kernel
theorem dX2_drawFrom_92 : decode cX2_drawFrom 92 = .ok (.bipush 6, 2) := by decide +kernel
theorem dX2_drawFrom_94 : decode cX2_drawFrom 94 = .ok (.idiv, 1) := by decide +kernel
theorem dX2_drawFrom_95 : decode cX2_drawFrom 95 = .ok (.iload_n 3, 1) := by decide +kernel
theorem dX2_drawFrom_96 : decode cX2_drawFrom 96 = .ok (.bipush 6, 2) := by decide +kernel
theorem dX2_drawFrom_98 : decode cX2_drawFrom 98 = .ok (.irem, 1) := by decide +kernel
theorem dX2_drawFrom_99 : decode cX2_drawFrom 99 = .ok (.aload_n 0, 1) := by decide +kernel
theorem dX2_drawFrom_100 : decode cX2_drawFrom 100 = .ok (.getfield 15, 3) := by decide +kernel
theorem dX2_drawFrom_103 : decode cX2_drawFrom 103 = .ok (.getfield 34, 3) := by decide +kernel
theorem dX2_drawFrom_106 : decode cX2_drawFrom 106 = .ok (.iload 4, 2) := by decide +kernel
theorem dX2_drawFrom_108 : decode cX2_drawFrom 108 = .ok (.aaload, 1) := by decide +kernel
theorem dX2_drawFrom_109 : decode cX2_drawFrom 109 = .ok (.invokevirtual 53, 3) := by decide +kernel
theorem dX2_drawFrom_112 : decode cX2_drawFrom 112 = .ok (.iinc 4 1, 3) := by decide +kernel
theorem dX2_drawFrom_115 : decode cX2_drawFrom 115 = .ok (.goto (-37), 3) := by decide +kernel
theorem dX2_drawFrom_118 : decode cX2_drawFrom 118 = .ok (.aload_n 0, 1) := by decide +kernel
theorem dX2_drawFrom_119 : decode cX2_drawFrom 119 = .ok (.getfield 9, 3) := by decide +kernel
theorem dX2_drawFrom_122 : decode cX2_drawFrom 122 = .ok (.getfield 46, 3) := by decide +kernel
theorem dX2_drawFrom_125 : decode cX2_drawFrom 125 = .ok (.ifCond .ne 7, 3) := by decide +kernel
theorem dX2_drawFrom_128 : decode cX2_drawFrom 128 = .ok (.aload_n 0, 1) := by decide +kernel
theorem dX2_drawFrom_129 : decode cX2_drawFrom 129 = .ok (.invokevirtual 42, 3) := by decide +kernel
theorem dX2_drawFrom_132 : decode cX2_drawFrom 132 = .ok (.iinc 2 1, 3) := by decide +kernel
theorem dX2_drawFrom_135 : decode cX2_drawFrom 135 = .ok (.goto (-84), 3) := by decide +kernel
theorem dX2_drawFrom_138 : decode cX2_drawFrom 138 = .ok (.return_, 1) := by decide +kernel
set_option maxRecDepth 20000 in
theorem ggX2_drawFromSubgroup_X2_close : GoodIn wsX2_drawFromSubgroup wsX2_close := goodIn_r _ [6, 7, 8, 9, 10, 11, 12, 13, 14, 15, 16, 17, 18, 19, 20, 21, 22, 23, 24, 25, 26, 27, 28, 29, 30, 31, 32, 33, 34, 35, 36, 37, 38, 39, 40, 41, 42, 43, 44, 45, 46, 47, 53, 54, 48, 49, 50, 55, 56, 57, 58, 59, 60, 61, 62, 63, 64, 65] (by decide +kernel) (by decide +kernel)
set_option maxRecDepth 20000 in
theorem gX2_drawFromSubgroup_X2_close : GoodIn wsX2_drawFromSubgroup (wsV RX2 38 RX2 yX2_close wsX2_close) := goodIn_app (goodIn_of _ (by decide +kernel)) ggX2_drawFromSubgroup_X2_close
theorem dX2_drawFromSubgroup_0 : decode cX2_drawFromSubgroup 0 = .ok (.iconst 0, 1) := by decide +kernel
theorem dX2_drawFromSubgroup_1 : decode cX2_drawFromSubgroup 1 = .ok (.istore_n 1, 1) := by decide +kernel
theorem dX2_drawFromSubgroup_2 : decode cX2_drawFromSubgroup 2 = .ok (.iload_n 1, 1) := by decide +kernel
theorem dX2_drawFromSubgroup_3 : decode cX2_drawFromSubgroup 3 = .ok (.aload_n 0, 1) := by decide +kernel
theorem dX2_drawFromSubgroup_4 : decode cX2_drawFromSubgroup 4 = .ok (.getfield 19, 3) := by decide +kernel
theorem dX2_drawFromSubgroup_7 : decode cX2_drawFromSubgroup 7 = .ok (.getfield 22, 3) := by decide +kernel
theorem dX2_drawFromSubgroup_10 : decode cX2_drawFromSubgroup 10 = .ok (.if_icmp .ge 24, 3) := by decide +kernel
theorem dX2_drawFromSubgroup_13 : decode cX2_drawFromSubgroup 13 = .ok (.aload_n 0, 1) := by decide +kernel
theorem dX2_drawFromSubgroup_14 : decode cX2_drawFromSubgroup 14 = .ok (.aload_n 0, 1) := by decide +kernel
theorem dX2_drawFromSubgroup_15 : decode cX2_drawFromSubgroup 15 = .ok (.getfield 19, 3) := by decide +kernel
theorem dX2_drawFromSubgroup_18 : decode cX2_drawFromSubgroup 18 = .ok (.getfield 34, 3) := by decide +kernel
theorem dX2_drawFromSubgroup_21 : decode cX2_drawFromSubgroup 21 = .ok (.iload_n 1, 1) := by decide +kernel
theorem dX2_drawFromSubgroup_22 : decode cX2_drawFromSubgroup 22 = .ok (.aaload, 1) := by decide +kernel
theorem dX2_drawFromSubgroup_23 : decode cX2_drawFromSubgroup 23 = .ok (.iconst 0, 1) := by decide +kernel
theorem dX2_drawFromSubgroup_24 : decode cX2_drawFromSubgroup 24 = .ok (.iconst 0, 1) := by decide +kernel
theorem dX2_drawFromSubgroup_25 : decode cX2_drawFromSubgroup 25 = .ok (.invokevirtual 38, 3) := by decide +kernel
theorem dX2_drawFromSubgroup_28 : decode cX2_drawFromSubgroup 28 = .ok (.iinc 1 1, 3) := by decide +kernel
theorem dX2_drawFromSubgroup_31 : decode cX2_drawFromSubgroup 31 = .ok (.goto (-29), 3) := by decide +kernel
theorem dX2_drawFromSubgroup_34 : decode cX2_drawFromSubgroup 34 = .ok (.return_, 1) := by decide +kernel
set_option maxRecDepth 20000 in
theorem ggX2_drawThrough_X1_at : GoodIn wsX2_drawThrough wsX1_at := goodIn_r _ [6, 7, 52, 53, 54, 55, 56, 57, 58, 59, 60, 61, 62] (by decide +kernel) (by decide +kernel)
set_option maxRecDepth 20000 in
theorem gX2_drawThrough_X1_at : GoodIn wsX2_drawThrough (wsV RX2 62 RX1 yX1_at wsX1_at) := goodIn_app (goodIn_of _ (by decide +kernel)) ggX2_drawThrough_X1_at
set_option maxRecDepth 20000 in
theorem ggX2_drawThrough_X2_close : GoodIn wsX2_drawThrough wsX2_close := goodIn_r _ [12, 1, 13, 14, 15, 16, 17, 18, 19, 2, 3, 4, 5, 6, 7, 20, 21, 22, 23, 24, 25, 26, 27, 28, 29, 30, 31, 32, 33, 34, 35, 36, 37, 38, 39, 40, 41, 42, 43, 44, 45, 46, 47, 48, 49, 50, 51, 52, 53, 54, 55, 56, 57, 58, 59, 60, 61, 62] (by decide +kernel) (by decide +kernel)
set_option maxRecDepth 20000 in
theorem gX2_drawThrough_X2_close : GoodIn wsX2_drawThrough (wsV RX2 38 RX2 yX2_close wsX2_close) := goodIn_app (goodIn_of _ (by decide +kernel)) ggX2_drawThrough_X2_close
theorem dX2_drawThrough_0 : decode cX2_drawThrough 0 = .ok (.iconst 0, 1) := by decide +kernel
theorem dX2_drawThrough_1 : decode cX2_drawThrough 1 = .ok (.istore 4, 2) := by decide +kernel
theorem dX2_drawThrough_3 : decode cX2_drawThrough 3 = .ok (.iload 4, 2) := by decide +kernel
theorem dX2_drawThrough_5 : decode cX2_drawThrough 5 = .ok (.aload_n 3, 1) := by decide +kernel
theorem dX2_drawThrough_6 : decode cX2_drawThrough 6 = .ok (.getfield 57, 3) := by decide +kernel
theorem dX2_drawThrough_9 : decode cX2_drawThrough 9 = .ok (.if_icmp .ge 71, 3) := by decide +kernel
theorem dX2_drawThrough_12 : decode cX2_drawThrough 12 = .ok (.aload_n 0, 1) := by decide +kernel
theorem dX2_drawThrough_13 : decode cX2_drawThrough 13 = .ok (.getfield 9, 3) := by decide +kernel
theorem dX2_drawThrough_16 : decode cX2_drawThrough 16 = .ok (.iload_n 1, 1) := by decide +kernel
theorem dX2_drawThrough_17 : decode cX2_drawThrough 17 = .ok (.iload_n 2, 1) := by decide +kernel
theorem dX2_drawThrough_18 : decode cX2_drawThrough 18 = .ok (.invokevirtual 62, 3) := by decide +kernel
theorem dX2_drawThrough_21 : decode cX2_drawThrough 21 = .ok (.istore 5, 2) := by decide +kernel
theorem dX2_drawThrough_23 : decode cX2_drawThrough 23 = .ok (.iload 5, 2) := by decide +kernel
theorem dX2_drawThrough_25 : decode cX2_drawThrough 25 = .ok (.iconst (-1), 1) := by decide +kernel
theorem dX2_drawThrough_26 : decode cX2_drawThrough 26 = .ok (.if_icmp .ne 4, 3) := by decide +kernel
theorem dX2_drawThrough_29 : decode cX2_drawThrough 29 = .ok (.return_, 1) := by decide +kernel
theorem dX2_drawThrough_30 : decode cX2_drawThrough 30 = .ok (.aload_n 3, 1) := by decide +kernel
theorem dX2_drawThrough_31 : decode cX2_drawThrough 31 = .ok (.getfield 66, 3) := by decide +kernel
theorem dX2_drawThrough_34 : decode cX2_drawThrough 34 = .ok (.iload 4, 2) := by decide +kernel
theorem dX2_drawThrough_36 : decode cX2_drawThrough 36 = .ok (.iaload, 1) := by decide +kernel
theorem dX2_drawThrough_37 : decode cX2_drawThrough 37 = .ok (.iload_n 2, 1) := by decide +kernel
theorem dX2_drawThrough_38 : decode cX2_drawThrough 38 = .ok (.if_icmp .ne 14, 3) := by decide +kernel
theorem dX2_drawThrough_41 : decode cX2_drawThrough 41 = .ok (.aload_n 0, 1) := by decide +kernel
theorem dX2_drawThrough_42 : decode cX2_drawThrough 42 = .ok (.aload_n 3, 1) := by decide +kernel
theorem dX2_drawThrough_43 : decode cX2_drawThrough 43 = .ok (.iload 4, 2) := by decide +kernel
theorem dX2_drawThrough_45 : decode cX2_drawThrough 45 = .ok (.iload_n 1, 1) := by decide +kernel
theorem dX2_drawThrough_46 : decode cX2_drawThrough 46 = .ok (.invokevirtual 38, 3) := by decide +kernel
theorem dX2_drawThrough_49 : decode cX2_drawThrough 49 = .ok (.goto 25, 3) := by decide +kernel
theorem dX2_drawThrough_52 : decode cX2_drawThrough 52 = .ok (.aload_n 3, 1) := by decide +kernel
theorem dX2_drawThrough_53 : decode cX2_drawThrough 53 = .ok (.getfield 66, 3) := by decide +kernel
theorem dX2_drawThrough_56 : decode cX2_drawThrough 56 = .ok (.iload 4, 2) := by decide +kernel
theorem dX2_drawThrough_58 : decode cX2_drawThrough 58 = .ok (.iaload, 1) := by decide +kernel
theorem dX2_drawThrough_59 : decode cX2_drawThrough 59 = .ok (.iload_n 2, 1) := by decide +kernel
theorem dX2_drawThrough_60 : decode cX2_drawThrough 60 = .ok (.iconst 1, 1) := by decide +kernel
theorem dX2_drawThrough_61 : decode cX2_drawThrough 61 = .ok (.ixor, 1) := by decide +kernel
theorem dX2_drawThrough_62 : decode cX2_drawThrough 62 = .ok (.if_icmp .ne 12, 3) := by decide +kernel
theorem dX2_drawThrough_65 : decode cX2_drawThrough 65 = .ok (.aload_n 0, 1) := by decide +kernel
theorem dX2_drawThrough_66 : decode cX2_drawThrough 66 = .ok (.aload_n 3, 1) := by decide +kernel
theorem dX2_drawThrough_67 : decode cX2_drawThrough 67 = .ok (.iload 4, 2) := by decide +kernel
theorem dX2_drawThrough_69 : decode cX2_drawThrough 69 = .ok (.iload 5, 2) := by decide +kernel
theorem dX2_drawThrough_71 : decode cX2_drawThrough 71 = .ok (.invokevirtual 38, 3) := by decide +kernel
theorem dX2_drawThrough_74 : decode cX2_drawThrough 74 = .ok (.iinc 4 1, 3) := by decide +kernel
theorem dX2_drawThrough_77 : decode cX2_drawThrough 77 = .ok (.goto (-74), 3) := by decide +kernel
theorem dX2_drawThrough_80 : decode cX2_drawThrough 80 = .ok (.return_, 1) := by decide +kernel
set_option maxRecDepth 20000 in
theorem ggX2_close_X3_around : GoodIn wsX2_close wsX3_around := goodIn_r _ [6, 7, 8, 42, 43] (by decide +kernel) (by decide +kernel)
set_option maxRecDepth 20000 in
theorem gX2_close_X3_around : GoodIn wsX2_close (wsV RX2 70 RX3 yX3_around wsX3_around) := goodIn_app (goodIn_of _ (by decide +kernel)) ggX2_close_X3_around
set_option maxRecDepth 20000 in
theorem ggX2_close_X1_at : GoodIn wsX2_close wsX1_at := goodIn_r _ [13, 14, 47, 48, 49, 50, 51, 52, 53, 54, 55, 56, 57] (by decide +kernel) (by decide +kernel)
set_option maxRecDepth 20000 in
theorem gX2_close_X1_at : GoodIn wsX2_close (wsV RX2 62 RX1 yX1_at wsX1_at) := goodIn_app (goodIn_of _ (by decide +kernel)) ggX2_close_X1_at
set_option maxRecDepth 20000 in
theorem ggX2_close_X1_unite : GoodIn wsX2_close wsX1_unite := goodIn_r _ [18, 19, 20, 21, 22, 23, 12, 24, 25, 26, 27, 28, 29, 30, 31, 32, 14, 33, 10, 11, 13, 34, 35, 36, 37, 38, 39, 40, 47, 48, 49, 50, 51, 52, 53, 54, 55, 56, 57] (by decide +kernel) (by decide +kernel)
set_option maxRecDepth 20000 in
theorem gX2_close_X1_unite : GoodIn wsX2_close (wsV RX2 74 RX1 yX1_unite wsX1_unite) := goodIn_app (goodIn_of _ (by decide +kernel)) ggX2_close_X1_unite
set_option maxRecDepth 20000 in
theorem ggX2_close_X1_join : GoodIn wsX2_close wsX1_join := goodIn_r _ [37, 14, 38, 39, 40, 47, 48, 49, 50, 51, 52, 53, 54, 55, 56, 57] (by decide +kernel) (by decide +kernel)
set_option maxRecDepth 20000 in
theorem gX2_close_X1_join : GoodIn wsX2_close (wsV RX2 78 RX1 yX1_join wsX1_join) := goodIn_app (goodIn_of _ (by decide +kernel)) ggX2_close_X1_join
theorem dX2_close_0 : decode cX2_close 0 = .ok (.iload_n 3, 1) := by decide +kernel
theorem dX2_close_1 : decode cX2_close 1 = .ok (.istore 4, 2) := by decide +kernel
theorem dX2_close_3 : decode cX2_close 3 = .ok (.iconst 0, 1) := by decide +kernel
theorem dX2_close_4 : decode cX2_close 4 = .ok (.istore 5, 2) := by decide +kernel
theorem dX2_close_6 : decode cX2_close 6 = .ok (.iload 5, 2) := by decide +kernel
theorem dX2_close_8 : decode cX2_close 8 = .ok (.aload_n 1, 1) := by decide +kernel
theorem dX2_close_9 : decode cX2_close 9 = .ok (.getfield 57, 3) := by decide +kernel
theorem dX2_close_12 : decode cX2_close 12 = .ok (.if_icmp .ge 49, 3) := by decide +kernel
theorem dX2_close_15 : decode cX2_close 15 = .ok (.aload_n 0, 1) := by decide +kernel
theorem dX2_close_16 : decode cX2_close 16 = .ok (.getfield 9, 3) := by decide +kernel
theorem dX2_close_19 : decode cX2_close 19 = .ok (.iload 4, 2) := by decide +kernel
theorem dX2_close_21 : decode cX2_close 21 = .ok (.aload_n 1, 1) := by decide +kernel
theorem dX2_close_22 : decode cX2_close 22 = .ok (.iload_n 2, 1) := by decide +kernel
theorem dX2_close_23 : decode cX2_close 23 = .ok (.iload 5, 2) := by decide +kernel
theorem dX2_close_25 : decode cX2_close 25 = .ok (.iadd, 1) := by decide +kernel
theorem dX2_close_26 : decode cX2_close 26 = .ok (.invokevirtual 70, 3) := by decide +kernel
theorem dX2_close_29 : decode cX2_close 29 = .ok (.invokevirtual 62, 3) := by decide +kernel
theorem dX2_close_32 : decode cX2_close 32 = .ok (.iconst (-1), 1) := by decide +kernel
theorem dX2_close_33 : decode cX2_close 33 = .ok (.if_icmp .eq 28, 3) := by decide +kernel
theorem dX2_close_36 : decode cX2_close 36 = .ok (.aload_n 0, 1) := by decide +kernel
theorem dX2_close_37 : decode cX2_close 37 = .ok (.getfield 9, 3) := by decide +kernel
theorem dX2_close_40 : decode cX2_close 40 = .ok (.iload 4, 2) := by decide +kernel
theorem dX2_close_42 : decode cX2_close 42 = .ok (.aload_n 1, 1) := by decide +kernel
theorem dX2_close_43 : decode cX2_close 43 = .ok (.iload_n 2, 1) := by decide +kernel
theorem dX2_close_44 : decode cX2_close 44 = .ok (.iload 5, 2) := by decide +kernel
theorem dX2_close_46 : decode cX2_close 46 = .ok (.iadd, 1) := by decide +kernel
theorem dX2_close_47 : decode cX2_close 47 = .ok (.invokevirtual 70, 3) := by decide +kernel
theorem dX2_close_50 : decode cX2_close 50 = .ok (.invokevirtual 62, 3) := by decide +kernel
theorem dX2_close_53 : decode cX2_close 53 = .ok (.istore 4, 2) := by decide +kernel
theorem dX2_close_55 : decode cX2_close 55 = .ok (.iinc 5 1, 3) := by decide +kernel
theorem dX2_close_58 : decode cX2_close 58 = .ok (.goto (-52), 3) := by decide +kernel
theorem dX2_close_61 : decode cX2_close 61 = .ok (.iload 5, 2) := by decide +kernel
theorem dX2_close_63 : decode cX2_close 63 = .ok (.aload_n 1, 1) := by decide +kernel
theorem dX2_close_64 : decode cX2_close 64 = .ok (.getfield 57, 3) := by decide +kernel
theorem dX2_close_67 : decode cX2_close 67 = .ok (.if_icmp .ne 14, 3) := by decide +kernel
theorem dX2_close_70 : decode cX2_close 70 = .ok (.aload_n 0, 1) := by decide +kernel
theorem dX2_close_71 : decode cX2_close 71 = .ok (.getfield 9, 3) := by decide +kernel
theorem dX2_close_74 : decode cX2_close 74 = .ok (.iload 4, 2) := by decide +kernel
theorem dX2_close_76 : decode cX2_close 76 = .ok (.iload_n 3, 1) := by decide +kernel
theorem dX2_close_77 : decode cX2_close 77 = .ok (.invokevirtual 74, 3) := by decide +kernel
theorem dX2_close_80 : decode cX2_close 80 = .ok (.return_, 1) := by decide +kernel
theorem dX2_close_81 : decode cX2_close 81 = .ok (.iload_n 3, 1) := by decide +kernel
theorem dX2_close_82 : decode cX2_close 82 = .ok (.istore 6, 2) := by decide +kernel
theorem dX2_close_84 : decode cX2_close 84 = .ok (.aload_n 1, 1) := by decide +kernel
theorem dX2_close_85 : decode cX2_close 85 = .ok (.getfield 57, 3) := by decide +kernel
theorem dX2_close_88 : decode cX2_close 88 = .ok (.iconst 1, 1) := by decide +kernel
theorem dX2_close_89 : decode cX2_close 89 = .ok (.isub, 1) := by decide +kernel
theorem dX2_close_90 : decode cX2_close 90 = .ok (.istore 7, 2) := by decide +kernel
theorem dX2_close_92 : decode cX2_close 92 = .ok (.iload 7, 2) := by decide +kernel
theorem dX2_close_94 : decode cX2_close 94 = .ok (.iload 5, 2) := by decide +kernel
theorem dX2_close_96 : decode cX2_close 96 = .ok (.if_icmp .le 37, 3) := by decide +kernel
theorem dX2_close_99 : decode cX2_close 99 = .ok (.aload_n 0, 1) := by decide +kernel
theorem dX2_close_100 : decode cX2_close 100 = .ok (.getfield 9, 3) := by decide +kernel
theorem dX2_close_103 : decode cX2_close 103 = .ok (.iload 6, 2) := by decide +kernel
theorem dX2_close_105 : decode cX2_close 105 = .ok (.aload_n 1, 1) := by decide +kernel
theorem dX2_close_106 : decode cX2_close 106 = .ok (.iload_n 2, 1) := by decide +kernel
theorem dX2_close_107 : decode cX2_close 107 = .ok (.iload 7, 2) := by decide +kernel
theorem dX2_close_109 : decode cX2_close 109 = .ok (.iadd, 1) := by decide +kernel
theorem dX2_close_110 : decode cX2_close 110 = .ok (.invokevirtual 70, 3) := by decide +kernel
theorem dX2_close_113 : decode cX2_close 113 = .ok (.iconst 1, 1) := by decide +kernel
theorem dX2_close_114 : decode cX2_close 114 = .ok (.ixor, 1) := by decide +kernel
theorem dX2_close_115 : decode cX2_close 115 = .ok (.invokevirtual 62, 3) := by decide +kernel
theorem dX2_close_118 : decode cX2_close 118 = .ok (.istore 6, 2) := by decide +kernel
theorem dX2_close_120 : decode cX2_close 120 = .ok (.iload 6, 2) := by decide +kernel
theorem dX2_close_122 : decode cX2_close 122 = .ok (.iconst (-1), 1) := by decide +kernel
theorem dX2_close_123 : decode cX2_close 123 = .ok (.if_icmp .ne 4, 3) := by decide +kernel
theorem dX2_close_126 : decode cX2_close 126 = .ok (.return_, 1) := by decide +kernel
theorem dX2_close_127 : decode cX2_close 127 = .ok (.iinc 7 (-1), 3) := by decide +kernel
theorem dX2_close_130 : decode cX2_close 130 = .ok (.goto (-38), 3) := by decide +kernel
theorem dX2_close_133 : decode cX2_close 133 = .ok (.aload_n 1, 1) := by decide +kernel
theorem dX2_close_134 : decode cX2_close 134 = .ok (.iload_n 2, 1) := by decide +kernel
theorem dX2_close_135 : decode cX2_close 135 = .ok (.iload 5, 2) := by decide +kernel
theorem dX2_close_137 : decode cX2_close 137 = .ok (.iadd, 1) := by decide +kernel
theorem dX2_close_138 : decode cX2_close 138 = .ok (.invokevirtual 70, 3) := by decide +kernel
theorem dX2_close_141 : decode cX2_close 141 = .ok (.istore 7, 2) := by decide +kernel
theorem dX2_close_143 : decode cX2_close 143 = .ok (.aload_n 0, 1) := by decide +kernel
theorem dX2_close_144 : decode cX2_close 144 = .ok (.getfield 9, 3) := by decide +kernel
theorem dX2_close_147 : decode cX2_close 147 = .ok (.iload 6, 2) := by decide +kernel
theorem dX2_close_149 : decode cX2_close 149 = .ok (.iload 7, 2) := by decide +kernel
theorem dX2_close_151 : decode cX2_close 151 = .ok (.iconst 1, 1) := by decide +kernel
theorem dX2_close_152 : decode cX2_close 152 = .ok (.ixor, 1) := by decide +kernel
theorem dX2_close_153 : decode cX2_close 153 = .ok (.invokevirtual 62, 3) := by decide +kernel
theorem dX2_close_156 : decode cX2_close 156 = .ok (.istore 8, 2) := by decide +kernel
theorem dX2_close_158 : decode cX2_close 158 = .ok (.iload 8, 2) := by decide +kernel
theorem dX2_close_160 : decode cX2_close 160 = .ok (.iconst (-1), 1) := by decide +kernel
theorem dX2_close_161 : decode cX2_close 161 = .ok (.if_icmp .ne 19, 3) := by decide +kernel
theorem dX2_close_164 : decode cX2_close 164 = .ok (.aload_n 0, 1) := by decide +kernel
theorem dX2_close_165 : decode cX2_close 165 = .ok (.getfield 9, 3) := by decide +kernel
theorem dX2_close_168 : decode cX2_close 168 = .ok (.iload 4, 2) := by decide +kernel
theorem dX2_close_170 : decode cX2_close 170 = .ok (.iload 7, 2) := by decide +kernel
theorem dX2_close_172 : decode cX2_close 172 = .ok (.iload 6, 2) := by decide +kernel
theorem dX2_close_174 : decode cX2_close 174 = .ok (.invokevirtual 78, 3) := by decide +kernel
theorem dX2_close_177 : decode cX2_close 177 = .ok (.goto 14, 3) := by decide +kernel
theorem dX2_close_180 : decode cX2_close 180 = .ok (.aload_n 0, 1) := by decide +kernel
theorem dX2_close_181 : decode cX2_close 181 = .ok (.getfield 9, 3) := by decide +kernel
theorem dX2_close_184 : decode cX2_close 184 = .ok (.iload 8, 2) := by decide +kernel
theorem dX2_close_186 : decode cX2_close 186 = .ok (.iload 4, 2) := by decide +kernel
theorem dX2_close_188 : decode cX2_close 188 = .ok (.invokevirtual 74, 3) := by decide +kernel
theorem dX2_close_191 : decode cX2_close 191 = .ok (.return_, 1) := by decide +kernel
theorem dX3_init_0 : decode cX3_init 0 = .ok (.aload_n 0, 1) := by decide +kernel
theorem dX3_init_1 : decode cX3_init 1 = .ok (.invokespecial 3, 3) := by decide +kernel
theorem dX3_init_4 : decode cX3_init 4 = .ok (.aload_n 0, 1) := by decide +kernel
theorem dX3_init_5 : decode cX3_init 5 = .ok (.bipush 24, 2) := by decide +kernel
theorem dX3_init_7 : decode cX3_init 7 = .ok (.newarray .int, 2) := by decide +kernel
theorem dX3_init_9 : decode cX3_init 9 = .ok (.putfield 9, 3) := by decide +kernel
theorem dX3_init_12 : decode cX3_init 12 = .ok (.return_, 1) := by decide +kernel
theorem dX3_append_0 : decode cX3_append 0 = .ok (.aload_n 0, 1) := by decide +kernel
theorem dX3_append_1 : decode cX3_append 1 = .ok (.getfield 9, 3) := by decide +kernel
theorem dX3_append_4 : decode cX3_append 4 = .ok (.aload_n 0, 1) := by decide +kernel
theorem dX3_append_5 : decode cX3_append 5 = .ok (.getfield 15, 3) := by decide +kernel
theorem dX3_append_8 : decode cX3_append 8 = .ok (.iload_n 1, 1) := by decide +kernel
theorem dX3_append_9 : decode cX3_append 9 = .ok (.iastore, 1) := by decide +kernel
theorem dX3_append_10 : decode cX3_append 10 = .ok (.aload_n 0, 1) := by decide +kernel
theorem dX3_append_11 : decode cX3_append 11 = .ok (.dup, 1) := by decide +kernel
theorem dX3_append_12 : decode cX3_append 12 = .ok (.getfield 15, 3) := by decide +kernel
theorem dX3_append_15 : decode cX3_append 15 = .ok (.iconst 1, 1) := by decide +kernel
theorem dX3_append_16 : decode cX3_append 16 = .ok (.iadd, 1) := by decide +kernel
theorem dX3_append_17 : decode cX3_append 17 = .ok (.putfield 15, 3) := by decide +kernel
theorem dX3_append_20 : decode cX3_append 20 = .ok (.return_, 1) := by decide +kernel
theorem dX3_copyFrom_0 : decode cX3_copyFrom 0 = .ok (.aload_n 1, 1) := by decide +kernel
theorem dX3_copyFrom_1 : decode cX3_copyFrom 1 = .ok (.getfield 9, 3) := by decide +kernel
theorem dX3_copyFrom_4 : decode cX3_copyFrom 4 = .ok (.iconst 0, 1) := by decide +kernel
theorem dX3_copyFrom_5 : decode cX3_copyFrom 5 = .ok (.aload_n 0, 1) := by decide +kernel
theorem dX3_copyFrom_6 : decode cX3_copyFrom 6 = .ok (.getfield 9, 3) := by decide +kernel
theorem dX3_copyFrom_9 : decode cX3_copyFrom 9 = .ok (.iconst 0, 1) := by decide +kernel
theorem dX3_copyFrom_10 : decode cX3_copyFrom 10 = .ok (.aload_n 1, 1) := by decide +kernel
theorem dX3_copyFrom_11 : decode cX3_copyFrom 11 = .ok (.getfield 15, 3) := by decide +kernel
theorem dX3_copyFrom_14 : decode cX3_copyFrom 14 = .ok (.invokestatic 19, 3) := by decide +kernel
theorem dX3_copyFrom_17 : decode cX3_copyFrom 17 = .ok (.aload_n 0, 1) := by decide +kernel
theorem dX3_copyFrom_18 : decode cX3_copyFrom 18 = .ok (.aload_n 1, 1) := by decide +kernel
theorem dX3_copyFrom_19 : decode cX3_copyFrom 19 = .ok (.getfield 15, 3) := by decide +kernel
theorem dX3_copyFrom_22 : decode cX3_copyFrom 22 = .ok (.putfield 15, 3) := by decide +kernel
theorem dX3_copyFrom_25 : decode cX3_copyFrom 25 = .ok (.return_, 1) := by decide +kernel
theorem dX3_around_0 : decode cX3_around 0 = .ok (.aload_n 0, 1) := by decide +kernel
theorem dX3_around_1 : decode cX3_around 1 = .ok (.getfield 9, 3) := by decide +kernel
theorem dX3_around_4 : decode cX3_around 4 = .ok (.iload_n 1, 1) := by decide +kernel
theorem dX3_around_5 : decode cX3_around 5 = .ok (.aload_n 0, 1) := by decide +kernel
theorem dX3_around_6 : decode cX3_around 6 = .ok (.getfield 15, 3) := by decide +kernel
theorem dX3_around_9 : decode cX3_around 9 = .ok (.if_icmp .ge 7, 3) := by decide +kernel
theorem dX3_around_12 : decode cX3_around 12 = .ok (.iload_n 1, 1) := by decide +kernel
theorem dX3_around_13 : decode cX3_around 13 = .ok (.goto 9, 3) := by decide +kernel
theorem dX3_around_16 : decode cX3_around 16 = .ok (.iload_n 1, 1) := by decide +kernel
theorem dX3_around_17 : decode cX3_around 17 = .ok (.aload_n 0, 1) := by decide +kernel
theorem dX3_around_18 : decode cX3_around 18 = .ok (.getfield 15, 3) := by decide +kernel
theorem dX3_around_21 : decode cX3_around 21 = .ok (.isub, 1) := by decide +kernel
theorem dX3_around_22 : decode cX3_around 22 = .ok (.iaload, 1) := by decide +kernel
theorem dX3_around_23 : decode cX3_around 23 = .ok (.ireturn, 1) := by decide +kernel
set_option maxRecDepth 20000 in
theorem ggX4_init_X3_init : GoodIn wsX4_init wsX3_init := goodIn_r _ [9, 10, 2, 3, 11, 12, 15, 16] (by decide +kernel) (by decide +kernel)
set_option maxRecDepth 20000 in
theorem gX4_init_X3_init_n15 : GoodIn wsX4_init (wsX3_init) := ggX4_init_X3_init
theorem dX4_init_0 : decode cX4_init 0 = .ok (.aload_n 0, 1) := by decide +kernel
theorem dX4_init_1 : decode cX4_init 1 = .ok (.invokespecial 1, 3) := by decide +kernel
theorem dX4_init_4 : decode cX4_init 4 = .ok (.aload_n 0, 1) := by decide +kernel
theorem dX4_init_5 : decode cX4_init 5 = .ok (.iload_n 1, 1) := by decide +kernel
theorem dX4_init_6 : decode cX4_init 6 = .ok (.anewarray 7, 3) := by decide +kernel
theorem dX4_init_9 : decode cX4_init 9 = .ok (.putfield 9, 3) := by decide +kernel
theorem dX4_init_12 : decode cX4_init 12 = .ok (.iconst 0, 1) := by decide +kernel
theorem dX4_init_13 : decode cX4_init 13 = .ok (.istore_n 2, 1) := by decide +kernel
theorem dX4_init_14 : decode cX4_init 14 = .ok (.iload_n 2, 1) := by decide +kernel
theorem dX4_init_15 : decode cX4_init 15 = .ok (.iload_n 1, 1) := by decide +kernel
theorem dX4_init_16 : decode cX4_init 16 = .ok (.if_icmp .ge 22, 3) := by decide +kernel
theorem dX4_init_19 : decode cX4_init 19 = .ok (.aload_n 0, 1) := by decide +kernel
theorem dX4_init_20 : decode cX4_init 20 = .ok (.getfield 9, 3) := by decide +kernel
theorem dX4_init_23 : decode cX4_init 23 = .ok (.iload_n 2, 1) := by decide +kernel
theorem dX4_init_24 : decode cX4_init 24 = .ok (.new 7, 3) := by decide +kernel
theorem dX4_init_27 : decode cX4_init 27 = .ok (.dup, 1) := by decide +kernel
theorem dX4_init_28 : decode cX4_init 28 = .ok (.invokespecial 15, 3) := by decide +kernel
theorem dX4_init_31 : decode cX4_init 31 = .ok (.aastore, 1) := by decide +kernel
theorem dX4_init_32 : decode cX4_init 32 = .ok (.iinc 2 1, 3) := by decide +kernel
theorem dX4_init_35 : decode cX4_init 35 = .ok (.goto (-21), 3) := by decide +kernel
theorem dX4_init_38 : decode cX4_init 38 = .ok (.return_, 1) := by decide +kernel
theorem dX4_isFull_0 : decode cX4_isFull 0 = .ok (.aload_n 0, 1) := by decide +kernel
theorem dX4_isFull_1 : decode cX4_isFull 1 = .ok (.getfield 16, 3) := by decide +kernel
theorem dX4_isFull_4 : decode cX4_isFull 4 = .ok (.aload_n 0, 1) := by decide +kernel
theorem dX4_isFull_5 : decode cX4_isFull 5 = .ok (.getfield 9, 3) := by decide +kernel
theorem dX4_isFull_8 : decode cX4_isFull 8 = .ok (.arraylength, 1) := by decide +kernel
theorem dX4_isFull_9 : decode cX4_isFull 9 = .ok (.if_icmp .ne 7, 3) := by decide +kernel
theorem dX4_isFull_12 : decode cX4_isFull 12 = .ok (.iconst 1, 1) := by decide +kernel
theorem dX4_isFull_13 : decode cX4_isFull 13 = .ok (.goto 4, 3) := by decide +kernel
theorem dX4_isFull_16 : decode cX4_isFull 16 = .ok (.iconst 0, 1) := by decide +kernel
theorem dX4_isFull_17 : decode cX4_isFull 17 = .ok (.ireturn, 1) := by decide +kernel
set_option maxRecDepth 20000 in
theorem ggX4_add_X3_copyFrom : GoodIn wsX4_add wsX3_copyFrom := goodIn_r _ [7, 8, 9, 10, 11, 12, 13, 16, 17] (by decide +kernel) (by decide +kernel)
set_option maxRecDepth 20000 in
theorem gX4_add_X3_copyFrom : GoodIn wsX4_add (wsV RX4 20 RX3 yX3_copyFrom wsX3_copyFrom) := goodIn_app (goodIn_of _ (by decide +kernel)) ggX4_add_X3_copyFrom
theorem dX4_add_0 : decode cX4_add 0 = .ok (.aload_n 0, 1) := by decide +kernel
theorem dX4_add_1 : decode cX4_add 1 = .ok (.getfield 9, 3) := by decide +kernel
theorem dX4_add_4 : decode cX4_add 4 = .ok (.aload_n 0, 1) := by decide +kernel
theorem dX4_add_5 : decode cX4_add 5 = .ok (.getfield 16, 3) := by decide +kernel
theorem dX4_add_8 : decode cX4_add 8 = .ok (.aaload, 1) := by decide +kernel
theorem dX4_add_9 : decode cX4_add 9 = .ok (.aload_n 1, 1) := by decide +kernel
theorem dX4_add_10 : decode cX4_add 10 = .ok (.invokevirtual 20, 3) := by decide +kernel
theorem dX4_add_13 : decode cX4_add 13 = .ok (.aload_n 0, 1) := by decide +kernel
theorem dX4_add_14 : decode cX4_add 14 = .ok (.dup, 1) := by decide +kernel
theorem dX4_add_15 : decode cX4_add 15 = .ok (.getfield 16, 3) := by decide +kernel
theorem dX4_add_18 : decode cX4_add 18 = .ok (.iconst 1, 1) := by decide +kernel
theorem dX4_add_19 : decode cX4_add 19 = .ok (.iadd, 1) := by decide +kernel
theorem dX4_add_20 : decode cX4_add 20 = .ok (.putfield 16, 3) := by decide +kernel
theorem dX4_add_23 : decode cX4_add 23 = .ok (.return_, 1) := by decide +kernel
set_option maxRecDepth 20000 in
theorem ggX5_init_X3_init : GoodIn wsX5_init wsX3_init := goodIn_r _ [27, 28, 2, 3, 29, 30, 80, 81] (by decide +kernel) (by decide +kernel)
set_option maxRecDepth 20000 in
theorem gX5_init_X3_init_n11 : GoodIn wsX5_init (wsX3_init) := ggX5_init_X3_init
set_option maxRecDepth 20000 in
theorem ggX5_init_X4_init : GoodIn wsX5_init wsX4_init := goodIn_r _ [33, 34, 2, 3, 35, 36, 5, 6, 26, 27, 28, 29, 30, 89, 90, 80, 81] (by decide +kernel) (by decide +kernel)
set_option maxRecDepth 20000 in
theorem gX5_init_X4_init : GoodIn wsX5_init (wsX4_init) := ggX5_init_X4_init
set_option maxRecDepth 20000 in
theorem ggX5_init_X1_init : GoodIn wsX5_init wsX1_init := goodIn_r _ [38, 39, 2, 3, 29, 40, 41, 42, 43, 44, 45, 91, 92, 93, 94, 95, 96, 97, 98, 99, 100, 101] (by decide +kernel) (by decide +kernel)
set_option maxRecDepth 20000 in
theorem gX5_init_X1_init_n30 : GoodIn wsX5_init (wsX1_init) := ggX5_init_X1_init
set_option maxRecDepth 20000 in
theorem ggX5_init_X2_init : GoodIn wsX5_init wsX2_init := goodIn_r _ [48, 49, 2, 3, 50, 51, 52, 102, 103, 104] (by decide +kernel) (by decide +kernel)
set_option maxRecDepth 20000 in
theorem gX5_init_X2_init : GoodIn wsX5_init (wsX2_init) := ggX5_init_X2_init
set_option maxRecDepth 20000 in
theorem ggX5_init_X0_init : GoodIn wsX5_init wsX0_init := goodIn_r _ [55, 56, 2, 3, 29, 57, 58, 44, 59, 60, 61, 62, 105, 106, 107, 108, 109, 110, 111] (by decide +kernel) (by decide +kernel)
set_option maxRecDepth 20000 in
theorem gX5_init_X0_init : GoodIn wsX5_init (wsX0_init) := ggX5_init_X0_init
set_option maxRecDepth 20000 in
theorem ggX5_init_X5_startTable : GoodIn wsX5_init wsX5_startTable := goodIn_r _ [67, 16, 25, 24, 68, 69, 70, 15, 71, 72, 73, 74, 75, 76, 77, 78, 79, 40, 41, 82, 83, 84, 85, 86, 87, 88, 105, 106, 107, 108, 109, 110, 111, 91, 92, 93, 94, 95, 96, 97, 98, 99, 100, 101] (by decide +kernel) (by decide +kernel)
set_option maxRecDepth 20000 in
theorem gX5_init_X5_startTable : GoodIn wsX5_init (wsV RX5 57 RX5 yX5_startTable wsX5_startTable) := goodIn_app (goodIn_of _ (by decide +kernel)) ggX5_init_X5_startTable
theorem dX5_init_0 : decode cX5_init 0 = .ok (.aload_n 0, 1) := by decide +kernel
theorem dX5_init_1 : decode cX5_init 1 = .ok (.invokespecial 3, 3) := by decide +kernel
theorem dX5_init_4 : decode cX5_init 4 = .ok (.aload_n 0, 1) := by decide +kernel
theorem dX5_init_5 : decode cX5_init 5 = .ok (.new 9, 3) := by decide +kernel
theorem dX5_init_8 : decode cX5_init 8 = .ok (.dup, 1) := by decide +kernel
theorem dX5_init_9 : decode cX5_init 9 = .ok (.invokespecial 11, 3) := by decide +kernel
theorem dX5_init_12 : decode cX5_init 12 = .ok (.putfield 12, 3) := by decide +kernel
theorem dX5_init_15 : decode cX5_init 15 = .ok (.aload_n 0, 1) := by decide +kernel
theorem dX5_init_16 : decode cX5_init 16 = .ok (.new 16, 3) := by decide +kernel
theorem dX5_init_19 : decode cX5_init 19 = .ok (.dup, 1) := by decide +kernel
theorem dX5_init_20 : decode cX5_init 20 = .ok (.bipush 10, 2) := by decide +kernel
theorem dX5_init_22 : decode cX5_init 22 = .ok (.invokespecial 18, 3) := by decide +kernel
theorem dX5_init_25 : decode cX5_init 25 = .ok (.putfield 21, 3) := by decide +kernel
theorem dX5_init_28 : decode cX5_init 28 = .ok (.aload_n 0, 1) := by decide +kernel
theorem dX5_init_29 : decode cX5_init 29 = .ok (.new 16, 3) := by decide +kernel
theorem dX5_init_32 : decode cX5_init 32 = .ok (.dup, 1) := by decide +kernel
theorem dX5_init_33 : decode cX5_init 33 = .ok (.iconst 5, 1) := by decide +kernel
theorem dX5_init_34 : decode cX5_init 34 = .ok (.invokespecial 18, 3) := by decide +kernel
theorem dX5_init_37 : decode cX5_init 37 = .ok (.putfield 25, 3) := by decide +kernel
theorem dX5_init_40 : decode cX5_init 40 = .ok (.aload_n 0, 1) := by decide +kernel
theorem dX5_init_41 : decode cX5_init 41 = .ok (.new 28, 3) := by decide +kernel
theorem dX5_init_44 : decode cX5_init 44 = .ok (.dup, 1) := by decide +kernel
theorem dX5_init_45 : decode cX5_init 45 = .ok (.invokespecial 30, 3) := by decide +kernel
theorem dX5_init_48 : decode cX5_init 48 = .ok (.putfield 31, 3) := by decide +kernel
theorem dX5_init_51 : decode cX5_init 51 = .ok (.aload_n 0, 1) := by decide +kernel
theorem dX5_init_52 : decode cX5_init 52 = .ok (.new 35, 3) := by decide +kernel
theorem dX5_init_55 : decode cX5_init 55 = .ok (.dup, 1) := by decide +kernel
theorem dX5_init_56 : decode cX5_init 56 = .ok (.aload_n 0, 1) := by decide +kernel
theorem dX5_init_57 : decode cX5_init 57 = .ok (.getfield 31, 3) := by decide +kernel
theorem dX5_init_60 : decode cX5_init 60 = .ok (.aload_n 0, 1) := by decide +kernel
theorem dX5_init_61 : decode cX5_init 61 = .ok (.getfield 21, 3) := by decide +kernel
theorem dX5_init_64 : decode cX5_init 64 = .ok (.aload_n 0, 1) := by decide +kernel
theorem dX5_init_65 : decode cX5_init 65 = .ok (.getfield 25, 3) := by decide +kernel
theorem dX5_init_68 : decode cX5_init 68 = .ok (.invokespecial 37, 3) := by decide +kernel
theorem dX5_init_71 : decode cX5_init 71 = .ok (.putfield 40, 3) := by decide +kernel
theorem dX5_init_74 : decode cX5_init 74 = .ok (.aload_n 0, 1) := by decide +kernel
theorem dX5_init_75 : decode cX5_init 75 = .ok (.new 44, 3) := by decide +kernel
theorem dX5_init_78 : decode cX5_init 78 = .ok (.dup, 1) := by decide +kernel
theorem dX5_init_79 : decode cX5_init 79 = .ok (.aload_n 0, 1) := by decide +kernel
theorem dX5_init_80 : decode cX5_init 80 = .ok (.getfield 31, 3) := by decide +kernel
theorem dX5_init_83 : decode cX5_init 83 = .ok (.aload_n 0, 1) := by decide +kernel
theorem dX5_init_84 : decode cX5_init 84 = .ok (.getfield 25, 3) := by decide +kernel
theorem dX5_init_87 : decode cX5_init 87 = .ok (.invokespecial 46, 3) := by decide +kernel
theorem dX5_init_90 : decode cX5_init 90 = .ok (.putfield 49, 3) := by decide +kernel
theorem dX5_init_93 : decode cX5_init 93 = .ok (.aload_n 0, 1) := by decide +kernel
theorem dX5_init_94 : decode cX5_init 94 = .ok (.iconst 1, 1) := by decide +kernel
theorem dX5_init_95 : decode cX5_init 95 = .ok (.putfield 53, 3) := by decide +kernel
theorem dX5_init_98 : decode cX5_init 98 = .ok (.aload_n 0, 1) := by decide +kernel
theorem dX5_init_99 : decode cX5_init 99 = .ok (.invokevirtual 57, 3) := by decide +kernel
theorem dX5_init_102 : decode cX5_init 102 = .ok (.return_, 1) := by decide +kernel
set_option maxRecDepth 20000 in
theorem ggX5_begin_X5_startTable : GoodIn wsX5_begin wsX5_startTable := goodIn_r _ [9, 10, 1, 11, 12, 13, 14, 15, 16, 17, 18, 19, 20, 21, 22, 23, 24, 25, 26, 27, 28, 29, 30, 31, 32, 33, 38, 39, 40, 41, 42, 43, 44, 45, 46, 47, 48, 49, 50, 51, 52, 53, 54, 55] (by decide +kernel) (by decide +kernel)
set_option maxRecDepth 20000 in
theorem gX5_begin_X5_startTable : GoodIn wsX5_begin (wsV RX5 57 RX5 yX5_startTable wsX5_startTable) := goodIn_app (goodIn_of _ (by decide +kernel)) ggX5_begin_X5_startTable
theorem dX5_begin_0 : decode cX5_begin 0 = .ok (.iload_n 1, 1) := by decide +kernel
theorem dX5_begin_1 : decode cX5_begin 1 = .ok (.iconst 1, 1) := by decide +kernel
theorem dX5_begin_2 : decode cX5_begin 2 = .ok (.if_icmp .lt 8, 3) := by decide +kernel
theorem dX5_begin_5 : decode cX5_begin 5 = .ok (.iload_n 1, 1) := by decide +kernel
theorem dX5_begin_6 : decode cX5_begin 6 = .ok (.iconst 3, 1) := by decide +kernel
theorem dX5_begin_7 : decode cX5_begin 7 = .ok (.if_icmp .le 5, 3) := by decide +kernel
theorem dX5_begin_10 : decode cX5_begin 10 = .ok (.iconst (-1), 1) := by decide +kernel
theorem dX5_begin_11 : decode cX5_begin 11 = .ok (.ireturn, 1) := by decide +kernel
theorem dX5_begin_12 : decode cX5_begin 12 = .ok (.aload_n 0, 1) := by decide +kernel
theorem dX5_begin_13 : decode cX5_begin 13 = .ok (.iload_n 1, 1) := by decide +kernel
theorem dX5_begin_14 : decode cX5_begin 14 = .ok (.putfield 53, 3) := by decide +kernel
