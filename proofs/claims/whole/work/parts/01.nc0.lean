theorem inlX0 : ∀ w ∈ wsX00, w ∈ wsL_law := fun _ h => List.mem_append_left _ (List.mem_append_right _ h)
theorem inX0 : ∀ w ∈ wsX00, w ∈ lw_tbl := fun w h => wsL_law_in w (inlX0 w h)
theorem inlX1 : ∀ w ∈ wsX10, w ∈ wsL_law := fun _ h => List.mem_append_left _ (List.mem_append_left _ (List.mem_append_left _ (List.mem_append_right _ h)))
theorem inX1 : ∀ w ∈ wsX10, w ∈ lw_tbl := fun w h => wsL_law_in w (inlX1 w h)
theorem inlX2 : ∀ w ∈ wsX20, w ∈ wsL_law := fun _ h => List.mem_append_left _ (List.mem_append_left _ (List.mem_append_right _ h))
theorem inX2 : ∀ w ∈ wsX20, w ∈ lw_tbl := fun w h => wsL_law_in w (inlX2 w h)
theorem inlX3 : ∀ w ∈ wsX30, w ∈ wsL_law := fun _ h => List.mem_append_left _ (List.mem_append_left _ (List.mem_append_left _ (List.mem_append_left _ (List.mem_append_left _ (List.mem_append_right _ h)))))
theorem inX3 : ∀ w ∈ wsX30, w ∈ lw_tbl := fun w h => wsL_law_in w (inlX3 w h)
theorem inlX4 : ∀ w ∈ wsX40, w ∈ wsL_law := fun _ h => List.mem_append_left _ (List.mem_append_left _ (List.mem_append_left _ (List.mem_append_left _ (List.mem_append_right _ h))))
theorem inX4 : ∀ w ∈ wsX40, w ∈ lw_tbl := fun w h => wsL_law_in w (inlX4 w h)
theorem inlX5 : ∀ w ∈ wsX50, w ∈ wsL_law := fun _ h => List.mem_append_left _ (List.mem_append_left _ (List.mem_append_left _ (List.mem_append_left _ (List.mem_append_left _ (List.mem_append_left _ (List.mem_append_left _ (List.mem_append_right _ h)))))))
theorem inX5 : ∀ w ∈ wsX50, w ∈ lw_tbl := fun w h => wsL_law_in w (inlX5 w h)
theorem inlX6 : ∀ w ∈ wsX60, w ∈ wsL_law := fun _ h => List.mem_append_left _ (List.mem_append_left _ (List.mem_append_left _ (List.mem_append_left _ (List.mem_append_left _ (List.mem_append_left _ (List.mem_append_right _ h))))))
theorem inX6 : ∀ w ∈ wsX60, w ∈ lw_tbl := fun w h => wsL_law_in w (inlX6 w h)
theorem inJ9 : ∀ w ∈ wsJ90, w ∈ lw_tbl := by decide +kernel
theorem inJ10 : ∀ w ∈ wsJ100, w ∈ lw_tbl := by decide +kernel
theorem inJ7 : ∀ w ∈ wsJ70, w ∈ lw_tbl := by decide +kernel
theorem dX0_init_0 : decode cX0_init 0 = .ok (.aload_n 0, 1) := by decide +kernel
theorem dX0_init_1 : decode cX0_init 1 = .ok (.invokespecial 3, 3) := by decide +kernel
theorem dX0_init_4 : decode cX0_init 4 = .ok (.aload_n 0, 1) := by decide +kernel
theorem dX0_init_5 : decode cX0_init 5 = .ok (.sipush 200, 3) := by decide +kernel
theorem dX0_init_8 : decode cX0_init 8 = .ok (.newarray .int, 2) := by decide +kernel
theorem dX0_init_10 : decode cX0_init 10 = .ok (.putfield 9, 3) := by decide +kernel
theorem dX0_init_13 : decode cX0_init 13 = .ok (.aload_n 0, 1) := by decide +kernel
theorem dX0_init_14 : decode cX0_init 14 = .ok (.sipush 200, 3) := by decide +kernel
theorem dX0_init_17 : decode cX0_init 17 = .ok (.newarray .int, 2) := by decide +kernel
theorem dX0_init_19 : decode cX0_init 19 = .ok (.putfield 15, 3) := by decide +kernel
theorem dX0_init_22 : decode cX0_init 22 = .ok (.aload_n 0, 1) := by decide +kernel
theorem dX0_init_23 : decode cX0_init 23 = .ok (.sipush 200, 3) := by decide +kernel
theorem dX0_init_26 : decode cX0_init 26 = .ok (.newarray .boolean, 2) := by decide +kernel
theorem dX0_init_28 : decode cX0_init 28 = .ok (.putfield 18, 3) := by decide +kernel
theorem dX0_init_31 : decode cX0_init 31 = .ok (.aload_n 0, 1) := by decide +kernel
theorem dX0_init_32 : decode cX0_init 32 = .ok (.sipush 200, 3) := by decide +kernel
theorem dX0_init_35 : decode cX0_init 35 = .ok (.newarray .int, 2) := by decide +kernel
theorem dX0_init_37 : decode cX0_init 37 = .ok (.putfield 22, 3) := by decide +kernel
theorem dX0_init_40 : decode cX0_init 40 = .ok (.aload_n 0, 1) := by decide +kernel
theorem dX0_init_41 : decode cX0_init 41 = .ok (.aload_n 1, 1) := by decide +kernel
theorem dX0_init_42 : decode cX0_init 42 = .ok (.putfield 25, 3) := by decide +kernel
theorem dX0_init_45 : decode cX0_init 45 = .ok (.aload_n 0, 1) := by decide +kernel
theorem dX0_init_46 : decode cX0_init 46 = .ok (.aload_n 2, 1) := by decide +kernel
theorem dX0_init_47 : decode cX0_init 47 = .ok (.putfield 29, 3) := by decide +kernel
theorem dX0_init_50 : decode cX0_init 50 = .ok (.return_, 1) := by decide +kernel
theorem dX0_isReady_0 : decode cX0_isReady 0 = .ok (.aload_n 0, 1) := by decide +kernel
theorem dX0_isReady_1 : decode cX0_isReady 1 = .ok (.getfield 33, 3) := by decide +kernel
theorem dX0_isReady_4 : decode cX0_isReady 4 = .ok (.ifCond .le 7, 3) := by decide +kernel
theorem dX0_isReady_7 : decode cX0_isReady 7 = .ok (.iconst 1, 1) := by decide +kernel
theorem dX0_isReady_8 : decode cX0_isReady 8 = .ok (.goto 4, 3) := by decide +kernel
theorem dX0_isReady_11 : decode cX0_isReady 11 = .ok (.iconst 0, 1) := by decide +kernel
theorem dX0_isReady_12 : decode cX0_isReady 12 = .ok (.ireturn, 1) := by decide +kernel
theorem dX0_hasNumber_0 : decode cX0_hasNumber 0 = .ok (.iload_n 1, 1) := by decide +kernel
theorem dX0_hasNumber_1 : decode cX0_hasNumber 1 = .ok (.ifCond .lt 15, 3) := by decide +kernel
theorem dX0_hasNumber_4 : decode cX0_hasNumber 4 = .ok (.iload_n 1, 1) := by decide +kernel
theorem dX0_hasNumber_5 : decode cX0_hasNumber 5 = .ok (.aload_n 0, 1) := by decide +kernel
theorem dX0_hasNumber_6 : decode cX0_hasNumber 6 = .ok (.getfield 33, 3) := by decide +kernel
theorem dX0_hasNumber_9 : decode cX0_hasNumber 9 = .ok (.if_icmp .ge 7, 3) := by decide +kernel
theorem dX0_hasNumber_12 : decode cX0_hasNumber 12 = .ok (.iconst 1, 1) := by decide +kernel
theorem dX0_hasNumber_13 : decode cX0_hasNumber 13 = .ok (.goto 4, 3) := by decide +kernel
theorem dX0_hasNumber_16 : decode cX0_hasNumber 16 = .ok (.iconst 0, 1) := by decide +kernel
theorem dX0_hasNumber_17 : decode cX0_hasNumber 17 = .ok (.ireturn, 1) := by decide +kernel
set_option maxRecDepth 20000 in
theorem ggX0_giveNumbers_J7_fill_53178 : GoodIn wsX0_giveNumbers wsJ7_fill_53178 := goodIn_r _ [8] (by decide +kernel) (by decide +kernel)
set_option maxRecDepth 20000 in
theorem gX0_giveNumbers_J7_fill_53178 : GoodIn wsX0_giveNumbers (va_wsS RX0 37 yJ7_fill_53178 wsJ7_fill_53178) := goodIn_app (goodIn_of _ (by decide +kernel)) ggX0_giveNumbers_J7_fill_53178
set_option maxRecDepth 20000 in
theorem ggX0_giveNumbers_X0_giveNextNumber : GoodIn wsX0_giveNumbers wsX0_giveNextNumber := goodIn_r _ [13, 1, 2, 4, 20, 21, 22, 23, 24, 25, 26] (by decide +kernel) (by decide +kernel)
set_option maxRecDepth 20000 in
theorem gX0_giveNumbers_X0_giveNextNumber : GoodIn wsX0_giveNumbers (wsV RX0 43 RX0 yX0_giveNextNumber wsX0_giveNextNumber) := goodIn_app (goodIn_of _ (by decide +kernel)) ggX0_giveNumbers_X0_giveNextNumber
set_option maxRecDepth 20000 in
theorem ggX0_giveNumbers_X1_at : GoodIn wsX0_giveNumbers wsX1_at := goodIn_r _ [18, 19, 27, 28, 29, 30, 31, 32, 33, 34, 35, 36, 37] (by decide +kernel) (by decide +kernel)
set_option maxRecDepth 20000 in
theorem gX0_giveNumbers_X1_at : GoodIn wsX0_giveNumbers (wsV RX0 52 RX1 yX1_at wsX1_at) := goodIn_app (goodIn_of _ (by decide +kernel)) ggX0_giveNumbers_X1_at
theorem dX0_giveNumbers_0 : decode cX0_giveNumbers 0 = .ok (.aload_n 0, 1) := by decide +kernel
theorem dX0_giveNumbers_1 : decode cX0_giveNumbers 1 = .ok (.getfield 9, 3) := by decide +kernel
theorem dX0_giveNumbers_4 : decode cX0_giveNumbers 4 = .ok (.iconst (-1), 1) := by decide +kernel
theorem dX0_giveNumbers_5 : decode cX0_giveNumbers 5 = .ok (.invokestatic 37, 3) := by decide +kernel
theorem dX0_giveNumbers_8 : decode cX0_giveNumbers 8 = .ok (.aload_n 0, 1) := by decide +kernel
theorem dX0_giveNumbers_9 : decode cX0_giveNumbers 9 = .ok (.iconst 0, 1) := by decide +kernel
theorem dX0_giveNumbers_10 : decode cX0_giveNumbers 10 = .ok (.putfield 33, 3) := by decide +kernel
theorem dX0_giveNumbers_13 : decode cX0_giveNumbers 13 = .ok (.aload_n 0, 1) := by decide +kernel
theorem dX0_giveNumbers_14 : decode cX0_giveNumbers 14 = .ok (.iconst 0, 1) := by decide +kernel
theorem dX0_giveNumbers_15 : decode cX0_giveNumbers 15 = .ok (.invokevirtual 43, 3) := by decide +kernel
theorem dX0_giveNumbers_18 : decode cX0_giveNumbers 18 = .ok (.iconst 0, 1) := by decide +kernel
theorem dX0_giveNumbers_19 : decode cX0_giveNumbers 19 = .ok (.istore_n 1, 1) := by decide +kernel
theorem dX0_giveNumbers_20 : decode cX0_giveNumbers 20 = .ok (.iload_n 1, 1) := by decide +kernel
theorem dX0_giveNumbers_21 : decode cX0_giveNumbers 21 = .ok (.aload_n 0, 1) := by decide +kernel
theorem dX0_giveNumbers_22 : decode cX0_giveNumbers 22 = .ok (.getfield 33, 3) := by decide +kernel
theorem dX0_giveNumbers_25 : decode cX0_giveNumbers 25 = .ok (.if_icmp .ge 53, 3) := by decide +kernel
theorem dX0_giveNumbers_28 : decode cX0_giveNumbers 28 = .ok (.iload_n 1, 1) := by decide +kernel
theorem dX0_giveNumbers_29 : decode cX0_giveNumbers 29 = .ok (.sipush 200, 3) := by decide +kernel
theorem dX0_giveNumbers_32 : decode cX0_giveNumbers 32 = .ok (.if_icmp .ge 46, 3) := by decide +kernel
theorem dX0_giveNumbers_35 : decode cX0_giveNumbers 35 = .ok (.iconst 0, 1) := by decide +kernel
theorem dX0_giveNumbers_36 : decode cX0_giveNumbers 36 = .ok (.istore_n 2, 1) := by decide +kernel
theorem dX0_giveNumbers_37 : decode cX0_giveNumbers 37 = .ok (.iload_n 2, 1) := by decide +kernel
theorem dX0_giveNumbers_38 : decode cX0_giveNumbers 38 = .ok (.aload_n 0, 1) := by decide +kernel
theorem dX0_giveNumbers_39 : decode cX0_giveNumbers 39 = .ok (.getfield 25, 3) := by decide +kernel
theorem dX0_giveNumbers_42 : decode cX0_giveNumbers 42 = .ok (.getfield 47, 3) := by decide +kernel
theorem dX0_giveNumbers_45 : decode cX0_giveNumbers 45 = .ok (.if_icmp .ge 27, 3) := by decide +kernel
theorem dX0_giveNumbers_48 : decode cX0_giveNumbers 48 = .ok (.aload_n 0, 1) := by decide +kernel
theorem dX0_giveNumbers_49 : decode cX0_giveNumbers 49 = .ok (.aload_n 0, 1) := by decide +kernel
theorem dX0_giveNumbers_50 : decode cX0_giveNumbers 50 = .ok (.getfield 25, 3) := by decide +kernel
theorem dX0_giveNumbers_53 : decode cX0_giveNumbers 53 = .ok (.aload_n 0, 1) := by decide +kernel
theorem dX0_giveNumbers_54 : decode cX0_giveNumbers 54 = .ok (.getfield 15, 3) := by decide +kernel
theorem dX0_giveNumbers_57 : decode cX0_giveNumbers 57 = .ok (.iload_n 1, 1) := by decide +kernel
theorem dX0_giveNumbers_58 : decode cX0_giveNumbers 58 = .ok (.iaload, 1) := by decide +kernel
theorem dX0_giveNumbers_59 : decode cX0_giveNumbers 59 = .ok (.iload_n 2, 1) := by decide +kernel
theorem dX0_giveNumbers_60 : decode cX0_giveNumbers 60 = .ok (.invokevirtual 52, 3) := by decide +kernel
theorem dX0_giveNumbers_63 : decode cX0_giveNumbers 63 = .ok (.invokevirtual 43, 3) := by decide +kernel
theorem dX0_giveNumbers_66 : decode cX0_giveNumbers 66 = .ok (.iinc 2 1, 3) := by decide +kernel
theorem dX0_giveNumbers_69 : decode cX0_giveNumbers 69 = .ok (.goto (-32), 3) := by decide +kernel
theorem dX0_giveNumbers_72 : decode cX0_giveNumbers 72 = .ok (.iinc 1 1, 3) := by decide +kernel
theorem dX0_giveNumbers_75 : decode cX0_giveNumbers 75 = .ok (.goto (-55), 3) := by decide +kernel
theorem dX0_giveNumbers_78 : decode cX0_giveNumbers 78 = .ok (.return_, 1) := by decide +kernel
theorem dX0_giveNextNumber_0 : decode cX0_giveNextNumber 0 = .ok (.aload_n 0, 1) := by decide +kernel
theorem dX0_giveNextNumber_1 : decode cX0_giveNextNumber 1 = .ok (.getfield 9, 3) := by decide +kernel
theorem dX0_giveNextNumber_4 : decode cX0_giveNextNumber 4 = .ok (.iload_n 1, 1) := by decide +kernel
theorem dX0_giveNextNumber_5 : decode cX0_giveNextNumber 5 = .ok (.iaload, 1) := by decide +kernel
theorem dX0_giveNextNumber_6 : decode cX0_giveNextNumber 6 = .ok (.iconst (-1), 1) := by decide +kernel
theorem dX0_giveNextNumber_7 : decode cX0_giveNextNumber 7 = .ok (.if_icmp .ne 33, 3) := by decide +kernel
theorem dX0_giveNextNumber_10 : decode cX0_giveNextNumber 10 = .ok (.aload_n 0, 1) := by decide +kernel
theorem dX0_giveNextNumber_11 : decode cX0_giveNextNumber 11 = .ok (.getfield 9, 3) := by decide +kernel
theorem dX0_giveNextNumber_14 : decode cX0_giveNextNumber 14 = .ok (.iload_n 1, 1) := by decide +kernel
theorem dX0_giveNextNumber_15 : decode cX0_giveNextNumber 15 = .ok (.aload_n 0, 1) := by decide +kernel
theorem dX0_giveNextNumber_16 : decode cX0_giveNextNumber 16 = .ok (.getfield 33, 3) := by decide +kernel
theorem dX0_giveNextNumber_19 : decode cX0_giveNextNumber 19 = .ok (.iastore, 1) := by decide +kernel
theorem dX0_giveNextNumber_20 : decode cX0_giveNextNumber 20 = .ok (.aload_n 0, 1) := by decide +kernel
theorem dX0_giveNextNumber_21 : decode cX0_giveNextNumber 21 = .ok (.getfield 15, 3) := by decide +kernel
theorem dX0_giveNextNumber_24 : decode cX0_giveNextNumber 24 = .ok (.aload_n 0, 1) := by decide +kernel
theorem dX0_giveNextNumber_25 : decode cX0_giveNextNumber 25 = .ok (.getfield 33, 3) := by decide +kernel
theorem dX0_giveNextNumber_28 : decode cX0_giveNextNumber 28 = .ok (.iload_n 1, 1) := by decide +kernel
theorem dX0_giveNextNumber_29 : decode cX0_giveNextNumber 29 = .ok (.iastore, 1) := by decide +kernel
theorem dX0_giveNextNumber_30 : decode cX0_giveNextNumber 30 = .ok (.aload_n 0, 1) := by decide +kernel
theorem dX0_giveNextNumber_31 : decode cX0_giveNextNumber 31 = .ok (.dup, 1) := by decide +kernel
theorem dX0_giveNextNumber_32 : decode cX0_giveNextNumber 32 = .ok (.getfield 33, 3) := by decide +kernel
theorem dX0_giveNextNumber_35 : decode cX0_giveNextNumber 35 = .ok (.iconst 1, 1) := by decide +kernel
theorem dX0_giveNextNumber_36 : decode cX0_giveNextNumber 36 = .ok (.iadd, 1) := by decide +kernel
theorem dX0_giveNextNumber_37 : decode cX0_giveNextNumber 37 = .ok (.putfield 33, 3) := by decide +kernel
theorem dX0_giveNextNumber_40 : decode cX0_giveNextNumber 40 = .ok (.return_, 1) := by decide +kernel
set_option maxRecDepth 20000 in
theorem ggX0_letterImage_X1_at : GoodIn wsX0_letterImage wsX1_at := goodIn_r _ [8, 9, 17, 18, 19, 20, 21, 22, 23, 24, 25, 26, 27] (by decide +kernel) (by decide +kernel)
set_option maxRecDepth 20000 in
theorem gX0_letterImage_X1_at : GoodIn wsX0_letterImage (wsV RX0 52 RX1 yX1_at wsX1_at) := goodIn_app (goodIn_of _ (by decide +kernel)) ggX0_letterImage_X1_at
theorem dX0_letterImage_0 : decode cX0_letterImage 0 = .ok (.aload_n 0, 1) := by decide +kernel
theorem dX0_letterImage_1 : decode cX0_letterImage 1 = .ok (.getfield 9, 3) := by decide +kernel
theorem dX0_letterImage_4 : decode cX0_letterImage 4 = .ok (.aload_n 0, 1) := by decide +kernel
theorem dX0_letterImage_5 : decode cX0_letterImage 5 = .ok (.getfield 25, 3) := by decide +kernel
theorem dX0_letterImage_8 : decode cX0_letterImage 8 = .ok (.aload_n 0, 1) := by decide +kernel
theorem dX0_letterImage_9 : decode cX0_letterImage 9 = .ok (.getfield 15, 3) := by decide +kernel
theorem dX0_letterImage_12 : decode cX0_letterImage 12 = .ok (.iload_n 1, 1) := by decide +kernel
theorem dX0_letterImage_13 : decode cX0_letterImage 13 = .ok (.iaload, 1) := by decide +kernel
theorem dX0_letterImage_14 : decode cX0_letterImage 14 = .ok (.iload_n 2, 1) := by decide +kernel
theorem dX0_letterImage_15 : decode cX0_letterImage 15 = .ok (.invokevirtual 52, 3) := by decide +kernel
theorem dX0_letterImage_18 : decode cX0_letterImage 18 = .ok (.iaload, 1) := by decide +kernel
theorem dX0_letterImage_19 : decode cX0_letterImage 19 = .ok (.ireturn, 1) := by decide +kernel
set_option maxRecDepth 20000 in
theorem ggX0_image_X1_at : GoodIn wsX0_image wsX1_at := goodIn_r _ [8, 9, 19, 20, 21, 22, 23, 24, 25, 26, 27, 28, 29] (by decide +kernel) (by decide +kernel)
set_option maxRecDepth 20000 in
theorem gX0_image_X1_at : GoodIn wsX0_image (wsV RX0 52 RX1 yX1_at wsX1_at) := goodIn_app (goodIn_of _ (by decide +kernel)) ggX0_image_X1_at
theorem dX0_image_0 : decode cX0_image 0 = .ok (.aload_n 0, 1) := by decide +kernel
theorem dX0_image_1 : decode cX0_image 1 = .ok (.getfield 15, 3) := by decide +kernel
theorem dX0_image_4 : decode cX0_image 4 = .ok (.iload_n 1, 1) := by decide +kernel
theorem dX0_image_5 : decode cX0_image 5 = .ok (.iaload, 1) := by decide +kernel
theorem dX0_image_6 : decode cX0_image 6 = .ok (.istore_n 3, 1) := by decide +kernel
theorem dX0_image_7 : decode cX0_image 7 = .ok (.iconst 0, 1) := by decide +kernel
theorem dX0_image_8 : decode cX0_image 8 = .ok (.istore 4, 2) := by decide +kernel
theorem dX0_image_10 : decode cX0_image 10 = .ok (.iload 4, 2) := by decide +kernel
theorem dX0_image_12 : decode cX0_image 12 = .ok (.aload_n 2, 1) := by decide +kernel
theorem dX0_image_13 : decode cX0_image 13 = .ok (.getfield 56, 3) := by decide +kernel
theorem dX0_image_16 : decode cX0_image 16 = .ok (.if_icmp .ge 25, 3) := by decide +kernel
theorem dX0_image_19 : decode cX0_image 19 = .ok (.aload_n 0, 1) := by decide +kernel
theorem dX0_image_20 : decode cX0_image 20 = .ok (.getfield 25, 3) := by decide +kernel
theorem dX0_image_23 : decode cX0_image 23 = .ok (.iload_n 3, 1) := by decide +kernel
theorem dX0_image_24 : decode cX0_image 24 = .ok (.aload_n 2, 1) := by decide +kernel
theorem dX0_image_25 : decode cX0_image 25 = .ok (.getfield 61, 3) := by decide +kernel
theorem dX0_image_28 : decode cX0_image 28 = .ok (.iload 4, 2) := by decide +kernel
theorem dX0_image_30 : decode cX0_image 30 = .ok (.iaload, 1) := by decide +kernel
theorem dX0_image_31 : decode cX0_image 31 = .ok (.invokevirtual 52, 3) := by decide +kernel
theorem dX0_image_34 : decode cX0_image 34 = .ok (.istore_n 3, 1) := by decide +kernel
theorem dX0_image_35 : decode cX0_image 35 = .ok (.iinc 4 1, 3) := by decide +kernel
theorem dX0_image_38 : decode cX0_image 38 = .ok (.goto (-28), 3) := by decide +kernel
theorem dX0_image_41 : decode cX0_image 41 = .ok (.aload_n 0, 1) := by decide +kernel
theorem dX0_image_42 : decode cX0_image 42 = .ok (.getfield 9, 3) := by decide +kernel
theorem dX0_image_45 : decode cX0_image 45 = .ok (.iload_n 3, 1) := by decide +kernel
theorem dX0_image_46 : decode cX0_image 46 = .ok (.iaload, 1) := by decide +kernel
theorem dX0_image_47 : decode cX0_image 47 = .ok (.ireturn, 1) := by decide +kernel
set_option maxRecDepth 20000 in
theorem ggX0_countCycles_X0_forgetSeen : GoodIn wsX0_countCycles wsX0_forgetSeen := goodIn_r _ [6, 1, 7, 25, 26, 27, 28, 29, 30, 31] (by decide +kernel) (by decide +kernel)
set_option maxRecDepth 20000 in
theorem gX0_countCycles_X0_forgetSeen : GoodIn wsX0_countCycles (wsV RX0 63 RX0 yX0_forgetSeen wsX0_forgetSeen) := goodIn_app (goodIn_of _ (by decide +kernel)) ggX0_countCycles_X0_forgetSeen
set_option maxRecDepth 20000 in
theorem ggX0_countCycles_X0_seeCycle : GoodIn wsX0_countCycles wsX0_seeCycle := goodIn_r _ [11, 1, 7, 12, 13, 14, 5, 15, 16, 17, 18, 19, 20, 21, 22, 23, 24, 25, 26, 27, 28, 29, 30, 31, 32, 33, 34, 35, 36, 37, 38, 39, 40, 41, 42, 43, 44] (by decide +kernel) (by decide +kernel)
set_option maxRecDepth 20000 in
theorem gX0_countCycles_X0_seeCycle : GoodIn wsX0_countCycles (wsV RX0 66 RX0 yX0_seeCycle wsX0_seeCycle) := goodIn_app (goodIn_of _ (by decide +kernel)) ggX0_countCycles_X0_seeCycle
theorem dX0_countCycles_0 : decode cX0_countCycles 0 = .ok (.aload_n 0, 1) := by decide +kernel
theorem dX0_countCycles_1 : decode cX0_countCycles 1 = .ok (.invokevirtual 63, 3) := by decide +kernel
theorem dX0_countCycles_4 : decode cX0_countCycles 4 = .ok (.iconst 0, 1) := by decide +kernel
theorem dX0_countCycles_5 : decode cX0_countCycles 5 = .ok (.istore_n 3, 1) := by decide +kernel
theorem dX0_countCycles_6 : decode cX0_countCycles 6 = .ok (.iconst 0, 1) := by decide +kernel
theorem dX0_countCycles_7 : decode cX0_countCycles 7 = .ok (.istore 4, 2) := by decide +kernel
theorem dX0_countCycles_9 : decode cX0_countCycles 9 = .ok (.iload 4, 2) := by decide +kernel
theorem dX0_countCycles_11 : decode cX0_countCycles 11 = .ok (.aload_n 0, 1) := by decide +kernel
theorem dX0_countCycles_12 : decode cX0_countCycles 12 = .ok (.getfield 33, 3) := by decide +kernel
theorem dX0_countCycles_15 : decode cX0_countCycles 15 = .ok (.if_icmp .ge 39, 3) := by decide +kernel
theorem dX0_countCycles_18 : decode cX0_countCycles 18 = .ok (.aload_n 0, 1) := by decide +kernel
theorem dX0_countCycles_19 : decode cX0_countCycles 19 = .ok (.aload_n 1, 1) := by decide +kernel
theorem dX0_countCycles_20 : decode cX0_countCycles 20 = .ok (.iload 4, 2) := by decide +kernel
theorem dX0_countCycles_22 : decode cX0_countCycles 22 = .ok (.invokevirtual 66, 3) := by decide +kernel
theorem dX0_countCycles_25 : decode cX0_countCycles 25 = .ok (.istore 5, 2) := by decide +kernel
theorem dX0_countCycles_27 : decode cX0_countCycles 27 = .ok (.iload_n 2, 1) := by decide +kernel
theorem dX0_countCycles_28 : decode cX0_countCycles 28 = .ok (.ifCond .eq 12, 3) := by decide +kernel
theorem dX0_countCycles_31 : decode cX0_countCycles 31 = .ok (.iload 5, 2) := by decide +kernel
theorem dX0_countCycles_33 : decode cX0_countCycles 33 = .ok (.iconst 1, 1) := by decide +kernel
theorem dX0_countCycles_34 : decode cX0_countCycles 34 = .ok (.if_icmp .ne 14, 3) := by decide +kernel
theorem dX0_countCycles_37 : decode cX0_countCycles 37 = .ok (.goto 8, 3) := by decide +kernel
theorem dX0_countCycles_40 : decode cX0_countCycles 40 = .ok (.iload 5, 2) := by decide +kernel
theorem dX0_countCycles_42 : decode cX0_countCycles 42 = .ok (.ifCond .le 6, 3) := by decide +kernel
theorem dX0_countCycles_45 : decode cX0_countCycles 45 = .ok (.iinc 3 1, 3) := by decide +kernel
theorem dX0_countCycles_48 : decode cX0_countCycles 48 = .ok (.iinc 4 1, 3) := by decide +kernel
theorem dX0_countCycles_51 : decode cX0_countCycles 51 = .ok (.goto (-42), 3) := by decide +kernel
theorem dX0_countCycles_54 : decode cX0_countCycles 54 = .ok (.iload_n 3, 1) := by decide +kernel
theorem dX0_countCycles_55 : decode cX0_countCycles 55 = .ok (.ireturn, 1) := by decide +kernel
set_option maxRecDepth 20000 in
theorem ggX0_orderOf_X0_forgetSeen : GoodIn wsX0_orderOf wsX0_forgetSeen := goodIn_r _ [6, 1, 7, 29, 30, 31, 32, 33, 34, 35] (by decide +kernel) (by decide +kernel)
set_option maxRecDepth 20000 in
theorem gX0_orderOf_X0_forgetSeen : GoodIn wsX0_orderOf (wsV RX0 63 RX0 yX0_forgetSeen wsX0_forgetSeen) := goodIn_app (goodIn_of _ (by decide +kernel)) ggX0_orderOf_X0_forgetSeen
set_option maxRecDepth 20000 in
theorem ggX0_orderOf_X0_seeCycle : GoodIn wsX0_orderOf wsX0_seeCycle := goodIn_r _ [11, 1, 7, 12, 13, 14, 5, 15, 16, 17, 18, 19, 20, 21, 22, 23, 24, 29, 30, 31, 32, 33, 34, 35, 36, 37, 38, 39, 40, 41, 42, 43, 44, 45, 46, 47, 48] (by decide +kernel) (by decide +kernel)
set_option maxRecDepth 20000 in
theorem gX0_orderOf_X0_seeCycle : GoodIn wsX0_orderOf (wsV RX0 66 RX0 yX0_seeCycle wsX0_seeCycle) := goodIn_app (goodIn_of _ (by decide +kernel)) ggX0_orderOf_X0_seeCycle
set_option maxRecDepth 20000 in
theorem ggX0_orderOf_X0_leastCommonMultiple : GoodIn wsX0_orderOf wsX0_leastCommonMultiple := goodIn_r _ [27, 28] (by decide +kernel) (by decide +kernel)
set_option maxRecDepth 20000 in
theorem gX0_orderOf_X0_leastCommonMultiple : GoodIn wsX0_orderOf (va_wsS RX0 70 yX0_leastCommonMultiple wsX0_leastCommonMultiple) := goodIn_app (goodIn_of _ (by decide +kernel)) ggX0_orderOf_X0_leastCommonMultiple
theorem dX0_orderOf_0 : decode cX0_orderOf 0 = .ok (.aload_n 0, 1) := by decide +kernel
theorem dX0_orderOf_1 : decode cX0_orderOf 1 = .ok (.invokevirtual 63, 3) := by decide +kernel
theorem dX0_orderOf_4 : decode cX0_orderOf 4 = .ok (.lconst 1, 1) := by decide +kernel
theorem dX0_orderOf_5 : decode cX0_orderOf 5 = .ok (.lstore_n 2, 1) := by decide +kernel
theorem dX0_orderOf_6 : decode cX0_orderOf 6 = .ok (.iconst 0, 1) := by decide +kernel
theorem dX0_orderOf_7 : decode cX0_orderOf 7 = .ok (.istore 4, 2) := by decide +kernel
theorem dX0_orderOf_9 : decode cX0_orderOf 9 = .ok (.iload 4, 2) := by decide +kernel
theorem dX0_orderOf_11 : decode cX0_orderOf 11 = .ok (.aload_n 0, 1) := by decide +kernel
theorem dX0_orderOf_12 : decode cX0_orderOf 12 = .ok (.getfield 33, 3) := by decide +kernel
theorem dX0_orderOf_15 : decode cX0_orderOf 15 = .ok (.if_icmp .ge 31, 3) := by decide +kernel
theorem dX0_orderOf_18 : decode cX0_orderOf 18 = .ok (.aload_n 0, 1) := by decide +kernel
theorem dX0_orderOf_19 : decode cX0_orderOf 19 = .ok (.aload_n 1, 1) := by decide +kernel
theorem dX0_orderOf_20 : decode cX0_orderOf 20 = .ok (.iload 4, 2) := by decide +kernel
theorem dX0_orderOf_22 : decode cX0_orderOf 22 = .ok (.invokevirtual 66, 3) := by decide +kernel
theorem dX0_orderOf_25 : decode cX0_orderOf 25 = .ok (.istore 5, 2) := by decide +kernel
theorem dX0_orderOf_27 : decode cX0_orderOf 27 = .ok (.iload 5, 2) := by decide +kernel
theorem dX0_orderOf_29 : decode cX0_orderOf 29 = .ok (.ifCond .le 11, 3) := by decide +kernel
theorem dX0_orderOf_32 : decode cX0_orderOf 32 = .ok (.lload_n 2, 1) := by decide +kernel
theorem dX0_orderOf_33 : decode cX0_orderOf 33 = .ok (.iload 5, 2) := by decide +kernel
theorem dX0_orderOf_35 : decode cX0_orderOf 35 = .ok (.i2l, 1) := by decide +kernel
theorem dX0_orderOf_36 : decode cX0_orderOf 36 = .ok (.invokestatic 70, 3) := by decide +kernel
theorem dX0_orderOf_39 : decode cX0_orderOf 39 = .ok (.lstore_n 2, 1) := by decide +kernel
theorem dX0_orderOf_40 : decode cX0_orderOf 40 = .ok (.iinc 4 1, 3) := by decide +kernel
theorem dX0_orderOf_43 : decode cX0_orderOf 43 = .ok (.goto (-34), 3) := by decide +kernel
theorem dX0_orderOf_46 : decode cX0_orderOf 46 = .ok (.lload_n 2, 1) := by decide +kernel
theorem dX0_orderOf_47 : decode cX0_orderOf 47 = .ok (.lreturn, 1) := by decide +kernel
theorem dX0_forgetSeen_0 : decode cX0_forgetSeen 0 = .ok (.iconst 0, 1) := by decide +kernel
theorem dX0_forgetSeen_1 : decode cX0_forgetSeen 1 = .ok (.istore_n 1, 1) := by decide +kernel
theorem dX0_forgetSeen_2 : decode cX0_forgetSeen 2 = .ok (.iload_n 1, 1) := by decide +kernel
theorem dX0_forgetSeen_3 : decode cX0_forgetSeen 3 = .ok (.aload_n 0, 1) := by decide +kernel
theorem dX0_forgetSeen_4 : decode cX0_forgetSeen 4 = .ok (.getfield 33, 3) := by decide +kernel
theorem dX0_forgetSeen_7 : decode cX0_forgetSeen 7 = .ok (.if_icmp .ge 16, 3) := by decide +kernel
theorem dX0_forgetSeen_10 : decode cX0_forgetSeen 10 = .ok (.aload_n 0, 1) := by decide +kernel
theorem dX0_forgetSeen_11 : decode cX0_forgetSeen 11 = .ok (.getfield 18, 3) := by decide +kernel
theorem dX0_forgetSeen_14 : decode cX0_forgetSeen 14 = .ok (.iload_n 1, 1) := by decide +kernel
theorem dX0_forgetSeen_15 : decode cX0_forgetSeen 15 = .ok (.iconst 0, 1) := by decide +kernel
theorem dX0_forgetSeen_16 : decode cX0_forgetSeen 16 = .ok (.bastore, 1) := by decide +kernel
theorem dX0_forgetSeen_17 : decode cX0_forgetSeen 17 = .ok (.iinc 1 1, 3) := by decide +kernel
theorem dX0_forgetSeen_20 : decode cX0_forgetSeen 20 = .ok (.goto (-18), 3) := by decide +kernel
theorem dX0_forgetSeen_23 : decode cX0_forgetSeen 23 = .ok (.return_, 1) := by decide +kernel
set_option maxRecDepth 20000 in
theorem ggX0_seeCycle_X0_image : GoodIn wsX0_seeCycle wsX0_image := goodIn_r _ [7, 8, 9, 10, 11, 12, 13, 14, 15, 16, 17, 18, 19, 20, 21, 22, 23, 24, 25, 26, 27, 28, 29, 30, 31, 32, 33, 34, 35, 36] (by decide +kernel) (by decide +kernel)
set_option maxRecDepth 20000 in
theorem gX0_seeCycle_X0_image : GoodIn wsX0_seeCycle (wsV RX0 74 RX0 yX0_image wsX0_image) := goodIn_app (goodIn_of _ (by decide +kernel)) ggX0_seeCycle_X0_image
theorem dX0_seeCycle_0 : decode cX0_seeCycle 0 = .ok (.iconst 0, 1) := by decide +kernel
theorem dX0_seeCycle_1 : decode cX0_seeCycle 1 = .ok (.istore_n 3, 1) := by decide +kernel
theorem dX0_seeCycle_2 : decode cX0_seeCycle 2 = .ok (.iload_n 2, 1) := by decide +kernel
theorem dX0_seeCycle_3 : decode cX0_seeCycle 3 = .ok (.istore 4, 2) := by decide +kernel
theorem dX0_seeCycle_5 : decode cX0_seeCycle 5 = .ok (.iload_n 3, 1) := by decide +kernel
theorem dX0_seeCycle_6 : decode cX0_seeCycle 6 = .ok (.aload_n 0, 1) := by decide +kernel
theorem dX0_seeCycle_7 : decode cX0_seeCycle 7 = .ok (.getfield 33, 3) := by decide +kernel
theorem dX0_seeCycle_10 : decode cX0_seeCycle 10 = .ok (.if_icmp .ge 36, 3) := by decide +kernel
theorem dX0_seeCycle_13 : decode cX0_seeCycle 13 = .ok (.aload_n 0, 1) := by decide +kernel
theorem dX0_seeCycle_14 : decode cX0_seeCycle 14 = .ok (.getfield 18, 3) := by decide +kernel
theorem dX0_seeCycle_17 : decode cX0_seeCycle 17 = .ok (.iload 4, 2) := by decide +kernel
theorem dX0_seeCycle_19 : decode cX0_seeCycle 19 = .ok (.baload, 1) := by decide +kernel
theorem dX0_seeCycle_20 : decode cX0_seeCycle 20 = .ok (.ifCond .ne 26, 3) := by decide +kernel
theorem dX0_seeCycle_23 : decode cX0_seeCycle 23 = .ok (.aload_n 0, 1) := by decide +kernel
theorem dX0_seeCycle_24 : decode cX0_seeCycle 24 = .ok (.getfield 18, 3) := by decide +kernel
theorem dX0_seeCycle_27 : decode cX0_seeCycle 27 = .ok (.iload 4, 2) := by decide +kernel
theorem dX0_seeCycle_29 : decode cX0_seeCycle 29 = .ok (.iconst 1, 1) := by decide +kernel
theorem dX0_seeCycle_30 : decode cX0_seeCycle 30 = .ok (.bastore, 1) := by decide +kernel
theorem dX0_seeCycle_31 : decode cX0_seeCycle 31 = .ok (.iinc 3 1, 3) := by decide +kernel
theorem dX0_seeCycle_34 : decode cX0_seeCycle 34 = .ok (.aload_n 0, 1) := by decide +kernel
theorem dX0_seeCycle_35 : decode cX0_seeCycle 35 = .ok (.iload 4, 2) := by decide +kernel
theorem dX0_seeCycle_37 : decode cX0_seeCycle 37 = .ok (.aload_n 1, 1) := by decide +kernel
theorem dX0_seeCycle_38 : decode cX0_seeCycle 38 = .ok (.invokevirtual 74, 3) := by decide +kernel
theorem dX0_seeCycle_41 : decode cX0_seeCycle 41 = .ok (.istore 4, 2) := by decide +kernel
theorem dX0_seeCycle_43 : decode cX0_seeCycle 43 = .ok (.goto (-38), 3) := by decide +kernel
theorem dX0_seeCycle_46 : decode cX0_seeCycle 46 = .ok (.iload_n 3, 1) := by decide +kernel
theorem dX0_seeCycle_47 : decode cX0_seeCycle 47 = .ok (.ireturn, 1) := by decide +kernel
set_option maxRecDepth 20000 in
theorem ggX0_countResting_X0_rests : GoodIn wsX0_countResting wsX0_rests := goodIn_r _ [6, 7, 8, 9, 10, 5, 11, 12, 13, 14, 15, 16, 17, 18, 19, 20, 21, 22, 23, 24, 25, 26, 27, 28, 29, 30, 31, 32, 33, 34, 35, 36, 37, 38, 39, 40, 41, 42] (by decide +kernel) (by decide +kernel)
set_option maxRecDepth 20000 in
theorem gX0_countResting_X0_rests : GoodIn wsX0_countResting (wsV RX0 78 RX0 yX0_rests wsX0_rests) := goodIn_app (goodIn_of _ (by decide +kernel)) ggX0_countResting_X0_rests
theorem dX0_countResting_0 : decode cX0_countResting 0 = .ok (.iconst 0, 1) := by decide +kernel
theorem dX0_countResting_1 : decode cX0_countResting 1 = .ok (.istore_n 1, 1) := by decide +kernel
theorem dX0_countResting_2 : decode cX0_countResting 2 = .ok (.iconst 0, 1) := by decide +kernel
theorem dX0_countResting_3 : decode cX0_countResting 3 = .ok (.istore_n 2, 1) := by decide +kernel
theorem dX0_countResting_4 : decode cX0_countResting 4 = .ok (.iload_n 2, 1) := by decide +kernel
theorem dX0_countResting_5 : decode cX0_countResting 5 = .ok (.aload_n 0, 1) := by decide +kernel
theorem dX0_countResting_6 : decode cX0_countResting 6 = .ok (.getfield 33, 3) := by decide +kernel
theorem dX0_countResting_9 : decode cX0_countResting 9 = .ok (.if_icmp .ge 20, 3) := by decide +kernel
theorem dX0_countResting_12 : decode cX0_countResting 12 = .ok (.aload_n 0, 1) := by decide +kernel
theorem dX0_countResting_13 : decode cX0_countResting 13 = .ok (.iload_n 2, 1) := by decide +kernel
theorem dX0_countResting_14 : decode cX0_countResting 14 = .ok (.invokevirtual 78, 3) := by decide +kernel
theorem dX0_countResting_17 : decode cX0_countResting 17 = .ok (.ifCond .eq 6, 3) := by decide +kernel
theorem dX0_countResting_20 : decode cX0_countResting 20 = .ok (.iinc 1 1, 3) := by decide +kernel
theorem dX0_countResting_23 : decode cX0_countResting 23 = .ok (.iinc 2 1, 3) := by decide +kernel
theorem dX0_countResting_26 : decode cX0_countResting 26 = .ok (.goto (-22), 3) := by decide +kernel
theorem dX0_countResting_29 : decode cX0_countResting 29 = .ok (.iload_n 1, 1) := by decide +kernel
theorem dX0_countResting_30 : decode cX0_countResting 30 = .ok (.ireturn, 1) := by decide +kernel
set_option maxRecDepth 20000 in
theorem ggX0_rests_X0_image : GoodIn wsX0_rests wsX0_image := goodIn_r _ [6, 7, 8, 9, 10, 11, 12, 13, 14, 15, 16, 17, 18, 19, 20, 21, 22, 25, 26, 27, 28, 29, 30, 31, 32, 33, 34, 35, 36, 37] (by decide +kernel) (by decide +kernel)
set_option maxRecDepth 20000 in
theorem gX0_rests_X0_image : GoodIn wsX0_rests (wsV RX0 74 RX0 yX0_image wsX0_image) := goodIn_app (goodIn_of _ (by decide +kernel)) ggX0_rests_X0_image
theorem dX0_rests_0 : decode cX0_rests 0 = .ok (.iconst 0, 1) := by decide +kernel
theorem dX0_rests_1 : decode cX0_rests 1 = .ok (.istore_n 2, 1) := by decide +kernel
theorem dX0_rests_2 : decode cX0_rests 2 = .ok (.iload_n 2, 1) := by decide +kernel
theorem dX0_rests_3 : decode cX0_rests 3 = .ok (.aload_n 0, 1) := by decide +kernel
theorem dX0_rests_4 : decode cX0_rests 4 = .ok (.getfield 29, 3) := by decide +kernel
theorem dX0_rests_7 : decode cX0_rests 7 = .ok (.getfield 82, 3) := by decide +kernel
theorem dX0_rests_10 : decode cX0_rests 10 = .ok (.if_icmp .ge 29, 3) := by decide +kernel
theorem dX0_rests_13 : decode cX0_rests 13 = .ok (.aload_n 0, 1) := by decide +kernel
theorem dX0_rests_14 : decode cX0_rests 14 = .ok (.iload_n 1, 1) := by decide +kernel
theorem dX0_rests_15 : decode cX0_rests 15 = .ok (.aload_n 0, 1) := by decide +kernel
theorem dX0_rests_16 : decode cX0_rests 16 = .ok (.getfield 29, 3) := by decide +kernel
theorem dX0_rests_19 : decode cX0_rests 19 = .ok (.getfield 85, 3) := by decide +kernel
theorem dX0_rests_22 : decode cX0_rests 22 = .ok (.iload_n 2, 1) := by decide +kernel
theorem dX0_rests_23 : decode cX0_rests 23 = .ok (.aaload, 1) := by decide +kernel
theorem dX0_rests_24 : decode cX0_rests 24 = .ok (.invokevirtual 74, 3) := by decide +kernel
theorem dX0_rests_27 : decode cX0_rests 27 = .ok (.iload_n 1, 1) := by decide +kernel
theorem dX0_rests_28 : decode cX0_rests 28 = .ok (.if_icmp .eq 5, 3) := by decide +kernel
theorem dX0_rests_31 : decode cX0_rests 31 = .ok (.iconst 0, 1) := by decide +kernel
theorem dX0_rests_32 : decode cX0_rests 32 = .ok (.ireturn, 1) := by decide +kernel
theorem dX0_rests_33 : decode cX0_rests 33 = .ok (.iinc 2 1, 3) := by decide +kernel
theorem dX0_rests_36 : decode cX0_rests 36 = .ok (.goto (-34), 3) := by decide +kernel
theorem dX0_rests_39 : decode cX0_rests 39 = .ok (.iconst 1, 1) := by decide +kernel
theorem dX0_rests_40 : decode cX0_rests 40 = .ok (.ireturn, 1) := by decide +kernel
set_option maxRecDepth 20000 in
theorem ggX0_lowestJoined_X0_forgetSeen : GoodIn wsX0_lowestJoined wsX0_forgetSeen := goodIn_r _ [13, 3, 1, 27, 28, 29, 30, 31, 32, 33] (by decide +kernel) (by decide +kernel)
set_option maxRecDepth 20000 in
theorem gX0_lowestJoined_X0_forgetSeen : GoodIn wsX0_lowestJoined (wsV RX0 63 RX0 yX0_forgetSeen wsX0_forgetSeen) := goodIn_app (goodIn_of _ (by decide +kernel)) ggX0_lowestJoined_X0_forgetSeen
set_option maxRecDepth 20000 in
theorem ggX0_lowestJoined_X0_image : GoodIn wsX0_lowestJoined wsX0_image := goodIn_r _ [17, 18, 19, 20, 21, 22, 23, 24, 25, 26, 27, 28, 29, 30, 31, 32, 33, 36, 37, 38, 39, 40, 41, 42, 43, 44, 45, 46, 47, 48] (by decide +kernel) (by decide +kernel)
set_option maxRecDepth 20000 in
theorem gX0_lowestJoined_X0_image : GoodIn wsX0_lowestJoined (wsV RX0 74 RX0 yX0_image wsX0_image) := goodIn_app (goodIn_of _ (by decide +kernel)) ggX0_lowestJoined_X0_image
theorem dX0_lowestJoined_0 : decode cX0_lowestJoined 0 = .ok (.aload_n 0, 1) := by decide +kernel
theorem dX0_lowestJoined_1 : decode cX0_lowestJoined 1 = .ok (.invokevirtual 63, 3) := by decide +kernel
theorem dX0_lowestJoined_4 : decode cX0_lowestJoined 4 = .ok (.aload_n 0, 1) := by decide +kernel
theorem dX0_lowestJoined_5 : decode cX0_lowestJoined 5 = .ok (.getfield 18, 3) := by decide +kernel
theorem dX0_lowestJoined_8 : decode cX0_lowestJoined 8 = .ok (.iload_n 1, 1) := by decide +kernel
theorem dX0_lowestJoined_9 : decode cX0_lowestJoined 9 = .ok (.iconst 1, 1) := by decide +kernel
theorem dX0_lowestJoined_10 : decode cX0_lowestJoined 10 = .ok (.bastore, 1) := by decide +kernel
theorem dX0_lowestJoined_11 : decode cX0_lowestJoined 11 = .ok (.aload_n 0, 1) := by decide +kernel
theorem dX0_lowestJoined_12 : decode cX0_lowestJoined 12 = .ok (.getfield 22, 3) := by decide +kernel
theorem dX0_lowestJoined_15 : decode cX0_lowestJoined 15 = .ok (.iconst 0, 1) := by decide +kernel
theorem dX0_lowestJoined_16 : decode cX0_lowestJoined 16 = .ok (.iload_n 1, 1) := by decide +kernel
theorem dX0_lowestJoined_17 : decode cX0_lowestJoined 17 = .ok (.iastore, 1) := by decide +kernel
theorem dX0_lowestJoined_18 : decode cX0_lowestJoined 18 = .ok (.iconst 1, 1) := by decide +kernel
theorem dX0_lowestJoined_19 : decode cX0_lowestJoined 19 = .ok (.istore_n 2, 1) := by decide +kernel
theorem dX0_lowestJoined_20 : decode cX0_lowestJoined 20 = .ok (.iload_n 1, 1) := by decide +kernel
theorem dX0_lowestJoined_21 : decode cX0_lowestJoined 21 = .ok (.istore_n 3, 1) := by decide +kernel
theorem dX0_lowestJoined_22 : decode cX0_lowestJoined 22 = .ok (.iconst 0, 1) := by decide +kernel
theorem dX0_lowestJoined_23 : decode cX0_lowestJoined 23 = .ok (.istore 4, 2) := by decide +kernel
theorem dX0_lowestJoined_25 : decode cX0_lowestJoined 25 = .ok (.iload 4, 2) := by decide +kernel
theorem dX0_lowestJoined_27 : decode cX0_lowestJoined 27 = .ok (.iload_n 2, 1) := by decide +kernel
theorem dX0_lowestJoined_28 : decode cX0_lowestJoined 28 = .ok (.if_icmp .ge 98, 3) := by decide +kernel
theorem dX0_lowestJoined_31 : decode cX0_lowestJoined 31 = .ok (.iload 4, 2) := by decide +kernel
theorem dX0_lowestJoined_33 : decode cX0_lowestJoined 33 = .ok (.aload_n 0, 1) := by decide +kernel
theorem dX0_lowestJoined_34 : decode cX0_lowestJoined 34 = .ok (.getfield 33, 3) := by decide +kernel
theorem dX0_lowestJoined_37 : decode cX0_lowestJoined 37 = .ok (.if_icmp .ge 89, 3) := by decide +kernel
theorem dX0_lowestJoined_40 : decode cX0_lowestJoined 40 = .ok (.iconst 0, 1) := by decide +kernel
theorem dX0_lowestJoined_41 : decode cX0_lowestJoined 41 = .ok (.istore 5, 2) := by decide +kernel
theorem dX0_lowestJoined_43 : decode cX0_lowestJoined 43 = .ok (.iload 5, 2) := by decide +kernel
theorem dX0_lowestJoined_45 : decode cX0_lowestJoined 45 = .ok (.aload_n 0, 1) := by decide +kernel
theorem dX0_lowestJoined_46 : decode cX0_lowestJoined 46 = .ok (.getfield 29, 3) := by decide +kernel
theorem dX0_lowestJoined_49 : decode cX0_lowestJoined 49 = .ok (.getfield 82, 3) := by decide +kernel
theorem dX0_lowestJoined_52 : decode cX0_lowestJoined 52 = .ok (.if_icmp .ge 68, 3) := by decide +kernel
theorem dX0_lowestJoined_55 : decode cX0_lowestJoined 55 = .ok (.aload_n 0, 1) := by decide +kernel
theorem dX0_lowestJoined_56 : decode cX0_lowestJoined 56 = .ok (.aload_n 0, 1) := by decide +kernel
theorem dX0_lowestJoined_57 : decode cX0_lowestJoined 57 = .ok (.getfield 22, 3) := by decide +kernel
theorem dX0_lowestJoined_60 : decode cX0_lowestJoined 60 = .ok (.iload 4, 2) := by decide +kernel
theorem dX0_lowestJoined_62 : decode cX0_lowestJoined 62 = .ok (.iaload, 1) := by decide +kernel
theorem dX0_lowestJoined_63 : decode cX0_lowestJoined 63 = .ok (.aload_n 0, 1) := by decide +kernel
theorem dX0_lowestJoined_64 : decode cX0_lowestJoined 64 = .ok (.getfield 29, 3) := by decide +kernel
theorem dX0_lowestJoined_67 : decode cX0_lowestJoined 67 = .ok (.getfield 85, 3) := by decide +kernel
theorem dX0_lowestJoined_70 : decode cX0_lowestJoined 70 = .ok (.iload 5, 2) := by decide +kernel
theorem dX0_lowestJoined_72 : decode cX0_lowestJoined 72 = .ok (.aaload, 1) := by decide +kernel
theorem dX0_lowestJoined_73 : decode cX0_lowestJoined 73 = .ok (.invokevirtual 74, 3) := by decide +kernel
theorem dX0_lowestJoined_76 : decode cX0_lowestJoined 76 = .ok (.istore 6, 2) := by decide +kernel
theorem dX0_lowestJoined_78 : decode cX0_lowestJoined 78 = .ok (.aload_n 0, 1) := by decide +kernel
theorem dX0_lowestJoined_79 : decode cX0_lowestJoined 79 = .ok (.getfield 18, 3) := by decide +kernel
theorem dX0_lowestJoined_82 : decode cX0_lowestJoined 82 = .ok (.iload 6, 2) := by decide +kernel
theorem dX0_lowestJoined_84 : decode cX0_lowestJoined 84 = .ok (.baload, 1) := by decide +kernel
theorem dX0_lowestJoined_85 : decode cX0_lowestJoined 85 = .ok (.ifCond .ne 29, 3) := by decide +kernel
theorem dX0_lowestJoined_88 : decode cX0_lowestJoined 88 = .ok (.aload_n 0, 1) := by decide +kernel
theorem dX0_lowestJoined_89 : decode cX0_lowestJoined 89 = .ok (.getfield 18, 3) := by decide +kernel
theorem dX0_lowestJoined_92 : decode cX0_lowestJoined 92 = .ok (.iload 6, 2) := by decide +kernel
theorem dX0_lowestJoined_94 : decode cX0_lowestJoined 94 = .ok (.iconst 1, 1) := by decide +kernel
theorem dX0_lowestJoined_95 : decode cX0_lowestJoined 95 = .ok (.bastore, 1) := by decide +kernel
theorem dX0_lowestJoined_96 : decode cX0_lowestJoined 96 = .ok (.aload_n 0, 1) := by decide +kernel
theorem dX0_lowestJoined_97 : decode cX0_lowestJoined 97 = .ok (.getfield 22, 3) := by decide +kernel
theorem dX0_lowestJoined_100 : decode cX0_lowestJoined 100 = .ok (.iload_n 2, 1) := by decide +kernel
theorem dX0_lowestJoined_101 : decode cX0_lowestJoined 101 = .ok (.iload 6, 2) := by decide +kernel
theorem dX0_lowestJoined_103 : decode cX0_lowestJoined 103 = .ok (.iastore, 1) := by decide +kernel
theorem dX0_lowestJoined_104 : decode cX0_lowestJoined 104 = .ok (.iinc 2 1, 3) := by decide +kernel
theorem dX0_lowestJoined_107 : decode cX0_lowestJoined 107 = .ok (.iload_n 3, 1) := by decide +kernel
theorem dX0_lowestJoined_108 : decode cX0_lowestJoined 108 = .ok (.iload 6, 2) := by decide +kernel
theorem dX0_lowestJoined_110 : decode cX0_lowestJoined 110 = .ok (.invokestatic 89, 3) := by decide +kernel
theorem dX0_lowestJoined_113 : decode cX0_lowestJoined 113 = .ok (.istore_n 3, 1) := by decide +kernel
theorem dX0_lowestJoined_114 : decode cX0_lowestJoined 114 = .ok (.iinc 5 1, 3) := by decide +kernel
theorem dX0_lowestJoined_117 : decode cX0_lowestJoined 117 = .ok (.goto (-74), 3) := by decide +kernel
theorem dX0_lowestJoined_120 : decode cX0_lowestJoined 120 = .ok (.iinc 4 1, 3) := by decide +kernel
theorem dX0_lowestJoined_123 : decode cX0_lowestJoined 123 = .ok (.goto (-98), 3) := by decide +kernel
theorem dX0_lowestJoined_126 : decode cX0_lowestJoined 126 = .ok (.iload_n 3, 1) := by decide +kernel
theorem dX0_lowestJoined_127 : decode cX0_lowestJoined 127 = .ok (.ireturn, 1) := by decide +kernel
theorem dX0_leastCommonMultiple_0 : decode cX0_leastCommonMultiple 0 = .ok (.lload_n 0, 1) := by decide +kernel
theorem dX0_leastCommonMultiple_1 : decode cX0_leastCommonMultiple 1 = .ok (.lstore 4, 2) := by decide +kernel
theorem dX0_leastCommonMultiple_3 : decode cX0_leastCommonMultiple 3 = .ok (.lload_n 2, 1) := by decide +kernel
theorem dX0_leastCommonMultiple_4 : decode cX0_leastCommonMultiple 4 = .ok (.lstore 6, 2) := by decide +kernel
theorem dX0_leastCommonMultiple_6 : decode cX0_leastCommonMultiple 6 = .ok (.iconst 0, 1) := by decide +kernel
theorem dX0_leastCommonMultiple_7 : decode cX0_leastCommonMultiple 7 = .ok (.istore 8, 2) := by decide +kernel
theorem dX0_leastCommonMultiple_9 : decode cX0_leastCommonMultiple 9 = .ok (.iload 8, 2) := by decide +kernel
theorem dX0_leastCommonMultiple_11 : decode cX0_leastCommonMultiple 11 = .ok (.ldc 94, 2) := by decide +kernel
theorem dX0_leastCommonMultiple_13 : decode cX0_leastCommonMultiple 13 = .ok (.if_icmp .ge 31, 3) := by decide +kernel
theorem dX0_leastCommonMultiple_16 : decode cX0_leastCommonMultiple 16 = .ok (.lload 6, 2) := by decide +kernel
theorem dX0_leastCommonMultiple_18 : decode cX0_leastCommonMultiple 18 = .ok (.lconst 0, 1) := by decide +kernel
theorem dX0_leastCommonMultiple_19 : decode cX0_leastCommonMultiple 19 = .ok (.lcmp, 1) := by decide +kernel
theorem dX0_leastCommonMultiple_20 : decode cX0_leastCommonMultiple 20 = .ok (.ifCond .le 24, 3) := by decide +kernel
theorem dX0_leastCommonMultiple_23 : decode cX0_leastCommonMultiple 23 = .ok (.lload 4, 2) := by decide +kernel
theorem dX0_leastCommonMultiple_25 : decode cX0_leastCommonMultiple 25 = .ok (.lload 6, 2) := by decide +kernel
theorem dX0_leastCommonMultiple_27 : decode cX0_leastCommonMultiple 27 = .ok (.lrem, 1) := by decide +kernel
theorem dX0_leastCommonMultiple_28 : decode cX0_leastCommonMultiple 28 = .ok (.lstore 9, 2) := by decide +kernel
theorem dX0_leastCommonMultiple_30 : decode cX0_leastCommonMultiple 30 = .ok (.lload 6, 2) := by decide +kernel
theorem dX0_leastCommonMultiple_32 : decode cX0_leastCommonMultiple 32 = .ok (.lstore 4, 2) := by decide +kernel
theorem dX0_leastCommonMultiple_34 : decode cX0_leastCommonMultiple 34 = .ok (.lload 9, 2) := by decide +kernel
theorem dX0_leastCommonMultiple_36 : decode cX0_leastCommonMultiple 36 = .ok (.lstore 6, 2) := by decide +kernel
theorem dX0_leastCommonMultiple_38 : decode cX0_leastCommonMultiple 38 = .ok (.iinc 8 1, 3) := by decide +kernel
theorem dX0_leastCommonMultiple_41 : decode cX0_leastCommonMultiple 41 = .ok (.goto (-32), 3) := by decide +kernel
theorem dX0_leastCommonMultiple_44 : decode cX0_leastCommonMultiple 44 = .ok (.lload 4, 2) := by decide +kernel
theorem dX0_leastCommonMultiple_46 : decode cX0_leastCommonMultiple 46 = .ok (.lconst 0, 1) := by decide +kernel
theorem dX0_leastCommonMultiple_47 : decode cX0_leastCommonMultiple 47 = .ok (.lcmp, 1) := by decide +kernel
theorem dX0_leastCommonMultiple_48 : decode cX0_leastCommonMultiple 48 = .ok (.ifCond .le 12, 3) := by decide +kernel
theorem dX0_leastCommonMultiple_51 : decode cX0_leastCommonMultiple 51 = .ok (.lload_n 0, 1) := by decide +kernel
theorem dX0_leastCommonMultiple_52 : decode cX0_leastCommonMultiple 52 = .ok (.lload 4, 2) := by decide +kernel
theorem dX0_leastCommonMultiple_54 : decode cX0_leastCommonMultiple 54 = .ok (.ldiv, 1) := by decide +kernel
theorem dX0_leastCommonMultiple_55 : decode cX0_leastCommonMultiple 55 = .ok (.lload_n 2, 1) := by decide +kernel
theorem dX0_leastCommonMultiple_56 : decode cX0_leastCommonMultiple 56 = .ok (.lmul, 1) := by decide +kernel
theorem dX0_leastCommonMultiple_57 : decode cX0_leastCommonMultiple 57 = .ok (.goto 4, 3) := by decide +kernel
theorem dX0_leastCommonMultiple_60 : decode cX0_leastCommonMultiple 60 = .ok (.lload_n 0, 1) := by decide +kernel
theorem dX0_leastCommonMultiple_61 : decode cX0_leastCommonMultiple 61 = .ok (.lreturn, 1) := by decide +kernel
theorem dX1_init_0 : decode cX1_init 0 = .ok (.aload_n 0, 1) := by decide +kernel
theorem dX1_init_1 : decode cX1_init 1 = .ok (.invokespecial 3, 3) := by decide +kernel
theorem dX1_init_4 : decode cX1_init 4 = .ok (.aload_n 0, 1) := by decide +kernel
theorem dX1_init_5 : decode cX1_init 5 = .ok (.sipush 1200, 3) := by decide +kernel
theorem dX1_init_8 : decode cX1_init 8 = .ok (.newarray .int, 2) := by decide +kernel
theorem dX1_init_10 : decode cX1_init 10 = .ok (.putfield 9, 3) := by decide +kernel
theorem dX1_init_13 : decode cX1_init 13 = .ok (.aload_n 0, 1) := by decide +kernel
theorem dX1_init_14 : decode cX1_init 14 = .ok (.sipush 200, 3) := by decide +kernel
theorem dX1_init_17 : decode cX1_init 17 = .ok (.newarray .int, 2) := by decide +kernel
theorem dX1_init_19 : decode cX1_init 19 = .ok (.putfield 15, 3) := by decide +kernel
theorem dX1_init_22 : decode cX1_init 22 = .ok (.aload_n 0, 1) := by decide +kernel
theorem dX1_init_23 : decode cX1_init 23 = .ok (.sipush 200, 3) := by decide +kernel
theorem dX1_init_26 : decode cX1_init 26 = .ok (.newarray .int, 2) := by decide +kernel
theorem dX1_init_28 : decode cX1_init 28 = .ok (.putfield 18, 3) := by decide +kernel
theorem dX1_init_31 : decode cX1_init 31 = .ok (.aload_n 0, 1) := by decide +kernel
theorem dX1_init_32 : decode cX1_init 32 = .ok (.sipush 1200, 3) := by decide +kernel
