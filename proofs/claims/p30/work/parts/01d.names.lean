theorem inlX0 : ∀ w ∈ wsX00, w ∈ wsL_law := fun _ h => List.mem_append_left _ (List.mem_append_left _ (List.mem_append_left _ (List.mem_append_left _ (List.mem_append_left _ (List.mem_append_right _ h)))))
theorem inX0 : ∀ w ∈ wsX00, w ∈ lw_tbl := fun w h => wsL_law_in w (inlX0 w h)
theorem inlX1 : ∀ w ∈ wsX10, w ∈ wsL_law := fun _ h => List.mem_append_left _ (List.mem_append_left _ (List.mem_append_right _ h))
theorem inX1 : ∀ w ∈ wsX10, w ∈ lw_tbl := fun w h => wsL_law_in w (inlX1 w h)
theorem inlX2 : ∀ w ∈ wsX20, w ∈ wsL_law := fun _ h => List.mem_append_left _ (List.mem_append_left _ (List.mem_append_left _ (List.mem_append_left _ (List.mem_append_right _ h))))
theorem inX2 : ∀ w ∈ wsX20, w ∈ lw_tbl := fun w h => wsL_law_in w (inlX2 w h)
theorem inlX3 : ∀ w ∈ wsX30, w ∈ wsL_law := fun _ h => List.mem_append_left _ (List.mem_append_right _ h)
theorem inX3 : ∀ w ∈ wsX30, w ∈ lw_tbl := fun w h => wsL_law_in w (inlX3 w h)
theorem inlX4 : ∀ w ∈ wsX40, w ∈ wsL_law := fun _ h => List.mem_append_left _ (List.mem_append_left _ (List.mem_append_left _ (List.mem_append_left _ (List.mem_append_left _ (List.mem_append_left _ (List.mem_append_right _ h))))))
theorem inX4 : ∀ w ∈ wsX40, w ∈ lw_tbl := fun w h => wsL_law_in w (inlX4 w h)
theorem inlX5 : ∀ w ∈ wsX50, w ∈ wsL_law := fun _ h => List.mem_append_left _ (List.mem_append_left _ (List.mem_append_left _ (List.mem_append_right _ h)))
theorem inX5 : ∀ w ∈ wsX50, w ∈ lw_tbl := fun w h => wsL_law_in w (inlX5 w h)
theorem inlX6 : ∀ w ∈ wsX60, w ∈ wsL_law := fun _ h => List.mem_append_left _ (List.mem_append_left _ (List.mem_append_left _ (List.mem_append_left _ (List.mem_append_left _ (List.mem_append_left _ (List.mem_append_left _ (List.mem_append_right _ h)))))))
theorem inX6 : ∀ w ∈ wsX60, w ∈ lw_tbl := fun w h => wsL_law_in w (inlX6 w h)
theorem inX7 : ∀ w ∈ wsX70, w ∈ lw_tbl := by decide +kernel
theorem inJ9 : ∀ w ∈ wsJ90, w ∈ lw_tbl := by decide +kernel
theorem inJ10 : ∀ w ∈ wsJ100, w ∈ lw_tbl := by decide +kernel
set_option maxRecDepth 20000 in
theorem ggX0_init_X4_init : GoodIn wsX0_init wsX4_init := goodIn_r _ [10, 11, 2, 3, 12, 13, 14, 15, 16, 17, 18, 19, 20, 21, 22, 23, 24, 25, 26, 27, 28, 29, 30, 31, 32, 33, 34, 35, 36, 37, 38, 39, 40, 41, 42, 43, 44, 45, 46, 47, 62, 63, 64, 65, 66, 67, 50, 51, 52, 53, 54, 55, 56, 57, 58, 59, 60, 61, 68, 69, 70, 71] (by decide +kernel) (by decide +kernel)
set_option maxRecDepth 20000 in
theorem gX0_init_X4_init_n21 : GoodIn wsX0_init (wsX4_init) := ggX0_init_X4_init
theorem dX0_init_0 : decode cX0_init 0 = .ok (.aload_n 0, 1) := by decide +kernel
theorem dX0_init_1 : decode cX0_init 1 = .ok (.invokespecial 3, 3) := by decide +kernel
theorem dX0_init_4 : decode cX0_init 4 = .ok (.aload_n 0, 1) := by decide +kernel
theorem dX0_init_5 : decode cX0_init 5 = .ok (.iconst 5, 1) := by decide +kernel
theorem dX0_init_6 : decode cX0_init 6 = .ok (.anewarray 9, 3) := by decide +kernel
theorem dX0_init_9 : decode cX0_init 9 = .ok (.putfield 11, 3) := by decide +kernel
theorem dX0_init_12 : decode cX0_init 12 = .ok (.aload_n 0, 1) := by decide +kernel
theorem dX0_init_13 : decode cX0_init 13 = .ok (.iconst 0, 1) := by decide +kernel
theorem dX0_init_14 : decode cX0_init 14 = .ok (.putfield 17, 3) := by decide +kernel
theorem dX0_init_17 : decode cX0_init 17 = .ok (.iconst 0, 1) := by decide +kernel
theorem dX0_init_18 : decode cX0_init 18 = .ok (.istore_n 1, 1) := by decide +kernel
theorem dX0_init_19 : decode cX0_init 19 = .ok (.iload_n 1, 1) := by decide +kernel
theorem dX0_init_20 : decode cX0_init 20 = .ok (.iconst 4, 1) := by decide +kernel
theorem dX0_init_21 : decode cX0_init 21 = .ok (.if_icmp .gt 22, 3) := by decide +kernel
theorem dX0_init_24 : decode cX0_init 24 = .ok (.aload_n 0, 1) := by decide +kernel
theorem dX0_init_25 : decode cX0_init 25 = .ok (.getfield 11, 3) := by decide +kernel
theorem dX0_init_28 : decode cX0_init 28 = .ok (.iload_n 1, 1) := by decide +kernel
theorem dX0_init_29 : decode cX0_init 29 = .ok (.new 9, 3) := by decide +kernel
theorem dX0_init_32 : decode cX0_init 32 = .ok (.dup, 1) := by decide +kernel
theorem dX0_init_33 : decode cX0_init 33 = .ok (.invokespecial 21, 3) := by decide +kernel
theorem dX0_init_36 : decode cX0_init 36 = .ok (.aastore, 1) := by decide +kernel
theorem dX0_init_37 : decode cX0_init 37 = .ok (.iinc 1 1, 3) := by decide +kernel
theorem dX0_init_40 : decode cX0_init 40 = .ok (.goto (-21), 3) := by decide +kernel
theorem dX0_init_43 : decode cX0_init 43 = .ok (.return_, 1) := by decide +kernel
set_option maxRecDepth 20000 in
theorem ggX0_prepare_X4_copyFrom : GoodIn wsX0_prepare wsX4_copyFrom := goodIn_r _ [7, 8, 9, 10, 11, 12, 13, 14, 15, 16, 17, 18, 19, 20, 21, 22, 23, 24, 25, 26, 27, 28, 29, 30, 31, 32, 33, 34, 35, 36, 37, 38, 39, 40, 41, 42, 43, 44, 45, 46, 47, 48, 49, 50, 51, 54, 55, 56, 57, 58, 59, 60, 61, 62, 63, 64, 65, 66, 67, 68, 69, 70, 71, 72, 73, 74, 75] (by decide +kernel) (by decide +kernel)
set_option maxRecDepth 20000 in
theorem gX0_prepare_X4_copyFrom : GoodIn wsX0_prepare (wsV RX0 22 RX4 yX4_copyFrom wsX4_copyFrom) := goodIn_app (goodIn_of _ (by decide +kernel)) ggX0_prepare_X4_copyFrom
theorem dX0_prepare_0 : decode cX0_prepare 0 = .ok (.aload_n 0, 1) := by decide +kernel
theorem dX0_prepare_1 : decode cX0_prepare 1 = .ok (.getfield 17, 3) := by decide +kernel
theorem dX0_prepare_4 : decode cX0_prepare 4 = .ok (.ifCond .lt 24, 3) := by decide +kernel
theorem dX0_prepare_7 : decode cX0_prepare 7 = .ok (.aload_n 0, 1) := by decide +kernel
theorem dX0_prepare_8 : decode cX0_prepare 8 = .ok (.getfield 17, 3) := by decide +kernel
theorem dX0_prepare_11 : decode cX0_prepare 11 = .ok (.iconst 4, 1) := by decide +kernel
theorem dX0_prepare_12 : decode cX0_prepare 12 = .ok (.if_icmp .gt 16, 3) := by decide +kernel
theorem dX0_prepare_15 : decode cX0_prepare 15 = .ok (.aload_n 0, 1) := by decide +kernel
theorem dX0_prepare_16 : decode cX0_prepare 16 = .ok (.getfield 11, 3) := by decide +kernel
theorem dX0_prepare_19 : decode cX0_prepare 19 = .ok (.aload_n 0, 1) := by decide +kernel
theorem dX0_prepare_20 : decode cX0_prepare 20 = .ok (.getfield 17, 3) := by decide +kernel
theorem dX0_prepare_23 : decode cX0_prepare 23 = .ok (.aaload, 1) := by decide +kernel
theorem dX0_prepare_24 : decode cX0_prepare 24 = .ok (.aload_n 1, 1) := by decide +kernel
theorem dX0_prepare_25 : decode cX0_prepare 25 = .ok (.invokevirtual 22, 3) := by decide +kernel
theorem dX0_prepare_28 : decode cX0_prepare 28 = .ok (.return_, 1) := by decide +kernel
theorem dX0_keep_0 : decode cX0_keep 0 = .ok (.aload_n 0, 1) := by decide +kernel
theorem dX0_keep_1 : decode cX0_keep 1 = .ok (.getfield 17, 3) := by decide +kernel
theorem dX0_keep_4 : decode cX0_keep 4 = .ok (.iconst 4, 1) := by decide +kernel
theorem dX0_keep_5 : decode cX0_keep 5 = .ok (.if_icmp .ge 14, 3) := by decide +kernel
theorem dX0_keep_8 : decode cX0_keep 8 = .ok (.aload_n 0, 1) := by decide +kernel
theorem dX0_keep_9 : decode cX0_keep 9 = .ok (.dup, 1) := by decide +kernel
theorem dX0_keep_10 : decode cX0_keep 10 = .ok (.getfield 17, 3) := by decide +kernel
theorem dX0_keep_13 : decode cX0_keep 13 = .ok (.iconst 1, 1) := by decide +kernel
theorem dX0_keep_14 : decode cX0_keep 14 = .ok (.iadd, 1) := by decide +kernel
theorem dX0_keep_15 : decode cX0_keep 15 = .ok (.putfield 17, 3) := by decide +kernel
theorem dX0_keep_18 : decode cX0_keep 18 = .ok (.return_, 1) := by decide +kernel
theorem dX0_keep_19 : decode cX0_keep 19 = .ok (.aload_n 0, 1) := by decide +kernel
theorem dX0_keep_20 : decode cX0_keep 20 = .ok (.getfield 11, 3) := by decide +kernel
theorem dX0_keep_23 : decode cX0_keep 23 = .ok (.iconst 0, 1) := by decide +kernel
theorem dX0_keep_24 : decode cX0_keep 24 = .ok (.aaload, 1) := by decide +kernel
theorem dX0_keep_25 : decode cX0_keep 25 = .ok (.astore_n 1, 1) := by decide +kernel
theorem dX0_keep_26 : decode cX0_keep 26 = .ok (.iconst 0, 1) := by decide +kernel
theorem dX0_keep_27 : decode cX0_keep 27 = .ok (.istore_n 2, 1) := by decide +kernel
theorem dX0_keep_28 : decode cX0_keep 28 = .ok (.iload_n 2, 1) := by decide +kernel
theorem dX0_keep_29 : decode cX0_keep 29 = .ok (.iconst 4, 1) := by decide +kernel
theorem dX0_keep_30 : decode cX0_keep 30 = .ok (.if_icmp .ge 23, 3) := by decide +kernel
theorem dX0_keep_33 : decode cX0_keep 33 = .ok (.aload_n 0, 1) := by decide +kernel
theorem dX0_keep_34 : decode cX0_keep 34 = .ok (.getfield 11, 3) := by decide +kernel
theorem dX0_keep_37 : decode cX0_keep 37 = .ok (.iload_n 2, 1) := by decide +kernel
theorem dX0_keep_38 : decode cX0_keep 38 = .ok (.aload_n 0, 1) := by decide +kernel
theorem dX0_keep_39 : decode cX0_keep 39 = .ok (.getfield 11, 3) := by decide +kernel
theorem dX0_keep_42 : decode cX0_keep 42 = .ok (.iload_n 2, 1) := by decide +kernel
theorem dX0_keep_43 : decode cX0_keep 43 = .ok (.iconst 1, 1) := by decide +kernel
theorem dX0_keep_44 : decode cX0_keep 44 = .ok (.iadd, 1) := by decide +kernel
theorem dX0_keep_45 : decode cX0_keep 45 = .ok (.aaload, 1) := by decide +kernel
theorem dX0_keep_46 : decode cX0_keep 46 = .ok (.aastore, 1) := by decide +kernel
theorem dX0_keep_47 : decode cX0_keep 47 = .ok (.iinc 2 1, 3) := by decide +kernel
theorem dX0_keep_50 : decode cX0_keep 50 = .ok (.goto (-22), 3) := by decide +kernel
theorem dX0_keep_53 : decode cX0_keep 53 = .ok (.aload_n 0, 1) := by decide +kernel
theorem dX0_keep_54 : decode cX0_keep 54 = .ok (.getfield 11, 3) := by decide +kernel
theorem dX0_keep_57 : decode cX0_keep 57 = .ok (.iconst 4, 1) := by decide +kernel
theorem dX0_keep_58 : decode cX0_keep 58 = .ok (.aload_n 1, 1) := by decide +kernel
theorem dX0_keep_59 : decode cX0_keep 59 = .ok (.aastore, 1) := by decide +kernel
theorem dX0_keep_60 : decode cX0_keep 60 = .ok (.return_, 1) := by decide +kernel
theorem dX1_init_0 : decode cX1_init 0 = .ok (.aload_n 0, 1) := by decide +kernel
theorem dX1_init_1 : decode cX1_init 1 = .ok (.invokespecial 3, 3) := by decide +kernel
theorem dX1_init_4 : decode cX1_init 4 = .ok (.aload_n 0, 1) := by decide +kernel
theorem dX1_init_5 : decode cX1_init 5 = .ok (.iconst 0, 1) := by decide +kernel
theorem dX1_init_6 : decode cX1_init 6 = .ok (.putfield 9, 3) := by decide +kernel
theorem dX1_init_9 : decode cX1_init 9 = .ok (.aload_n 0, 1) := by decide +kernel
theorem dX1_init_10 : decode cX1_init 10 = .ok (.bipush 100, 2) := by decide +kernel
theorem dX1_init_12 : decode cX1_init 12 = .ok (.newarray .int, 2) := by decide +kernel
theorem dX1_init_14 : decode cX1_init 14 = .ok (.putfield 15, 3) := by decide +kernel
theorem dX1_init_17 : decode cX1_init 17 = .ok (.aload_n 0, 1) := by decide +kernel
theorem dX1_init_18 : decode cX1_init 18 = .ok (.bipush 100, 2) := by decide +kernel
theorem dX1_init_20 : decode cX1_init 20 = .ok (.newarray .int, 2) := by decide +kernel
theorem dX1_init_22 : decode cX1_init 22 = .ok (.putfield 19, 3) := by decide +kernel
theorem dX1_init_25 : decode cX1_init 25 = .ok (.aload_n 0, 1) := by decide +kernel
theorem dX1_init_26 : decode cX1_init 26 = .ok (.bipush 100, 2) := by decide +kernel
theorem dX1_init_28 : decode cX1_init 28 = .ok (.newarray .int, 2) := by decide +kernel
theorem dX1_init_30 : decode cX1_init 30 = .ok (.putfield 22, 3) := by decide +kernel
theorem dX1_init_33 : decode cX1_init 33 = .ok (.aload_n 0, 1) := by decide +kernel
theorem dX1_init_34 : decode cX1_init 34 = .ok (.bipush 100, 2) := by decide +kernel
theorem dX1_init_36 : decode cX1_init 36 = .ok (.newarray .int, 2) := by decide +kernel
theorem dX1_init_38 : decode cX1_init 38 = .ok (.putfield 25, 3) := by decide +kernel
theorem dX1_init_41 : decode cX1_init 41 = .ok (.aload_n 0, 1) := by decide +kernel
theorem dX1_init_42 : decode cX1_init 42 = .ok (.bipush 100, 2) := by decide +kernel
theorem dX1_init_44 : decode cX1_init 44 = .ok (.newarray .int, 2) := by decide +kernel
theorem dX1_init_46 : decode cX1_init 46 = .ok (.putfield 28, 3) := by decide +kernel
theorem dX1_init_49 : decode cX1_init 49 = .ok (.return_, 1) := by decide +kernel
theorem dX1_has_0 : decode cX1_has 0 = .ok (.iload_n 1, 1) := by decide +kernel
theorem dX1_has_1 : decode cX1_has 1 = .ok (.iconst 1, 1) := by decide +kernel
theorem dX1_has_2 : decode cX1_has 2 = .ok (.if_icmp .lt 21, 3) := by decide +kernel
theorem dX1_has_5 : decode cX1_has 5 = .ok (.iload_n 1, 1) := by decide +kernel
theorem dX1_has_6 : decode cX1_has 6 = .ok (.aload_n 0, 1) := by decide +kernel
theorem dX1_has_7 : decode cX1_has 7 = .ok (.getfield 9, 3) := by decide +kernel
theorem dX1_has_10 : decode cX1_has 10 = .ok (.if_icmp .gt 13, 3) := by decide +kernel
theorem dX1_has_13 : decode cX1_has 13 = .ok (.iload_n 1, 1) := by decide +kernel
theorem dX1_has_14 : decode cX1_has 14 = .ok (.bipush 100, 2) := by decide +kernel
theorem dX1_has_16 : decode cX1_has 16 = .ok (.if_icmp .gt 7, 3) := by decide +kernel
theorem dX1_has_19 : decode cX1_has 19 = .ok (.iconst 1, 1) := by decide +kernel
theorem dX1_has_20 : decode cX1_has 20 = .ok (.goto 4, 3) := by decide +kernel
theorem dX1_has_23 : decode cX1_has 23 = .ok (.iconst 0, 1) := by decide +kernel
theorem dX1_has_24 : decode cX1_has 24 = .ok (.ireturn, 1) := by decide +kernel
set_option maxRecDepth 20000 in
theorem ggX1_kindOf_X1_has : GoodIn wsX1_kindOf wsX1_has := goodIn_r _ [7, 8, 9, 10, 11, 12, 13, 14] (by decide +kernel) (by decide +kernel)
set_option maxRecDepth 20000 in
theorem gX1_kindOf_X1_has : GoodIn wsX1_kindOf (wsV RX1 31 RX1 yX1_has wsX1_has) := goodIn_app (goodIn_of _ (by decide +kernel)) ggX1_kindOf_X1_has
theorem dX1_kindOf_0 : decode cX1_kindOf 0 = .ok (.aload_n 0, 1) := by decide +kernel
theorem dX1_kindOf_1 : decode cX1_kindOf 1 = .ok (.iload_n 1, 1) := by decide +kernel
theorem dX1_kindOf_2 : decode cX1_kindOf 2 = .ok (.invokevirtual 31, 3) := by decide +kernel
theorem dX1_kindOf_5 : decode cX1_kindOf 5 = .ok (.ifCond .eq 14, 3) := by decide +kernel
theorem dX1_kindOf_8 : decode cX1_kindOf 8 = .ok (.aload_n 0, 1) := by decide +kernel
theorem dX1_kindOf_9 : decode cX1_kindOf 9 = .ok (.getfield 15, 3) := by decide +kernel
theorem dX1_kindOf_12 : decode cX1_kindOf 12 = .ok (.iload_n 1, 1) := by decide +kernel
theorem dX1_kindOf_13 : decode cX1_kindOf 13 = .ok (.iconst 1, 1) := by decide +kernel
theorem dX1_kindOf_14 : decode cX1_kindOf 14 = .ok (.isub, 1) := by decide +kernel
theorem dX1_kindOf_15 : decode cX1_kindOf 15 = .ok (.iaload, 1) := by decide +kernel
theorem dX1_kindOf_16 : decode cX1_kindOf 16 = .ok (.goto 5, 3) := by decide +kernel
theorem dX1_kindOf_19 : decode cX1_kindOf 19 = .ok (.ldc 35, 2) := by decide +kernel
theorem dX1_kindOf_21 : decode cX1_kindOf 21 = .ok (.ireturn, 1) := by decide +kernel
set_option maxRecDepth 20000 in
theorem ggX1_transactionOf_X1_has : GoodIn wsX1_transactionOf wsX1_has := goodIn_r _ [7, 8, 9, 10, 11, 12, 13, 14] (by decide +kernel) (by decide +kernel)
set_option maxRecDepth 20000 in
theorem gX1_transactionOf_X1_has : GoodIn wsX1_transactionOf (wsV RX1 31 RX1 yX1_has wsX1_has) := goodIn_app (goodIn_of _ (by decide +kernel)) ggX1_transactionOf_X1_has
theorem dX1_transactionOf_0 : decode cX1_transactionOf 0 = .ok (.aload_n 0, 1) := by decide +kernel
theorem dX1_transactionOf_1 : decode cX1_transactionOf 1 = .ok (.iload_n 1, 1) := by decide +kernel
theorem dX1_transactionOf_2 : decode cX1_transactionOf 2 = .ok (.invokevirtual 31, 3) := by decide +kernel
theorem dX1_transactionOf_5 : decode cX1_transactionOf 5 = .ok (.ifCond .eq 14, 3) := by decide +kernel
theorem dX1_transactionOf_8 : decode cX1_transactionOf 8 = .ok (.aload_n 0, 1) := by decide +kernel
theorem dX1_transactionOf_9 : decode cX1_transactionOf 9 = .ok (.getfield 19, 3) := by decide +kernel
theorem dX1_transactionOf_12 : decode cX1_transactionOf 12 = .ok (.iload_n 1, 1) := by decide +kernel
theorem dX1_transactionOf_13 : decode cX1_transactionOf 13 = .ok (.iconst 1, 1) := by decide +kernel
theorem dX1_transactionOf_14 : decode cX1_transactionOf 14 = .ok (.isub, 1) := by decide +kernel
theorem dX1_transactionOf_15 : decode cX1_transactionOf 15 = .ok (.iaload, 1) := by decide +kernel
theorem dX1_transactionOf_16 : decode cX1_transactionOf 16 = .ok (.goto 5, 3) := by decide +kernel
theorem dX1_transactionOf_19 : decode cX1_transactionOf 19 = .ok (.ldc 35, 2) := by decide +kernel
theorem dX1_transactionOf_21 : decode cX1_transactionOf 21 = .ok (.ireturn, 1) := by decide +kernel
set_option maxRecDepth 20000 in
theorem ggX1_keyOf_X1_has : GoodIn wsX1_keyOf wsX1_has := goodIn_r _ [7, 8, 9, 10, 11, 12, 13, 14] (by decide +kernel) (by decide +kernel)
set_option maxRecDepth 20000 in
theorem gX1_keyOf_X1_has : GoodIn wsX1_keyOf (wsV RX1 31 RX1 yX1_has wsX1_has) := goodIn_app (goodIn_of _ (by decide +kernel)) ggX1_keyOf_X1_has
theorem dX1_keyOf_0 : decode cX1_keyOf 0 = .ok (.aload_n 0, 1) := by decide +kernel
theorem dX1_keyOf_1 : decode cX1_keyOf 1 = .ok (.iload_n 1, 1) := by decide +kernel
theorem dX1_keyOf_2 : decode cX1_keyOf 2 = .ok (.invokevirtual 31, 3) := by decide +kernel
theorem dX1_keyOf_5 : decode cX1_keyOf 5 = .ok (.ifCond .eq 14, 3) := by decide +kernel
theorem dX1_keyOf_8 : decode cX1_keyOf 8 = .ok (.aload_n 0, 1) := by decide +kernel
theorem dX1_keyOf_9 : decode cX1_keyOf 9 = .ok (.getfield 22, 3) := by decide +kernel
theorem dX1_keyOf_12 : decode cX1_keyOf 12 = .ok (.iload_n 1, 1) := by decide +kernel
theorem dX1_keyOf_13 : decode cX1_keyOf 13 = .ok (.iconst 1, 1) := by decide +kernel
theorem dX1_keyOf_14 : decode cX1_keyOf 14 = .ok (.isub, 1) := by decide +kernel
theorem dX1_keyOf_15 : decode cX1_keyOf 15 = .ok (.iaload, 1) := by decide +kernel
theorem dX1_keyOf_16 : decode cX1_keyOf 16 = .ok (.goto 5, 3) := by decide +kernel
theorem dX1_keyOf_19 : decode cX1_keyOf 19 = .ok (.ldc 35, 2) := by decide +kernel
theorem dX1_keyOf_21 : decode cX1_keyOf 21 = .ok (.ireturn, 1) := by decide +kernel
set_option maxRecDepth 20000 in
theorem ggX1_valueIn_X1_has : GoodIn wsX1_valueIn wsX1_has := goodIn_r _ [7, 8, 9, 10, 11, 12, 13, 14] (by decide +kernel) (by decide +kernel)
set_option maxRecDepth 20000 in
theorem gX1_valueIn_X1_has : GoodIn wsX1_valueIn (wsV RX1 31 RX1 yX1_has wsX1_has) := goodIn_app (goodIn_of _ (by decide +kernel)) ggX1_valueIn_X1_has
theorem dX1_valueIn_0 : decode cX1_valueIn 0 = .ok (.aload_n 0, 1) := by decide +kernel
theorem dX1_valueIn_1 : decode cX1_valueIn 1 = .ok (.iload_n 1, 1) := by decide +kernel
theorem dX1_valueIn_2 : decode cX1_valueIn 2 = .ok (.invokevirtual 31, 3) := by decide +kernel
theorem dX1_valueIn_5 : decode cX1_valueIn 5 = .ok (.ifCond .eq 14, 3) := by decide +kernel
theorem dX1_valueIn_8 : decode cX1_valueIn 8 = .ok (.aload_n 0, 1) := by decide +kernel
theorem dX1_valueIn_9 : decode cX1_valueIn 9 = .ok (.getfield 25, 3) := by decide +kernel
theorem dX1_valueIn_12 : decode cX1_valueIn 12 = .ok (.iload_n 1, 1) := by decide +kernel
theorem dX1_valueIn_13 : decode cX1_valueIn 13 = .ok (.iconst 1, 1) := by decide +kernel
theorem dX1_valueIn_14 : decode cX1_valueIn 14 = .ok (.isub, 1) := by decide +kernel
theorem dX1_valueIn_15 : decode cX1_valueIn 15 = .ok (.iaload, 1) := by decide +kernel
theorem dX1_valueIn_16 : decode cX1_valueIn 16 = .ok (.goto 5, 3) := by decide +kernel
theorem dX1_valueIn_19 : decode cX1_valueIn 19 = .ok (.ldc 35, 2) := by decide +kernel
theorem dX1_valueIn_21 : decode cX1_valueIn 21 = .ok (.ireturn, 1) := by decide +kernel
set_option maxRecDepth 20000 in
theorem ggX1_tickOf_X1_has : GoodIn wsX1_tickOf wsX1_has := goodIn_r _ [7, 8, 9, 10, 11, 12, 13, 14] (by decide +kernel) (by decide +kernel)
set_option maxRecDepth 20000 in
theorem gX1_tickOf_X1_has : GoodIn wsX1_tickOf (wsV RX1 31 RX1 yX1_has wsX1_has) := goodIn_app (goodIn_of _ (by decide +kernel)) ggX1_tickOf_X1_has
theorem dX1_tickOf_0 : decode cX1_tickOf 0 = .ok (.aload_n 0, 1) := by decide +kernel
theorem dX1_tickOf_1 : decode cX1_tickOf 1 = .ok (.iload_n 1, 1) := by decide +kernel
theorem dX1_tickOf_2 : decode cX1_tickOf 2 = .ok (.invokevirtual 31, 3) := by decide +kernel
theorem dX1_tickOf_5 : decode cX1_tickOf 5 = .ok (.ifCond .eq 14, 3) := by decide +kernel
theorem dX1_tickOf_8 : decode cX1_tickOf 8 = .ok (.aload_n 0, 1) := by decide +kernel
theorem dX1_tickOf_9 : decode cX1_tickOf 9 = .ok (.getfield 28, 3) := by decide +kernel
theorem dX1_tickOf_12 : decode cX1_tickOf 12 = .ok (.iload_n 1, 1) := by decide +kernel
theorem dX1_tickOf_13 : decode cX1_tickOf 13 = .ok (.iconst 1, 1) := by decide +kernel
theorem dX1_tickOf_14 : decode cX1_tickOf 14 = .ok (.isub, 1) := by decide +kernel
theorem dX1_tickOf_15 : decode cX1_tickOf 15 = .ok (.iaload, 1) := by decide +kernel
theorem dX1_tickOf_16 : decode cX1_tickOf 16 = .ok (.goto 5, 3) := by decide +kernel
theorem dX1_tickOf_19 : decode cX1_tickOf 19 = .ok (.ldc 35, 2) := by decide +kernel
theorem dX1_tickOf_21 : decode cX1_tickOf 21 = .ok (.ireturn, 1) := by decide +kernel
theorem dX1_append_0 : decode cX1_append 0 = .ok (.aload_n 0, 1) := by decide +kernel
theorem dX1_append_1 : decode cX1_append 1 = .ok (.getfield 9, 3) := by decide +kernel
theorem dX1_append_4 : decode cX1_append 4 = .ok (.istore 6, 2) := by decide +kernel
theorem dX1_append_6 : decode cX1_append 6 = .ok (.iload 6, 2) := by decide +kernel
theorem dX1_append_8 : decode cX1_append 8 = .ok (.ifCond .lt 10, 3) := by decide +kernel
theorem dX1_append_11 : decode cX1_append 11 = .ok (.iload 6, 2) := by decide +kernel
theorem dX1_append_13 : decode cX1_append 13 = .ok (.bipush 100, 2) := by decide +kernel
theorem dX1_append_15 : decode cX1_append 15 = .ok (.if_icmp .lt 6, 3) := by decide +kernel
theorem dX1_append_18 : decode cX1_append 18 = .ok (.ldc 36, 2) := by decide +kernel
theorem dX1_append_20 : decode cX1_append 20 = .ok (.ireturn, 1) := by decide +kernel
theorem dX1_append_21 : decode cX1_append 21 = .ok (.aload_n 0, 1) := by decide +kernel
theorem dX1_append_22 : decode cX1_append 22 = .ok (.getfield 15, 3) := by decide +kernel
theorem dX1_append_25 : decode cX1_append 25 = .ok (.iload 6, 2) := by decide +kernel
theorem dX1_append_27 : decode cX1_append 27 = .ok (.iload_n 1, 1) := by decide +kernel
theorem dX1_append_28 : decode cX1_append 28 = .ok (.iastore, 1) := by decide +kernel
theorem dX1_append_29 : decode cX1_append 29 = .ok (.aload_n 0, 1) := by decide +kernel
theorem dX1_append_30 : decode cX1_append 30 = .ok (.getfield 19, 3) := by decide +kernel
theorem dX1_append_33 : decode cX1_append 33 = .ok (.iload 6, 2) := by decide +kernel
theorem dX1_append_35 : decode cX1_append 35 = .ok (.iload_n 2, 1) := by decide +kernel
theorem dX1_append_36 : decode cX1_append 36 = .ok (.iastore, 1) := by decide +kernel
theorem dX1_append_37 : decode cX1_append 37 = .ok (.aload_n 0, 1) := by decide +kernel
theorem dX1_append_38 : decode cX1_append 38 = .ok (.getfield 22, 3) := by decide +kernel
theorem dX1_append_41 : decode cX1_append 41 = .ok (.iload 6, 2) := by decide +kernel
theorem dX1_append_43 : decode cX1_append 43 = .ok (.iload_n 3, 1) := by decide +kernel
theorem dX1_append_44 : decode cX1_append 44 = .ok (.iastore, 1) := by decide +kernel
theorem dX1_append_45 : decode cX1_append 45 = .ok (.aload_n 0, 1) := by decide +kernel
theorem dX1_append_46 : decode cX1_append 46 = .ok (.getfield 25, 3) := by decide +kernel
theorem dX1_append_49 : decode cX1_append 49 = .ok (.iload 6, 2) := by decide +kernel
theorem dX1_append_51 : decode cX1_append 51 = .ok (.iload 4, 2) := by decide +kernel
theorem dX1_append_53 : decode cX1_append 53 = .ok (.iastore, 1) := by decide +kernel
theorem dX1_append_54 : decode cX1_append 54 = .ok (.aload_n 0, 1) := by decide +kernel
theorem dX1_append_55 : decode cX1_append 55 = .ok (.getfield 28, 3) := by decide +kernel
theorem dX1_append_58 : decode cX1_append 58 = .ok (.iload 6, 2) := by decide +kernel
theorem dX1_append_60 : decode cX1_append 60 = .ok (.iload 5, 2) := by decide +kernel
theorem dX1_append_62 : decode cX1_append 62 = .ok (.iastore, 1) := by decide +kernel
theorem dX1_append_63 : decode cX1_append 63 = .ok (.aload_n 0, 1) := by decide +kernel
theorem dX1_append_64 : decode cX1_append 64 = .ok (.iload 6, 2) := by decide +kernel
theorem dX1_append_66 : decode cX1_append 66 = .ok (.iconst 1, 1) := by decide +kernel
theorem dX1_append_67 : decode cX1_append 67 = .ok (.iadd, 1) := by decide +kernel
theorem dX1_append_68 : decode cX1_append 68 = .ok (.putfield 9, 3) := by decide +kernel
theorem dX1_append_71 : decode cX1_append 71 = .ok (.aload_n 0, 1) := by decide +kernel
theorem dX1_append_72 : decode cX1_append 72 = .ok (.getfield 9, 3) := by decide +kernel
theorem dX1_append_75 : decode cX1_append 75 = .ok (.ireturn, 1) := by decide +kernel
set_option maxRecDepth 20000 in
theorem ggX1_commitsBehind_X1_kindOf : GoodIn wsX1_commitsBehind wsX1_kindOf := goodIn_r _ [6, 7, 8, 9, 10, 11, 5, 12, 1, 13, 14, 15, 16, 17, 18] (by decide +kernel) (by decide +kernel)
set_option maxRecDepth 20000 in
theorem gX1_commitsBehind_X1_kindOf : GoodIn wsX1_commitsBehind (wsV RX1 37 RX1 yX1_kindOf wsX1_kindOf) := goodIn_app (goodIn_of _ (by decide +kernel)) ggX1_commitsBehind_X1_kindOf
theorem dX1_commitsBehind_0 : decode cX1_commitsBehind 0 = .ok (.iconst 0, 1) := by decide +kernel
theorem dX1_commitsBehind_1 : decode cX1_commitsBehind 1 = .ok (.istore_n 2, 1) := by decide +kernel
theorem dX1_commitsBehind_2 : decode cX1_commitsBehind 2 = .ok (.iload_n 1, 1) := by decide +kernel
theorem dX1_commitsBehind_3 : decode cX1_commitsBehind 3 = .ok (.iconst 1, 1) := by decide +kernel
theorem dX1_commitsBehind_4 : decode cX1_commitsBehind 4 = .ok (.iadd, 1) := by decide +kernel
theorem dX1_commitsBehind_5 : decode cX1_commitsBehind 5 = .ok (.istore_n 3, 1) := by decide +kernel
theorem dX1_commitsBehind_6 : decode cX1_commitsBehind 6 = .ok (.iload_n 3, 1) := by decide +kernel
theorem dX1_commitsBehind_7 : decode cX1_commitsBehind 7 = .ok (.aload_n 0, 1) := by decide +kernel
theorem dX1_commitsBehind_8 : decode cX1_commitsBehind 8 = .ok (.getfield 9, 3) := by decide +kernel
theorem dX1_commitsBehind_11 : decode cX1_commitsBehind 11 = .ok (.if_icmp .gt 21, 3) := by decide +kernel
theorem dX1_commitsBehind_14 : decode cX1_commitsBehind 14 = .ok (.aload_n 0, 1) := by decide +kernel
theorem dX1_commitsBehind_15 : decode cX1_commitsBehind 15 = .ok (.iload_n 3, 1) := by decide +kernel
theorem dX1_commitsBehind_16 : decode cX1_commitsBehind 16 = .ok (.invokevirtual 37, 3) := by decide +kernel
theorem dX1_commitsBehind_19 : decode cX1_commitsBehind 19 = .ok (.iconst 1, 1) := by decide +kernel
theorem dX1_commitsBehind_20 : decode cX1_commitsBehind 20 = .ok (.if_icmp .ne 6, 3) := by decide +kernel
theorem dX1_commitsBehind_23 : decode cX1_commitsBehind 23 = .ok (.iinc 2 1, 3) := by decide +kernel
theorem dX1_commitsBehind_26 : decode cX1_commitsBehind 26 = .ok (.iinc 3 1, 3) := by decide +kernel
theorem dX1_commitsBehind_29 : decode cX1_commitsBehind 29 = .ok (.goto (-23), 3) := by decide +kernel
theorem dX1_commitsBehind_32 : decode cX1_commitsBehind 32 = .ok (.iload_n 2, 1) := by decide +kernel
theorem dX1_commitsBehind_33 : decode cX1_commitsBehind 33 = .ok (.ireturn, 1) := by decide +kernel
set_option maxRecDepth 20000 in
theorem ggX1_putsOf_X1_isPutOf : GoodIn wsX1_putsOf wsX1_isPutOf := goodIn_r _ [6, 7, 8, 9, 5, 10, 11, 12, 13, 14, 15, 16, 1, 17, 18, 19, 20, 21, 22, 23, 24, 25, 26, 27] (by decide +kernel) (by decide +kernel)
set_option maxRecDepth 20000 in
theorem gX1_putsOf_X1_isPutOf : GoodIn wsX1_putsOf (wsV RX1 41 RX1 yX1_isPutOf wsX1_isPutOf) := goodIn_app (goodIn_of _ (by decide +kernel)) ggX1_putsOf_X1_isPutOf
theorem dX1_putsOf_0 : decode cX1_putsOf 0 = .ok (.iconst 0, 1) := by decide +kernel
theorem dX1_putsOf_1 : decode cX1_putsOf 1 = .ok (.istore_n 2, 1) := by decide +kernel
theorem dX1_putsOf_2 : decode cX1_putsOf 2 = .ok (.iconst 1, 1) := by decide +kernel
theorem dX1_putsOf_3 : decode cX1_putsOf 3 = .ok (.istore_n 3, 1) := by decide +kernel
theorem dX1_putsOf_4 : decode cX1_putsOf 4 = .ok (.iload_n 3, 1) := by decide +kernel
theorem dX1_putsOf_5 : decode cX1_putsOf 5 = .ok (.aload_n 0, 1) := by decide +kernel
theorem dX1_putsOf_6 : decode cX1_putsOf 6 = .ok (.getfield 9, 3) := by decide +kernel
theorem dX1_putsOf_9 : decode cX1_putsOf 9 = .ok (.if_icmp .gt 21, 3) := by decide +kernel
theorem dX1_putsOf_12 : decode cX1_putsOf 12 = .ok (.aload_n 0, 1) := by decide +kernel
theorem dX1_putsOf_13 : decode cX1_putsOf 13 = .ok (.iload_n 3, 1) := by decide +kernel
theorem dX1_putsOf_14 : decode cX1_putsOf 14 = .ok (.iload_n 1, 1) := by decide +kernel
theorem dX1_putsOf_15 : decode cX1_putsOf 15 = .ok (.invokevirtual 41, 3) := by decide +kernel
theorem dX1_putsOf_18 : decode cX1_putsOf 18 = .ok (.ifCond .eq 6, 3) := by decide +kernel
theorem dX1_putsOf_21 : decode cX1_putsOf 21 = .ok (.iinc 2 1, 3) := by decide +kernel
theorem dX1_putsOf_24 : decode cX1_putsOf 24 = .ok (.iinc 3 1, 3) := by decide +kernel
theorem dX1_putsOf_27 : decode cX1_putsOf 27 = .ok (.goto (-23), 3) := by decide +kernel
theorem dX1_putsOf_30 : decode cX1_putsOf 30 = .ok (.iload_n 2, 1) := by decide +kernel
theorem dX1_putsOf_31 : decode cX1_putsOf 31 = .ok (.ireturn, 1) := by decide +kernel
set_option maxRecDepth 20000 in
theorem ggX1_isPutOf_X1_transactionOf : GoodIn wsX1_isPutOf wsX1_transactionOf := goodIn_r _ [5, 6, 7, 8, 9, 10, 4, 11, 12, 18, 19, 20, 21, 22, 23] (by decide +kernel) (by decide +kernel)
set_option maxRecDepth 20000 in
theorem gX1_isPutOf_X1_transactionOf : GoodIn wsX1_isPutOf (wsV RX1 45 RX1 yX1_transactionOf wsX1_transactionOf) := goodIn_app (goodIn_of _ (by decide +kernel)) ggX1_isPutOf_X1_transactionOf
set_option maxRecDepth 20000 in
theorem ggX1_isPutOf_X1_kindOf : GoodIn wsX1_isPutOf wsX1_kindOf := goodIn_r _ [16, 17, 7, 8, 9, 10, 4, 11, 12, 18, 19, 20, 21, 22, 23] (by decide +kernel) (by decide +kernel)
set_option maxRecDepth 20000 in
theorem gX1_isPutOf_X1_kindOf : GoodIn wsX1_isPutOf (wsV RX1 37 RX1 yX1_kindOf wsX1_kindOf) := goodIn_app (goodIn_of _ (by decide +kernel)) ggX1_isPutOf_X1_kindOf
theorem dX1_isPutOf_0 : decode cX1_isPutOf 0 = .ok (.aload_n 0, 1) := by decide +kernel
theorem dX1_isPutOf_1 : decode cX1_isPutOf 1 = .ok (.iload_n 1, 1) := by decide +kernel
theorem dX1_isPutOf_2 : decode cX1_isPutOf 2 = .ok (.invokevirtual 45, 3) := by decide +kernel
theorem dX1_isPutOf_5 : decode cX1_isPutOf 5 = .ok (.iload_n 2, 1) := by decide +kernel
theorem dX1_isPutOf_6 : decode cX1_isPutOf 6 = .ok (.if_icmp .ne 15, 3) := by decide +kernel
theorem dX1_isPutOf_9 : decode cX1_isPutOf 9 = .ok (.aload_n 0, 1) := by decide +kernel
theorem dX1_isPutOf_10 : decode cX1_isPutOf 10 = .ok (.iload_n 1, 1) := by decide +kernel
theorem dX1_isPutOf_11 : decode cX1_isPutOf 11 = .ok (.invokevirtual 37, 3) := by decide +kernel
theorem dX1_isPutOf_14 : decode cX1_isPutOf 14 = .ok (.ifCond .ne 7, 3) := by decide +kernel
theorem dX1_isPutOf_17 : decode cX1_isPutOf 17 = .ok (.iconst 1, 1) := by decide +kernel
theorem dX1_isPutOf_18 : decode cX1_isPutOf 18 = .ok (.goto 4, 3) := by decide +kernel
theorem dX1_isPutOf_21 : decode cX1_isPutOf 21 = .ok (.iconst 0, 1) := by decide +kernel
theorem dX1_isPutOf_22 : decode cX1_isPutOf 22 = .ok (.ireturn, 1) := by decide +kernel
set_option maxRecDepth 20000 in
theorem ggX1_fillValues_X1_kindOf : GoodIn wsX1_fillValues wsX1_kindOf := goodIn_r _ [5, 6, 7, 8, 9, 10, 4, 11, 12, 39, 40, 41, 42, 43, 44] (by decide +kernel) (by decide +kernel)
set_option maxRecDepth 20000 in
theorem gX1_fillValues_X1_kindOf : GoodIn wsX1_fillValues (wsV RX1 37 RX1 yX1_kindOf wsX1_kindOf) := goodIn_app (goodIn_of _ (by decide +kernel)) ggX1_fillValues_X1_kindOf
set_option maxRecDepth 20000 in
theorem ggX1_fillValues_X1_transactionOf : GoodIn wsX1_fillValues wsX1_transactionOf := goodIn_r _ [16, 17, 7, 8, 9, 10, 4, 11, 12, 39, 40, 41, 42, 43, 44] (by decide +kernel) (by decide +kernel)
set_option maxRecDepth 20000 in
theorem gX1_fillValues_X1_transactionOf : GoodIn wsX1_fillValues (wsV RX1 45 RX1 yX1_transactionOf wsX1_transactionOf) := goodIn_app (goodIn_of _ (by decide +kernel)) ggX1_fillValues_X1_transactionOf
set_option maxRecDepth 20000 in
theorem ggX1_fillValues_X1_applyPuts : GoodIn wsX1_fillValues wsX1_applyPuts := goodIn_r _ [21, 22, 23, 24, 4, 25, 13, 14, 15, 16, 17, 7, 8, 9, 10, 11, 12, 1, 2, 3, 5, 6, 26, 27, 28, 29, 30, 31, 32, 33, 34, 35, 36, 37, 38, 39, 40, 41, 42, 43, 44] (by decide +kernel) (by decide +kernel)
set_option maxRecDepth 20000 in
theorem gX1_fillValues_X1_applyPuts : GoodIn wsX1_fillValues (wsV RX1 62 RX1 yX1_applyPuts wsX1_applyPuts) := goodIn_app (goodIn_of _ (by decide +kernel)) ggX1_fillValues_X1_applyPuts
theorem dX1_fillValues_0 : decode cX1_fillValues 0 = .ok (.iconst 0, 1) := by decide +kernel
theorem dX1_fillValues_1 : decode cX1_fillValues 1 = .ok (.istore_n 3, 1) := by decide +kernel
theorem dX1_fillValues_2 : decode cX1_fillValues 2 = .ok (.iload_n 3, 1) := by decide +kernel
theorem dX1_fillValues_3 : decode cX1_fillValues 3 = .ok (.aload_n 2, 1) := by decide +kernel
theorem dX1_fillValues_4 : decode cX1_fillValues 4 = .ok (.arraylength, 1) := by decide +kernel
theorem dX1_fillValues_5 : decode cX1_fillValues 5 = .ok (.if_icmp .ge 13, 3) := by decide +kernel
theorem dX1_fillValues_8 : decode cX1_fillValues 8 = .ok (.aload_n 2, 1) := by decide +kernel
theorem dX1_fillValues_9 : decode cX1_fillValues 9 = .ok (.iload_n 3, 1) := by decide +kernel
theorem dX1_fillValues_10 : decode cX1_fillValues 10 = .ok (.iconst 0, 1) := by decide +kernel
theorem dX1_fillValues_11 : decode cX1_fillValues 11 = .ok (.iastore, 1) := by decide +kernel
theorem dX1_fillValues_12 : decode cX1_fillValues 12 = .ok (.iinc 3 1, 3) := by decide +kernel
theorem dX1_fillValues_15 : decode cX1_fillValues 15 = .ok (.goto (-13), 3) := by decide +kernel
theorem dX1_fillValues_18 : decode cX1_fillValues 18 = .ok (.iconst 1, 1) := by decide +kernel
theorem dX1_fillValues_19 : decode cX1_fillValues 19 = .ok (.istore_n 3, 1) := by decide +kernel
theorem dX1_fillValues_20 : decode cX1_fillValues 20 = .ok (.iload_n 3, 1) := by decide +kernel
theorem dX1_fillValues_21 : decode cX1_fillValues 21 = .ok (.iload_n 1, 1) := by decide +kernel
theorem dX1_fillValues_22 : decode cX1_fillValues 22 = .ok (.if_icmp .gt 29, 3) := by decide +kernel
theorem dX1_fillValues_25 : decode cX1_fillValues 25 = .ok (.aload_n 0, 1) := by decide +kernel
theorem dX1_fillValues_26 : decode cX1_fillValues 26 = .ok (.iload_n 3, 1) := by decide +kernel
theorem dX1_fillValues_27 : decode cX1_fillValues 27 = .ok (.invokevirtual 37, 3) := by decide +kernel
theorem dX1_fillValues_30 : decode cX1_fillValues 30 = .ok (.iconst 1, 1) := by decide +kernel
theorem dX1_fillValues_31 : decode cX1_fillValues 31 = .ok (.if_icmp .ne 14, 3) := by decide +kernel
theorem dX1_fillValues_34 : decode cX1_fillValues 34 = .ok (.aload_n 0, 1) := by decide +kernel
theorem dX1_fillValues_35 : decode cX1_fillValues 35 = .ok (.aload_n 0, 1) := by decide +kernel
theorem dX1_fillValues_36 : decode cX1_fillValues 36 = .ok (.iload_n 3, 1) := by decide +kernel
theorem dX1_fillValues_37 : decode cX1_fillValues 37 = .ok (.invokevirtual 45, 3) := by decide +kernel
theorem dX1_fillValues_40 : decode cX1_fillValues 40 = .ok (.iload_n 3, 1) := by decide +kernel
theorem dX1_fillValues_41 : decode cX1_fillValues 41 = .ok (.aload_n 2, 1) := by decide +kernel
theorem dX1_fillValues_42 : decode cX1_fillValues 42 = .ok (.invokevirtual 62, 3) := by decide +kernel
theorem dX1_fillValues_45 : decode cX1_fillValues 45 = .ok (.iinc 3 1, 3) := by decide +kernel
theorem dX1_fillValues_48 : decode cX1_fillValues 48 = .ok (.goto (-28), 3) := by decide +kernel
theorem dX1_fillValues_51 : decode cX1_fillValues 51 = .ok (.return_, 1) := by decide +kernel
set_option maxRecDepth 20000 in
theorem ggX1_applyPuts_X1_isPutOf : GoodIn wsX1_applyPuts wsX1_isPutOf := goodIn_r _ [5, 6, 7, 8, 4, 9, 10, 11, 12, 13, 14, 15, 16, 17, 18, 19, 20, 21, 35, 36, 37, 38, 39, 40] (by decide +kernel) (by decide +kernel)
set_option maxRecDepth 20000 in
theorem gX1_applyPuts_X1_isPutOf : GoodIn wsX1_applyPuts (wsV RX1 41 RX1 yX1_isPutOf wsX1_isPutOf) := goodIn_app (goodIn_of _ (by decide +kernel)) ggX1_applyPuts_X1_isPutOf
set_option maxRecDepth 20000 in
theorem ggX1_applyPuts_X1_keyOf : GoodIn wsX1_applyPuts wsX1_keyOf := goodIn_r _ [25, 26, 11, 12, 13, 14, 4, 15, 16, 35, 36, 37, 38, 39, 40] (by decide +kernel) (by decide +kernel)
set_option maxRecDepth 20000 in
theorem gX1_applyPuts_X1_keyOf : GoodIn wsX1_applyPuts (wsV RX1 48 RX1 yX1_keyOf wsX1_keyOf) := goodIn_app (goodIn_of _ (by decide +kernel)) ggX1_applyPuts_X1_keyOf
set_option maxRecDepth 20000 in
theorem ggX1_applyPuts_X1_valueIn : GoodIn wsX1_applyPuts wsX1_valueIn := goodIn_r _ [30, 31, 11, 12, 13, 14, 4, 15, 16, 35, 36, 37, 38, 39, 40] (by decide +kernel) (by decide +kernel)
set_option maxRecDepth 20000 in
theorem gX1_applyPuts_X1_valueIn : GoodIn wsX1_applyPuts (wsV RX1 59 RX1 yX1_valueIn wsX1_valueIn) := goodIn_app (goodIn_of _ (by decide +kernel)) ggX1_applyPuts_X1_valueIn
set_option maxRecDepth 20000 in
theorem ggX1_applyPuts_X1_setValue : GoodIn wsX1_applyPuts wsX1_setValue := goodIn_r _ [34] (by decide +kernel) (by decide +kernel)
set_option maxRecDepth 20000 in
theorem gX1_applyPuts_X1_setValue : GoodIn wsX1_applyPuts (va_wsS RX1 66 yX1_setValue wsX1_setValue) := goodIn_app (goodIn_of _ (by decide +kernel)) ggX1_applyPuts_X1_setValue
theorem dX1_applyPuts_0 : decode cX1_applyPuts 0 = .ok (.iconst 1, 1) := by decide +kernel
theorem dX1_applyPuts_1 : decode cX1_applyPuts 1 = .ok (.istore 4, 2) := by decide +kernel
theorem dX1_applyPuts_3 : decode cX1_applyPuts 3 = .ok (.iload 4, 2) := by decide +kernel
theorem dX1_applyPuts_5 : decode cX1_applyPuts 5 = .ok (.iload_n 2, 1) := by decide +kernel
theorem dX1_applyPuts_6 : decode cX1_applyPuts 6 = .ok (.if_icmp .ge 35, 3) := by decide +kernel
theorem dX1_applyPuts_9 : decode cX1_applyPuts 9 = .ok (.aload_n 0, 1) := by decide +kernel
theorem dX1_applyPuts_10 : decode cX1_applyPuts 10 = .ok (.iload 4, 2) := by decide +kernel
theorem dX1_applyPuts_12 : decode cX1_applyPuts 12 = .ok (.iload_n 1, 1) := by decide +kernel
theorem dX1_applyPuts_13 : decode cX1_applyPuts 13 = .ok (.invokevirtual 41, 3) := by decide +kernel
theorem dX1_applyPuts_16 : decode cX1_applyPuts 16 = .ok (.ifCond .eq 19, 3) := by decide +kernel
theorem dX1_applyPuts_19 : decode cX1_applyPuts 19 = .ok (.aload_n 3, 1) := by decide +kernel
theorem dX1_applyPuts_20 : decode cX1_applyPuts 20 = .ok (.aload_n 0, 1) := by decide +kernel
theorem dX1_applyPuts_21 : decode cX1_applyPuts 21 = .ok (.iload 4, 2) := by decide +kernel
theorem dX1_applyPuts_23 : decode cX1_applyPuts 23 = .ok (.invokevirtual 48, 3) := by decide +kernel
theorem dX1_applyPuts_26 : decode cX1_applyPuts 26 = .ok (.aload_n 0, 1) := by decide +kernel
theorem dX1_applyPuts_27 : decode cX1_applyPuts 27 = .ok (.iload 4, 2) := by decide +kernel
theorem dX1_applyPuts_29 : decode cX1_applyPuts 29 = .ok (.invokevirtual 59, 3) := by decide +kernel
theorem dX1_applyPuts_32 : decode cX1_applyPuts 32 = .ok (.invokestatic 66, 3) := by decide +kernel
theorem dX1_applyPuts_35 : decode cX1_applyPuts 35 = .ok (.iinc 4 1, 3) := by decide +kernel
theorem dX1_applyPuts_38 : decode cX1_applyPuts 38 = .ok (.goto (-35), 3) := by decide +kernel
theorem dX1_applyPuts_41 : decode cX1_applyPuts 41 = .ok (.return_, 1) := by decide +kernel
theorem dX1_setValue_0 : decode cX1_setValue 0 = .ok (.iload_n 1, 1) := by decide +kernel
theorem dX1_setValue_1 : decode cX1_setValue 1 = .ok (.ifCond .lt 13, 3) := by decide +kernel
theorem dX1_setValue_4 : decode cX1_setValue 4 = .ok (.iload_n 1, 1) := by decide +kernel
theorem dX1_setValue_5 : decode cX1_setValue 5 = .ok (.aload_n 0, 1) := by decide +kernel
theorem dX1_setValue_6 : decode cX1_setValue 6 = .ok (.arraylength, 1) := by decide +kernel
theorem dX1_setValue_7 : decode cX1_setValue 7 = .ok (.if_icmp .ge 7, 3) := by decide +kernel
theorem dX1_setValue_10 : decode cX1_setValue 10 = .ok (.aload_n 0, 1) := by decide +kernel
theorem dX1_setValue_11 : decode cX1_setValue 11 = .ok (.iload_n 1, 1) := by decide +kernel
theorem dX1_setValue_12 : decode cX1_setValue 12 = .ok (.iload_n 2, 1) := by decide +kernel
theorem dX1_setValue_13 : decode cX1_setValue 13 = .ok (.iastore, 1) := by decide +kernel
theorem dX1_setValue_14 : decode cX1_setValue 14 = .ok (.return_, 1) := by decide +kernel
theorem dX1_copyFrom_0 : decode cX1_copyFrom 0 = .ok (.iconst 0, 1) := by decide +kernel
theorem dX1_copyFrom_1 : decode cX1_copyFrom 1 = .ok (.aload_n 1, 1) := by decide +kernel
theorem dX1_copyFrom_2 : decode cX1_copyFrom 2 = .ok (.getfield 9, 3) := by decide +kernel
theorem dX1_copyFrom_5 : decode cX1_copyFrom 5 = .ok (.bipush 100, 2) := by decide +kernel
theorem dX1_copyFrom_7 : decode cX1_copyFrom 7 = .ok (.invokestatic 70, 3) := by decide +kernel
theorem dX1_copyFrom_10 : decode cX1_copyFrom 10 = .ok (.invokestatic 75, 3) := by decide +kernel
theorem dX1_copyFrom_13 : decode cX1_copyFrom 13 = .ok (.istore_n 2, 1) := by decide +kernel
theorem dX1_copyFrom_14 : decode cX1_copyFrom 14 = .ok (.aload_n 1, 1) := by decide +kernel
theorem dX1_copyFrom_15 : decode cX1_copyFrom 15 = .ok (.getfield 15, 3) := by decide +kernel
theorem dX1_copyFrom_18 : decode cX1_copyFrom 18 = .ok (.iconst 0, 1) := by decide +kernel
theorem dX1_copyFrom_19 : decode cX1_copyFrom 19 = .ok (.aload_n 0, 1) := by decide +kernel
theorem dX1_copyFrom_20 : decode cX1_copyFrom 20 = .ok (.getfield 15, 3) := by decide +kernel
theorem dX1_copyFrom_23 : decode cX1_copyFrom 23 = .ok (.iconst 0, 1) := by decide +kernel
theorem dX1_copyFrom_24 : decode cX1_copyFrom 24 = .ok (.iload_n 2, 1) := by decide +kernel
theorem dX1_copyFrom_25 : decode cX1_copyFrom 25 = .ok (.invokestatic 78, 3) := by decide +kernel
theorem dX1_copyFrom_28 : decode cX1_copyFrom 28 = .ok (.aload_n 1, 1) := by decide +kernel
theorem dX1_copyFrom_29 : decode cX1_copyFrom 29 = .ok (.getfield 19, 3) := by decide +kernel
theorem dX1_copyFrom_32 : decode cX1_copyFrom 32 = .ok (.iconst 0, 1) := by decide +kernel
theorem dX1_copyFrom_33 : decode cX1_copyFrom 33 = .ok (.aload_n 0, 1) := by decide +kernel
theorem dX1_copyFrom_34 : decode cX1_copyFrom 34 = .ok (.getfield 19, 3) := by decide +kernel
theorem dX1_copyFrom_37 : decode cX1_copyFrom 37 = .ok (.iconst 0, 1) := by decide +kernel
theorem dX1_copyFrom_38 : decode cX1_copyFrom 38 = .ok (.iload_n 2, 1) := by decide +kernel
theorem dX1_copyFrom_39 : decode cX1_copyFrom 39 = .ok (.invokestatic 78, 3) := by decide +kernel
theorem dX1_copyFrom_42 : decode cX1_copyFrom 42 = .ok (.aload_n 1, 1) := by decide +kernel
theorem dX1_copyFrom_43 : decode cX1_copyFrom 43 = .ok (.getfield 22, 3) := by decide +kernel
theorem dX1_copyFrom_46 : decode cX1_copyFrom 46 = .ok (.iconst 0, 1) := by decide +kernel
theorem dX1_copyFrom_47 : decode cX1_copyFrom 47 = .ok (.aload_n 0, 1) := by decide +kernel
theorem dX1_copyFrom_48 : decode cX1_copyFrom 48 = .ok (.getfield 22, 3) := by decide +kernel
theorem dX1_copyFrom_51 : decode cX1_copyFrom 51 = .ok (.iconst 0, 1) := by decide +kernel
theorem dX1_copyFrom_52 : decode cX1_copyFrom 52 = .ok (.iload_n 2, 1) := by decide +kernel
theorem dX1_copyFrom_53 : decode cX1_copyFrom 53 = .ok (.invokestatic 78, 3) := by decide +kernel
theorem dX1_copyFrom_56 : decode cX1_copyFrom 56 = .ok (.aload_n 1, 1) := by decide +kernel
theorem dX1_copyFrom_57 : decode cX1_copyFrom 57 = .ok (.getfield 25, 3) := by decide +kernel
theorem dX1_copyFrom_60 : decode cX1_copyFrom 60 = .ok (.iconst 0, 1) := by decide +kernel
theorem dX1_copyFrom_61 : decode cX1_copyFrom 61 = .ok (.aload_n 0, 1) := by decide +kernel
theorem dX1_copyFrom_62 : decode cX1_copyFrom 62 = .ok (.getfield 25, 3) := by decide +kernel
theorem dX1_copyFrom_65 : decode cX1_copyFrom 65 = .ok (.iconst 0, 1) := by decide +kernel
theorem dX1_copyFrom_66 : decode cX1_copyFrom 66 = .ok (.iload_n 2, 1) := by decide +kernel
theorem dX1_copyFrom_67 : decode cX1_copyFrom 67 = .ok (.invokestatic 78, 3) := by decide +kernel
theorem dX1_copyFrom_70 : decode cX1_copyFrom 70 = .ok (.aload_n 1, 1) := by decide +kernel
theorem dX1_copyFrom_71 : decode cX1_copyFrom 71 = .ok (.getfield 28, 3) := by decide +kernel
theorem dX1_copyFrom_74 : decode cX1_copyFrom 74 = .ok (.iconst 0, 1) := by decide +kernel
theorem dX1_copyFrom_75 : decode cX1_copyFrom 75 = .ok (.aload_n 0, 1) := by decide +kernel
theorem dX1_copyFrom_76 : decode cX1_copyFrom 76 = .ok (.getfield 28, 3) := by decide +kernel
theorem dX1_copyFrom_79 : decode cX1_copyFrom 79 = .ok (.iconst 0, 1) := by decide +kernel
theorem dX1_copyFrom_80 : decode cX1_copyFrom 80 = .ok (.iload_n 2, 1) := by decide +kernel
theorem dX1_copyFrom_81 : decode cX1_copyFrom 81 = .ok (.invokestatic 78, 3) := by decide +kernel
theorem dX1_copyFrom_84 : decode cX1_copyFrom 84 = .ok (.aload_n 0, 1) := by decide +kernel
theorem dX1_copyFrom_85 : decode cX1_copyFrom 85 = .ok (.iload_n 2, 1) := by decide +kernel
theorem dX1_copyFrom_86 : decode cX1_copyFrom 86 = .ok (.putfield 9, 3) := by decide +kernel
theorem dX1_copyFrom_89 : decode cX1_copyFrom 89 = .ok (.return_, 1) := by decide +kernel
theorem dX2_init_0 : decode cX2_init 0 = .ok (.aload_n 0, 1) := by decide +kernel
theorem dX2_init_1 : decode cX2_init 1 = .ok (.invokespecial 3, 3) := by decide +kernel
theorem dX2_init_4 : decode cX2_init 4 = .ok (.aload_n 0, 1) := by decide +kernel
theorem dX2_init_5 : decode cX2_init 5 = .ok (.bipush 60, 2) := by decide +kernel
theorem dX2_init_7 : decode cX2_init 7 = .ok (.newarray .char, 2) := by decide +kernel
theorem dX2_init_9 : decode cX2_init 9 = .ok (.putfield 9, 3) := by decide +kernel
theorem dX2_init_12 : decode cX2_init 12 = .ok (.aload_n 0, 1) := by decide +kernel
theorem dX2_init_13 : decode cX2_init 13 = .ok (.iconst 0, 1) := by decide +kernel
theorem dX2_init_14 : decode cX2_init 14 = .ok (.putfield 15, 3) := by decide +kernel
theorem dX2_init_17 : decode cX2_init 17 = .ok (.aload_n 0, 1) := by decide +kernel
theorem dX2_init_18 : decode cX2_init 18 = .ok (.iconst 0, 1) := by decide +kernel
theorem dX2_init_19 : decode cX2_init 19 = .ok (.putfield 19, 3) := by decide +kernel
theorem dX2_init_22 : decode cX2_init 22 = .ok (.aload_n 0, 1) := by decide +kernel
theorem dX2_init_23 : decode cX2_init 23 = .ok (.iconst 0, 1) := by decide +kernel
theorem dX2_init_24 : decode cX2_init 24 = .ok (.putfield 22, 3) := by decide +kernel
theorem dX2_init_27 : decode cX2_init 27 = .ok (.aload_n 0, 1) := by decide +kernel
theorem dX2_init_28 : decode cX2_init 28 = .ok (.iconst 3, 1) := by decide +kernel
theorem dX2_init_29 : decode cX2_init 29 = .ok (.newarray .int, 2) := by decide +kernel
theorem dX2_init_31 : decode cX2_init 31 = .ok (.putfield 25, 3) := by decide +kernel
theorem dX2_init_34 : decode cX2_init 34 = .ok (.aload_n 0, 1) := by decide +kernel
theorem dX2_init_35 : decode cX2_init 35 = .ok (.iconst 0, 1) := by decide +kernel
theorem dX2_init_36 : decode cX2_init 36 = .ok (.putfield 29, 3) := by decide +kernel
theorem dX2_init_39 : decode cX2_init 39 = .ok (.return_, 1) := by decide +kernel
theorem dX3_init_0 : decode cX3_init 0 = .ok (.aload_n 0, 1) := by decide +kernel
theorem dX3_init_1 : decode cX3_init 1 = .ok (.invokespecial 3, 3) := by decide +kernel
theorem dX3_init_4 : decode cX3_init 4 = .ok (.aload_n 0, 1) := by decide +kernel
theorem dX3_init_5 : decode cX3_init 5 = .ok (.iconst 0, 1) := by decide +kernel
theorem dX3_init_6 : decode cX3_init 6 = .ok (.putfield 9, 3) := by decide +kernel
theorem dX3_init_9 : decode cX3_init 9 = .ok (.aload_n 0, 1) := by decide +kernel
theorem dX3_init_10 : decode cX3_init 10 = .ok (.iconst 0, 1) := by decide +kernel
theorem dX3_init_11 : decode cX3_init 11 = .ok (.putfield 15, 3) := by decide +kernel
theorem dX3_init_14 : decode cX3_init 14 = .ok (.aload_n 0, 1) := by decide +kernel
theorem dX3_init_15 : decode cX3_init 15 = .ok (.iconst 0, 1) := by decide +kernel
theorem dX3_init_16 : decode cX3_init 16 = .ok (.putfield 18, 3) := by decide +kernel
theorem dX3_init_19 : decode cX3_init 19 = .ok (.aload_n 0, 1) := by decide +kernel
theorem dX3_init_20 : decode cX3_init 20 = .ok (.bipush 101, 2) := by decide +kernel
theorem dX3_init_22 : decode cX3_init 22 = .ok (.newarray .boolean, 2) := by decide +kernel
theorem dX3_init_24 : decode cX3_init 24 = .ok (.putfield 22, 3) := by decide +kernel
theorem dX3_init_27 : decode cX3_init 27 = .ok (.return_, 1) := by decide +kernel
theorem dX3_isGap_0 : decode cX3_isGap 0 = .ok (.iload_n 1, 1) := by decide +kernel
theorem dX3_isGap_1 : decode cX3_isGap 1 = .ok (.iconst 1, 1) := by decide +kernel
theorem dX3_isGap_2 : decode cX3_isGap 2 = .ok (.if_icmp .lt 22, 3) := by decide +kernel
theorem dX3_isGap_5 : decode cX3_isGap 5 = .ok (.iload_n 1, 1) := by decide +kernel
theorem dX3_isGap_6 : decode cX3_isGap 6 = .ok (.bipush 100, 2) := by decide +kernel
theorem dX3_isGap_8 : decode cX3_isGap 8 = .ok (.if_icmp .gt 16, 3) := by decide +kernel
theorem dX3_isGap_11 : decode cX3_isGap 11 = .ok (.aload_n 0, 1) := by decide +kernel
theorem dX3_isGap_12 : decode cX3_isGap 12 = .ok (.getfield 22, 3) := by decide +kernel
theorem dX3_isGap_15 : decode cX3_isGap 15 = .ok (.iload_n 1, 1) := by decide +kernel
theorem dX3_isGap_16 : decode cX3_isGap 16 = .ok (.baload, 1) := by decide +kernel
theorem dX3_isGap_17 : decode cX3_isGap 17 = .ok (.ifCond .eq 7, 3) := by decide +kernel
theorem dX3_isGap_20 : decode cX3_isGap 20 = .ok (.iconst 1, 1) := by decide +kernel
theorem dX3_isGap_21 : decode cX3_isGap 21 = .ok (.goto 4, 3) := by decide +kernel
theorem dX3_isGap_24 : decode cX3_isGap 24 = .ok (.iconst 0, 1) := by decide +kernel
theorem dX3_isGap_25 : decode cX3_isGap 25 = .ok (.ireturn, 1) := by decide +kernel
theorem dX3_setGap_0 : decode cX3_setGap 0 = .ok (.iload_n 1, 1) := by decide +kernel
theorem dX3_setGap_1 : decode cX3_setGap 1 = .ok (.iconst 1, 1) := by decide +kernel
theorem dX3_setGap_2 : decode cX3_setGap 2 = .ok (.if_icmp .lt 16, 3) := by decide +kernel
theorem dX3_setGap_5 : decode cX3_setGap 5 = .ok (.iload_n 1, 1) := by decide +kernel
theorem dX3_setGap_6 : decode cX3_setGap 6 = .ok (.bipush 100, 2) := by decide +kernel
theorem dX3_setGap_8 : decode cX3_setGap 8 = .ok (.if_icmp .gt 10, 3) := by decide +kernel
theorem dX3_setGap_11 : decode cX3_setGap 11 = .ok (.aload_n 0, 1) := by decide +kernel
theorem dX3_setGap_12 : decode cX3_setGap 12 = .ok (.getfield 22, 3) := by decide +kernel
theorem dX3_setGap_15 : decode cX3_setGap 15 = .ok (.iload_n 1, 1) := by decide +kernel
theorem dX3_setGap_16 : decode cX3_setGap 16 = .ok (.iconst 1, 1) := by decide +kernel
theorem dX3_setGap_17 : decode cX3_setGap 17 = .ok (.bastore, 1) := by decide +kernel
theorem dX3_setGap_18 : decode cX3_setGap 18 = .ok (.return_, 1) := by decide +kernel
theorem dX3_gapCount_0 : decode cX3_gapCount 0 = .ok (.iconst 0, 1) := by decide +kernel
theorem dX3_gapCount_1 : decode cX3_gapCount 1 = .ok (.istore_n 1, 1) := by decide +kernel
theorem dX3_gapCount_2 : decode cX3_gapCount 2 = .ok (.iconst 1, 1) := by decide +kernel
theorem dX3_gapCount_3 : decode cX3_gapCount 3 = .ok (.istore_n 2, 1) := by decide +kernel
theorem dX3_gapCount_4 : decode cX3_gapCount 4 = .ok (.iload_n 2, 1) := by decide +kernel
theorem dX3_gapCount_5 : decode cX3_gapCount 5 = .ok (.bipush 100, 2) := by decide +kernel
theorem dX3_gapCount_7 : decode cX3_gapCount 7 = .ok (.if_icmp .gt 21, 3) := by decide +kernel
theorem dX3_gapCount_10 : decode cX3_gapCount 10 = .ok (.aload_n 0, 1) := by decide +kernel
theorem dX3_gapCount_11 : decode cX3_gapCount 11 = .ok (.getfield 22, 3) := by decide +kernel
theorem dX3_gapCount_14 : decode cX3_gapCount 14 = .ok (.iload_n 2, 1) := by decide +kernel
theorem dX3_gapCount_15 : decode cX3_gapCount 15 = .ok (.baload, 1) := by decide +kernel
theorem dX3_gapCount_16 : decode cX3_gapCount 16 = .ok (.ifCond .eq 6, 3) := by decide +kernel
theorem dX3_gapCount_19 : decode cX3_gapCount 19 = .ok (.iinc 1 1, 3) := by decide +kernel
theorem dX3_gapCount_22 : decode cX3_gapCount 22 = .ok (.iinc 2 1, 3) := by decide +kernel
theorem dX3_gapCount_25 : decode cX3_gapCount 25 = .ok (.goto (-21), 3) := by decide +kernel
theorem dX3_gapCount_28 : decode cX3_gapCount 28 = .ok (.iload_n 1, 1) := by decide +kernel
theorem dX3_gapCount_29 : decode cX3_gapCount 29 = .ok (.ireturn, 1) := by decide +kernel
theorem dX3_lowestGap_0 : decode cX3_lowestGap 0 = .ok (.iconst 1, 1) := by decide +kernel
theorem dX3_lowestGap_1 : decode cX3_lowestGap 1 = .ok (.istore_n 1, 1) := by decide +kernel
theorem dX3_lowestGap_2 : decode cX3_lowestGap 2 = .ok (.iload_n 1, 1) := by decide +kernel
theorem dX3_lowestGap_3 : decode cX3_lowestGap 3 = .ok (.bipush 100, 2) := by decide +kernel
theorem dX3_lowestGap_5 : decode cX3_lowestGap 5 = .ok (.if_icmp .gt 20, 3) := by decide +kernel
theorem dX3_lowestGap_8 : decode cX3_lowestGap 8 = .ok (.aload_n 0, 1) := by decide +kernel
theorem dX3_lowestGap_9 : decode cX3_lowestGap 9 = .ok (.getfield 22, 3) := by decide +kernel
theorem dX3_lowestGap_12 : decode cX3_lowestGap 12 = .ok (.iload_n 1, 1) := by decide +kernel
theorem dX3_lowestGap_13 : decode cX3_lowestGap 13 = .ok (.baload, 1) := by decide +kernel
theorem dX3_lowestGap_14 : decode cX3_lowestGap 14 = .ok (.ifCond .eq 5, 3) := by decide +kernel
theorem dX3_lowestGap_17 : decode cX3_lowestGap 17 = .ok (.iload_n 1, 1) := by decide +kernel
theorem dX3_lowestGap_18 : decode cX3_lowestGap 18 = .ok (.ireturn, 1) := by decide +kernel
theorem dX3_lowestGap_19 : decode cX3_lowestGap 19 = .ok (.iinc 1 1, 3) := by decide +kernel
theorem dX3_lowestGap_22 : decode cX3_lowestGap 22 = .ok (.goto (-20), 3) := by decide +kernel
theorem dX3_lowestGap_25 : decode cX3_lowestGap 25 = .ok (.iconst 0, 1) := by decide +kernel
theorem dX3_lowestGap_26 : decode cX3_lowestGap 26 = .ok (.ireturn, 1) := by decide +kernel
theorem dX3_dropGapsBehind_0 : decode cX3_dropGapsBehind 0 = .ok (.iconst 0, 1) := by decide +kernel
theorem dX3_dropGapsBehind_1 : decode cX3_dropGapsBehind 1 = .ok (.iload_n 1, 1) := by decide +kernel
theorem dX3_dropGapsBehind_2 : decode cX3_dropGapsBehind 2 = .ok (.invokestatic 30, 3) := by decide +kernel
theorem dX3_dropGapsBehind_5 : decode cX3_dropGapsBehind 5 = .ok (.iconst 1, 1) := by decide +kernel
theorem dX3_dropGapsBehind_6 : decode cX3_dropGapsBehind 6 = .ok (.iadd, 1) := by decide +kernel
theorem dX3_dropGapsBehind_7 : decode cX3_dropGapsBehind 7 = .ok (.istore_n 2, 1) := by decide +kernel
theorem dX3_dropGapsBehind_8 : decode cX3_dropGapsBehind 8 = .ok (.iload_n 2, 1) := by decide +kernel
theorem dX3_dropGapsBehind_9 : decode cX3_dropGapsBehind 9 = .ok (.bipush 100, 2) := by decide +kernel
theorem dX3_dropGapsBehind_11 : decode cX3_dropGapsBehind 11 = .ok (.if_icmp .gt 16, 3) := by decide +kernel
theorem dX3_dropGapsBehind_14 : decode cX3_dropGapsBehind 14 = .ok (.aload_n 0, 1) := by decide +kernel
theorem dX3_dropGapsBehind_15 : decode cX3_dropGapsBehind 15 = .ok (.getfield 22, 3) := by decide +kernel
theorem dX3_dropGapsBehind_18 : decode cX3_dropGapsBehind 18 = .ok (.iload_n 2, 1) := by decide +kernel
theorem dX3_dropGapsBehind_19 : decode cX3_dropGapsBehind 19 = .ok (.iconst 0, 1) := by decide +kernel
theorem dX3_dropGapsBehind_20 : decode cX3_dropGapsBehind 20 = .ok (.bastore, 1) := by decide +kernel
theorem dX3_dropGapsBehind_21 : decode cX3_dropGapsBehind 21 = .ok (.iinc 2 1, 3) := by decide +kernel
theorem dX3_dropGapsBehind_24 : decode cX3_dropGapsBehind 24 = .ok (.goto (-16), 3) := by decide +kernel
theorem dX3_dropGapsBehind_27 : decode cX3_dropGapsBehind 27 = .ok (.return_, 1) := by decide +kernel
set_option maxRecDepth 20000 in
theorem ggX3_standAt_X3_dropGapsBehind : GoodIn wsX3_standAt wsX3_dropGapsBehind := goodIn_r _ [8, 9, 10, 11, 12, 13, 14, 15, 16, 17] (by decide +kernel) (by decide +kernel)
set_option maxRecDepth 20000 in
theorem gX3_standAt_X3_dropGapsBehind : GoodIn wsX3_standAt (wsV RX3 36 RX3 yX3_dropGapsBehind wsX3_dropGapsBehind) := goodIn_app (goodIn_of _ (by decide +kernel)) ggX3_standAt_X3_dropGapsBehind
theorem dX3_standAt_0 : decode cX3_standAt 0 = .ok (.aload_n 0, 1) := by decide +kernel
theorem dX3_standAt_1 : decode cX3_standAt 1 = .ok (.iload_n 1, 1) := by decide +kernel
theorem dX3_standAt_2 : decode cX3_standAt 2 = .ok (.putfield 9, 3) := by decide +kernel
theorem dX3_standAt_5 : decode cX3_standAt 5 = .ok (.aload_n 0, 1) := by decide +kernel
theorem dX3_standAt_6 : decode cX3_standAt 6 = .ok (.iload_n 1, 1) := by decide +kernel
theorem dX3_standAt_7 : decode cX3_standAt 7 = .ok (.putfield 15, 3) := by decide +kernel
theorem dX3_standAt_10 : decode cX3_standAt 10 = .ok (.aload_n 0, 1) := by decide +kernel
theorem dX3_standAt_11 : decode cX3_standAt 11 = .ok (.iload_n 2, 1) := by decide +kernel
theorem dX3_standAt_12 : decode cX3_standAt 12 = .ok (.putfield 18, 3) := by decide +kernel
theorem dX3_standAt_15 : decode cX3_standAt 15 = .ok (.aload_n 0, 1) := by decide +kernel
theorem dX3_standAt_16 : decode cX3_standAt 16 = .ok (.iconst 0, 1) := by decide +kernel
theorem dX3_standAt_17 : decode cX3_standAt 17 = .ok (.invokevirtual 36, 3) := by decide +kernel
theorem dX3_standAt_20 : decode cX3_standAt 20 = .ok (.return_, 1) := by decide +kernel
set_option maxRecDepth 20000 in
theorem ggX3_cutTo_X3_dropGapsBehind : GoodIn wsX3_cutTo wsX3_dropGapsBehind := goodIn_r _ [12, 13, 14, 4, 15, 16, 17, 18, 19, 20] (by decide +kernel) (by decide +kernel)
set_option maxRecDepth 20000 in
theorem gX3_cutTo_X3_dropGapsBehind : GoodIn wsX3_cutTo (wsV RX3 36 RX3 yX3_dropGapsBehind wsX3_dropGapsBehind) := goodIn_app (goodIn_of _ (by decide +kernel)) ggX3_cutTo_X3_dropGapsBehind
theorem dX3_cutTo_0 : decode cX3_cutTo 0 = .ok (.aload_n 0, 1) := by decide +kernel
theorem dX3_cutTo_1 : decode cX3_cutTo 1 = .ok (.aload_n 0, 1) := by decide +kernel
theorem dX3_cutTo_2 : decode cX3_cutTo 2 = .ok (.getfield 9, 3) := by decide +kernel
theorem dX3_cutTo_5 : decode cX3_cutTo 5 = .ok (.iload_n 1, 1) := by decide +kernel
theorem dX3_cutTo_6 : decode cX3_cutTo 6 = .ok (.invokestatic 40, 3) := by decide +kernel
theorem dX3_cutTo_9 : decode cX3_cutTo 9 = .ok (.putfield 9, 3) := by decide +kernel
theorem dX3_cutTo_12 : decode cX3_cutTo 12 = .ok (.aload_n 0, 1) := by decide +kernel
theorem dX3_cutTo_13 : decode cX3_cutTo 13 = .ok (.iload_n 1, 1) := by decide +kernel
theorem dX3_cutTo_14 : decode cX3_cutTo 14 = .ok (.invokevirtual 36, 3) := by decide +kernel
theorem dX3_cutTo_17 : decode cX3_cutTo 17 = .ok (.aload_n 0, 1) := by decide +kernel
theorem dX3_cutTo_18 : decode cX3_cutTo 18 = .ok (.getfield 15, 3) := by decide +kernel
theorem dX3_cutTo_21 : decode cX3_cutTo 21 = .ok (.iload_n 1, 1) := by decide +kernel
theorem dX3_cutTo_22 : decode cX3_cutTo 22 = .ok (.if_icmp .le 13, 3) := by decide +kernel
theorem dX3_cutTo_25 : decode cX3_cutTo 25 = .ok (.aload_n 0, 1) := by decide +kernel
theorem dX3_cutTo_26 : decode cX3_cutTo 26 = .ok (.iload_n 1, 1) := by decide +kernel
theorem dX3_cutTo_27 : decode cX3_cutTo 27 = .ok (.putfield 15, 3) := by decide +kernel
theorem dX3_cutTo_30 : decode cX3_cutTo 30 = .ok (.aload_n 0, 1) := by decide +kernel
theorem dX3_cutTo_31 : decode cX3_cutTo 31 = .ok (.iconst 1, 1) := by decide +kernel
theorem dX3_cutTo_32 : decode cX3_cutTo 32 = .ok (.putfield 18, 3) := by decide +kernel
theorem dX3_cutTo_35 : decode cX3_cutTo 35 = .ok (.return_, 1) := by decide +kernel
theorem dX3_copyFrom_0 : decode cX3_copyFrom 0 = .ok (.aload_n 0, 1) := by decide +kernel
theorem dX3_copyFrom_1 : decode cX3_copyFrom 1 = .ok (.aload_n 1, 1) := by decide +kernel
theorem dX3_copyFrom_2 : decode cX3_copyFrom 2 = .ok (.getfield 9, 3) := by decide +kernel
theorem dX3_copyFrom_5 : decode cX3_copyFrom 5 = .ok (.putfield 9, 3) := by decide +kernel
theorem dX3_copyFrom_8 : decode cX3_copyFrom 8 = .ok (.aload_n 0, 1) := by decide +kernel
theorem dX3_copyFrom_9 : decode cX3_copyFrom 9 = .ok (.aload_n 1, 1) := by decide +kernel
theorem dX3_copyFrom_10 : decode cX3_copyFrom 10 = .ok (.getfield 15, 3) := by decide +kernel
theorem dX3_copyFrom_13 : decode cX3_copyFrom 13 = .ok (.putfield 15, 3) := by decide +kernel
theorem dX3_copyFrom_16 : decode cX3_copyFrom 16 = .ok (.aload_n 0, 1) := by decide +kernel
theorem dX3_copyFrom_17 : decode cX3_copyFrom 17 = .ok (.aload_n 1, 1) := by decide +kernel
theorem dX3_copyFrom_18 : decode cX3_copyFrom 18 = .ok (.getfield 18, 3) := by decide +kernel
theorem dX3_copyFrom_21 : decode cX3_copyFrom 21 = .ok (.putfield 18, 3) := by decide +kernel
theorem dX3_copyFrom_24 : decode cX3_copyFrom 24 = .ok (.iconst 0, 1) := by decide +kernel
theorem dX3_copyFrom_25 : decode cX3_copyFrom 25 = .ok (.istore_n 2, 1) := by decide +kernel
theorem dX3_copyFrom_26 : decode cX3_copyFrom 26 = .ok (.iload_n 2, 1) := by decide +kernel
theorem dX3_copyFrom_27 : decode cX3_copyFrom 27 = .ok (.bipush 100, 2) := by decide +kernel
theorem dX3_copyFrom_29 : decode cX3_copyFrom 29 = .ok (.if_icmp .gt 21, 3) := by decide +kernel
theorem dX3_copyFrom_32 : decode cX3_copyFrom 32 = .ok (.aload_n 0, 1) := by decide +kernel
theorem dX3_copyFrom_33 : decode cX3_copyFrom 33 = .ok (.getfield 22, 3) := by decide +kernel
theorem dX3_copyFrom_36 : decode cX3_copyFrom 36 = .ok (.iload_n 2, 1) := by decide +kernel
theorem dX3_copyFrom_37 : decode cX3_copyFrom 37 = .ok (.aload_n 1, 1) := by decide +kernel
theorem dX3_copyFrom_38 : decode cX3_copyFrom 38 = .ok (.getfield 22, 3) := by decide +kernel
theorem dX3_copyFrom_41 : decode cX3_copyFrom 41 = .ok (.iload_n 2, 1) := by decide +kernel
theorem dX3_copyFrom_42 : decode cX3_copyFrom 42 = .ok (.baload, 1) := by decide +kernel
theorem dX3_copyFrom_43 : decode cX3_copyFrom 43 = .ok (.bastore, 1) := by decide +kernel
theorem dX3_copyFrom_44 : decode cX3_copyFrom 44 = .ok (.iinc 2 1, 3) := by decide +kernel
theorem dX3_copyFrom_47 : decode cX3_copyFrom 47 = .ok (.goto (-21), 3) := by decide +kernel
theorem dX3_copyFrom_50 : decode cX3_copyFrom 50 = .ok (.return_, 1) := by decide +kernel
set_option maxRecDepth 20000 in
theorem ggX4_init_X1_init : GoodIn wsX4_init wsX1_init := goodIn_r _ [24, 25, 2, 3, 26, 13, 27, 28, 29, 30, 31, 40, 41, 42, 43, 44, 45] (by decide +kernel) (by decide +kernel)
set_option maxRecDepth 20000 in
theorem gX4_init_X1_init_n11 : GoodIn wsX4_init (wsX1_init) := ggX4_init_X1_init
set_option maxRecDepth 20000 in
theorem ggX4_init_X3_init : GoodIn wsX4_init wsX3_init := goodIn_r _ [33, 34, 2, 3, 35, 36, 37, 38, 39, 58, 59, 60, 61] (by decide +kernel) (by decide +kernel)
set_option maxRecDepth 20000 in
theorem gX4_init_X3_init_n20 : GoodIn wsX4_init (wsX3_init) := ggX4_init_X3_init
theorem dX4_init_0 : decode cX4_init 0 = .ok (.aload_n 0, 1) := by decide +kernel
theorem dX4_init_1 : decode cX4_init 1 = .ok (.invokespecial 3, 3) := by decide +kernel
theorem dX4_init_4 : decode cX4_init 4 = .ok (.aload_n 0, 1) := by decide +kernel
theorem dX4_init_5 : decode cX4_init 5 = .ok (.new 9, 3) := by decide +kernel
theorem dX4_init_8 : decode cX4_init 8 = .ok (.dup, 1) := by decide +kernel
theorem dX4_init_9 : decode cX4_init 9 = .ok (.invokespecial 11, 3) := by decide +kernel
theorem dX4_init_12 : decode cX4_init 12 = .ok (.putfield 12, 3) := by decide +kernel
theorem dX4_init_15 : decode cX4_init 15 = .ok (.aload_n 0, 1) := by decide +kernel
theorem dX4_init_16 : decode cX4_init 16 = .ok (.new 18, 3) := by decide +kernel
theorem dX4_init_19 : decode cX4_init 19 = .ok (.dup, 1) := by decide +kernel
theorem dX4_init_20 : decode cX4_init 20 = .ok (.invokespecial 20, 3) := by decide +kernel
theorem dX4_init_23 : decode cX4_init 23 = .ok (.putfield 21, 3) := by decide +kernel
theorem dX4_init_26 : decode cX4_init 26 = .ok (.aload_n 0, 1) := by decide +kernel
theorem dX4_init_27 : decode cX4_init 27 = .ok (.new 18, 3) := by decide +kernel
theorem dX4_init_30 : decode cX4_init 30 = .ok (.dup, 1) := by decide +kernel
theorem dX4_init_31 : decode cX4_init 31 = .ok (.invokespecial 20, 3) := by decide +kernel
theorem dX4_init_34 : decode cX4_init 34 = .ok (.putfield 25, 3) := by decide +kernel
theorem dX4_init_37 : decode cX4_init 37 = .ok (.aload_n 0, 1) := by decide +kernel
theorem dX4_init_38 : decode cX4_init 38 = .ok (.iconst 3, 1) := by decide +kernel
theorem dX4_init_39 : decode cX4_init 39 = .ok (.newarray .int, 2) := by decide +kernel
theorem dX4_init_41 : decode cX4_init 41 = .ok (.putfield 28, 3) := by decide +kernel
theorem dX4_init_44 : decode cX4_init 44 = .ok (.aload_n 0, 1) := by decide +kernel
theorem dX4_init_45 : decode cX4_init 45 = .ok (.iconst 0, 1) := by decide +kernel
theorem dX4_init_46 : decode cX4_init 46 = .ok (.putfield 32, 3) := by decide +kernel
theorem dX4_init_49 : decode cX4_init 49 = .ok (.aload_n 0, 1) := by decide +kernel
theorem dX4_init_50 : decode cX4_init 50 = .ok (.iconst 1, 1) := by decide +kernel
theorem dX4_init_51 : decode cX4_init 51 = .ok (.putfield 36, 3) := by decide +kernel
theorem dX4_init_54 : decode cX4_init 54 = .ok (.aload_n 0, 1) := by decide +kernel
theorem dX4_init_55 : decode cX4_init 55 = .ok (.iconst 0, 1) := by decide +kernel
theorem dX4_init_56 : decode cX4_init 56 = .ok (.putfield 39, 3) := by decide +kernel
theorem dX4_init_59 : decode cX4_init 59 = .ok (.aload_n 0, 1) := by decide +kernel
theorem dX4_init_60 : decode cX4_init 60 = .ok (.iconst 0, 1) := by decide +kernel
theorem dX4_init_61 : decode cX4_init 61 = .ok (.putfield 42, 3) := by decide +kernel
theorem dX4_init_64 : decode cX4_init 64 = .ok (.aload_n 0, 1) := by decide +kernel
theorem dX4_init_65 : decode cX4_init 65 = .ok (.iconst 0, 1) := by decide +kernel
theorem dX4_init_66 : decode cX4_init 66 = .ok (.putfield 45, 3) := by decide +kernel
theorem dX4_init_69 : decode cX4_init 69 = .ok (.aload_n 0, 1) := by decide +kernel
theorem dX4_init_70 : decode cX4_init 70 = .ok (.iconst 0, 1) := by decide +kernel
theorem dX4_init_71 : decode cX4_init 71 = .ok (.putfield 48, 3) := by decide +kernel
theorem dX4_init_74 : decode cX4_init 74 = .ok (.aload_n 0, 1) := by decide +kernel
theorem dX4_init_75 : decode cX4_init 75 = .ok (.iconst 4, 1) := by decide +kernel
theorem dX4_init_76 : decode cX4_init 76 = .ok (.putfield 51, 3) := by decide +kernel
theorem dX4_init_79 : decode cX4_init 79 = .ok (.aload_n 0, 1) := by decide +kernel
theorem dX4_init_80 : decode cX4_init 80 = .ok (.iconst 2, 1) := by decide +kernel
theorem dX4_init_81 : decode cX4_init 81 = .ok (.putfield 54, 3) := by decide +kernel
theorem dX4_init_84 : decode cX4_init 84 = .ok (.return_, 1) := by decide +kernel
theorem dX4_standby_0 : decode cX4_standby 0 = .ok (.iload_n 1, 1) := by decide +kernel
theorem dX4_standby_1 : decode cX4_standby 1 = .ok (.ifCond .ne 10, 3) := by decide +kernel
theorem dX4_standby_4 : decode cX4_standby 4 = .ok (.aload_n 0, 1) := by decide +kernel
theorem dX4_standby_5 : decode cX4_standby 5 = .ok (.getfield 21, 3) := by decide +kernel
theorem dX4_standby_8 : decode cX4_standby 8 = .ok (.goto 7, 3) := by decide +kernel
theorem dX4_standby_11 : decode cX4_standby 11 = .ok (.aload_n 0, 1) := by decide +kernel
theorem dX4_standby_12 : decode cX4_standby 12 = .ok (.getfield 25, 3) := by decide +kernel
theorem dX4_standby_15 : decode cX4_standby 15 = .ok (.areturn, 1) := by decide +kernel
set_option maxRecDepth 20000 in
theorem ggX4_transactionIn_X6_isSlot : GoodIn wsX4_transactionIn wsX6_isSlot := goodIn_r _ [4] (by decide +kernel) (by decide +kernel)
set_option maxRecDepth 20000 in
theorem gX4_transactionIn_X6_isSlot_n60 : GoodIn wsX4_transactionIn (wsX6_isSlot) := ggX4_transactionIn_X6_isSlot
theorem dX4_transactionIn_0 : decode cX4_transactionIn 0 = .ok (.iload_n 1, 1) := by decide +kernel
theorem dX4_transactionIn_1 : decode cX4_transactionIn 1 = .ok (.invokestatic 60, 3) := by decide +kernel
theorem dX4_transactionIn_4 : decode cX4_transactionIn 4 = .ok (.ifCond .eq 12, 3) := by decide +kernel
theorem dX4_transactionIn_7 : decode cX4_transactionIn 7 = .ok (.aload_n 0, 1) := by decide +kernel
theorem dX4_transactionIn_8 : decode cX4_transactionIn 8 = .ok (.getfield 28, 3) := by decide +kernel
theorem dX4_transactionIn_11 : decode cX4_transactionIn 11 = .ok (.iload_n 1, 1) := by decide +kernel
theorem dX4_transactionIn_12 : decode cX4_transactionIn 12 = .ok (.iaload, 1) := by decide +kernel
theorem dX4_transactionIn_13 : decode cX4_transactionIn 13 = .ok (.goto 4, 3) := by decide +kernel
theorem dX4_transactionIn_16 : decode cX4_transactionIn 16 = .ok (.iconst 0, 1) := by decide +kernel
theorem dX4_transactionIn_17 : decode cX4_transactionIn 17 = .ok (.ireturn, 1) := by decide +kernel
set_option maxRecDepth 20000 in
theorem ggX4_openIn_X6_isSlot : GoodIn wsX4_openIn wsX6_isSlot := goodIn_r _ [7] (by decide +kernel) (by decide +kernel)
set_option maxRecDepth 20000 in
theorem gX4_openIn_X6_isSlot_n60 : GoodIn wsX4_openIn (wsX6_isSlot) := ggX4_openIn_X6_isSlot
theorem dX4_openIn_0 : decode cX4_openIn 0 = .ok (.iload_n 1, 1) := by decide +kernel
theorem dX4_openIn_1 : decode cX4_openIn 1 = .ok (.invokestatic 60, 3) := by decide +kernel
theorem dX4_openIn_4 : decode cX4_openIn 4 = .ok (.ifCond .ne 6, 3) := by decide +kernel
theorem dX4_openIn_7 : decode cX4_openIn 7 = .ok (.ldc 64, 2) := by decide +kernel
theorem dX4_openIn_9 : decode cX4_openIn 9 = .ok (.ireturn, 1) := by decide +kernel
theorem dX4_openIn_10 : decode cX4_openIn 10 = .ok (.aload_n 0, 1) := by decide +kernel
theorem dX4_openIn_11 : decode cX4_openIn 11 = .ok (.getfield 28, 3) := by decide +kernel
theorem dX4_openIn_14 : decode cX4_openIn 14 = .ok (.iload_n 1, 1) := by decide +kernel
theorem dX4_openIn_15 : decode cX4_openIn 15 = .ok (.iaload, 1) := by decide +kernel
theorem dX4_openIn_16 : decode cX4_openIn 16 = .ok (.ifCond .eq 6, 3) := by decide +kernel
theorem dX4_openIn_19 : decode cX4_openIn 19 = .ok (.ldc 65, 2) := by decide +kernel
theorem dX4_openIn_21 : decode cX4_openIn 21 = .ok (.ireturn, 1) := by decide +kernel
theorem dX4_openIn_22 : decode cX4_openIn 22 = .ok (.aload_n 0, 1) := by decide +kernel
theorem dX4_openIn_23 : decode cX4_openIn 23 = .ok (.dup, 1) := by decide +kernel
theorem dX4_openIn_24 : decode cX4_openIn 24 = .ok (.getfield 39, 3) := by decide +kernel
theorem dX4_openIn_27 : decode cX4_openIn 27 = .ok (.iconst 1, 1) := by decide +kernel
theorem dX4_openIn_28 : decode cX4_openIn 28 = .ok (.iadd, 1) := by decide +kernel
theorem dX4_openIn_29 : decode cX4_openIn 29 = .ok (.putfield 39, 3) := by decide +kernel
theorem dX4_openIn_32 : decode cX4_openIn 32 = .ok (.aload_n 0, 1) := by decide +kernel
theorem dX4_openIn_33 : decode cX4_openIn 33 = .ok (.getfield 28, 3) := by decide +kernel
theorem dX4_openIn_36 : decode cX4_openIn 36 = .ok (.iload_n 1, 1) := by decide +kernel
theorem dX4_openIn_37 : decode cX4_openIn 37 = .ok (.aload_n 0, 1) := by decide +kernel
theorem dX4_openIn_38 : decode cX4_openIn 38 = .ok (.getfield 39, 3) := by decide +kernel
theorem dX4_openIn_41 : decode cX4_openIn 41 = .ok (.iastore, 1) := by decide +kernel
theorem dX4_openIn_42 : decode cX4_openIn 42 = .ok (.aload_n 0, 1) := by decide +kernel
theorem dX4_openIn_43 : decode cX4_openIn 43 = .ok (.getfield 39, 3) := by decide +kernel
theorem dX4_openIn_46 : decode cX4_openIn 46 = .ok (.ireturn, 1) := by decide +kernel
set_option maxRecDepth 20000 in
theorem ggX4_putBy_X6_isSlot : GoodIn wsX4_putBy wsX6_isSlot := goodIn_r _ [5] (by decide +kernel) (by decide +kernel)
set_option maxRecDepth 20000 in
theorem gX4_putBy_X6_isSlot_n60 : GoodIn wsX4_putBy (wsX6_isSlot) := ggX4_putBy_X6_isSlot
set_option maxRecDepth 20000 in
theorem ggX4_putBy_X6_isKey : GoodIn wsX4_putBy wsX6_isKey := goodIn_r _ [7] (by decide +kernel) (by decide +kernel)
set_option maxRecDepth 20000 in
theorem gX4_putBy_X6_isKey_n66 : GoodIn wsX4_putBy (wsX6_isKey) := ggX4_putBy_X6_isKey
set_option maxRecDepth 20000 in
theorem ggX4_putBy_X4_write : GoodIn wsX4_putBy wsX4_write := goodIn_r _ [12, 13, 14, 15, 16, 17, 18, 19, 20, 21, 22, 23, 24, 25, 26, 27, 28, 29, 30, 31, 32, 33, 34, 35, 36, 37, 38, 39, 40, 41, 42, 43, 44, 45] (by decide +kernel) (by decide +kernel)
set_option maxRecDepth 20000 in
theorem gX4_putBy_X4_write : GoodIn wsX4_putBy (wsV RX4 69 RX4 yX4_write wsX4_write) := goodIn_app (goodIn_of _ (by decide +kernel)) ggX4_putBy_X4_write
theorem dX4_putBy_0 : decode cX4_putBy 0 = .ok (.iload_n 1, 1) := by decide +kernel
theorem dX4_putBy_1 : decode cX4_putBy 1 = .ok (.invokestatic 60, 3) := by decide +kernel
theorem dX4_putBy_4 : decode cX4_putBy 4 = .ok (.ifCond .eq 21, 3) := by decide +kernel
theorem dX4_putBy_7 : decode cX4_putBy 7 = .ok (.iload_n 2, 1) := by decide +kernel
theorem dX4_putBy_8 : decode cX4_putBy 8 = .ok (.invokestatic 66, 3) := by decide +kernel
theorem dX4_putBy_11 : decode cX4_putBy 11 = .ok (.ifCond .eq 14, 3) := by decide +kernel
theorem dX4_putBy_14 : decode cX4_putBy 14 = .ok (.iload_n 3, 1) := by decide +kernel
theorem dX4_putBy_15 : decode cX4_putBy 15 = .ok (.ifCond .lt 10, 3) := by decide +kernel
theorem dX4_putBy_18 : decode cX4_putBy 18 = .ok (.iload_n 3, 1) := by decide +kernel
theorem dX4_putBy_19 : decode cX4_putBy 19 = .ok (.sipush 999, 3) := by decide +kernel
theorem dX4_putBy_22 : decode cX4_putBy 22 = .ok (.if_icmp .le 6, 3) := by decide +kernel
theorem dX4_putBy_25 : decode cX4_putBy 25 = .ok (.ldc 64, 2) := by decide +kernel
theorem dX4_putBy_27 : decode cX4_putBy 27 = .ok (.ireturn, 1) := by decide +kernel
theorem dX4_putBy_28 : decode cX4_putBy 28 = .ok (.aload_n 0, 1) := by decide +kernel
theorem dX4_putBy_29 : decode cX4_putBy 29 = .ok (.iconst 0, 1) := by decide +kernel
theorem dX4_putBy_30 : decode cX4_putBy 30 = .ok (.aload_n 0, 1) := by decide +kernel
theorem dX4_putBy_31 : decode cX4_putBy 31 = .ok (.getfield 28, 3) := by decide +kernel
theorem dX4_putBy_34 : decode cX4_putBy 34 = .ok (.iload_n 1, 1) := by decide +kernel
theorem dX4_putBy_35 : decode cX4_putBy 35 = .ok (.iaload, 1) := by decide +kernel
theorem dX4_putBy_36 : decode cX4_putBy 36 = .ok (.iload_n 2, 1) := by decide +kernel
theorem dX4_putBy_37 : decode cX4_putBy 37 = .ok (.iload_n 3, 1) := by decide +kernel
theorem dX4_putBy_38 : decode cX4_putBy 38 = .ok (.invokevirtual 69, 3) := by decide +kernel
theorem dX4_putBy_41 : decode cX4_putBy 41 = .ok (.ireturn, 1) := by decide +kernel
set_option maxRecDepth 20000 in
theorem ggX4_endIn_X6_isSlot : GoodIn wsX4_endIn wsX6_isSlot := goodIn_r _ [5] (by decide +kernel) (by decide +kernel)
set_option maxRecDepth 20000 in
theorem gX4_endIn_X6_isSlot_n60 : GoodIn wsX4_endIn (wsX6_isSlot) := ggX4_endIn_X6_isSlot
set_option maxRecDepth 20000 in
theorem ggX4_endIn_X4_write : GoodIn wsX4_endIn wsX4_write := goodIn_r _ [10, 11, 12, 13, 14, 15, 16, 17, 18, 19, 20, 21, 22, 23, 24, 25, 26, 27, 28, 29, 30, 31, 32, 33, 34, 35, 36, 37, 38, 39, 40, 41, 42, 43] (by decide +kernel) (by decide +kernel)
set_option maxRecDepth 20000 in
theorem gX4_endIn_X4_write : GoodIn wsX4_endIn (wsV RX4 69 RX4 yX4_write wsX4_write) := goodIn_app (goodIn_of _ (by decide +kernel)) ggX4_endIn_X4_write
theorem dX4_endIn_0 : decode cX4_endIn 0 = .ok (.iload_n 1, 1) := by decide +kernel
theorem dX4_endIn_1 : decode cX4_endIn 1 = .ok (.invokestatic 60, 3) := by decide +kernel
theorem dX4_endIn_4 : decode cX4_endIn 4 = .ok (.ifCond .ne 6, 3) := by decide +kernel
theorem dX4_endIn_7 : decode cX4_endIn 7 = .ok (.ldc 64, 2) := by decide +kernel
theorem dX4_endIn_9 : decode cX4_endIn 9 = .ok (.ireturn, 1) := by decide +kernel
theorem dX4_endIn_10 : decode cX4_endIn 10 = .ok (.aload_n 0, 1) := by decide +kernel
theorem dX4_endIn_11 : decode cX4_endIn 11 = .ok (.iload_n 2, 1) := by decide +kernel
theorem dX4_endIn_12 : decode cX4_endIn 12 = .ok (.aload_n 0, 1) := by decide +kernel
theorem dX4_endIn_13 : decode cX4_endIn 13 = .ok (.getfield 28, 3) := by decide +kernel
theorem dX4_endIn_16 : decode cX4_endIn 16 = .ok (.iload_n 1, 1) := by decide +kernel
theorem dX4_endIn_17 : decode cX4_endIn 17 = .ok (.iaload, 1) := by decide +kernel
theorem dX4_endIn_18 : decode cX4_endIn 18 = .ok (.iconst 0, 1) := by decide +kernel
theorem dX4_endIn_19 : decode cX4_endIn 19 = .ok (.iconst 0, 1) := by decide +kernel
theorem dX4_endIn_20 : decode cX4_endIn 20 = .ok (.invokevirtual 69, 3) := by decide +kernel
theorem dX4_endIn_23 : decode cX4_endIn 23 = .ok (.istore_n 3, 1) := by decide +kernel
theorem dX4_endIn_24 : decode cX4_endIn 24 = .ok (.iload_n 3, 1) := by decide +kernel
theorem dX4_endIn_25 : decode cX4_endIn 25 = .ok (.iconst 1, 1) := by decide +kernel
theorem dX4_endIn_26 : decode cX4_endIn 26 = .ok (.if_icmp .lt 10, 3) := by decide +kernel
theorem dX4_endIn_29 : decode cX4_endIn 29 = .ok (.aload_n 0, 1) := by decide +kernel
theorem dX4_endIn_30 : decode cX4_endIn 30 = .ok (.getfield 28, 3) := by decide +kernel
theorem dX4_endIn_33 : decode cX4_endIn 33 = .ok (.iload_n 1, 1) := by decide +kernel
theorem dX4_endIn_34 : decode cX4_endIn 34 = .ok (.iconst 0, 1) := by decide +kernel
theorem dX4_endIn_35 : decode cX4_endIn 35 = .ok (.iastore, 1) := by decide +kernel
theorem dX4_endIn_36 : decode cX4_endIn 36 = .ok (.iload_n 3, 1) := by decide +kernel
theorem dX4_endIn_37 : decode cX4_endIn 37 = .ok (.ireturn, 1) := by decide +kernel
set_option maxRecDepth 20000 in
theorem ggX4_write_X1_append : GoodIn wsX4_write wsX1_append := goodIn_r _ [8, 9, 10, 11, 12, 13, 14, 15, 28, 29, 30, 31, 32, 33] (by decide +kernel) (by decide +kernel)
set_option maxRecDepth 20000 in
theorem gX4_write_X1_append : GoodIn wsX4_write (wsV RX4 73 RX1 yX1_append wsX1_append) := goodIn_app (goodIn_of _ (by decide +kernel)) ggX4_write_X1_append
theorem dX4_write_0 : decode cX4_write 0 = .ok (.iload_n 2, 1) := by decide +kernel
theorem dX4_write_1 : decode cX4_write 1 = .ok (.ifCond .ne 6, 3) := by decide +kernel
theorem dX4_write_4 : decode cX4_write 4 = .ok (.ldc 65, 2) := by decide +kernel
theorem dX4_write_6 : decode cX4_write 6 = .ok (.ireturn, 1) := by decide +kernel
theorem dX4_write_7 : decode cX4_write 7 = .ok (.aload_n 0, 1) := by decide +kernel
theorem dX4_write_8 : decode cX4_write 8 = .ok (.getfield 12, 3) := by decide +kernel
theorem dX4_write_11 : decode cX4_write 11 = .ok (.iload_n 1, 1) := by decide +kernel
theorem dX4_write_12 : decode cX4_write 12 = .ok (.iload_n 2, 1) := by decide +kernel
theorem dX4_write_13 : decode cX4_write 13 = .ok (.iload_n 3, 1) := by decide +kernel
theorem dX4_write_14 : decode cX4_write 14 = .ok (.iload 4, 2) := by decide +kernel
theorem dX4_write_16 : decode cX4_write 16 = .ok (.aload_n 0, 1) := by decide +kernel
theorem dX4_write_17 : decode cX4_write 17 = .ok (.getfield 32, 3) := by decide +kernel
theorem dX4_write_20 : decode cX4_write 20 = .ok (.invokevirtual 73, 3) := by decide +kernel
theorem dX4_write_23 : decode cX4_write 23 = .ok (.ireturn, 1) := by decide +kernel
set_option maxRecDepth 20000 in
theorem ggX4_shipTo_X6_isStandby : GoodIn wsX4_shipTo wsX6_isStandby := goodIn_r _ [13] (by decide +kernel) (by decide +kernel)
set_option maxRecDepth 20000 in
theorem gX4_shipTo_X6_isStandby_n77 : GoodIn wsX4_shipTo (wsX6_isStandby) := ggX4_shipTo_X6_isStandby
set_option maxRecDepth 20000 in
theorem ggX4_shipTo_X4_standby : GoodIn wsX4_shipTo wsX4_standby := goodIn_r _ [18, 19, 20, 25, 26, 27, 28, 29, 30, 31, 32, 33, 34, 35, 36] (by decide +kernel) (by decide +kernel)
set_option maxRecDepth 20000 in
theorem gX4_shipTo_X4_standby : GoodIn wsX4_shipTo (wsV RX4 80 RX4 yX4_standby wsX4_standby) := goodIn_app (goodIn_of _ (by decide +kernel)) ggX4_shipTo_X4_standby
theorem dX4_shipTo_0 : decode cX4_shipTo 0 = .ok (.iload_n 1, 1) := by decide +kernel
theorem dX4_shipTo_1 : decode cX4_shipTo 1 = .ok (.invokestatic 77, 3) := by decide +kernel
theorem dX4_shipTo_4 : decode cX4_shipTo 4 = .ok (.ifCond .eq 14, 3) := by decide +kernel
theorem dX4_shipTo_7 : decode cX4_shipTo 7 = .ok (.iload_n 2, 1) := by decide +kernel
theorem dX4_shipTo_8 : decode cX4_shipTo 8 = .ok (.iconst 1, 1) := by decide +kernel
theorem dX4_shipTo_9 : decode cX4_shipTo 9 = .ok (.if_icmp .lt 9, 3) := by decide +kernel
theorem dX4_shipTo_12 : decode cX4_shipTo 12 = .ok (.iload_n 2, 1) := by decide +kernel
theorem dX4_shipTo_13 : decode cX4_shipTo 13 = .ok (.bipush 20, 2) := by decide +kernel
theorem dX4_shipTo_15 : decode cX4_shipTo 15 = .ok (.if_icmp .le 6, 3) := by decide +kernel
theorem dX4_shipTo_18 : decode cX4_shipTo 18 = .ok (.ldc 64, 2) := by decide +kernel
theorem dX4_shipTo_20 : decode cX4_shipTo 20 = .ok (.ireturn, 1) := by decide +kernel
theorem dX4_shipTo_21 : decode cX4_shipTo 21 = .ok (.aload_n 0, 1) := by decide +kernel
theorem dX4_shipTo_22 : decode cX4_shipTo 22 = .ok (.iload_n 1, 1) := by decide +kernel
theorem dX4_shipTo_23 : decode cX4_shipTo 23 = .ok (.invokevirtual 80, 3) := by decide +kernel
theorem dX4_shipTo_26 : decode cX4_shipTo 26 = .ok (.astore_n 3, 1) := by decide +kernel
theorem dX4_shipTo_27 : decode cX4_shipTo 27 = .ok (.aload_n 3, 1) := by decide +kernel
theorem dX4_shipTo_28 : decode cX4_shipTo 28 = .ok (.getfield 84, 3) := by decide +kernel
theorem dX4_shipTo_31 : decode cX4_shipTo 31 = .ok (.ifCond .eq 6, 3) := by decide +kernel
theorem dX4_shipTo_34 : decode cX4_shipTo 34 = .ok (.ldc 65, 2) := by decide +kernel
theorem dX4_shipTo_36 : decode cX4_shipTo 36 = .ok (.ireturn, 1) := by decide +kernel
theorem dX4_shipTo_37 : decode cX4_shipTo 37 = .ok (.iload_n 2, 1) := by decide +kernel
theorem dX4_shipTo_38 : decode cX4_shipTo 38 = .ok (.aload_n 0, 1) := by decide +kernel
theorem dX4_shipTo_39 : decode cX4_shipTo 39 = .ok (.getfield 12, 3) := by decide +kernel
theorem dX4_shipTo_42 : decode cX4_shipTo 42 = .ok (.getfield 57, 3) := by decide +kernel
theorem dX4_shipTo_45 : decode cX4_shipTo 45 = .ok (.aload_n 3, 1) := by decide +kernel
theorem dX4_shipTo_46 : decode cX4_shipTo 46 = .ok (.getfield 88, 3) := by decide +kernel
theorem dX4_shipTo_49 : decode cX4_shipTo 49 = .ok (.isub, 1) := by decide +kernel
theorem dX4_shipTo_50 : decode cX4_shipTo 50 = .ok (.invokestatic 91, 3) := by decide +kernel
theorem dX4_shipTo_53 : decode cX4_shipTo 53 = .ok (.istore 4, 2) := by decide +kernel
theorem dX4_shipTo_55 : decode cX4_shipTo 55 = .ok (.aload_n 3, 1) := by decide +kernel
theorem dX4_shipTo_56 : decode cX4_shipTo 56 = .ok (.dup, 1) := by decide +kernel
theorem dX4_shipTo_57 : decode cX4_shipTo 57 = .ok (.getfield 88, 3) := by decide +kernel
theorem dX4_shipTo_60 : decode cX4_shipTo 60 = .ok (.iload 4, 2) := by decide +kernel
theorem dX4_shipTo_62 : decode cX4_shipTo 62 = .ok (.iadd, 1) := by decide +kernel
theorem dX4_shipTo_63 : decode cX4_shipTo 63 = .ok (.putfield 88, 3) := by decide +kernel
theorem dX4_shipTo_66 : decode cX4_shipTo 66 = .ok (.iload 4, 2) := by decide +kernel
theorem dX4_shipTo_68 : decode cX4_shipTo 68 = .ok (.ireturn, 1) := by decide +kernel
set_option maxRecDepth 20000 in
theorem ggX4_loseFor_X6_isStandby : GoodIn wsX4_loseFor wsX6_isStandby := goodIn_r _ [9] (by decide +kernel) (by decide +kernel)
set_option maxRecDepth 20000 in
theorem gX4_loseFor_X6_isStandby_n77 : GoodIn wsX4_loseFor (wsX6_isStandby) := ggX4_loseFor_X6_isStandby
set_option maxRecDepth 20000 in
theorem ggX4_loseFor_X4_standby : GoodIn wsX4_loseFor wsX4_standby := goodIn_r _ [14, 15, 16, 35, 36, 37, 38, 39, 40, 41, 42, 43, 44, 45, 46] (by decide +kernel) (by decide +kernel)
set_option maxRecDepth 20000 in
theorem gX4_loseFor_X4_standby : GoodIn wsX4_loseFor (wsV RX4 80 RX4 yX4_standby wsX4_standby) := goodIn_app (goodIn_of _ (by decide +kernel)) ggX4_loseFor_X4_standby
set_option maxRecDepth 20000 in
theorem ggX4_loseFor_X3_isGap : GoodIn wsX4_loseFor wsX3_isGap := goodIn_r _ [21, 22, 31, 32, 33, 34] (by decide +kernel) (by decide +kernel)
set_option maxRecDepth 20000 in
theorem gX4_loseFor_X3_isGap : GoodIn wsX4_loseFor (wsV RX4 100 RX3 yX3_isGap wsX3_isGap) := goodIn_app (goodIn_of _ (by decide +kernel)) ggX4_loseFor_X3_isGap
set_option maxRecDepth 20000 in
theorem ggX4_loseFor_X3_setGap : GoodIn wsX4_loseFor wsX3_setGap := goodIn_r _ [26, 22, 31, 32, 33, 34] (by decide +kernel) (by decide +kernel)
set_option maxRecDepth 20000 in
theorem gX4_loseFor_X3_setGap : GoodIn wsX4_loseFor (wsV RX4 103 RX3 yX3_setGap wsX3_setGap) := goodIn_app (goodIn_of _ (by decide +kernel)) ggX4_loseFor_X3_setGap
set_option maxRecDepth 20000 in
theorem ggX4_loseFor_X3_gapCount : GoodIn wsX4_loseFor wsX3_gapCount := goodIn_r _ [30, 22, 31, 32, 33, 34] (by decide +kernel) (by decide +kernel)
set_option maxRecDepth 20000 in
theorem gX4_loseFor_X3_gapCount : GoodIn wsX4_loseFor (wsV RX4 107 RX3 yX3_gapCount wsX3_gapCount) := goodIn_app (goodIn_of _ (by decide +kernel)) ggX4_loseFor_X3_gapCount
theorem dX4_loseFor_0 : decode cX4_loseFor 0 = .ok (.iload_n 1, 1) := by decide +kernel
theorem dX4_loseFor_1 : decode cX4_loseFor 1 = .ok (.invokestatic 77, 3) := by decide +kernel
theorem dX4_loseFor_4 : decode cX4_loseFor 4 = .ok (.ifCond .eq 8, 3) := by decide +kernel
theorem dX4_loseFor_7 : decode cX4_loseFor 7 = .ok (.iload_n 2, 1) := by decide +kernel
theorem dX4_loseFor_8 : decode cX4_loseFor 8 = .ok (.iconst 1, 1) := by decide +kernel
theorem dX4_loseFor_9 : decode cX4_loseFor 9 = .ok (.if_icmp .ge 6, 3) := by decide +kernel
theorem dX4_loseFor_12 : decode cX4_loseFor 12 = .ok (.ldc 64, 2) := by decide +kernel
theorem dX4_loseFor_14 : decode cX4_loseFor 14 = .ok (.ireturn, 1) := by decide +kernel
theorem dX4_loseFor_15 : decode cX4_loseFor 15 = .ok (.aload_n 0, 1) := by decide +kernel
theorem dX4_loseFor_16 : decode cX4_loseFor 16 = .ok (.iload_n 1, 1) := by decide +kernel
theorem dX4_loseFor_17 : decode cX4_loseFor 17 = .ok (.invokevirtual 80, 3) := by decide +kernel
theorem dX4_loseFor_20 : decode cX4_loseFor 20 = .ok (.astore_n 3, 1) := by decide +kernel
theorem dX4_loseFor_21 : decode cX4_loseFor 21 = .ok (.aload_n 3, 1) := by decide +kernel
theorem dX4_loseFor_22 : decode cX4_loseFor 22 = .ok (.getfield 84, 3) := by decide +kernel
theorem dX4_loseFor_25 : decode cX4_loseFor 25 = .ok (.ifCond .ne 27, 3) := by decide +kernel
theorem dX4_loseFor_28 : decode cX4_loseFor 28 = .ok (.iload_n 2, 1) := by decide +kernel
theorem dX4_loseFor_29 : decode cX4_loseFor 29 = .ok (.aload_n 3, 1) := by decide +kernel
theorem dX4_loseFor_30 : decode cX4_loseFor 30 = .ok (.getfield 88, 3) := by decide +kernel
theorem dX4_loseFor_33 : decode cX4_loseFor 33 = .ok (.if_icmp .gt 19, 3) := by decide +kernel
theorem dX4_loseFor_36 : decode cX4_loseFor 36 = .ok (.iload_n 2, 1) := by decide +kernel
theorem dX4_loseFor_37 : decode cX4_loseFor 37 = .ok (.aload_n 3, 1) := by decide +kernel
theorem dX4_loseFor_38 : decode cX4_loseFor 38 = .ok (.getfield 97, 3) := by decide +kernel
theorem dX4_loseFor_41 : decode cX4_loseFor 41 = .ok (.if_icmp .le 11, 3) := by decide +kernel
theorem dX4_loseFor_44 : decode cX4_loseFor 44 = .ok (.aload_n 3, 1) := by decide +kernel
theorem dX4_loseFor_45 : decode cX4_loseFor 45 = .ok (.iload_n 2, 1) := by decide +kernel
theorem dX4_loseFor_46 : decode cX4_loseFor 46 = .ok (.invokevirtual 100, 3) := by decide +kernel
theorem dX4_loseFor_49 : decode cX4_loseFor 49 = .ok (.ifCond .eq 6, 3) := by decide +kernel
theorem dX4_loseFor_52 : decode cX4_loseFor 52 = .ok (.ldc 65, 2) := by decide +kernel
theorem dX4_loseFor_54 : decode cX4_loseFor 54 = .ok (.ireturn, 1) := by decide +kernel
theorem dX4_loseFor_55 : decode cX4_loseFor 55 = .ok (.aload_n 3, 1) := by decide +kernel
theorem dX4_loseFor_56 : decode cX4_loseFor 56 = .ok (.iload_n 2, 1) := by decide +kernel
theorem dX4_loseFor_57 : decode cX4_loseFor 57 = .ok (.invokevirtual 103, 3) := by decide +kernel
theorem dX4_loseFor_60 : decode cX4_loseFor 60 = .ok (.aload_n 0, 1) := by decide +kernel
theorem dX4_loseFor_61 : decode cX4_loseFor 61 = .ok (.dup, 1) := by decide +kernel
theorem dX4_loseFor_62 : decode cX4_loseFor 62 = .ok (.getfield 45, 3) := by decide +kernel
theorem dX4_loseFor_65 : decode cX4_loseFor 65 = .ok (.iconst 1, 1) := by decide +kernel
theorem dX4_loseFor_66 : decode cX4_loseFor 66 = .ok (.iadd, 1) := by decide +kernel
theorem dX4_loseFor_67 : decode cX4_loseFor 67 = .ok (.putfield 45, 3) := by decide +kernel
theorem dX4_loseFor_70 : decode cX4_loseFor 70 = .ok (.aload_n 3, 1) := by decide +kernel
theorem dX4_loseFor_71 : decode cX4_loseFor 71 = .ok (.invokevirtual 107, 3) := by decide +kernel
theorem dX4_loseFor_74 : decode cX4_loseFor 74 = .ok (.ireturn, 1) := by decide +kernel
set_option maxRecDepth 20000 in
theorem ggX4_resendTo_X6_isStandby : GoodIn wsX4_resendTo wsX6_isStandby := goodIn_r _ [6] (by decide +kernel) (by decide +kernel)
set_option maxRecDepth 20000 in
theorem gX4_resendTo_X6_isStandby_n77 : GoodIn wsX4_resendTo (wsX6_isStandby) := ggX4_resendTo_X6_isStandby
set_option maxRecDepth 20000 in
theorem ggX4_resendTo_X4_standby : GoodIn wsX4_resendTo wsX4_standby := goodIn_r _ [11, 12, 13, 32, 33, 34, 35, 36, 37, 38, 39, 40, 41, 42, 43] (by decide +kernel) (by decide +kernel)
set_option maxRecDepth 20000 in
theorem gX4_resendTo_X4_standby : GoodIn wsX4_resendTo (wsV RX4 80 RX4 yX4_standby wsX4_standby) := goodIn_app (goodIn_of _ (by decide +kernel)) ggX4_resendTo_X4_standby
set_option maxRecDepth 20000 in
theorem ggX4_resendTo_X3_gapCount : GoodIn wsX4_resendTo wsX3_gapCount := goodIn_r _ [18, 19, 28, 29, 30, 31] (by decide +kernel) (by decide +kernel)
set_option maxRecDepth 20000 in
theorem gX4_resendTo_X3_gapCount : GoodIn wsX4_resendTo (wsV RX4 107 RX3 yX3_gapCount wsX3_gapCount) := goodIn_app (goodIn_of _ (by decide +kernel)) ggX4_resendTo_X3_gapCount
set_option maxRecDepth 20000 in
theorem ggX4_resendTo_X3_dropGapsBehind : GoodIn wsX4_resendTo wsX3_dropGapsBehind := goodIn_r _ [23, 24, 25, 26, 27, 19, 28, 29, 30, 31] (by decide +kernel) (by decide +kernel)
set_option maxRecDepth 20000 in
theorem gX4_resendTo_X3_dropGapsBehind : GoodIn wsX4_resendTo (wsV RX4 111 RX3 yX3_dropGapsBehind wsX3_dropGapsBehind) := goodIn_app (goodIn_of _ (by decide +kernel)) ggX4_resendTo_X3_dropGapsBehind
theorem dX4_resendTo_0 : decode cX4_resendTo 0 = .ok (.iload_n 1, 1) := by decide +kernel
theorem dX4_resendTo_1 : decode cX4_resendTo 1 = .ok (.invokestatic 77, 3) := by decide +kernel
theorem dX4_resendTo_4 : decode cX4_resendTo 4 = .ok (.ifCond .ne 6, 3) := by decide +kernel
theorem dX4_resendTo_7 : decode cX4_resendTo 7 = .ok (.ldc 64, 2) := by decide +kernel
theorem dX4_resendTo_9 : decode cX4_resendTo 9 = .ok (.ireturn, 1) := by decide +kernel
theorem dX4_resendTo_10 : decode cX4_resendTo 10 = .ok (.aload_n 0, 1) := by decide +kernel
theorem dX4_resendTo_11 : decode cX4_resendTo 11 = .ok (.iload_n 1, 1) := by decide +kernel
theorem dX4_resendTo_12 : decode cX4_resendTo 12 = .ok (.invokevirtual 80, 3) := by decide +kernel
theorem dX4_resendTo_15 : decode cX4_resendTo 15 = .ok (.astore_n 2, 1) := by decide +kernel
theorem dX4_resendTo_16 : decode cX4_resendTo 16 = .ok (.aload_n 2, 1) := by decide +kernel
theorem dX4_resendTo_17 : decode cX4_resendTo 17 = .ok (.getfield 84, 3) := by decide +kernel
theorem dX4_resendTo_20 : decode cX4_resendTo 20 = .ok (.ifCond .eq 6, 3) := by decide +kernel
theorem dX4_resendTo_23 : decode cX4_resendTo 23 = .ok (.ldc 65, 2) := by decide +kernel
theorem dX4_resendTo_25 : decode cX4_resendTo 25 = .ok (.ireturn, 1) := by decide +kernel
theorem dX4_resendTo_26 : decode cX4_resendTo 26 = .ok (.aload_n 2, 1) := by decide +kernel
theorem dX4_resendTo_27 : decode cX4_resendTo 27 = .ok (.invokevirtual 107, 3) := by decide +kernel
theorem dX4_resendTo_30 : decode cX4_resendTo 30 = .ok (.istore_n 3, 1) := by decide +kernel
theorem dX4_resendTo_31 : decode cX4_resendTo 31 = .ok (.aload_n 2, 1) := by decide +kernel
theorem dX4_resendTo_32 : decode cX4_resendTo 32 = .ok (.iconst 0, 1) := by decide +kernel
theorem dX4_resendTo_33 : decode cX4_resendTo 33 = .ok (.invokevirtual 111, 3) := by decide +kernel
theorem dX4_resendTo_36 : decode cX4_resendTo 36 = .ok (.iload_n 3, 1) := by decide +kernel
theorem dX4_resendTo_37 : decode cX4_resendTo 37 = .ok (.ireturn, 1) := by decide +kernel
set_option maxRecDepth 20000 in
theorem ggX4_pass_X6_isTicks : GoodIn wsX4_pass wsX6_isTicks := goodIn_r _ [8] (by decide +kernel) (by decide +kernel)
set_option maxRecDepth 20000 in
theorem gX4_pass_X6_isTicks_n114 : GoodIn wsX4_pass (wsX6_isTicks) := ggX4_pass_X6_isTicks
set_option maxRecDepth 20000 in
theorem ggX4_pass_X4_standby : GoodIn wsX4_pass wsX4_standby := goodIn_r _ [13, 14, 15, 42, 43, 44, 45, 46, 47, 48, 49, 50, 51, 52, 53] (by decide +kernel) (by decide +kernel)
set_option maxRecDepth 20000 in
theorem gX4_pass_X4_standby : GoodIn wsX4_pass (wsV RX4 80 RX4 yX4_standby wsX4_standby) := goodIn_app (goodIn_of _ (by decide +kernel)) ggX4_pass_X4_standby
set_option maxRecDepth 20000 in
theorem ggX4_pass_X4_appliedAfter : GoodIn wsX4_pass wsX4_appliedAfter := goodIn_r _ [19, 20, 21, 22, 23, 24, 25, 26, 27, 28, 29, 30, 31, 32, 33, 34, 35, 36, 37, 38, 39, 40, 41, 54, 55, 56, 57, 42, 43, 44, 45, 46, 47, 48, 49, 50, 51, 52, 53, 58, 59, 60, 61, 62, 63] (by decide +kernel) (by decide +kernel)
set_option maxRecDepth 20000 in
theorem gX4_pass_X4_appliedAfter : GoodIn wsX4_pass (wsV RX4 117 RX4 yX4_appliedAfter wsX4_appliedAfter) := goodIn_app (goodIn_of _ (by decide +kernel)) ggX4_pass_X4_appliedAfter
theorem dX4_pass_0 : decode cX4_pass 0 = .ok (.iload_n 1, 1) := by decide +kernel
theorem dX4_pass_1 : decode cX4_pass 1 = .ok (.invokestatic 114, 3) := by decide +kernel
theorem dX4_pass_4 : decode cX4_pass 4 = .ok (.ifCond .ne 6, 3) := by decide +kernel
theorem dX4_pass_7 : decode cX4_pass 7 = .ok (.ldc 64, 2) := by decide +kernel
theorem dX4_pass_9 : decode cX4_pass 9 = .ok (.ireturn, 1) := by decide +kernel
theorem dX4_pass_10 : decode cX4_pass 10 = .ok (.iconst 0, 1) := by decide +kernel
theorem dX4_pass_11 : decode cX4_pass 11 = .ok (.istore_n 2, 1) := by decide +kernel
theorem dX4_pass_12 : decode cX4_pass 12 = .ok (.iconst 0, 1) := by decide +kernel
theorem dX4_pass_13 : decode cX4_pass 13 = .ok (.istore_n 3, 1) := by decide +kernel
theorem dX4_pass_14 : decode cX4_pass 14 = .ok (.iload_n 3, 1) := by decide +kernel
theorem dX4_pass_15 : decode cX4_pass 15 = .ok (.iload_n 1, 1) := by decide +kernel
theorem dX4_pass_16 : decode cX4_pass 16 = .ok (.if_icmp .ge 81, 3) := by decide +kernel
theorem dX4_pass_19 : decode cX4_pass 19 = .ok (.aload_n 0, 1) := by decide +kernel
theorem dX4_pass_20 : decode cX4_pass 20 = .ok (.dup, 1) := by decide +kernel
theorem dX4_pass_21 : decode cX4_pass 21 = .ok (.getfield 32, 3) := by decide +kernel
theorem dX4_pass_24 : decode cX4_pass 24 = .ok (.iconst 1, 1) := by decide +kernel
theorem dX4_pass_25 : decode cX4_pass 25 = .ok (.iadd, 1) := by decide +kernel
theorem dX4_pass_26 : decode cX4_pass 26 = .ok (.putfield 32, 3) := by decide +kernel
theorem dX4_pass_29 : decode cX4_pass 29 = .ok (.iconst 0, 1) := by decide +kernel
theorem dX4_pass_30 : decode cX4_pass 30 = .ok (.istore 4, 2) := by decide +kernel
theorem dX4_pass_32 : decode cX4_pass 32 = .ok (.iload 4, 2) := by decide +kernel
theorem dX4_pass_34 : decode cX4_pass 34 = .ok (.iconst 2, 1) := by decide +kernel
theorem dX4_pass_35 : decode cX4_pass 35 = .ok (.if_icmp .ge 56, 3) := by decide +kernel
theorem dX4_pass_38 : decode cX4_pass 38 = .ok (.aload_n 0, 1) := by decide +kernel
theorem dX4_pass_39 : decode cX4_pass 39 = .ok (.iload 4, 2) := by decide +kernel
theorem dX4_pass_41 : decode cX4_pass 41 = .ok (.invokevirtual 80, 3) := by decide +kernel
theorem dX4_pass_44 : decode cX4_pass 44 = .ok (.astore 5, 2) := by decide +kernel
theorem dX4_pass_46 : decode cX4_pass 46 = .ok (.aload_n 0, 1) := by decide +kernel
theorem dX4_pass_47 : decode cX4_pass 47 = .ok (.aload 5, 2) := by decide +kernel
theorem dX4_pass_49 : decode cX4_pass 49 = .ok (.aload 5, 2) := by decide +kernel
theorem dX4_pass_51 : decode cX4_pass 51 = .ok (.getfield 97, 3) := by decide +kernel
theorem dX4_pass_54 : decode cX4_pass 54 = .ok (.aload_n 0, 1) := by decide +kernel
theorem dX4_pass_55 : decode cX4_pass 55 = .ok (.getfield 32, 3) := by decide +kernel
theorem dX4_pass_58 : decode cX4_pass 58 = .ok (.aload_n 0, 1) := by decide +kernel
theorem dX4_pass_59 : decode cX4_pass 59 = .ok (.getfield 51, 3) := by decide +kernel
theorem dX4_pass_62 : decode cX4_pass 62 = .ok (.invokevirtual 117, 3) := by decide +kernel
theorem dX4_pass_65 : decode cX4_pass 65 = .ok (.istore 6, 2) := by decide +kernel
theorem dX4_pass_67 : decode cX4_pass 67 = .ok (.iload_n 2, 1) := by decide +kernel
theorem dX4_pass_68 : decode cX4_pass 68 = .ok (.iload 6, 2) := by decide +kernel
theorem dX4_pass_70 : decode cX4_pass 70 = .ok (.aload 5, 2) := by decide +kernel
theorem dX4_pass_72 : decode cX4_pass 72 = .ok (.getfield 97, 3) := by decide +kernel
theorem dX4_pass_75 : decode cX4_pass 75 = .ok (.isub, 1) := by decide +kernel
theorem dX4_pass_76 : decode cX4_pass 76 = .ok (.iadd, 1) := by decide +kernel
theorem dX4_pass_77 : decode cX4_pass 77 = .ok (.istore_n 2, 1) := by decide +kernel
theorem dX4_pass_78 : decode cX4_pass 78 = .ok (.aload 5, 2) := by decide +kernel
theorem dX4_pass_80 : decode cX4_pass 80 = .ok (.iload 6, 2) := by decide +kernel
theorem dX4_pass_82 : decode cX4_pass 82 = .ok (.putfield 97, 3) := by decide +kernel
theorem dX4_pass_85 : decode cX4_pass 85 = .ok (.iinc 4 1, 3) := by decide +kernel
theorem dX4_pass_88 : decode cX4_pass 88 = .ok (.goto (-56), 3) := by decide +kernel
theorem dX4_pass_91 : decode cX4_pass 91 = .ok (.iinc 3 1, 3) := by decide +kernel
theorem dX4_pass_94 : decode cX4_pass 94 = .ok (.goto (-80), 3) := by decide +kernel
theorem dX4_pass_97 : decode cX4_pass 97 = .ok (.aload_n 0, 1) := by decide +kernel
theorem dX4_pass_98 : decode cX4_pass 98 = .ok (.dup, 1) := by decide +kernel
theorem dX4_pass_99 : decode cX4_pass 99 = .ok (.getfield 48, 3) := by decide +kernel
theorem dX4_pass_102 : decode cX4_pass 102 = .ok (.iload_n 2, 1) := by decide +kernel
theorem dX4_pass_103 : decode cX4_pass 103 = .ok (.iadd, 1) := by decide +kernel
theorem dX4_pass_104 : decode cX4_pass 104 = .ok (.putfield 48, 3) := by decide +kernel
theorem dX4_pass_107 : decode cX4_pass 107 = .ok (.iload_n 2, 1) := by decide +kernel
theorem dX4_pass_108 : decode cX4_pass 108 = .ok (.ireturn, 1) := by decide +kernel
set_option maxRecDepth 20000 in
theorem ggX4_appliedAfter_X3_isGap : GoodIn wsX4_appliedAfter wsX3_isGap := goodIn_r _ [9, 10, 23, 24, 25, 26] (by decide +kernel) (by decide +kernel)
set_option maxRecDepth 20000 in
theorem gX4_appliedAfter_X3_isGap : GoodIn wsX4_appliedAfter (wsV RX4 100 RX3 yX3_isGap wsX3_isGap) := goodIn_app (goodIn_of _ (by decide +kernel)) ggX4_appliedAfter_X3_isGap
set_option maxRecDepth 20000 in
theorem ggX4_appliedAfter_X1_tickOf : GoodIn wsX4_appliedAfter wsX1_tickOf := goodIn_r _ [15, 16, 17, 18, 19, 20, 14, 21, 22, 39, 40, 41, 42, 43, 44] (by decide +kernel) (by decide +kernel)
set_option maxRecDepth 20000 in
theorem gX4_appliedAfter_X1_tickOf : GoodIn wsX4_appliedAfter (wsV RX4 121 RX1 yX1_tickOf wsX1_tickOf) := goodIn_app (goodIn_of _ (by decide +kernel)) ggX4_appliedAfter_X1_tickOf
theorem dX4_appliedAfter_0 : decode cX4_appliedAfter 0 = .ok (.iload_n 2, 1) := by decide +kernel
theorem dX4_appliedAfter_1 : decode cX4_appliedAfter 1 = .ok (.istore 5, 2) := by decide +kernel
theorem dX4_appliedAfter_3 : decode cX4_appliedAfter 3 = .ok (.aload_n 1, 1) := by decide +kernel
theorem dX4_appliedAfter_4 : decode cX4_appliedAfter 4 = .ok (.getfield 84, 3) := by decide +kernel
theorem dX4_appliedAfter_7 : decode cX4_appliedAfter 7 = .ok (.ifCond .eq 6, 3) := by decide +kernel
theorem dX4_appliedAfter_10 : decode cX4_appliedAfter 10 = .ok (.iload 5, 2) := by decide +kernel
theorem dX4_appliedAfter_12 : decode cX4_appliedAfter 12 = .ok (.ireturn, 1) := by decide +kernel
theorem dX4_appliedAfter_13 : decode cX4_appliedAfter 13 = .ok (.iconst 0, 1) := by decide +kernel
theorem dX4_appliedAfter_14 : decode cX4_appliedAfter 14 = .ok (.istore 6, 2) := by decide +kernel
theorem dX4_appliedAfter_16 : decode cX4_appliedAfter 16 = .ok (.iload 6, 2) := by decide +kernel
theorem dX4_appliedAfter_18 : decode cX4_appliedAfter 18 = .ok (.iload 4, 2) := by decide +kernel
theorem dX4_appliedAfter_20 : decode cX4_appliedAfter 20 = .ok (.if_icmp .ge 58, 3) := by decide +kernel
theorem dX4_appliedAfter_23 : decode cX4_appliedAfter 23 = .ok (.iload 5, 2) := by decide +kernel
theorem dX4_appliedAfter_25 : decode cX4_appliedAfter 25 = .ok (.iconst 1, 1) := by decide +kernel
theorem dX4_appliedAfter_26 : decode cX4_appliedAfter 26 = .ok (.iadd, 1) := by decide +kernel
theorem dX4_appliedAfter_27 : decode cX4_appliedAfter 27 = .ok (.istore 7, 2) := by decide +kernel
theorem dX4_appliedAfter_29 : decode cX4_appliedAfter 29 = .ok (.iload 7, 2) := by decide +kernel
theorem dX4_appliedAfter_31 : decode cX4_appliedAfter 31 = .ok (.aload_n 1, 1) := by decide +kernel
theorem dX4_appliedAfter_32 : decode cX4_appliedAfter 32 = .ok (.getfield 88, 3) := by decide +kernel
theorem dX4_appliedAfter_35 : decode cX4_appliedAfter 35 = .ok (.if_icmp .gt 30, 3) := by decide +kernel
theorem dX4_appliedAfter_38 : decode cX4_appliedAfter 38 = .ok (.aload_n 1, 1) := by decide +kernel
theorem dX4_appliedAfter_39 : decode cX4_appliedAfter 39 = .ok (.iload 7, 2) := by decide +kernel
theorem dX4_appliedAfter_41 : decode cX4_appliedAfter 41 = .ok (.invokevirtual 100, 3) := by decide +kernel
theorem dX4_appliedAfter_44 : decode cX4_appliedAfter 44 = .ok (.ifCond .ne 21, 3) := by decide +kernel
theorem dX4_appliedAfter_47 : decode cX4_appliedAfter 47 = .ok (.aload_n 0, 1) := by decide +kernel
theorem dX4_appliedAfter_48 : decode cX4_appliedAfter 48 = .ok (.getfield 12, 3) := by decide +kernel
theorem dX4_appliedAfter_51 : decode cX4_appliedAfter 51 = .ok (.iload 7, 2) := by decide +kernel
theorem dX4_appliedAfter_53 : decode cX4_appliedAfter 53 = .ok (.invokevirtual 121, 3) := by decide +kernel
theorem dX4_appliedAfter_56 : decode cX4_appliedAfter 56 = .ok (.iload_n 3, 1) := by decide +kernel
theorem dX4_appliedAfter_57 : decode cX4_appliedAfter 57 = .ok (.aload_n 0, 1) := by decide +kernel
theorem dX4_appliedAfter_58 : decode cX4_appliedAfter 58 = .ok (.getfield 54, 3) := by decide +kernel
theorem dX4_appliedAfter_61 : decode cX4_appliedAfter 61 = .ok (.isub, 1) := by decide +kernel
theorem dX4_appliedAfter_62 : decode cX4_appliedAfter 62 = .ok (.if_icmp .le 6, 3) := by decide +kernel
theorem dX4_appliedAfter_65 : decode cX4_appliedAfter 65 = .ok (.iload 5, 2) := by decide +kernel
theorem dX4_appliedAfter_67 : decode cX4_appliedAfter 67 = .ok (.ireturn, 1) := by decide +kernel
theorem dX4_appliedAfter_68 : decode cX4_appliedAfter 68 = .ok (.iload 7, 2) := by decide +kernel
theorem dX4_appliedAfter_70 : decode cX4_appliedAfter 70 = .ok (.istore 5, 2) := by decide +kernel
theorem dX4_appliedAfter_72 : decode cX4_appliedAfter 72 = .ok (.iinc 6 1, 3) := by decide +kernel
theorem dX4_appliedAfter_75 : decode cX4_appliedAfter 75 = .ok (.goto (-59), 3) := by decide +kernel
theorem dX4_appliedAfter_78 : decode cX4_appliedAfter 78 = .ok (.iload 5, 2) := by decide +kernel
theorem dX4_appliedAfter_80 : decode cX4_appliedAfter 80 = .ok (.ireturn, 1) := by decide +kernel
set_option maxRecDepth 20000 in
theorem ggX4_promoteTo_X6_isStandby : GoodIn wsX4_promoteTo wsX6_isStandby := goodIn_r _ [12] (by decide +kernel) (by decide +kernel)
set_option maxRecDepth 20000 in
theorem gX4_promoteTo_X6_isStandby_n77 : GoodIn wsX4_promoteTo (wsX6_isStandby) := ggX4_promoteTo_X6_isStandby
set_option maxRecDepth 20000 in
theorem ggX4_promoteTo_X4_standby : GoodIn wsX4_promoteTo wsX4_standby := goodIn_r _ [17, 18, 19, 64, 65, 66, 67, 68, 69, 70, 71, 72, 73, 74, 75] (by decide +kernel) (by decide +kernel)
set_option maxRecDepth 20000 in
theorem gX4_promoteTo_X4_standby : GoodIn wsX4_promoteTo (wsV RX4 80 RX4 yX4_standby wsX4_standby) := goodIn_app (goodIn_of _ (by decide +kernel)) ggX4_promoteTo_X4_standby
set_option maxRecDepth 20000 in
theorem ggX4_promoteTo_X1_commitsBehind : GoodIn wsX4_promoteTo wsX1_commitsBehind := goodIn_r _ [24, 25, 26, 27, 28, 23, 29, 30, 31, 32, 33, 34, 35, 76, 77, 78, 79, 80, 81] (by decide +kernel) (by decide +kernel)
set_option maxRecDepth 20000 in
theorem gX4_promoteTo_X1_commitsBehind : GoodIn wsX4_promoteTo (wsV RX4 133 RX1 yX1_commitsBehind wsX1_commitsBehind) := goodIn_app (goodIn_of _ (by decide +kernel)) ggX4_promoteTo_X1_commitsBehind
set_option maxRecDepth 20000 in
theorem ggX4_promoteTo_X3_standAt : GoodIn wsX4_promoteTo wsX3_standAt := goodIn_r _ [40, 41, 42, 43, 44, 45, 46, 39, 47, 48, 49, 50, 51, 52, 60, 61, 62, 63] (by decide +kernel) (by decide +kernel)
set_option maxRecDepth 20000 in
theorem gX4_promoteTo_X3_standAt : GoodIn wsX4_promoteTo (wsV RX4 136 RX3 yX3_standAt wsX3_standAt) := goodIn_app (goodIn_of _ (by decide +kernel)) ggX4_promoteTo_X3_standAt
set_option maxRecDepth 20000 in
theorem ggX4_promoteTo_X3_cutTo : GoodIn wsX4_promoteTo wsX3_cutTo := goodIn_r _ [56, 41, 57, 58, 50, 59, 42, 43, 44, 45, 46, 39, 47, 48, 49, 51, 52, 60, 61, 62, 63] (by decide +kernel) (by decide +kernel)
set_option maxRecDepth 20000 in
theorem gX4_promoteTo_X3_cutTo : GoodIn wsX4_promoteTo (wsV RX4 140 RX3 yX3_cutTo wsX3_cutTo) := goodIn_app (goodIn_of _ (by decide +kernel)) ggX4_promoteTo_X3_cutTo
theorem dX4_promoteTo_0 : decode cX4_promoteTo 0 = .ok (.iload_n 1, 1) := by decide +kernel
theorem dX4_promoteTo_1 : decode cX4_promoteTo 1 = .ok (.invokestatic 77, 3) := by decide +kernel
theorem dX4_promoteTo_4 : decode cX4_promoteTo 4 = .ok (.ifCond .ne 6, 3) := by decide +kernel
theorem dX4_promoteTo_7 : decode cX4_promoteTo 7 = .ok (.ldc 64, 2) := by decide +kernel
theorem dX4_promoteTo_9 : decode cX4_promoteTo 9 = .ok (.ireturn, 1) := by decide +kernel
theorem dX4_promoteTo_10 : decode cX4_promoteTo 10 = .ok (.aload_n 0, 1) := by decide +kernel
theorem dX4_promoteTo_11 : decode cX4_promoteTo 11 = .ok (.iload_n 1, 1) := by decide +kernel
theorem dX4_promoteTo_12 : decode cX4_promoteTo 12 = .ok (.invokevirtual 80, 3) := by decide +kernel
theorem dX4_promoteTo_15 : decode cX4_promoteTo 15 = .ok (.astore_n 2, 1) := by decide +kernel
theorem dX4_promoteTo_16 : decode cX4_promoteTo 16 = .ok (.aload_n 2, 1) := by decide +kernel
theorem dX4_promoteTo_17 : decode cX4_promoteTo 17 = .ok (.getfield 84, 3) := by decide +kernel
theorem dX4_promoteTo_20 : decode cX4_promoteTo 20 = .ok (.ifCond .eq 6, 3) := by decide +kernel
theorem dX4_promoteTo_23 : decode cX4_promoteTo 23 = .ok (.ldc 65, 2) := by decide +kernel
theorem dX4_promoteTo_25 : decode cX4_promoteTo 25 = .ok (.ireturn, 1) := by decide +kernel
theorem dX4_promoteTo_26 : decode cX4_promoteTo 26 = .ok (.aload_n 2, 1) := by decide +kernel
theorem dX4_promoteTo_27 : decode cX4_promoteTo 27 = .ok (.getfield 97, 3) := by decide +kernel
theorem dX4_promoteTo_30 : decode cX4_promoteTo 30 = .ok (.istore_n 3, 1) := by decide +kernel
theorem dX4_promoteTo_31 : decode cX4_promoteTo 31 = .ok (.aload_n 0, 1) := by decide +kernel
theorem dX4_promoteTo_32 : decode cX4_promoteTo 32 = .ok (.getfield 12, 3) := by decide +kernel
theorem dX4_promoteTo_35 : decode cX4_promoteTo 35 = .ok (.iload_n 3, 1) := by decide +kernel
theorem dX4_promoteTo_36 : decode cX4_promoteTo 36 = .ok (.invokevirtual 133, 3) := by decide +kernel
theorem dX4_promoteTo_39 : decode cX4_promoteTo 39 = .ok (.istore 4, 2) := by decide +kernel
theorem dX4_promoteTo_41 : decode cX4_promoteTo 41 = .ok (.aload_n 2, 1) := by decide +kernel
theorem dX4_promoteTo_42 : decode cX4_promoteTo 42 = .ok (.iload_n 3, 1) := by decide +kernel
theorem dX4_promoteTo_43 : decode cX4_promoteTo 43 = .ok (.aload_n 0, 1) := by decide +kernel
theorem dX4_promoteTo_44 : decode cX4_promoteTo 44 = .ok (.getfield 12, 3) := by decide +kernel
theorem dX4_promoteTo_47 : decode cX4_promoteTo 47 = .ok (.getfield 57, 3) := by decide +kernel
theorem dX4_promoteTo_50 : decode cX4_promoteTo 50 = .ok (.iload_n 3, 1) := by decide +kernel
theorem dX4_promoteTo_51 : decode cX4_promoteTo 51 = .ok (.if_icmp .le 7, 3) := by decide +kernel
theorem dX4_promoteTo_54 : decode cX4_promoteTo 54 = .ok (.iconst 1, 1) := by decide +kernel
theorem dX4_promoteTo_55 : decode cX4_promoteTo 55 = .ok (.goto 4, 3) := by decide +kernel
theorem dX4_promoteTo_58 : decode cX4_promoteTo 58 = .ok (.iconst 0, 1) := by decide +kernel
theorem dX4_promoteTo_59 : decode cX4_promoteTo 59 = .ok (.invokevirtual 136, 3) := by decide +kernel
theorem dX4_promoteTo_62 : decode cX4_promoteTo 62 = .ok (.aload_n 0, 1) := by decide +kernel
theorem dX4_promoteTo_63 : decode cX4_promoteTo 63 = .ok (.iconst 1, 1) := by decide +kernel
theorem dX4_promoteTo_64 : decode cX4_promoteTo 64 = .ok (.iload_n 1, 1) := by decide +kernel
theorem dX4_promoteTo_65 : decode cX4_promoteTo 65 = .ok (.isub, 1) := by decide +kernel
theorem dX4_promoteTo_66 : decode cX4_promoteTo 66 = .ok (.invokevirtual 80, 3) := by decide +kernel
theorem dX4_promoteTo_69 : decode cX4_promoteTo 69 = .ok (.iload_n 3, 1) := by decide +kernel
theorem dX4_promoteTo_70 : decode cX4_promoteTo 70 = .ok (.invokevirtual 140, 3) := by decide +kernel
theorem dX4_promoteTo_73 : decode cX4_promoteTo 73 = .ok (.aload_n 0, 1) := by decide +kernel
theorem dX4_promoteTo_74 : decode cX4_promoteTo 74 = .ok (.getfield 12, 3) := by decide +kernel
theorem dX4_promoteTo_77 : decode cX4_promoteTo 77 = .ok (.iload_n 3, 1) := by decide +kernel
theorem dX4_promoteTo_78 : decode cX4_promoteTo 78 = .ok (.putfield 57, 3) := by decide +kernel
theorem dX4_promoteTo_81 : decode cX4_promoteTo 81 = .ok (.iconst 0, 1) := by decide +kernel
theorem dX4_promoteTo_82 : decode cX4_promoteTo 82 = .ok (.istore 5, 2) := by decide +kernel
theorem dX4_promoteTo_84 : decode cX4_promoteTo 84 = .ok (.iload 5, 2) := by decide +kernel
theorem dX4_promoteTo_86 : decode cX4_promoteTo 86 = .ok (.iconst 3, 1) := by decide +kernel
theorem dX4_promoteTo_87 : decode cX4_promoteTo 87 = .ok (.if_icmp .ge 17, 3) := by decide +kernel
theorem dX4_promoteTo_90 : decode cX4_promoteTo 90 = .ok (.aload_n 0, 1) := by decide +kernel
theorem dX4_promoteTo_91 : decode cX4_promoteTo 91 = .ok (.getfield 28, 3) := by decide +kernel
theorem dX4_promoteTo_94 : decode cX4_promoteTo 94 = .ok (.iload 5, 2) := by decide +kernel
theorem dX4_promoteTo_96 : decode cX4_promoteTo 96 = .ok (.iconst 0, 1) := by decide +kernel
theorem dX4_promoteTo_97 : decode cX4_promoteTo 97 = .ok (.iastore, 1) := by decide +kernel
theorem dX4_promoteTo_98 : decode cX4_promoteTo 98 = .ok (.iinc 5 1, 3) := by decide +kernel
theorem dX4_promoteTo_101 : decode cX4_promoteTo 101 = .ok (.goto (-17), 3) := by decide +kernel
theorem dX4_promoteTo_104 : decode cX4_promoteTo 104 = .ok (.aload_n 0, 1) := by decide +kernel
theorem dX4_promoteTo_105 : decode cX4_promoteTo 105 = .ok (.dup, 1) := by decide +kernel
theorem dX4_promoteTo_106 : decode cX4_promoteTo 106 = .ok (.getfield 36, 3) := by decide +kernel
theorem dX4_promoteTo_109 : decode cX4_promoteTo 109 = .ok (.iconst 1, 1) := by decide +kernel
theorem dX4_promoteTo_110 : decode cX4_promoteTo 110 = .ok (.iadd, 1) := by decide +kernel
theorem dX4_promoteTo_111 : decode cX4_promoteTo 111 = .ok (.putfield 36, 3) := by decide +kernel
theorem dX4_promoteTo_114 : decode cX4_promoteTo 114 = .ok (.aload_n 0, 1) := by decide +kernel
theorem dX4_promoteTo_115 : decode cX4_promoteTo 115 = .ok (.dup, 1) := by decide +kernel
theorem dX4_promoteTo_116 : decode cX4_promoteTo 116 = .ok (.getfield 42, 3) := by decide +kernel
theorem dX4_promoteTo_119 : decode cX4_promoteTo 119 = .ok (.iload 4, 2) := by decide +kernel
theorem dX4_promoteTo_121 : decode cX4_promoteTo 121 = .ok (.iadd, 1) := by decide +kernel
theorem dX4_promoteTo_122 : decode cX4_promoteTo 122 = .ok (.putfield 42, 3) := by decide +kernel
theorem dX4_promoteTo_125 : decode cX4_promoteTo 125 = .ok (.iload 4, 2) := by decide +kernel
theorem dX4_promoteTo_127 : decode cX4_promoteTo 127 = .ok (.ireturn, 1) := by decide +kernel
set_option maxRecDepth 20000 in
theorem ggX4_rebuildOf_X6_isStandby : GoodIn wsX4_rebuildOf wsX6_isStandby := goodIn_r _ [6] (by decide +kernel) (by decide +kernel)
set_option maxRecDepth 20000 in
theorem gX4_rebuildOf_X6_isStandby_n77 : GoodIn wsX4_rebuildOf (wsX6_isStandby) := ggX4_rebuildOf_X6_isStandby
set_option maxRecDepth 20000 in
theorem ggX4_rebuildOf_X4_standby : GoodIn wsX4_rebuildOf wsX4_standby := goodIn_r _ [11, 12, 13, 31, 32, 33, 34, 35, 36, 37, 38, 39, 40, 41, 42] (by decide +kernel) (by decide +kernel)
set_option maxRecDepth 20000 in
theorem gX4_rebuildOf_X4_standby : GoodIn wsX4_rebuildOf (wsV RX4 80 RX4 yX4_standby wsX4_standby) := goodIn_app (goodIn_of _ (by decide +kernel)) ggX4_rebuildOf_X4_standby
set_option maxRecDepth 20000 in
theorem ggX4_rebuildOf_X3_standAt : GoodIn wsX4_rebuildOf wsX3_standAt := goodIn_r _ [18, 19, 20, 21, 22, 23, 24, 17, 25, 26, 27, 28, 29, 30, 49, 50, 51, 52] (by decide +kernel) (by decide +kernel)
set_option maxRecDepth 20000 in
theorem gX4_rebuildOf_X3_standAt : GoodIn wsX4_rebuildOf (wsV RX4 136 RX3 yX3_standAt wsX3_standAt) := goodIn_app (goodIn_of _ (by decide +kernel)) ggX4_rebuildOf_X3_standAt
theorem dX4_rebuildOf_0 : decode cX4_rebuildOf 0 = .ok (.iload_n 1, 1) := by decide +kernel
theorem dX4_rebuildOf_1 : decode cX4_rebuildOf 1 = .ok (.invokestatic 77, 3) := by decide +kernel
theorem dX4_rebuildOf_4 : decode cX4_rebuildOf 4 = .ok (.ifCond .ne 6, 3) := by decide +kernel
theorem dX4_rebuildOf_7 : decode cX4_rebuildOf 7 = .ok (.ldc 64, 2) := by decide +kernel
theorem dX4_rebuildOf_9 : decode cX4_rebuildOf 9 = .ok (.ireturn, 1) := by decide +kernel
theorem dX4_rebuildOf_10 : decode cX4_rebuildOf 10 = .ok (.aload_n 0, 1) := by decide +kernel
theorem dX4_rebuildOf_11 : decode cX4_rebuildOf 11 = .ok (.iload_n 1, 1) := by decide +kernel
theorem dX4_rebuildOf_12 : decode cX4_rebuildOf 12 = .ok (.invokevirtual 80, 3) := by decide +kernel
theorem dX4_rebuildOf_15 : decode cX4_rebuildOf 15 = .ok (.aload_n 0, 1) := by decide +kernel
theorem dX4_rebuildOf_16 : decode cX4_rebuildOf 16 = .ok (.getfield 12, 3) := by decide +kernel
theorem dX4_rebuildOf_19 : decode cX4_rebuildOf 19 = .ok (.getfield 57, 3) := by decide +kernel
theorem dX4_rebuildOf_22 : decode cX4_rebuildOf 22 = .ok (.iconst 0, 1) := by decide +kernel
theorem dX4_rebuildOf_23 : decode cX4_rebuildOf 23 = .ok (.invokevirtual 136, 3) := by decide +kernel
theorem dX4_rebuildOf_26 : decode cX4_rebuildOf 26 = .ok (.aload_n 0, 1) := by decide +kernel
theorem dX4_rebuildOf_27 : decode cX4_rebuildOf 27 = .ok (.getfield 12, 3) := by decide +kernel
theorem dX4_rebuildOf_30 : decode cX4_rebuildOf 30 = .ok (.getfield 57, 3) := by decide +kernel
theorem dX4_rebuildOf_33 : decode cX4_rebuildOf 33 = .ok (.ireturn, 1) := by decide +kernel
theorem dX4_setTo_0 : decode cX4_setTo 0 = .ok (.iload_n 1, 1) := by decide +kernel
theorem dX4_setTo_1 : decode cX4_setTo 1 = .ok (.ifCond .ne 26, 3) := by decide +kernel
theorem dX4_setTo_4 : decode cX4_setTo 4 = .ok (.iload_n 2, 1) := by decide +kernel
theorem dX4_setTo_5 : decode cX4_setTo 5 = .ok (.iconst 1, 1) := by decide +kernel
theorem dX4_setTo_6 : decode cX4_setTo 6 = .ok (.if_icmp .lt 21, 3) := by decide +kernel
theorem dX4_setTo_9 : decode cX4_setTo 9 = .ok (.iload_n 2, 1) := by decide +kernel
theorem dX4_setTo_10 : decode cX4_setTo 10 = .ok (.bipush 20, 2) := by decide +kernel
theorem dX4_setTo_12 : decode cX4_setTo 12 = .ok (.if_icmp .gt 15, 3) := by decide +kernel
theorem dX4_setTo_15 : decode cX4_setTo 15 = .ok (.aload_n 0, 1) := by decide +kernel
theorem dX4_setTo_16 : decode cX4_setTo 16 = .ok (.getfield 51, 3) := by decide +kernel
theorem dX4_setTo_19 : decode cX4_setTo 19 = .ok (.istore_n 3, 1) := by decide +kernel
theorem dX4_setTo_20 : decode cX4_setTo 20 = .ok (.aload_n 0, 1) := by decide +kernel
theorem dX4_setTo_21 : decode cX4_setTo 21 = .ok (.iload_n 2, 1) := by decide +kernel
theorem dX4_setTo_22 : decode cX4_setTo 22 = .ok (.putfield 51, 3) := by decide +kernel
theorem dX4_setTo_25 : decode cX4_setTo 25 = .ok (.iload_n 3, 1) := by decide +kernel
theorem dX4_setTo_26 : decode cX4_setTo 26 = .ok (.ireturn, 1) := by decide +kernel
theorem dX4_setTo_27 : decode cX4_setTo 27 = .ok (.iload_n 1, 1) := by decide +kernel
theorem dX4_setTo_28 : decode cX4_setTo 28 = .ok (.iconst 1, 1) := by decide +kernel
theorem dX4_setTo_29 : decode cX4_setTo 29 = .ok (.if_icmp .ne 25, 3) := by decide +kernel
theorem dX4_setTo_32 : decode cX4_setTo 32 = .ok (.iload_n 2, 1) := by decide +kernel
theorem dX4_setTo_33 : decode cX4_setTo 33 = .ok (.ifCond .lt 21, 3) := by decide +kernel
theorem dX4_setTo_36 : decode cX4_setTo 36 = .ok (.iload_n 2, 1) := by decide +kernel
theorem dX4_setTo_37 : decode cX4_setTo 37 = .ok (.bipush 20, 2) := by decide +kernel
theorem dX4_setTo_39 : decode cX4_setTo 39 = .ok (.if_icmp .gt 15, 3) := by decide +kernel
theorem dX4_setTo_42 : decode cX4_setTo 42 = .ok (.aload_n 0, 1) := by decide +kernel
theorem dX4_setTo_43 : decode cX4_setTo 43 = .ok (.getfield 54, 3) := by decide +kernel
theorem dX4_setTo_46 : decode cX4_setTo 46 = .ok (.istore_n 3, 1) := by decide +kernel
theorem dX4_setTo_47 : decode cX4_setTo 47 = .ok (.aload_n 0, 1) := by decide +kernel
theorem dX4_setTo_48 : decode cX4_setTo 48 = .ok (.iload_n 2, 1) := by decide +kernel
theorem dX4_setTo_49 : decode cX4_setTo 49 = .ok (.putfield 54, 3) := by decide +kernel
theorem dX4_setTo_52 : decode cX4_setTo 52 = .ok (.iload_n 3, 1) := by decide +kernel
theorem dX4_setTo_53 : decode cX4_setTo 53 = .ok (.ireturn, 1) := by decide +kernel
theorem dX4_setTo_54 : decode cX4_setTo 54 = .ok (.ldc 64, 2) := by decide +kernel
theorem dX4_setTo_56 : decode cX4_setTo 56 = .ok (.ireturn, 1) := by decide +kernel
set_option maxRecDepth 20000 in
theorem ggX4_copyFrom_X1_copyFrom : GoodIn wsX4_copyFrom wsX1_copyFrom := goodIn_r _ [21, 22, 23, 24, 25, 26, 27, 28, 29, 30, 31, 6, 7, 8, 32, 33, 34, 35, 57, 58, 59, 60, 61, 62] (by decide +kernel) (by decide +kernel)
set_option maxRecDepth 20000 in
theorem gX4_copyFrom_X1_copyFrom : GoodIn wsX4_copyFrom (wsV RX4 143 RX1 yX1_copyFrom wsX1_copyFrom) := goodIn_app (goodIn_of _ (by decide +kernel)) ggX4_copyFrom_X1_copyFrom
set_option maxRecDepth 20000 in
theorem ggX4_copyFrom_X3_copyFrom : GoodIn wsX4_copyFrom wsX3_copyFrom := goodIn_r _ [40, 41, 42, 43, 44, 63, 64, 65, 66] (by decide +kernel) (by decide +kernel)
set_option maxRecDepth 20000 in
theorem gX4_copyFrom_X3_copyFrom : GoodIn wsX4_copyFrom (wsV RX4 147 RX3 yX3_copyFrom wsX3_copyFrom) := goodIn_app (goodIn_of _ (by decide +kernel)) ggX4_copyFrom_X3_copyFrom
theorem dX4_copyFrom_0 : decode cX4_copyFrom 0 = .ok (.aload_n 0, 1) := by decide +kernel
theorem dX4_copyFrom_1 : decode cX4_copyFrom 1 = .ok (.getfield 12, 3) := by decide +kernel
theorem dX4_copyFrom_4 : decode cX4_copyFrom 4 = .ok (.aload_n 1, 1) := by decide +kernel
theorem dX4_copyFrom_5 : decode cX4_copyFrom 5 = .ok (.getfield 12, 3) := by decide +kernel
theorem dX4_copyFrom_8 : decode cX4_copyFrom 8 = .ok (.invokevirtual 143, 3) := by decide +kernel
theorem dX4_copyFrom_11 : decode cX4_copyFrom 11 = .ok (.aload_n 0, 1) := by decide +kernel
theorem dX4_copyFrom_12 : decode cX4_copyFrom 12 = .ok (.getfield 21, 3) := by decide +kernel
theorem dX4_copyFrom_15 : decode cX4_copyFrom 15 = .ok (.aload_n 1, 1) := by decide +kernel
theorem dX4_copyFrom_16 : decode cX4_copyFrom 16 = .ok (.getfield 21, 3) := by decide +kernel
theorem dX4_copyFrom_19 : decode cX4_copyFrom 19 = .ok (.invokevirtual 147, 3) := by decide +kernel
theorem dX4_copyFrom_22 : decode cX4_copyFrom 22 = .ok (.aload_n 0, 1) := by decide +kernel
theorem dX4_copyFrom_23 : decode cX4_copyFrom 23 = .ok (.getfield 25, 3) := by decide +kernel
theorem dX4_copyFrom_26 : decode cX4_copyFrom 26 = .ok (.aload_n 1, 1) := by decide +kernel
theorem dX4_copyFrom_27 : decode cX4_copyFrom 27 = .ok (.getfield 25, 3) := by decide +kernel
theorem dX4_copyFrom_30 : decode cX4_copyFrom 30 = .ok (.invokevirtual 147, 3) := by decide +kernel
theorem dX4_copyFrom_33 : decode cX4_copyFrom 33 = .ok (.aload_n 1, 1) := by decide +kernel
