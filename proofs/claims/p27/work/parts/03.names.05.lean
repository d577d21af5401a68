theorem wsL_law_in : ∀ w ∈ wsL_law, w ∈ lw_tbl := fun w h => (List.mem_append.mp h).elim (fun h => (List.mem_append.mp h).elim (fun h => (List.mem_append.mp h).elim (fun h => wsL_law_in0 w h) (fun h => wsL_law_x0 w h)) (fun h => wsL_law_x1 w h)) (fun h => wsL_law_x2 w h)
theorem inlX0 : ∀ w ∈ wsX00, w ∈ wsL_law := fun _ h => List.mem_append_left _ (List.mem_append_left _ (List.mem_append_left _ (List.mem_append_left _ (List.mem_append_right _ h))))
theorem inX0 : ∀ w ∈ wsX00, w ∈ lw_tbl := fun w h => wsL_law_in w (inlX0 w h)
theorem inlX1 : ∀ w ∈ wsX10, w ∈ wsL_law := fun _ h => List.mem_append_left _ (List.mem_append_left _ (List.mem_append_left _ (List.mem_append_left _ (List.mem_append_left _ (List.mem_append_left _ (List.mem_append_left _ (List.mem_append_right _ h)))))))
theorem inX1 : ∀ w ∈ wsX10, w ∈ lw_tbl := fun w h => wsL_law_in w (inlX1 w h)
theorem inlX2 : ∀ w ∈ wsX20, w ∈ wsL_law := fun _ h => List.mem_append_left _ (List.mem_append_left _ (List.mem_append_left _ (List.mem_append_left _ (List.mem_append_left _ (List.mem_append_right _ h)))))
theorem inX2 : ∀ w ∈ wsX20, w ∈ lw_tbl := fun w h => wsL_law_in w (inlX2 w h)
theorem inlX3 : ∀ w ∈ wsX30, w ∈ wsL_law := fun _ h => List.mem_append_left _ (List.mem_append_left _ (List.mem_append_left _ (List.mem_append_left _ (List.mem_append_left _ (List.mem_append_left _ (List.mem_append_left _ (List.mem_append_left _ (List.mem_append_right _ h))))))))
theorem inX3 : ∀ w ∈ wsX30, w ∈ lw_tbl := fun w h => wsL_law_in w (inlX3 w h)
theorem inlX4 : ∀ w ∈ wsX40, w ∈ wsL_law := fun _ h => List.mem_append_left _ (List.mem_append_left _ (List.mem_append_left _ (List.mem_append_left _ (List.mem_append_left _ (List.mem_append_left _ (List.mem_append_right _ h))))))
theorem inX4 : ∀ w ∈ wsX40, w ∈ lw_tbl := fun w h => wsL_law_in w (inlX4 w h)
theorem inlX5 : ∀ w ∈ wsX50, w ∈ wsL_law := fun _ h => List.mem_append_left _ (List.mem_append_left _ (List.mem_append_left _ (List.mem_append_left _ (List.mem_append_left _ (List.mem_append_left _ (List.mem_append_left _ (List.mem_append_left _ (List.mem_append_left _ (List.mem_append_right _ h)))))))))
theorem inX5 : ∀ w ∈ wsX50, w ∈ lw_tbl := fun w h => wsL_law_in w (inlX5 w h)
theorem inlX6 : ∀ w ∈ wsX60, w ∈ wsL_law := fun _ h => List.mem_append_left _ (List.mem_append_left _ (List.mem_append_left _ (List.mem_append_left _ (List.mem_append_left _ (List.mem_append_left _ (List.mem_append_left _ (List.mem_append_left _ (List.mem_append_left _ (List.mem_append_left _ (List.mem_append_right _ h))))))))))
theorem inX6 : ∀ w ∈ wsX60, w ∈ lw_tbl := fun w h => wsL_law_in w (inlX6 w h)
theorem inX7 : ∀ w ∈ wsX70, w ∈ lw_tbl := by decide +kernel
theorem inJ9 : ∀ w ∈ wsJ90, w ∈ lw_tbl := by decide +kernel
theorem inJ0 : ∀ w ∈ wsJ00, w ∈ lw_tbl := by decide +kernel
theorem dX0_init_0 : decode cX0_init 0 = .ok (.aload_n 0, 1) := by decide +kernel
theorem dX0_init_1 : decode cX0_init 1 = .ok (.invokespecial 3, 3) := by decide +kernel
theorem dX0_init_4 : decode cX0_init 4 = .ok (.aload_n 0, 1) := by decide +kernel
theorem dX0_init_5 : decode cX0_init 5 = .ok (.sipush 300, 3) := by decide +kernel
theorem dX0_init_8 : decode cX0_init 8 = .ok (.newarray .int, 2) := by decide +kernel
theorem dX0_init_10 : decode cX0_init 10 = .ok (.putfield 9, 3) := by decide +kernel
theorem dX0_init_13 : decode cX0_init 13 = .ok (.aload_n 0, 1) := by decide +kernel
theorem dX0_init_14 : decode cX0_init 14 = .ok (.sipush 300, 3) := by decide +kernel
theorem dX0_init_17 : decode cX0_init 17 = .ok (.newarray .int, 2) := by decide +kernel
theorem dX0_init_19 : decode cX0_init 19 = .ok (.putfield 15, 3) := by decide +kernel
theorem dX0_init_22 : decode cX0_init 22 = .ok (.return_, 1) := by decide +kernel
theorem dX0_startAgain_0 : decode cX0_startAgain 0 = .ok (.aload_n 0, 1) := by decide +kernel
theorem dX0_startAgain_1 : decode cX0_startAgain 1 = .ok (.iload_n 1, 1) := by decide +kernel
theorem dX0_startAgain_2 : decode cX0_startAgain 2 = .ok (.putfield 18, 3) := by decide +kernel
theorem dX0_startAgain_5 : decode cX0_startAgain 5 = .ok (.aload_n 0, 1) := by decide +kernel
theorem dX0_startAgain_6 : decode cX0_startAgain 6 = .ok (.iconst 0, 1) := by decide +kernel
theorem dX0_startAgain_7 : decode cX0_startAgain 7 = .ok (.putfield 22, 3) := by decide +kernel
theorem dX0_startAgain_10 : decode cX0_startAgain 10 = .ok (.aload_n 0, 1) := by decide +kernel
theorem dX0_startAgain_11 : decode cX0_startAgain 11 = .ok (.iconst 0, 1) := by decide +kernel
theorem dX0_startAgain_12 : decode cX0_startAgain 12 = .ok (.putfield 25, 3) := by decide +kernel
theorem dX0_startAgain_15 : decode cX0_startAgain 15 = .ok (.aload_n 0, 1) := by decide +kernel
theorem dX0_startAgain_16 : decode cX0_startAgain 16 = .ok (.iconst 0, 1) := by decide +kernel
theorem dX0_startAgain_17 : decode cX0_startAgain 17 = .ok (.putfield 28, 3) := by decide +kernel
theorem dX0_startAgain_20 : decode cX0_startAgain 20 = .ok (.return_, 1) := by decide +kernel
set_option maxRecDepth 20000 in
theorem ggX0_give_X6_remainder : GoodIn wsX0_give wsX6_remainder := goodIn_r _ [12] (by decide +kernel) (by decide +kernel)
set_option maxRecDepth 20000 in
theorem gX0_give_X6_remainder_n37 : GoodIn wsX0_give (wsX6_remainder) := ggX0_give_X6_remainder
set_option maxRecDepth 20000 in
theorem ggX0_give_X0_append : GoodIn wsX0_give wsX0_append := goodIn_r _ [17, 18, 7, 9, 1, 8, 19, 11, 20, 10, 12, 23, 24, 25, 26, 27, 28] (by decide +kernel) (by decide +kernel)
set_option maxRecDepth 20000 in
theorem gX0_give_X0_append : GoodIn wsX0_give (wsV RX0 40 RX0 yX0_append wsX0_append) := goodIn_app (goodIn_of _ (by decide +kernel)) ggX0_give_X0_append
set_option maxRecDepth 20000 in
theorem ggX0_give_X6_at : GoodIn wsX0_give wsX6_at := goodIn_r _ [22] (by decide +kernel) (by decide +kernel)
set_option maxRecDepth 20000 in
theorem gX0_give_X6_at_n44 : GoodIn wsX0_give (wsX6_at) := ggX0_give_X6_at
theorem dX0_give_0 : decode cX0_give 0 = .ok (.iload_n 3, 1) := by decide +kernel
theorem dX0_give_1 : decode cX0_give 1 = .ok (.iload_n 2, 1) := by decide +kernel
theorem dX0_give_2 : decode cX0_give 2 = .ok (.aload_n 0, 1) := by decide +kernel
theorem dX0_give_3 : decode cX0_give 3 = .ok (.getfield 18, 3) := by decide +kernel
theorem dX0_give_6 : decode cX0_give 6 = .ok (.invokestatic 31, 3) := by decide +kernel
theorem dX0_give_9 : decode cX0_give 9 = .ok (.invokestatic 37, 3) := by decide +kernel
theorem dX0_give_12 : decode cX0_give 12 = .ok (.ifCond .ne 24, 3) := by decide +kernel
theorem dX0_give_15 : decode cX0_give 15 = .ok (.aload_n 0, 1) := by decide +kernel
theorem dX0_give_16 : decode cX0_give 16 = .ok (.iconst 0, 1) := by decide +kernel
theorem dX0_give_17 : decode cX0_give 17 = .ok (.putfield 22, 3) := by decide +kernel
theorem dX0_give_20 : decode cX0_give 20 = .ok (.aload_n 0, 1) := by decide +kernel
theorem dX0_give_21 : decode cX0_give 21 = .ok (.iconst 0, 1) := by decide +kernel
theorem dX0_give_22 : decode cX0_give 22 = .ok (.putfield 25, 3) := by decide +kernel
theorem dX0_give_25 : decode cX0_give 25 = .ok (.aload_n 0, 1) := by decide +kernel
theorem dX0_give_26 : decode cX0_give 26 = .ok (.iload_n 1, 1) := by decide +kernel
theorem dX0_give_27 : decode cX0_give 27 = .ok (.iload_n 2, 1) := by decide +kernel
theorem dX0_give_28 : decode cX0_give 28 = .ok (.iload 4, 2) := by decide +kernel
theorem dX0_give_30 : decode cX0_give 30 = .ok (.invokevirtual 40, 3) := by decide +kernel
theorem dX0_give_33 : decode cX0_give 33 = .ok (.goto 19, 3) := by decide +kernel
theorem dX0_give_36 : decode cX0_give 36 = .ok (.iload_n 2, 1) := by decide +kernel
theorem dX0_give_37 : decode cX0_give 37 = .ok (.aload_n 0, 1) := by decide +kernel
theorem dX0_give_38 : decode cX0_give 38 = .ok (.getfield 28, 3) := by decide +kernel
theorem dX0_give_41 : decode cX0_give 41 = .ok (.if_icmp .ne 11, 3) := by decide +kernel
theorem dX0_give_44 : decode cX0_give 44 = .ok (.aload_n 0, 1) := by decide +kernel
theorem dX0_give_45 : decode cX0_give 45 = .ok (.iload_n 1, 1) := by decide +kernel
theorem dX0_give_46 : decode cX0_give 46 = .ok (.iload_n 2, 1) := by decide +kernel
theorem dX0_give_47 : decode cX0_give 47 = .ok (.iload 4, 2) := by decide +kernel
theorem dX0_give_49 : decode cX0_give 49 = .ok (.invokevirtual 40, 3) := by decide +kernel
theorem dX0_give_52 : decode cX0_give 52 = .ok (.aload_n 0, 1) := by decide +kernel
theorem dX0_give_53 : decode cX0_give 53 = .ok (.getfield 22, 3) := by decide +kernel
theorem dX0_give_56 : decode cX0_give 56 = .ok (.aload_n 0, 1) := by decide +kernel
theorem dX0_give_57 : decode cX0_give 57 = .ok (.getfield 25, 3) := by decide +kernel
theorem dX0_give_60 : decode cX0_give 60 = .ok (.if_icmp .ge 36, 3) := by decide +kernel
theorem dX0_give_63 : decode cX0_give 63 = .ok (.aload_n 0, 1) := by decide +kernel
theorem dX0_give_64 : decode cX0_give 64 = .ok (.getfield 15, 3) := by decide +kernel
theorem dX0_give_67 : decode cX0_give 67 = .ok (.aload_n 0, 1) := by decide +kernel
theorem dX0_give_68 : decode cX0_give 68 = .ok (.getfield 22, 3) := by decide +kernel
theorem dX0_give_71 : decode cX0_give 71 = .ok (.invokestatic 44, 3) := by decide +kernel
theorem dX0_give_74 : decode cX0_give 74 = .ok (.iload_n 2, 1) := by decide +kernel
theorem dX0_give_75 : decode cX0_give 75 = .ok (.aload_n 0, 1) := by decide +kernel
theorem dX0_give_76 : decode cX0_give 76 = .ok (.getfield 18, 3) := by decide +kernel
theorem dX0_give_79 : decode cX0_give 79 = .ok (.isub, 1) := by decide +kernel
theorem dX0_give_80 : decode cX0_give 80 = .ok (.if_icmp .gt 16, 3) := by decide +kernel
theorem dX0_give_83 : decode cX0_give 83 = .ok (.aload_n 0, 1) := by decide +kernel
theorem dX0_give_84 : decode cX0_give 84 = .ok (.dup, 1) := by decide +kernel
theorem dX0_give_85 : decode cX0_give 85 = .ok (.getfield 22, 3) := by decide +kernel
theorem dX0_give_88 : decode cX0_give 88 = .ok (.iconst 1, 1) := by decide +kernel
theorem dX0_give_89 : decode cX0_give 89 = .ok (.iadd, 1) := by decide +kernel
theorem dX0_give_90 : decode cX0_give 90 = .ok (.putfield 22, 3) := by decide +kernel
theorem dX0_give_93 : decode cX0_give 93 = .ok (.goto (-41), 3) := by decide +kernel
theorem dX0_give_96 : decode cX0_give 96 = .ok (.return_, 1) := by decide +kernel
set_option maxRecDepth 20000 in
theorem ggX0_append_X6_put : GoodIn wsX0_append wsX6_put := goodIn_r _ [8] (by decide +kernel) (by decide +kernel)
set_option maxRecDepth 20000 in
theorem gX0_append_X6_put_n48 : GoodIn wsX0_append (wsX6_put) := ggX0_append_X6_put
set_option maxRecDepth 20000 in
theorem ggX0_append_X6_remainder : GoodIn wsX0_append wsX6_remainder := goodIn_r _ [10] (by decide +kernel) (by decide +kernel)
set_option maxRecDepth 20000 in
theorem gX0_append_X6_remainder_n37 : GoodIn wsX0_append (wsX6_remainder) := ggX0_append_X6_remainder
theorem dX0_append_0 : decode cX0_append 0 = .ok (.aload_n 0, 1) := by decide +kernel
theorem dX0_append_1 : decode cX0_append 1 = .ok (.getfield 9, 3) := by decide +kernel
theorem dX0_append_4 : decode cX0_append 4 = .ok (.aload_n 0, 1) := by decide +kernel
theorem dX0_append_5 : decode cX0_append 5 = .ok (.getfield 25, 3) := by decide +kernel
theorem dX0_append_8 : decode cX0_append 8 = .ok (.iload_n 1, 1) := by decide +kernel
theorem dX0_append_9 : decode cX0_append 9 = .ok (.invokestatic 48, 3) := by decide +kernel
theorem dX0_append_12 : decode cX0_append 12 = .ok (.aload_n 0, 1) := by decide +kernel
theorem dX0_append_13 : decode cX0_append 13 = .ok (.getfield 15, 3) := by decide +kernel
theorem dX0_append_16 : decode cX0_append 16 = .ok (.aload_n 0, 1) := by decide +kernel
theorem dX0_append_17 : decode cX0_append 17 = .ok (.getfield 25, 3) := by decide +kernel
theorem dX0_append_20 : decode cX0_append 20 = .ok (.iload_n 2, 1) := by decide +kernel
theorem dX0_append_21 : decode cX0_append 21 = .ok (.invokestatic 48, 3) := by decide +kernel
theorem dX0_append_24 : decode cX0_append 24 = .ok (.aload_n 0, 1) := by decide +kernel
theorem dX0_append_25 : decode cX0_append 25 = .ok (.dup, 1) := by decide +kernel
theorem dX0_append_26 : decode cX0_append 26 = .ok (.getfield 25, 3) := by decide +kernel
theorem dX0_append_29 : decode cX0_append 29 = .ok (.iconst 1, 1) := by decide +kernel
theorem dX0_append_30 : decode cX0_append 30 = .ok (.iadd, 1) := by decide +kernel
theorem dX0_append_31 : decode cX0_append 31 = .ok (.putfield 25, 3) := by decide +kernel
theorem dX0_append_34 : decode cX0_append 34 = .ok (.aload_n 0, 1) := by decide +kernel
theorem dX0_append_35 : decode cX0_append 35 = .ok (.iload_n 2, 1) := by decide +kernel
theorem dX0_append_36 : decode cX0_append 36 = .ok (.iconst 1, 1) := by decide +kernel
theorem dX0_append_37 : decode cX0_append 37 = .ok (.iadd, 1) := by decide +kernel
theorem dX0_append_38 : decode cX0_append 38 = .ok (.iload_n 3, 1) := by decide +kernel
theorem dX0_append_39 : decode cX0_append 39 = .ok (.aload_n 0, 1) := by decide +kernel
theorem dX0_append_40 : decode cX0_append 40 = .ok (.getfield 18, 3) := by decide +kernel
theorem dX0_append_43 : decode cX0_append 43 = .ok (.invokestatic 37, 3) := by decide +kernel
theorem dX0_append_46 : decode cX0_append 46 = .ok (.iadd, 1) := by decide +kernel
theorem dX0_append_47 : decode cX0_append 47 = .ok (.putfield 28, 3) := by decide +kernel
theorem dX0_append_50 : decode cX0_append 50 = .ok (.return_, 1) := by decide +kernel
theorem dX0_length_0 : decode cX0_length 0 = .ok (.aload_n 0, 1) := by decide +kernel
theorem dX0_length_1 : decode cX0_length 1 = .ok (.getfield 25, 3) := by decide +kernel
theorem dX0_length_4 : decode cX0_length 4 = .ok (.aload_n 0, 1) := by decide +kernel
theorem dX0_length_5 : decode cX0_length 5 = .ok (.getfield 22, 3) := by decide +kernel
theorem dX0_length_8 : decode cX0_length 8 = .ok (.isub, 1) := by decide +kernel
theorem dX0_length_9 : decode cX0_length 9 = .ok (.ireturn, 1) := by decide +kernel
theorem dX1_init_0 : decode cX1_init 0 = .ok (.aload_n 0, 1) := by decide +kernel
theorem dX1_init_1 : decode cX1_init 1 = .ok (.invokespecial 3, 3) := by decide +kernel
theorem dX1_init_4 : decode cX1_init 4 = .ok (.aload_n 0, 1) := by decide +kernel
theorem dX1_init_5 : decode cX1_init 5 = .ok (.bipush 16, 2) := by decide +kernel
theorem dX1_init_7 : decode cX1_init 7 = .ok (.newarray .int, 2) := by decide +kernel
theorem dX1_init_9 : decode cX1_init 9 = .ok (.putfield 9, 3) := by decide +kernel
theorem dX1_init_12 : decode cX1_init 12 = .ok (.aload_n 0, 1) := by decide +kernel
theorem dX1_init_13 : decode cX1_init 13 = .ok (.bipush 16, 2) := by decide +kernel
theorem dX1_init_15 : decode cX1_init 15 = .ok (.newarray .int, 2) := by decide +kernel
theorem dX1_init_17 : decode cX1_init 17 = .ok (.putfield 15, 3) := by decide +kernel
theorem dX1_init_20 : decode cX1_init 20 = .ok (.return_, 1) := by decide +kernel
theorem dX1_startAgain_0 : decode cX1_startAgain 0 = .ok (.aload_n 0, 1) := by decide +kernel
theorem dX1_startAgain_1 : decode cX1_startAgain 1 = .ok (.iload_n 1, 1) := by decide +kernel
theorem dX1_startAgain_2 : decode cX1_startAgain 2 = .ok (.putfield 18, 3) := by decide +kernel
theorem dX1_startAgain_5 : decode cX1_startAgain 5 = .ok (.aload_n 0, 1) := by decide +kernel
theorem dX1_startAgain_6 : decode cX1_startAgain 6 = .ok (.iconst 0, 1) := by decide +kernel
theorem dX1_startAgain_7 : decode cX1_startAgain 7 = .ok (.putfield 22, 3) := by decide +kernel
theorem dX1_startAgain_10 : decode cX1_startAgain 10 = .ok (.return_, 1) := by decide +kernel
set_option maxRecDepth 20000 in
theorem ggX1_addAll_X6_at : GoodIn wsX1_addAll wsX6_at := goodIn_r _ [6] (by decide +kernel) (by decide +kernel)
set_option maxRecDepth 20000 in
theorem gX1_addAll_X6_at_n25 : GoodIn wsX1_addAll (wsX6_at) := ggX1_addAll_X6_at
set_option maxRecDepth 20000 in
theorem ggX1_addAll_X1_add : GoodIn wsX1_addAll wsX1_add := goodIn_r _ [11, 1, 2, 3, 12, 13, 14, 15, 16, 17, 18, 19, 10, 20, 21, 22, 23, 24, 25, 4, 5, 6, 26, 27, 28, 29, 30, 31, 32, 33, 34, 35] (by decide +kernel) (by decide +kernel)
set_option maxRecDepth 20000 in
theorem gX1_addAll_X1_add : GoodIn wsX1_addAll (wsV RX1 29 RX1 yX1_add wsX1_add) := goodIn_app (goodIn_of _ (by decide +kernel)) ggX1_addAll_X1_add
theorem dX1_addAll_0 : decode cX1_addAll 0 = .ok (.aload_n 1, 1) := by decide +kernel
theorem dX1_addAll_1 : decode cX1_addAll 1 = .ok (.getfield 22, 3) := by decide +kernel
theorem dX1_addAll_4 : decode cX1_addAll 4 = .ok (.istore_n 2, 1) := by decide +kernel
theorem dX1_addAll_5 : decode cX1_addAll 5 = .ok (.iconst 0, 1) := by decide +kernel
theorem dX1_addAll_6 : decode cX1_addAll 6 = .ok (.istore_n 3, 1) := by decide +kernel
theorem dX1_addAll_7 : decode cX1_addAll 7 = .ok (.iload_n 3, 1) := by decide +kernel
theorem dX1_addAll_8 : decode cX1_addAll 8 = .ok (.iload_n 2, 1) := by decide +kernel
theorem dX1_addAll_9 : decode cX1_addAll 9 = .ok (.if_icmp .ge 29, 3) := by decide +kernel
theorem dX1_addAll_12 : decode cX1_addAll 12 = .ok (.aload_n 0, 1) := by decide +kernel
theorem dX1_addAll_13 : decode cX1_addAll 13 = .ok (.aload_n 1, 1) := by decide +kernel
theorem dX1_addAll_14 : decode cX1_addAll 14 = .ok (.getfield 9, 3) := by decide +kernel
theorem dX1_addAll_17 : decode cX1_addAll 17 = .ok (.iload_n 3, 1) := by decide +kernel
theorem dX1_addAll_18 : decode cX1_addAll 18 = .ok (.invokestatic 25, 3) := by decide +kernel
theorem dX1_addAll_21 : decode cX1_addAll 21 = .ok (.aload_n 1, 1) := by decide +kernel
theorem dX1_addAll_22 : decode cX1_addAll 22 = .ok (.getfield 15, 3) := by decide +kernel
theorem dX1_addAll_25 : decode cX1_addAll 25 = .ok (.iload_n 3, 1) := by decide +kernel
theorem dX1_addAll_26 : decode cX1_addAll 26 = .ok (.invokestatic 25, 3) := by decide +kernel
theorem dX1_addAll_29 : decode cX1_addAll 29 = .ok (.invokevirtual 29, 3) := by decide +kernel
theorem dX1_addAll_32 : decode cX1_addAll 32 = .ok (.iinc 3 1, 3) := by decide +kernel
theorem dX1_addAll_35 : decode cX1_addAll 35 = .ok (.goto (-28), 3) := by decide +kernel
theorem dX1_addAll_38 : decode cX1_addAll 38 = .ok (.return_, 1) := by decide +kernel
set_option maxRecDepth 20000 in
theorem ggX1_add_X1_placeFor : GoodIn wsX1_add wsX1_placeFor := goodIn_r _ [13, 1, 2, 14, 15, 12, 16, 17, 18, 19, 20, 21, 28, 29, 30, 31] (by decide +kernel) (by decide +kernel)
set_option maxRecDepth 20000 in
theorem gX1_add_X1_placeFor : GoodIn wsX1_add (wsV RX1 33 RX1 yX1_placeFor wsX1_placeFor) := goodIn_app (goodIn_of _ (by decide +kernel)) ggX1_add_X1_placeFor
set_option maxRecDepth 20000 in
theorem ggX1_add_X6_at : GoodIn wsX1_add wsX6_at := goodIn_r _ [21] (by decide +kernel) (by decide +kernel)
set_option maxRecDepth 20000 in
theorem gX1_add_X6_at_n25 : GoodIn wsX1_add (wsX6_at) := ggX1_add_X6_at
set_option maxRecDepth 20000 in
theorem ggX1_add_X6_put : GoodIn wsX1_add wsX6_put := goodIn_r _ [23] (by decide +kernel) (by decide +kernel)
set_option maxRecDepth 20000 in
theorem gX1_add_X6_put_n37 : GoodIn wsX1_add (wsX6_put) := ggX1_add_X6_put
set_option maxRecDepth 20000 in
theorem ggX1_add_X6_insert : GoodIn wsX1_add wsX6_insert := goodIn_r _ [25, 26, 19, 20, 21, 27, 22, 23] (by decide +kernel) (by decide +kernel)
set_option maxRecDepth 20000 in
theorem gX1_add_X6_insert_n47 : GoodIn wsX1_add (wsX6_insert) := ggX1_add_X6_insert
theorem dX1_add_0 : decode cX1_add 0 = .ok (.aload_n 0, 1) := by decide +kernel
theorem dX1_add_1 : decode cX1_add 1 = .ok (.iload_n 1, 1) := by decide +kernel
theorem dX1_add_2 : decode cX1_add 2 = .ok (.invokevirtual 33, 3) := by decide +kernel
theorem dX1_add_5 : decode cX1_add 5 = .ok (.istore_n 3, 1) := by decide +kernel
theorem dX1_add_6 : decode cX1_add 6 = .ok (.iload_n 3, 1) := by decide +kernel
theorem dX1_add_7 : decode cX1_add 7 = .ok (.aload_n 0, 1) := by decide +kernel
theorem dX1_add_8 : decode cX1_add 8 = .ok (.getfield 22, 3) := by decide +kernel
theorem dX1_add_11 : decode cX1_add 11 = .ok (.if_icmp .ge 34, 3) := by decide +kernel
theorem dX1_add_14 : decode cX1_add 14 = .ok (.aload_n 0, 1) := by decide +kernel
theorem dX1_add_15 : decode cX1_add 15 = .ok (.getfield 9, 3) := by decide +kernel
theorem dX1_add_18 : decode cX1_add 18 = .ok (.iload_n 3, 1) := by decide +kernel
theorem dX1_add_19 : decode cX1_add 19 = .ok (.invokestatic 25, 3) := by decide +kernel
theorem dX1_add_22 : decode cX1_add 22 = .ok (.iload_n 1, 1) := by decide +kernel
theorem dX1_add_23 : decode cX1_add 23 = .ok (.if_icmp .ne 22, 3) := by decide +kernel
theorem dX1_add_26 : decode cX1_add 26 = .ok (.aload_n 0, 1) := by decide +kernel
theorem dX1_add_27 : decode cX1_add 27 = .ok (.getfield 15, 3) := by decide +kernel
theorem dX1_add_30 : decode cX1_add 30 = .ok (.iload_n 3, 1) := by decide +kernel
theorem dX1_add_31 : decode cX1_add 31 = .ok (.aload_n 0, 1) := by decide +kernel
theorem dX1_add_32 : decode cX1_add 32 = .ok (.getfield 15, 3) := by decide +kernel
theorem dX1_add_35 : decode cX1_add 35 = .ok (.iload_n 3, 1) := by decide +kernel
theorem dX1_add_36 : decode cX1_add 36 = .ok (.invokestatic 25, 3) := by decide +kernel
theorem dX1_add_39 : decode cX1_add 39 = .ok (.iload_n 2, 1) := by decide +kernel
theorem dX1_add_40 : decode cX1_add 40 = .ok (.iadd, 1) := by decide +kernel
theorem dX1_add_41 : decode cX1_add 41 = .ok (.invokestatic 37, 3) := by decide +kernel
theorem dX1_add_44 : decode cX1_add 44 = .ok (.return_, 1) := by decide +kernel
theorem dX1_add_45 : decode cX1_add 45 = .ok (.iload_n 3, 1) := by decide +kernel
theorem dX1_add_46 : decode cX1_add 46 = .ok (.aload_n 0, 1) := by decide +kernel
theorem dX1_add_47 : decode cX1_add 47 = .ok (.getfield 18, 3) := by decide +kernel
theorem dX1_add_50 : decode cX1_add 50 = .ok (.if_icmp .lt 4, 3) := by decide +kernel
theorem dX1_add_53 : decode cX1_add 53 = .ok (.return_, 1) := by decide +kernel
theorem dX1_add_54 : decode cX1_add 54 = .ok (.aload_n 0, 1) := by decide +kernel
theorem dX1_add_55 : decode cX1_add 55 = .ok (.aload_n 0, 1) := by decide +kernel
theorem dX1_add_56 : decode cX1_add 56 = .ok (.getfield 22, 3) := by decide +kernel
theorem dX1_add_59 : decode cX1_add 59 = .ok (.iconst 1, 1) := by decide +kernel
theorem dX1_add_60 : decode cX1_add 60 = .ok (.iadd, 1) := by decide +kernel
theorem dX1_add_61 : decode cX1_add 61 = .ok (.aload_n 0, 1) := by decide +kernel
theorem dX1_add_62 : decode cX1_add 62 = .ok (.getfield 18, 3) := by decide +kernel
theorem dX1_add_65 : decode cX1_add 65 = .ok (.invokestatic 41, 3) := by decide +kernel
theorem dX1_add_68 : decode cX1_add 68 = .ok (.putfield 22, 3) := by decide +kernel
theorem dX1_add_71 : decode cX1_add 71 = .ok (.aload_n 0, 1) := by decide +kernel
theorem dX1_add_72 : decode cX1_add 72 = .ok (.getfield 9, 3) := by decide +kernel
theorem dX1_add_75 : decode cX1_add 75 = .ok (.iload_n 3, 1) := by decide +kernel
theorem dX1_add_76 : decode cX1_add 76 = .ok (.aload_n 0, 1) := by decide +kernel
theorem dX1_add_77 : decode cX1_add 77 = .ok (.getfield 22, 3) := by decide +kernel
theorem dX1_add_80 : decode cX1_add 80 = .ok (.iload_n 1, 1) := by decide +kernel
theorem dX1_add_81 : decode cX1_add 81 = .ok (.invokestatic 47, 3) := by decide +kernel
theorem dX1_add_84 : decode cX1_add 84 = .ok (.aload_n 0, 1) := by decide +kernel
theorem dX1_add_85 : decode cX1_add 85 = .ok (.getfield 15, 3) := by decide +kernel
theorem dX1_add_88 : decode cX1_add 88 = .ok (.iload_n 3, 1) := by decide +kernel
theorem dX1_add_89 : decode cX1_add 89 = .ok (.aload_n 0, 1) := by decide +kernel
theorem dX1_add_90 : decode cX1_add 90 = .ok (.getfield 22, 3) := by decide +kernel
theorem dX1_add_93 : decode cX1_add 93 = .ok (.iload_n 2, 1) := by decide +kernel
theorem dX1_add_94 : decode cX1_add 94 = .ok (.invokestatic 47, 3) := by decide +kernel
theorem dX1_add_97 : decode cX1_add 97 = .ok (.return_, 1) := by decide +kernel
set_option maxRecDepth 20000 in
theorem ggX1_placeFor_X1_hashOf : GoodIn wsX1_placeFor wsX1_hashOf := goodIn_r _ [6, 7, 8] (by decide +kernel) (by decide +kernel)
set_option maxRecDepth 20000 in
theorem gX1_placeFor_X1_hashOf : GoodIn wsX1_placeFor (va_wsS RX1 51 yX1_hashOf wsX1_hashOf) := goodIn_app (goodIn_of _ (by decide +kernel)) ggX1_placeFor_X1_hashOf
set_option maxRecDepth 20000 in
theorem ggX1_placeFor_X6_at : GoodIn wsX1_placeFor wsX6_at := goodIn_r _ [11] (by decide +kernel) (by decide +kernel)
set_option maxRecDepth 20000 in
theorem gX1_placeFor_X6_at_n25 : GoodIn wsX1_placeFor (wsX6_at) := ggX1_placeFor_X6_at
theorem dX1_placeFor_0 : decode cX1_placeFor 0 = .ok (.iload_n 1, 1) := by decide +kernel
theorem dX1_placeFor_1 : decode cX1_placeFor 1 = .ok (.invokestatic 51, 3) := by decide +kernel
theorem dX1_placeFor_4 : decode cX1_placeFor 4 = .ok (.lstore_n 2, 1) := by decide +kernel
theorem dX1_placeFor_5 : decode cX1_placeFor 5 = .ok (.iconst 0, 1) := by decide +kernel
theorem dX1_placeFor_6 : decode cX1_placeFor 6 = .ok (.istore 4, 2) := by decide +kernel
theorem dX1_placeFor_8 : decode cX1_placeFor 8 = .ok (.iload 4, 2) := by decide +kernel
theorem dX1_placeFor_10 : decode cX1_placeFor 10 = .ok (.aload_n 0, 1) := by decide +kernel
theorem dX1_placeFor_11 : decode cX1_placeFor 11 = .ok (.getfield 22, 3) := by decide +kernel
theorem dX1_placeFor_14 : decode cX1_placeFor 14 = .ok (.if_icmp .ge 26, 3) := by decide +kernel
theorem dX1_placeFor_17 : decode cX1_placeFor 17 = .ok (.aload_n 0, 1) := by decide +kernel
theorem dX1_placeFor_18 : decode cX1_placeFor 18 = .ok (.getfield 9, 3) := by decide +kernel
theorem dX1_placeFor_21 : decode cX1_placeFor 21 = .ok (.iload 4, 2) := by decide +kernel
theorem dX1_placeFor_23 : decode cX1_placeFor 23 = .ok (.invokestatic 25, 3) := by decide +kernel
theorem dX1_placeFor_26 : decode cX1_placeFor 26 = .ok (.invokestatic 51, 3) := by decide +kernel
theorem dX1_placeFor_29 : decode cX1_placeFor 29 = .ok (.lload_n 2, 1) := by decide +kernel
theorem dX1_placeFor_30 : decode cX1_placeFor 30 = .ok (.lcmp, 1) := by decide +kernel
theorem dX1_placeFor_31 : decode cX1_placeFor 31 = .ok (.ifCond .ge 9, 3) := by decide +kernel
theorem dX1_placeFor_34 : decode cX1_placeFor 34 = .ok (.iinc 4 1, 3) := by decide +kernel
theorem dX1_placeFor_37 : decode cX1_placeFor 37 = .ok (.goto (-29), 3) := by decide +kernel
theorem dX1_placeFor_40 : decode cX1_placeFor 40 = .ok (.iload 4, 2) := by decide +kernel
theorem dX1_placeFor_42 : decode cX1_placeFor 42 = .ok (.ireturn, 1) := by decide +kernel
theorem dX1_hashOf_0 : decode cX1_hashOf 0 = .ok (.iload_n 0, 1) := by decide +kernel
theorem dX1_hashOf_1 : decode cX1_hashOf 1 = .ok (.i2l, 1) := by decide +kernel
theorem dX1_hashOf_2 : decode cX1_hashOf 2 = .ok (.ldc2_w 55, 3) := by decide +kernel
theorem dX1_hashOf_5 : decode cX1_hashOf 5 = .ok (.lmul, 1) := by decide +kernel
theorem dX1_hashOf_6 : decode cX1_hashOf 6 = .ok (.ldc2_w 57, 3) := by decide +kernel
theorem dX1_hashOf_9 : decode cX1_hashOf 9 = .ok (.lrem, 1) := by decide +kernel
theorem dX1_hashOf_10 : decode cX1_hashOf 10 = .ok (.lconst 1, 1) := by decide +kernel
theorem dX1_hashOf_11 : decode cX1_hashOf 11 = .ok (.ladd, 1) := by decide +kernel
theorem dX1_hashOf_12 : decode cX1_hashOf 12 = .ok (.lreturn, 1) := by decide +kernel
set_option maxRecDepth 20000 in
theorem ggX1_estimatedCount_X6_at : GoodIn wsX1_estimatedCount wsX6_at := goodIn_r _ [7] (by decide +kernel) (by decide +kernel)
set_option maxRecDepth 20000 in
theorem gX1_estimatedCount_X6_at_n25 : GoodIn wsX1_estimatedCount (wsX6_at) := ggX1_estimatedCount_X6_at
set_option maxRecDepth 20000 in
theorem ggX1_estimatedCount_X1_hashOf : GoodIn wsX1_estimatedCount wsX1_hashOf := goodIn_r _ [11, 12, 3] (by decide +kernel) (by decide +kernel)
set_option maxRecDepth 20000 in
theorem gX1_estimatedCount_X1_hashOf : GoodIn wsX1_estimatedCount (va_wsS RX1 51 yX1_hashOf wsX1_hashOf) := goodIn_app (goodIn_of _ (by decide +kernel)) ggX1_estimatedCount_X1_hashOf
set_option maxRecDepth 20000 in
theorem ggX1_estimatedCount_X6_quotient : GoodIn wsX1_estimatedCount wsX6_quotient := goodIn_r _ [14] (by decide +kernel) (by decide +kernel)
set_option maxRecDepth 20000 in
theorem gX1_estimatedCount_X6_quotient_n59 : GoodIn wsX1_estimatedCount (wsX6_quotient) := ggX1_estimatedCount_X6_quotient
theorem dX1_estimatedCount_0 : decode cX1_estimatedCount 0 = .ok (.aload_n 0, 1) := by decide +kernel
theorem dX1_estimatedCount_1 : decode cX1_estimatedCount 1 = .ok (.getfield 22, 3) := by decide +kernel
theorem dX1_estimatedCount_4 : decode cX1_estimatedCount 4 = .ok (.aload_n 0, 1) := by decide +kernel
theorem dX1_estimatedCount_5 : decode cX1_estimatedCount 5 = .ok (.getfield 18, 3) := by decide +kernel
theorem dX1_estimatedCount_8 : decode cX1_estimatedCount 8 = .ok (.if_icmp .ge 9, 3) := by decide +kernel
theorem dX1_estimatedCount_11 : decode cX1_estimatedCount 11 = .ok (.aload_n 0, 1) := by decide +kernel
theorem dX1_estimatedCount_12 : decode cX1_estimatedCount 12 = .ok (.getfield 22, 3) := by decide +kernel
theorem dX1_estimatedCount_15 : decode cX1_estimatedCount 15 = .ok (.i2l, 1) := by decide +kernel
theorem dX1_estimatedCount_16 : decode cX1_estimatedCount 16 = .ok (.lreturn, 1) := by decide +kernel
theorem dX1_estimatedCount_17 : decode cX1_estimatedCount 17 = .ok (.aload_n 0, 1) := by decide +kernel
theorem dX1_estimatedCount_18 : decode cX1_estimatedCount 18 = .ok (.getfield 18, 3) := by decide +kernel
theorem dX1_estimatedCount_21 : decode cX1_estimatedCount 21 = .ok (.iconst 1, 1) := by decide +kernel
theorem dX1_estimatedCount_22 : decode cX1_estimatedCount 22 = .ok (.isub, 1) := by decide +kernel
theorem dX1_estimatedCount_23 : decode cX1_estimatedCount 23 = .ok (.i2l, 1) := by decide +kernel
theorem dX1_estimatedCount_24 : decode cX1_estimatedCount 24 = .ok (.ldc2_w 57, 3) := by decide +kernel
theorem dX1_estimatedCount_27 : decode cX1_estimatedCount 27 = .ok (.lmul, 1) := by decide +kernel
theorem dX1_estimatedCount_28 : decode cX1_estimatedCount 28 = .ok (.aload_n 0, 1) := by decide +kernel
theorem dX1_estimatedCount_29 : decode cX1_estimatedCount 29 = .ok (.getfield 9, 3) := by decide +kernel
theorem dX1_estimatedCount_32 : decode cX1_estimatedCount 32 = .ok (.aload_n 0, 1) := by decide +kernel
theorem dX1_estimatedCount_33 : decode cX1_estimatedCount 33 = .ok (.getfield 18, 3) := by decide +kernel
theorem dX1_estimatedCount_36 : decode cX1_estimatedCount 36 = .ok (.iconst 1, 1) := by decide +kernel
theorem dX1_estimatedCount_37 : decode cX1_estimatedCount 37 = .ok (.isub, 1) := by decide +kernel
theorem dX1_estimatedCount_38 : decode cX1_estimatedCount 38 = .ok (.invokestatic 25, 3) := by decide +kernel
theorem dX1_estimatedCount_41 : decode cX1_estimatedCount 41 = .ok (.invokestatic 51, 3) := by decide +kernel
theorem dX1_estimatedCount_44 : decode cX1_estimatedCount 44 = .ok (.invokestatic 59, 3) := by decide +kernel
theorem dX1_estimatedCount_47 : decode cX1_estimatedCount 47 = .ok (.lreturn, 1) := by decide +kernel
set_option maxRecDepth 20000 in
theorem ggX2_init_X4_init : GoodIn wsX2_init wsX4_init := goodIn_r _ [9, 10, 2, 3, 11, 12, 13, 14, 15, 16, 17] (by decide +kernel) (by decide +kernel)
set_option maxRecDepth 20000 in
theorem gX2_init_X4_init_n9 : GoodIn wsX2_init (wsX4_init) := ggX2_init_X4_init
theorem dX2_init_0 : decode cX2_init 0 = .ok (.aload_n 0, 1) := by decide +kernel
theorem dX2_init_1 : decode cX2_init 1 = .ok (.invokespecial 1, 3) := by decide +kernel
theorem dX2_init_4 : decode cX2_init 4 = .ok (.aload_n 0, 1) := by decide +kernel
theorem dX2_init_5 : decode cX2_init 5 = .ok (.new 7, 3) := by decide +kernel
theorem dX2_init_8 : decode cX2_init 8 = .ok (.dup, 1) := by decide +kernel
