theorem dX4_startAgain_6 : decode cX4_startAgain 6 = .ok (.iconst 0, 1) := by decide +kernel
theorem dX4_startAgain_7 : decode cX4_startAgain 7 = .ok (.putfield 22, 3) := by decide +kernel
theorem dX4_startAgain_10 : decode cX4_startAgain 10 = .ok (.return_, 1) := by decide +kernel
set_option maxRecDepth 20000 in
theorem ggX4_give_X6_remainder : GoodIn wsX4_give wsX6_remainder := goodIn_r _ [7] (by decide +kernel) (by decide +kernel)
set_option maxRecDepth 20000 in
theorem gX4_give_X6_remainder_n25 : GoodIn wsX4_give (wsX6_remainder) := ggX4_give_X6_remainder
set_option maxRecDepth 20000 in
theorem ggX4_give_X6_put : GoodIn wsX4_give wsX6_put := goodIn_r _ [9] (by decide +kernel) (by decide +kernel)
set_option maxRecDepth 20000 in
theorem gX4_give_X6_put_n29 : GoodIn wsX4_give (wsX6_put) := ggX4_give_X6_put
theorem dX4_give_0 : decode cX4_give 0 = .ok (.aload_n 0, 1) := by decide +kernel
theorem dX4_give_1 : decode cX4_give 1 = .ok (.dup, 1) := by decide +kernel
theorem dX4_give_2 : decode cX4_give 2 = .ok (.getfield 22, 3) := by decide +kernel
theorem dX4_give_5 : decode cX4_give 5 = .ok (.iconst 1, 1) := by decide +kernel
theorem dX4_give_6 : decode cX4_give 6 = .ok (.iadd, 1) := by decide +kernel
theorem dX4_give_7 : decode cX4_give 7 = .ok (.putfield 22, 3) := by decide +kernel
theorem dX4_give_10 : decode cX4_give 10 = .ok (.aload_n 0, 1) := by decide +kernel
theorem dX4_give_11 : decode cX4_give 11 = .ok (.getfield 22, 3) := by decide +kernel
theorem dX4_give_14 : decode cX4_give 14 = .ok (.aload_n 0, 1) := by decide +kernel
theorem dX4_give_15 : decode cX4_give 15 = .ok (.getfield 18, 3) := by decide +kernel
theorem dX4_give_18 : decode cX4_give 18 = .ok (.if_icmp .gt 12, 3) := by decide +kernel
theorem dX4_give_21 : decode cX4_give 21 = .ok (.aload_n 0, 1) := by decide +kernel
theorem dX4_give_22 : decode cX4_give 22 = .ok (.getfield 22, 3) := by decide +kernel
theorem dX4_give_25 : decode cX4_give 25 = .ok (.iconst 1, 1) := by decide +kernel
theorem dX4_give_26 : decode cX4_give 26 = .ok (.isub, 1) := by decide +kernel
theorem dX4_give_27 : decode cX4_give 27 = .ok (.goto 11, 3) := by decide +kernel
theorem dX4_give_30 : decode cX4_give 30 = .ok (.iload_n 3, 1) := by decide +kernel
theorem dX4_give_31 : decode cX4_give 31 = .ok (.aload_n 0, 1) := by decide +kernel
theorem dX4_give_32 : decode cX4_give 32 = .ok (.getfield 22, 3) := by decide +kernel
theorem dX4_give_35 : decode cX4_give 35 = .ok (.invokestatic 25, 3) := by decide +kernel
theorem dX4_give_38 : decode cX4_give 38 = .ok (.istore 4, 2) := by decide +kernel
theorem dX4_give_40 : decode cX4_give 40 = .ok (.iload 4, 2) := by decide +kernel
theorem dX4_give_42 : decode cX4_give 42 = .ok (.aload_n 0, 1) := by decide +kernel
theorem dX4_give_43 : decode cX4_give 43 = .ok (.getfield 18, 3) := by decide +kernel
theorem dX4_give_46 : decode cX4_give 46 = .ok (.if_icmp .ge 23, 3) := by decide +kernel
theorem dX4_give_49 : decode cX4_give 49 = .ok (.aload_n 0, 1) := by decide +kernel
theorem dX4_give_50 : decode cX4_give 50 = .ok (.getfield 9, 3) := by decide +kernel
theorem dX4_give_53 : decode cX4_give 53 = .ok (.iload 4, 2) := by decide +kernel
theorem dX4_give_55 : decode cX4_give 55 = .ok (.iload_n 1, 1) := by decide +kernel
theorem dX4_give_56 : decode cX4_give 56 = .ok (.invokestatic 29, 3) := by decide +kernel
theorem dX4_give_59 : decode cX4_give 59 = .ok (.aload_n 0, 1) := by decide +kernel
theorem dX4_give_60 : decode cX4_give 60 = .ok (.getfield 15, 3) := by decide +kernel
theorem dX4_give_63 : decode cX4_give 63 = .ok (.iload 4, 2) := by decide +kernel
theorem dX4_give_65 : decode cX4_give 65 = .ok (.iload_n 2, 1) := by decide +kernel
theorem dX4_give_66 : decode cX4_give 66 = .ok (.invokestatic 29, 3) := by decide +kernel
theorem dX4_give_69 : decode cX4_give 69 = .ok (.return_, 1) := by decide +kernel
theorem dX4_filled_0 : decode cX4_filled 0 = .ok (.aload_n 0, 1) := by decide +kernel
theorem dX4_filled_1 : decode cX4_filled 1 = .ok (.getfield 22, 3) := by decide +kernel
theorem dX4_filled_4 : decode cX4_filled 4 = .ok (.aload_n 0, 1) := by decide +kernel
theorem dX4_filled_5 : decode cX4_filled 5 = .ok (.getfield 18, 3) := by decide +kernel
theorem dX4_filled_8 : decode cX4_filled 8 = .ok (.invokestatic 33, 3) := by decide +kernel
theorem dX4_filled_11 : decode cX4_filled 11 = .ok (.ireturn, 1) := by decide +kernel
set_option maxRecDepth 20000 in
theorem ggX5_init_X4_init : GoodIn wsX5_init wsX4_init := goodIn_r _ [28, 29, 2, 3, 30, 31, 32, 55, 56, 57, 58] (by decide +kernel) (by decide +kernel)
set_option maxRecDepth 20000 in
theorem gX5_init_X4_init_n9 : GoodIn wsX5_init (wsX4_init) := ggX5_init_X4_init
set_option maxRecDepth 20000 in
theorem ggX5_init_X2_init : GoodIn wsX5_init wsX2_init := goodIn_r _ [34, 35, 2, 3, 36, 5, 6, 37, 27, 28, 29, 30, 31, 32, 55, 56, 57, 58, 70, 71] (by decide +kernel) (by decide +kernel)
set_option maxRecDepth 20000 in
theorem gX5_init_X2_init_n18 : GoodIn wsX5_init (wsX2_init) := ggX5_init_X2_init
set_option maxRecDepth 20000 in
theorem ggX5_init_X3_init : GoodIn wsX5_init wsX3_init := goodIn_r _ [39, 40, 2, 3, 30, 41, 42, 43, 44, 72, 73, 74, 75, 76, 77] (by decide +kernel) (by decide +kernel)
set_option maxRecDepth 20000 in
theorem gX5_init_X3_init_n34 : GoodIn wsX5_init (wsX3_init) := ggX5_init_X3_init
set_option maxRecDepth 20000 in
theorem ggX5_init_X1_init : GoodIn wsX5_init wsX1_init := goodIn_r _ [46, 47, 2, 3, 30, 48, 49, 78, 79, 80, 81] (by decide +kernel) (by decide +kernel)
set_option maxRecDepth 20000 in
theorem gX5_init_X1_init_n41 : GoodIn wsX5_init (wsX1_init) := ggX5_init_X1_init
set_option maxRecDepth 20000 in
theorem ggX5_init_X0_init : GoodIn wsX5_init wsX0_init := goodIn_r _ [51, 52, 2, 3, 30, 53, 54, 82, 83, 84, 85, 86, 87] (by decide +kernel) (by decide +kernel)
set_option maxRecDepth 20000 in
theorem gX5_init_X0_init_n48 : GoodIn wsX5_init (wsX0_init) := ggX5_init_X0_init
theorem dX5_init_0 : decode cX5_init 0 = .ok (.aload_n 0, 1) := by decide +kernel
theorem dX5_init_1 : decode cX5_init 1 = .ok (.invokespecial 1, 3) := by decide +kernel
theorem dX5_init_4 : decode cX5_init 4 = .ok (.aload_n 0, 1) := by decide +kernel
theorem dX5_init_5 : decode cX5_init 5 = .ok (.new 7, 3) := by decide +kernel
theorem dX5_init_8 : decode cX5_init 8 = .ok (.dup, 1) := by decide +kernel
theorem dX5_init_9 : decode cX5_init 9 = .ok (.invokespecial 9, 3) := by decide +kernel
theorem dX5_init_12 : decode cX5_init 12 = .ok (.putfield 10, 3) := by decide +kernel
theorem dX5_init_15 : decode cX5_init 15 = .ok (.aload_n 0, 1) := by decide +kernel
theorem dX5_init_16 : decode cX5_init 16 = .ok (.new 16, 3) := by decide +kernel
theorem dX5_init_19 : decode cX5_init 19 = .ok (.dup, 1) := by decide +kernel
theorem dX5_init_20 : decode cX5_init 20 = .ok (.invokespecial 18, 3) := by decide +kernel
theorem dX5_init_23 : decode cX5_init 23 = .ok (.putfield 19, 3) := by decide +kernel
theorem dX5_init_26 : decode cX5_init 26 = .ok (.aload_n 0, 1) := by decide +kernel
theorem dX5_init_27 : decode cX5_init 27 = .ok (.new 16, 3) := by decide +kernel
theorem dX5_init_30 : decode cX5_init 30 = .ok (.dup, 1) := by decide +kernel
theorem dX5_init_31 : decode cX5_init 31 = .ok (.invokespecial 18, 3) := by decide +kernel
theorem dX5_init_34 : decode cX5_init 34 = .ok (.putfield 23, 3) := by decide +kernel
theorem dX5_init_37 : decode cX5_init 37 = .ok (.aload_n 0, 1) := by decide +kernel
theorem dX5_init_38 : decode cX5_init 38 = .ok (.new 16, 3) := by decide +kernel
theorem dX5_init_41 : decode cX5_init 41 = .ok (.dup, 1) := by decide +kernel
theorem dX5_init_42 : decode cX5_init 42 = .ok (.invokespecial 18, 3) := by decide +kernel
theorem dX5_init_45 : decode cX5_init 45 = .ok (.putfield 26, 3) := by decide +kernel
theorem dX5_init_48 : decode cX5_init 48 = .ok (.aload_n 0, 1) := by decide +kernel
theorem dX5_init_49 : decode cX5_init 49 = .ok (.new 16, 3) := by decide +kernel
theorem dX5_init_52 : decode cX5_init 52 = .ok (.dup, 1) := by decide +kernel
theorem dX5_init_53 : decode cX5_init 53 = .ok (.invokespecial 18, 3) := by decide +kernel
theorem dX5_init_56 : decode cX5_init 56 = .ok (.putfield 29, 3) := by decide +kernel
theorem dX5_init_59 : decode cX5_init 59 = .ok (.aload_n 0, 1) := by decide +kernel
theorem dX5_init_60 : decode cX5_init 60 = .ok (.new 32, 3) := by decide +kernel
theorem dX5_init_63 : decode cX5_init 63 = .ok (.dup, 1) := by decide +kernel
theorem dX5_init_64 : decode cX5_init 64 = .ok (.invokespecial 34, 3) := by decide +kernel
theorem dX5_init_67 : decode cX5_init 67 = .ok (.putfield 35, 3) := by decide +kernel
theorem dX5_init_70 : decode cX5_init 70 = .ok (.aload_n 0, 1) := by decide +kernel
theorem dX5_init_71 : decode cX5_init 71 = .ok (.new 39, 3) := by decide +kernel
theorem dX5_init_74 : decode cX5_init 74 = .ok (.dup, 1) := by decide +kernel
theorem dX5_init_75 : decode cX5_init 75 = .ok (.invokespecial 41, 3) := by decide +kernel
theorem dX5_init_78 : decode cX5_init 78 = .ok (.putfield 42, 3) := by decide +kernel
theorem dX5_init_81 : decode cX5_init 81 = .ok (.aload_n 0, 1) := by decide +kernel
theorem dX5_init_82 : decode cX5_init 82 = .ok (.new 46, 3) := by decide +kernel
theorem dX5_init_85 : decode cX5_init 85 = .ok (.dup, 1) := by decide +kernel
theorem dX5_init_86 : decode cX5_init 86 = .ok (.invokespecial 48, 3) := by decide +kernel
theorem dX5_init_89 : decode cX5_init 89 = .ok (.putfield 49, 3) := by decide +kernel
theorem dX5_init_92 : decode cX5_init 92 = .ok (.return_, 1) := by decide +kernel
set_option maxRecDepth 20000 in
theorem ggX5_startAgain_X5_makeEmpty : GoodIn wsX5_startAgain wsX5_makeEmpty := goodIn_r _ [7, 8, 9, 1, 10, 11, 12, 13, 14, 15, 16, 2, 17, 18, 19, 20, 21, 22, 23, 24, 25, 26, 27, 28, 29, 30, 31, 32, 33, 34, 35, 36, 37, 38, 39, 40, 41, 42, 43, 44, 45, 46, 47, 48, 49, 50, 51, 52, 53, 54, 55, 56, 57, 58, 59, 60, 61, 62, 63, 64, 65, 66, 67, 68, 69, 70, 71, 72, 73, 74, 75, 76, 77, 78, 79, 80, 81, 82, 83, 84, 85, 86, 87] (by decide +kernel) (by decide +kernel)
set_option maxRecDepth 20000 in
theorem gX5_startAgain_X5_makeEmpty : GoodIn wsX5_startAgain (wsV RX5 60 RX5 yX5_makeEmpty wsX5_makeEmpty) := goodIn_app (goodIn_of _ (by decide +kernel)) ggX5_startAgain_X5_makeEmpty
theorem dX5_startAgain_0 : decode cX5_startAgain 0 = .ok (.aload_n 0, 1) := by decide +kernel
theorem dX5_startAgain_1 : decode cX5_startAgain 1 = .ok (.iload_n 1, 1) := by decide +kernel
theorem dX5_startAgain_2 : decode cX5_startAgain 2 = .ok (.putfield 53, 3) := by decide +kernel
theorem dX5_startAgain_5 : decode cX5_startAgain 5 = .ok (.aload_n 0, 1) := by decide +kernel
theorem dX5_startAgain_6 : decode cX5_startAgain 6 = .ok (.iload_n 2, 1) := by decide +kernel
theorem dX5_startAgain_7 : decode cX5_startAgain 7 = .ok (.putfield 57, 3) := by decide +kernel
theorem dX5_startAgain_10 : decode cX5_startAgain 10 = .ok (.aload_n 0, 1) := by decide +kernel
theorem dX5_startAgain_11 : decode cX5_startAgain 11 = .ok (.invokevirtual 60, 3) := by decide +kernel
theorem dX5_startAgain_14 : decode cX5_startAgain 14 = .ok (.return_, 1) := by decide +kernel
set_option maxRecDepth 20000 in
theorem ggX5_makeEmpty_X4_startAgain : GoodIn wsX5_makeEmpty wsX4_startAgain := goodIn_r _ [16, 17, 18, 61, 62, 63, 64] (by decide +kernel) (by decide +kernel)
set_option maxRecDepth 20000 in
theorem gX5_makeEmpty_X4_startAgain : GoodIn wsX5_makeEmpty (wsV RX5 66 RX4 yX4_startAgain wsX4_startAgain) := goodIn_app (goodIn_of _ (by decide +kernel)) ggX5_makeEmpty_X4_startAgain
set_option maxRecDepth 20000 in
theorem ggX5_makeEmpty_X2_startAgain : GoodIn wsX5_makeEmpty wsX2_startAgain := goodIn_r _ [23, 24, 25, 26, 13, 14, 15, 16, 17, 18, 65, 66, 61, 62, 63, 64] (by decide +kernel) (by decide +kernel)
set_option maxRecDepth 20000 in
theorem gX5_makeEmpty_X2_startAgain : GoodIn wsX5_makeEmpty (wsV RX5 70 RX2 yX2_startAgain wsX2_startAgain) := goodIn_app (goodIn_of _ (by decide +kernel)) ggX5_makeEmpty_X2_startAgain
set_option maxRecDepth 20000 in
theorem ggX5_makeEmpty_X3_startAgain : GoodIn wsX5_makeEmpty wsX3_startAgain := goodIn_r _ [31, 32, 33, 67, 68, 69, 70, 71, 72] (by decide +kernel) (by decide +kernel)
set_option maxRecDepth 20000 in
theorem gX5_makeEmpty_X3_startAgain : GoodIn wsX5_makeEmpty (wsV RX5 71 RX3 yX3_startAgain wsX3_startAgain) := goodIn_app (goodIn_of _ (by decide +kernel)) ggX5_makeEmpty_X3_startAgain
set_option maxRecDepth 20000 in
theorem ggX5_makeEmpty_X1_startAgain : GoodIn wsX5_makeEmpty wsX1_startAgain := goodIn_r _ [38, 39, 40, 73, 74, 75, 76] (by decide +kernel) (by decide +kernel)
set_option maxRecDepth 20000 in
theorem gX5_makeEmpty_X1_startAgain : GoodIn wsX5_makeEmpty (wsV RX5 72 RX1 yX1_startAgain wsX1_startAgain) := goodIn_app (goodIn_of _ (by decide +kernel)) ggX5_makeEmpty_X1_startAgain
set_option maxRecDepth 20000 in
theorem ggX5_makeEmpty_X0_startAgain : GoodIn wsX5_makeEmpty wsX0_startAgain := goodIn_r _ [45, 46, 47, 48, 49, 77, 78, 79, 80, 81, 82] (by decide +kernel) (by decide +kernel)
set_option maxRecDepth 20000 in
theorem gX5_makeEmpty_X0_startAgain : GoodIn wsX5_makeEmpty (wsV RX5 73 RX0 yX0_startAgain wsX0_startAgain) := goodIn_app (goodIn_of _ (by decide +kernel)) ggX5_makeEmpty_X0_startAgain
theorem dX5_makeEmpty_0 : decode cX5_makeEmpty 0 = .ok (.aload_n 0, 1) := by decide +kernel
theorem dX5_makeEmpty_1 : decode cX5_makeEmpty 1 = .ok (.iconst 0, 1) := by decide +kernel
theorem dX5_makeEmpty_2 : decode cX5_makeEmpty 2 = .ok (.putfield 63, 3) := by decide +kernel
theorem dX5_makeEmpty_5 : decode cX5_makeEmpty 5 = .ok (.aload_n 0, 1) := by decide +kernel
theorem dX5_makeEmpty_6 : decode cX5_makeEmpty 6 = .ok (.getfield 10, 3) := by decide +kernel
theorem dX5_makeEmpty_9 : decode cX5_makeEmpty 9 = .ok (.aload_n 0, 1) := by decide +kernel
theorem dX5_makeEmpty_10 : decode cX5_makeEmpty 10 = .ok (.getfield 53, 3) := by decide +kernel
theorem dX5_makeEmpty_13 : decode cX5_makeEmpty 13 = .ok (.invokevirtual 66, 3) := by decide +kernel
theorem dX5_makeEmpty_16 : decode cX5_makeEmpty 16 = .ok (.aload_n 0, 1) := by decide +kernel
theorem dX5_makeEmpty_17 : decode cX5_makeEmpty 17 = .ok (.getfield 19, 3) := by decide +kernel
theorem dX5_makeEmpty_20 : decode cX5_makeEmpty 20 = .ok (.aload_n 0, 1) := by decide +kernel
theorem dX5_makeEmpty_21 : decode cX5_makeEmpty 21 = .ok (.getfield 53, 3) := by decide +kernel
theorem dX5_makeEmpty_24 : decode cX5_makeEmpty 24 = .ok (.invokevirtual 70, 3) := by decide +kernel
theorem dX5_makeEmpty_27 : decode cX5_makeEmpty 27 = .ok (.aload_n 0, 1) := by decide +kernel
theorem dX5_makeEmpty_28 : decode cX5_makeEmpty 28 = .ok (.getfield 23, 3) := by decide +kernel
theorem dX5_makeEmpty_31 : decode cX5_makeEmpty 31 = .ok (.aload_n 0, 1) := by decide +kernel
theorem dX5_makeEmpty_32 : decode cX5_makeEmpty 32 = .ok (.getfield 53, 3) := by decide +kernel
theorem dX5_makeEmpty_35 : decode cX5_makeEmpty 35 = .ok (.invokevirtual 70, 3) := by decide +kernel
theorem dX5_makeEmpty_38 : decode cX5_makeEmpty 38 = .ok (.aload_n 0, 1) := by decide +kernel
theorem dX5_makeEmpty_39 : decode cX5_makeEmpty 39 = .ok (.getfield 26, 3) := by decide +kernel
theorem dX5_makeEmpty_42 : decode cX5_makeEmpty 42 = .ok (.aload_n 0, 1) := by decide +kernel
theorem dX5_makeEmpty_43 : decode cX5_makeEmpty 43 = .ok (.getfield 53, 3) := by decide +kernel
theorem dX5_makeEmpty_46 : decode cX5_makeEmpty 46 = .ok (.invokevirtual 70, 3) := by decide +kernel
theorem dX5_makeEmpty_49 : decode cX5_makeEmpty 49 = .ok (.aload_n 0, 1) := by decide +kernel
theorem dX5_makeEmpty_50 : decode cX5_makeEmpty 50 = .ok (.getfield 29, 3) := by decide +kernel
theorem dX5_makeEmpty_53 : decode cX5_makeEmpty 53 = .ok (.aload_n 0, 1) := by decide +kernel
theorem dX5_makeEmpty_54 : decode cX5_makeEmpty 54 = .ok (.getfield 53, 3) := by decide +kernel
theorem dX5_makeEmpty_57 : decode cX5_makeEmpty 57 = .ok (.invokevirtual 70, 3) := by decide +kernel
theorem dX5_makeEmpty_60 : decode cX5_makeEmpty 60 = .ok (.aload_n 0, 1) := by decide +kernel
theorem dX5_makeEmpty_61 : decode cX5_makeEmpty 61 = .ok (.getfield 35, 3) := by decide +kernel
theorem dX5_makeEmpty_64 : decode cX5_makeEmpty 64 = .ok (.aload_n 0, 1) := by decide +kernel
theorem dX5_makeEmpty_65 : decode cX5_makeEmpty 65 = .ok (.getfield 53, 3) := by decide +kernel
theorem dX5_makeEmpty_68 : decode cX5_makeEmpty 68 = .ok (.invokevirtual 71, 3) := by decide +kernel
theorem dX5_makeEmpty_71 : decode cX5_makeEmpty 71 = .ok (.aload_n 0, 1) := by decide +kernel
theorem dX5_makeEmpty_72 : decode cX5_makeEmpty 72 = .ok (.getfield 42, 3) := by decide +kernel
theorem dX5_makeEmpty_75 : decode cX5_makeEmpty 75 = .ok (.aload_n 0, 1) := by decide +kernel
theorem dX5_makeEmpty_76 : decode cX5_makeEmpty 76 = .ok (.getfield 53, 3) := by decide +kernel
theorem dX5_makeEmpty_79 : decode cX5_makeEmpty 79 = .ok (.invokevirtual 72, 3) := by decide +kernel
theorem dX5_makeEmpty_82 : decode cX5_makeEmpty 82 = .ok (.aload_n 0, 1) := by decide +kernel
theorem dX5_makeEmpty_83 : decode cX5_makeEmpty 83 = .ok (.getfield 49, 3) := by decide +kernel
theorem dX5_makeEmpty_86 : decode cX5_makeEmpty 86 = .ok (.aload_n 0, 1) := by decide +kernel
theorem dX5_makeEmpty_87 : decode cX5_makeEmpty 87 = .ok (.getfield 57, 3) := by decide +kernel
theorem dX5_makeEmpty_90 : decode cX5_makeEmpty 90 = .ok (.invokevirtual 73, 3) := by decide +kernel
theorem dX5_makeEmpty_93 : decode cX5_makeEmpty 93 = .ok (.return_, 1) := by decide +kernel
set_option maxRecDepth 20000 in
theorem ggX5_take_X4_give : GoodIn wsX5_take wsX4_give := goodIn_r _ [10, 11, 12, 13, 14, 15, 16, 17, 18, 19, 112, 113, 114, 115] (by decide +kernel) (by decide +kernel)
set_option maxRecDepth 20000 in
theorem gX5_take_X4_give : GoodIn wsX5_take (wsV RX5 74 RX4 yX4_give wsX4_give) := goodIn_app (goodIn_of _ (by decide +kernel)) ggX5_take_X4_give
set_option maxRecDepth 20000 in
theorem ggX5_take_X5_groupOf : GoodIn wsX5_take wsX5_groupOf := goodIn_r _ [24, 25, 26, 27, 28, 101, 102, 103, 104, 105, 106, 107, 108, 109, 110, 111] (by decide +kernel) (by decide +kernel)
set_option maxRecDepth 20000 in
theorem gX5_take_X5_groupOf : GoodIn wsX5_take (wsV RX5 78 RX5 yX5_groupOf wsX5_groupOf) := goodIn_app (goodIn_of _ (by decide +kernel)) ggX5_take_X5_groupOf
set_option maxRecDepth 20000 in
theorem ggX5_take_X2_give : GoodIn wsX5_take wsX2_give := goodIn_r _ [33, 34, 35, 36, 7, 8, 9, 10, 11, 12, 13, 14, 15, 16, 17, 18, 19, 116, 117, 112, 113, 114, 115] (by decide +kernel) (by decide +kernel)
set_option maxRecDepth 20000 in
theorem gX5_take_X2_give : GoodIn wsX5_take (wsV RX5 82 RX2 yX2_give wsX2_give) := goodIn_app (goodIn_of _ (by decide +kernel)) ggX5_take_X2_give
set_option maxRecDepth 20000 in
theorem ggX5_take_X3_add : GoodIn wsX5_take wsX3_add := goodIn_r _ [41, 42, 43, 44, 45, 46, 47, 48, 49, 50, 51, 52, 53, 54, 40, 55, 56, 57, 58, 59, 60, 16, 61, 62, 63, 64, 65, 18, 19, 118, 119, 120, 121, 122, 123] (by decide +kernel) (by decide +kernel)
set_option maxRecDepth 20000 in
theorem gX5_take_X3_add : GoodIn wsX5_take (wsV RX5 85 RX3 yX3_add wsX3_add) := goodIn_app (goodIn_of _ (by decide +kernel)) ggX5_take_X3_add
set_option maxRecDepth 20000 in
theorem ggX5_take_X1_add : GoodIn wsX5_take wsX1_add := goodIn_r _ [70, 71, 72, 73, 74, 75, 45, 46, 47, 76, 77, 78, 69, 79, 80, 81, 82, 83, 84, 60, 16, 61, 18, 19, 62, 63, 64, 65, 124, 125, 126, 127] (by decide +kernel) (by decide +kernel)
set_option maxRecDepth 20000 in
theorem gX5_take_X1_add : GoodIn wsX5_take (wsV RX5 88 RX1 yX1_add wsX1_add) := goodIn_app (goodIn_of _ (by decide +kernel)) ggX5_take_X1_add
set_option maxRecDepth 20000 in
theorem ggX5_take_X0_give : GoodIn wsX5_take wsX0_give := goodIn_r _ [89, 90, 91, 45, 46, 47, 92, 93, 94, 95, 15, 16, 17, 96, 97, 98, 88, 99, 100, 18, 19, 60, 61, 128, 129, 130, 131, 132, 133] (by decide +kernel) (by decide +kernel)
set_option maxRecDepth 20000 in
theorem gX5_take_X0_give : GoodIn wsX5_take (wsV RX5 91 RX0 yX0_give wsX0_give) := goodIn_app (goodIn_of _ (by decide +kernel)) ggX5_take_X0_give
theorem dX5_take_0 : decode cX5_take 0 = .ok (.aload_n 0, 1) := by decide +kernel
theorem dX5_take_1 : decode cX5_take 1 = .ok (.dup, 1) := by decide +kernel
theorem dX5_take_2 : decode cX5_take 2 = .ok (.getfield 63, 3) := by decide +kernel
theorem dX5_take_5 : decode cX5_take 5 = .ok (.iconst 1, 1) := by decide +kernel
theorem dX5_take_6 : decode cX5_take 6 = .ok (.iadd, 1) := by decide +kernel
theorem dX5_take_7 : decode cX5_take 7 = .ok (.putfield 63, 3) := by decide +kernel
theorem dX5_take_10 : decode cX5_take 10 = .ok (.aload_n 0, 1) := by decide +kernel
theorem dX5_take_11 : decode cX5_take 11 = .ok (.getfield 10, 3) := by decide +kernel
theorem dX5_take_14 : decode cX5_take 14 = .ok (.iload_n 1, 1) := by decide +kernel
theorem dX5_take_15 : decode cX5_take 15 = .ok (.aload_n 0, 1) := by decide +kernel
theorem dX5_take_16 : decode cX5_take 16 = .ok (.getfield 63, 3) := by decide +kernel
theorem dX5_take_19 : decode cX5_take 19 = .ok (.iload 4, 2) := by decide +kernel
theorem dX5_take_21 : decode cX5_take 21 = .ok (.invokevirtual 74, 3) := by decide +kernel
theorem dX5_take_24 : decode cX5_take 24 = .ok (.aload_n 0, 1) := by decide +kernel
theorem dX5_take_25 : decode cX5_take 25 = .ok (.iload_n 3, 1) := by decide +kernel
theorem dX5_take_26 : decode cX5_take 26 = .ok (.invokevirtual 78, 3) := by decide +kernel
theorem dX5_take_29 : decode cX5_take 29 = .ok (.iload_n 1, 1) := by decide +kernel
theorem dX5_take_30 : decode cX5_take 30 = .ok (.iload_n 2, 1) := by decide +kernel
theorem dX5_take_31 : decode cX5_take 31 = .ok (.aload_n 0, 1) := by decide +kernel
theorem dX5_take_32 : decode cX5_take 32 = .ok (.getfield 63, 3) := by decide +kernel
theorem dX5_take_35 : decode cX5_take 35 = .ok (.iload 4, 2) := by decide +kernel
theorem dX5_take_37 : decode cX5_take 37 = .ok (.invokevirtual 82, 3) := by decide +kernel
theorem dX5_take_40 : decode cX5_take 40 = .ok (.aload_n 0, 1) := by decide +kernel
theorem dX5_take_41 : decode cX5_take 41 = .ok (.getfield 35, 3) := by decide +kernel
theorem dX5_take_44 : decode cX5_take 44 = .ok (.iload_n 1, 1) := by decide +kernel
theorem dX5_take_45 : decode cX5_take 45 = .ok (.iload_n 2, 1) := by decide +kernel
theorem dX5_take_46 : decode cX5_take 46 = .ok (.iload_n 3, 1) := by decide +kernel
theorem dX5_take_47 : decode cX5_take 47 = .ok (.iload 4, 2) := by decide +kernel
theorem dX5_take_49 : decode cX5_take 49 = .ok (.invokevirtual 85, 3) := by decide +kernel
theorem dX5_take_52 : decode cX5_take 52 = .ok (.aload_n 0, 1) := by decide +kernel
theorem dX5_take_53 : decode cX5_take 53 = .ok (.getfield 42, 3) := by decide +kernel
theorem dX5_take_56 : decode cX5_take 56 = .ok (.iload_n 1, 1) := by decide +kernel
theorem dX5_take_57 : decode cX5_take 57 = .ok (.iconst 1, 1) := by decide +kernel
theorem dX5_take_58 : decode cX5_take 58 = .ok (.invokevirtual 88, 3) := by decide +kernel
theorem dX5_take_61 : decode cX5_take 61 = .ok (.aload_n 0, 1) := by decide +kernel
theorem dX5_take_62 : decode cX5_take 62 = .ok (.getfield 49, 3) := by decide +kernel
theorem dX5_take_65 : decode cX5_take 65 = .ok (.iload_n 1, 1) := by decide +kernel
theorem dX5_take_66 : decode cX5_take 66 = .ok (.aload_n 0, 1) := by decide +kernel
theorem dX5_take_67 : decode cX5_take 67 = .ok (.getfield 63, 3) := by decide +kernel
theorem dX5_take_70 : decode cX5_take 70 = .ok (.iload 4, 2) := by decide +kernel
theorem dX5_take_72 : decode cX5_take 72 = .ok (.iload 5, 2) := by decide +kernel
theorem dX5_take_74 : decode cX5_take 74 = .ok (.invokevirtual 91, 3) := by decide +kernel
theorem dX5_take_77 : decode cX5_take 77 = .ok (.return_, 1) := by decide +kernel
theorem dX5_groupOf_0 : decode cX5_groupOf 0 = .ok (.iload_n 1, 1) := by decide +kernel
theorem dX5_groupOf_1 : decode cX5_groupOf 1 = .ok (.tableswitch 42 0 2 #[27, 32, 37], 27) := by decide +kernel
theorem dX5_groupOf_28 : decode cX5_groupOf 28 = .ok (.aload_n 0, 1) := by decide +kernel
theorem dX5_groupOf_29 : decode cX5_groupOf 29 = .ok (.getfield 19, 3) := by decide +kernel
theorem dX5_groupOf_32 : decode cX5_groupOf 32 = .ok (.areturn, 1) := by decide +kernel
theorem dX5_groupOf_33 : decode cX5_groupOf 33 = .ok (.aload_n 0, 1) := by decide +kernel
theorem dX5_groupOf_34 : decode cX5_groupOf 34 = .ok (.getfield 23, 3) := by decide +kernel
theorem dX5_groupOf_37 : decode cX5_groupOf 37 = .ok (.areturn, 1) := by decide +kernel
theorem dX5_groupOf_38 : decode cX5_groupOf 38 = .ok (.aload_n 0, 1) := by decide +kernel
theorem dX5_groupOf_39 : decode cX5_groupOf 39 = .ok (.getfield 26, 3) := by decide +kernel
theorem dX5_groupOf_42 : decode cX5_groupOf 42 = .ok (.areturn, 1) := by decide +kernel
theorem dX5_groupOf_43 : decode cX5_groupOf 43 = .ok (.aload_n 0, 1) := by decide +kernel
theorem dX5_groupOf_44 : decode cX5_groupOf 44 = .ok (.getfield 29, 3) := by decide +kernel
theorem dX5_groupOf_47 : decode cX5_groupOf 47 = .ok (.areturn, 1) := by decide +kernel
set_option maxRecDepth 20000 in
theorem ggX6_init_X5_init : GoodIn wsX6_init wsX5_init := goodIn_r _ [18, 19, 2, 3, 20, 21, 22, 23, 24, 25, 26, 27, 28, 29, 30, 31, 10, 11, 32, 33, 14, 15, 34, 35, 36, 37, 38, 39, 40, 41, 42, 43, 44, 45, 46, 47, 48, 49, 50, 51, 52, 53, 54, 55, 56, 57, 58, 59, 60, 61, 62, 63, 64, 65, 66, 142, 143, 144, 145, 116, 117, 118, 119, 120, 121, 122, 123, 124, 125, 126, 146, 147, 132, 133, 134, 135, 136, 137, 138, 139, 140, 141, 148, 149, 150, 151, 152, 153] (by decide +kernel) (by decide +kernel)
set_option maxRecDepth 20000 in
theorem gX6_init_X5_init_n9 : GoodIn wsX6_init (wsX5_init) := ggX6_init_X5_init
set_option maxRecDepth 20000 in
theorem ggX6_init_X3_init : GoodIn wsX6_init wsX3_init := goodIn_r _ [51, 52, 2, 3, 42, 53, 54, 55, 56, 132, 133, 134, 135, 136, 137] (by decide +kernel) (by decide +kernel)
set_option maxRecDepth 20000 in
theorem gX6_init_X3_init_n21 : GoodIn wsX6_init (wsX3_init) := ggX6_init_X3_init
set_option maxRecDepth 20000 in
theorem ggX6_init_X1_init : GoodIn wsX6_init wsX1_init := goodIn_r _ [58, 59, 2, 3, 42, 60, 61, 138, 139, 140, 141] (by decide +kernel) (by decide +kernel)
set_option maxRecDepth 20000 in
theorem gX6_init_X1_init_n28 : GoodIn wsX6_init (wsX1_init) := ggX6_init_X1_init
set_option maxRecDepth 20000 in
theorem ggX6_init_X6_startAgain : GoodIn wsX6_init wsX6_startAgain := goodIn_r _ [71, 72, 7, 8, 73, 74, 75, 6, 76, 77, 78, 79, 80, 81, 82, 83, 23, 27, 28, 29, 30, 32, 34, 38, 84, 85, 86, 22, 87, 88, 89, 90, 91, 92, 26, 93, 94, 49, 95, 96, 97, 98, 11, 99, 100, 101, 102, 103, 104, 15, 105, 106, 107, 108, 109, 110, 37, 111, 112, 113, 114, 115, 127, 128, 129, 130, 131, 116, 117, 118, 119, 120, 121, 122, 123, 124, 125, 126, 142, 143, 144, 145, 146, 147, 132, 133, 134, 135, 136, 137, 138, 139, 140, 141, 148, 149, 150, 151, 152, 153] (by decide +kernel) (by decide +kernel)
set_option maxRecDepth 20000 in
theorem gX6_init_X6_startAgain : GoodIn wsX6_init (wsV RX6 33 RX6 yX6_startAgain wsX6_startAgain) := goodIn_app (goodIn_of _ (by decide +kernel)) ggX6_init_X6_startAgain
theorem dX6_init_0 : decode cX6_init 0 = .ok (.aload_n 0, 1) := by decide +kernel
theorem dX6_init_1 : decode cX6_init 1 = .ok (.invokespecial 1, 3) := by decide +kernel
theorem dX6_init_4 : decode cX6_init 4 = .ok (.aload_n 0, 1) := by decide +kernel
theorem dX6_init_5 : decode cX6_init 5 = .ok (.new 7, 3) := by decide +kernel
theorem dX6_init_8 : decode cX6_init 8 = .ok (.dup, 1) := by decide +kernel
theorem dX6_init_9 : decode cX6_init 9 = .ok (.invokespecial 9, 3) := by decide +kernel
theorem dX6_init_12 : decode cX6_init 12 = .ok (.putfield 10, 3) := by decide +kernel
theorem dX6_init_15 : decode cX6_init 15 = .ok (.aload_n 0, 1) := by decide +kernel
theorem dX6_init_16 : decode cX6_init 16 = .ok (.new 7, 3) := by decide +kernel
theorem dX6_init_19 : decode cX6_init 19 = .ok (.dup, 1) := by decide +kernel
theorem dX6_init_20 : decode cX6_init 20 = .ok (.invokespecial 9, 3) := by decide +kernel
theorem dX6_init_23 : decode cX6_init 23 = .ok (.putfield 16, 3) := by decide +kernel
theorem dX6_init_26 : decode cX6_init 26 = .ok (.aload_n 0, 1) := by decide +kernel
theorem dX6_init_27 : decode cX6_init 27 = .ok (.new 19, 3) := by decide +kernel
theorem dX6_init_30 : decode cX6_init 30 = .ok (.dup, 1) := by decide +kernel
theorem dX6_init_31 : decode cX6_init 31 = .ok (.invokespecial 21, 3) := by decide +kernel
theorem dX6_init_34 : decode cX6_init 34 = .ok (.putfield 22, 3) := by decide +kernel
theorem dX6_init_37 : decode cX6_init 37 = .ok (.aload_n 0, 1) := by decide +kernel
theorem dX6_init_38 : decode cX6_init 38 = .ok (.new 26, 3) := by decide +kernel
theorem dX6_init_41 : decode cX6_init 41 = .ok (.dup, 1) := by decide +kernel
theorem dX6_init_42 : decode cX6_init 42 = .ok (.invokespecial 28, 3) := by decide +kernel
theorem dX6_init_45 : decode cX6_init 45 = .ok (.putfield 29, 3) := by decide +kernel
theorem dX6_init_48 : decode cX6_init 48 = .ok (.aload_n 0, 1) := by decide +kernel
theorem dX6_init_49 : decode cX6_init 49 = .ok (.iconst 4, 1) := by decide +kernel
theorem dX6_init_50 : decode cX6_init 50 = .ok (.bipush 8, 2) := by decide +kernel
theorem dX6_init_52 : decode cX6_init 52 = .ok (.invokevirtual 33, 3) := by decide +kernel
theorem dX6_init_55 : decode cX6_init 55 = .ok (.return_, 1) := by decide +kernel
set_option maxRecDepth 20000 in
theorem ggX6_begin_X6_checkArgument : GoodIn wsX6_begin wsX6_checkArgument := goodIn_ca (goodIn_r _ [4, 5, 6] (by decide +kernel) (by decide +kernel)) (goodIn_sub (fun _ h => List.mem_cons_of_mem _ (List.mem_append_right _ h)) (by decide +kernel))
set_option maxRecDepth 20000 in
theorem gX6_begin_X6_checkArgument : GoodIn wsX6_begin (va_wsS RX6 37 yX6_checkArgument wsX6_checkArgument) := goodIn_app (goodIn_of _ (by decide +kernel)) ggX6_begin_X6_checkArgument
set_option maxRecDepth 20000 in
theorem ggX6_begin_X6_startAgain : GoodIn wsX6_begin wsX6_startAgain := goodIn_r _ [10, 11, 12, 13, 14, 15, 16, 17, 18, 19, 20, 21, 22, 23, 24, 25, 26, 27, 28, 29, 30, 31, 32, 33, 34, 35, 36, 37, 38, 39, 40, 41, 42, 43, 44, 45, 46, 47, 48, 49, 50, 51, 52, 53, 54, 55, 56, 57, 58, 59, 60, 61, 62, 63, 64, 65, 66, 67, 68, 69, 70, 71, 72, 73, 74, 75, 76, 77, 78, 79, 80, 81, 82, 83, 84, 85, 86, 87, 88, 89, 90, 91, 92, 93, 94, 95, 96, 97, 98, 99, 100, 101, 102, 103, 104, 105, 106, 107, 108, 109] (by decide +kernel) (by decide +kernel)
set_option maxRecDepth 20000 in
theorem gX6_begin_X6_startAgain : GoodIn wsX6_begin (wsV RX6 33 RX6 yX6_startAgain wsX6_startAgain) := goodIn_app (goodIn_of _ (by decide +kernel)) ggX6_begin_X6_startAgain
theorem dX6_begin_0 : decode cX6_begin 0 = .ok (.iload_n 1, 1) := by decide +kernel
theorem dX6_begin_1 : decode cX6_begin 1 = .ok (.iconst 2, 1) := by decide +kernel
theorem dX6_begin_2 : decode cX6_begin 2 = .ok (.bipush 16, 2) := by decide +kernel
theorem dX6_begin_4 : decode cX6_begin 4 = .ok (.invokestatic 37, 3) := by decide +kernel
theorem dX6_begin_7 : decode cX6_begin 7 = .ok (.iload_n 2, 1) := by decide +kernel
theorem dX6_begin_8 : decode cX6_begin 8 = .ok (.iconst 1, 1) := by decide +kernel
theorem dX6_begin_9 : decode cX6_begin 9 = .ok (.bipush 64, 2) := by decide +kernel
theorem dX6_begin_11 : decode cX6_begin 11 = .ok (.invokestatic 37, 3) := by decide +kernel
theorem dX6_begin_14 : decode cX6_begin 14 = .ok (.aload_n 0, 1) := by decide +kernel
theorem dX6_begin_15 : decode cX6_begin 15 = .ok (.iload_n 1, 1) := by decide +kernel
theorem dX6_begin_16 : decode cX6_begin 16 = .ok (.iload_n 2, 1) := by decide +kernel
theorem dX6_begin_17 : decode cX6_begin 17 = .ok (.invokevirtual 33, 3) := by decide +kernel
theorem dX6_begin_20 : decode cX6_begin 20 = .ok (.return_, 1) := by decide +kernel
set_option maxRecDepth 20000 in
theorem ggX6_offer_X6_checkArgument : GoodIn wsX6_offer wsX6_checkArgument := goodIn_ca (goodIn_r _ [6, 7, 8] (by decide +kernel) (by decide +kernel)) (goodIn_sub (fun _ h => List.mem_cons_of_mem _ (List.mem_append_left _ (List.mem_append_right _ h))) (by decide +kernel))
set_option maxRecDepth 20000 in
theorem gX6_offer_X6_checkArgument : GoodIn wsX6_offer (va_wsS RX6 37 yX6_checkArgument wsX6_checkArgument) := goodIn_app (goodIn_of _ (by decide +kernel)) ggX6_offer_X6_checkArgument
set_option maxRecDepth 20000 in
theorem ggX6_offer_X6_streamOf : GoodIn wsX6_offer wsX6_streamOf := goodIn_r _ [12, 13, 14, 134, 135, 136, 137, 138] (by decide +kernel) (by decide +kernel)
set_option maxRecDepth 20000 in
theorem gX6_offer_X6_streamOf : GoodIn wsX6_offer (wsV RX6 43 RX6 yX6_streamOf wsX6_streamOf) := goodIn_app (goodIn_of _ (by decide +kernel)) ggX6_offer_X6_streamOf
set_option maxRecDepth 20000 in
theorem ggX6_offer_X6_checkState : GoodIn wsX6_offer wsX6_checkState := goodIn_ca (goodIn_r _ [17, 18, 19] (by decide +kernel) (by decide +kernel)) (goodIn_sub (fun _ h => List.mem_cons_of_mem _ (List.mem_append_right _ h)) (by decide +kernel))
set_option maxRecDepth 20000 in
theorem gX6_offer_X6_checkState : GoodIn wsX6_offer (va_wsS RX6 51 yX6_checkState wsX6_checkState) := goodIn_app (goodIn_of _ (by decide +kernel)) ggX6_offer_X6_checkState
