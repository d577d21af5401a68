theorem dX2_init_9 : decode cX2_init 9 = .ok (.invokespecial 9, 3) := by decide +kernel
theorem dX2_init_12 : decode cX2_init 12 = .ok (.putfield 10, 3) := by decide +kernel
theorem dX2_init_15 : decode cX2_init 15 = .ok (.return_, 1) := by decide +kernel
set_option maxRecDepth 20000 in
theorem ggX2_startAgain_X4_startAgain : GoodIn wsX2_startAgain wsX4_startAgain := goodIn_r _ [7, 8, 9, 12, 13, 14, 15] (by decide +kernel) (by decide +kernel)
set_option maxRecDepth 20000 in
theorem gX2_startAgain_X4_startAgain : GoodIn wsX2_startAgain (wsV RX2 20 RX4 yX4_startAgain wsX4_startAgain) := goodIn_app (goodIn_of _ (by decide +kernel)) ggX2_startAgain_X4_startAgain
theorem dX2_startAgain_0 : decode cX2_startAgain 0 = .ok (.aload_n 0, 1) := by decide +kernel
theorem dX2_startAgain_1 : decode cX2_startAgain 1 = .ok (.iconst 0, 1) := by decide +kernel
theorem dX2_startAgain_2 : decode cX2_startAgain 2 = .ok (.putfield 16, 3) := by decide +kernel
theorem dX2_startAgain_5 : decode cX2_startAgain 5 = .ok (.aload_n 0, 1) := by decide +kernel
theorem dX2_startAgain_6 : decode cX2_startAgain 6 = .ok (.getfield 10, 3) := by decide +kernel
theorem dX2_startAgain_9 : decode cX2_startAgain 9 = .ok (.iload_n 1, 1) := by decide +kernel
theorem dX2_startAgain_10 : decode cX2_startAgain 10 = .ok (.invokevirtual 20, 3) := by decide +kernel
theorem dX2_startAgain_13 : decode cX2_startAgain 13 = .ok (.return_, 1) := by decide +kernel
set_option maxRecDepth 20000 in
theorem ggX2_give_X4_give : GoodIn wsX2_give wsX4_give := goodIn_r _ [7, 8, 9, 10, 11, 12, 13, 14, 15, 16, 19, 20, 21, 22] (by decide +kernel) (by decide +kernel)
set_option maxRecDepth 20000 in
theorem gX2_give_X4_give : GoodIn wsX2_give (wsV RX2 24 RX4 yX4_give wsX4_give) := goodIn_app (goodIn_of _ (by decide +kernel)) ggX2_give_X4_give
theorem dX2_give_0 : decode cX2_give 0 = .ok (.aload_n 0, 1) := by decide +kernel
theorem dX2_give_1 : decode cX2_give 1 = .ok (.dup, 1) := by decide +kernel
theorem dX2_give_2 : decode cX2_give 2 = .ok (.getfield 16, 3) := by decide +kernel
theorem dX2_give_5 : decode cX2_give 5 = .ok (.iload_n 2, 1) := by decide +kernel
theorem dX2_give_6 : decode cX2_give 6 = .ok (.iadd, 1) := by decide +kernel
theorem dX2_give_7 : decode cX2_give 7 = .ok (.putfield 16, 3) := by decide +kernel
theorem dX2_give_10 : decode cX2_give 10 = .ok (.aload_n 0, 1) := by decide +kernel
theorem dX2_give_11 : decode cX2_give 11 = .ok (.getfield 10, 3) := by decide +kernel
theorem dX2_give_14 : decode cX2_give 14 = .ok (.iload_n 1, 1) := by decide +kernel
theorem dX2_give_15 : decode cX2_give 15 = .ok (.iload_n 3, 1) := by decide +kernel
theorem dX2_give_16 : decode cX2_give 16 = .ok (.iload 4, 2) := by decide +kernel
theorem dX2_give_18 : decode cX2_give 18 = .ok (.invokevirtual 24, 3) := by decide +kernel
theorem dX2_give_21 : decode cX2_give 21 = .ok (.return_, 1) := by decide +kernel
theorem dX3_init_0 : decode cX3_init 0 = .ok (.aload_n 0, 1) := by decide +kernel
theorem dX3_init_1 : decode cX3_init 1 = .ok (.invokespecial 3, 3) := by decide +kernel
theorem dX3_init_4 : decode cX3_init 4 = .ok (.aload_n 0, 1) := by decide +kernel
theorem dX3_init_5 : decode cX3_init 5 = .ok (.bipush 17, 2) := by decide +kernel
theorem dX3_init_7 : decode cX3_init 7 = .ok (.newarray .int, 2) := by decide +kernel
theorem dX3_init_9 : decode cX3_init 9 = .ok (.putfield 9, 3) := by decide +kernel
theorem dX3_init_12 : decode cX3_init 12 = .ok (.aload_n 0, 1) := by decide +kernel
theorem dX3_init_13 : decode cX3_init 13 = .ok (.bipush 17, 2) := by decide +kernel
theorem dX3_init_15 : decode cX3_init 15 = .ok (.newarray .int, 2) := by decide +kernel
theorem dX3_init_17 : decode cX3_init 17 = .ok (.putfield 15, 3) := by decide +kernel
theorem dX3_init_20 : decode cX3_init 20 = .ok (.aload_n 0, 1) := by decide +kernel
theorem dX3_init_21 : decode cX3_init 21 = .ok (.bipush 17, 2) := by decide +kernel
theorem dX3_init_23 : decode cX3_init 23 = .ok (.newarray .int, 2) := by decide +kernel
theorem dX3_init_25 : decode cX3_init 25 = .ok (.putfield 18, 3) := by decide +kernel
theorem dX3_init_28 : decode cX3_init 28 = .ok (.aload_n 0, 1) := by decide +kernel
theorem dX3_init_29 : decode cX3_init 29 = .ok (.bipush 17, 2) := by decide +kernel
theorem dX3_init_31 : decode cX3_init 31 = .ok (.newarray .int, 2) := by decide +kernel
theorem dX3_init_33 : decode cX3_init 33 = .ok (.putfield 21, 3) := by decide +kernel
theorem dX3_init_36 : decode cX3_init 36 = .ok (.return_, 1) := by decide +kernel
theorem dX3_startAgain_0 : decode cX3_startAgain 0 = .ok (.aload_n 0, 1) := by decide +kernel
theorem dX3_startAgain_1 : decode cX3_startAgain 1 = .ok (.iload_n 1, 1) := by decide +kernel
theorem dX3_startAgain_2 : decode cX3_startAgain 2 = .ok (.putfield 24, 3) := by decide +kernel
theorem dX3_startAgain_5 : decode cX3_startAgain 5 = .ok (.aload_n 0, 1) := by decide +kernel
theorem dX3_startAgain_6 : decode cX3_startAgain 6 = .ok (.iconst 0, 1) := by decide +kernel
theorem dX3_startAgain_7 : decode cX3_startAgain 7 = .ok (.putfield 28, 3) := by decide +kernel
theorem dX3_startAgain_10 : decode cX3_startAgain 10 = .ok (.return_, 1) := by decide +kernel
set_option maxRecDepth 20000 in
theorem ggX3_addAll_X6_at : GoodIn wsX3_addAll wsX6_at := goodIn_r _ [8] (by decide +kernel) (by decide +kernel)
set_option maxRecDepth 20000 in
theorem gX3_addAll_X6_at_n31 : GoodIn wsX3_addAll (wsX6_at) := ggX3_addAll_X6_at
set_option maxRecDepth 20000 in
theorem ggX3_addAll_X3_add : GoodIn wsX3_addAll wsX3_add := goodIn_r _ [13, 14, 1, 15, 16, 17, 18, 2, 3, 4, 5, 19, 20, 21, 12, 22, 23, 24, 25, 26, 6, 7, 8, 27, 28, 29, 30, 31, 32, 33, 34, 35, 36, 37, 38] (by decide +kernel) (by decide +kernel)
set_option maxRecDepth 20000 in
theorem gX3_addAll_X3_add : GoodIn wsX3_addAll (wsV RX3 35 RX3 yX3_add wsX3_add) := goodIn_app (goodIn_of _ (by decide +kernel)) ggX3_addAll_X3_add
theorem dX3_addAll_0 : decode cX3_addAll 0 = .ok (.aload_n 1, 1) := by decide +kernel
theorem dX3_addAll_1 : decode cX3_addAll 1 = .ok (.getfield 28, 3) := by decide +kernel
theorem dX3_addAll_4 : decode cX3_addAll 4 = .ok (.istore_n 2, 1) := by decide +kernel
theorem dX3_addAll_5 : decode cX3_addAll 5 = .ok (.iconst 0, 1) := by decide +kernel
theorem dX3_addAll_6 : decode cX3_addAll 6 = .ok (.istore_n 3, 1) := by decide +kernel
theorem dX3_addAll_7 : decode cX3_addAll 7 = .ok (.iload_n 3, 1) := by decide +kernel
theorem dX3_addAll_8 : decode cX3_addAll 8 = .ok (.iload_n 2, 1) := by decide +kernel
theorem dX3_addAll_9 : decode cX3_addAll 9 = .ok (.if_icmp .ge 45, 3) := by decide +kernel
theorem dX3_addAll_12 : decode cX3_addAll 12 = .ok (.aload_n 0, 1) := by decide +kernel
theorem dX3_addAll_13 : decode cX3_addAll 13 = .ok (.aload_n 1, 1) := by decide +kernel
theorem dX3_addAll_14 : decode cX3_addAll 14 = .ok (.getfield 9, 3) := by decide +kernel
theorem dX3_addAll_17 : decode cX3_addAll 17 = .ok (.iload_n 3, 1) := by decide +kernel
theorem dX3_addAll_18 : decode cX3_addAll 18 = .ok (.invokestatic 31, 3) := by decide +kernel
theorem dX3_addAll_21 : decode cX3_addAll 21 = .ok (.aload_n 1, 1) := by decide +kernel
theorem dX3_addAll_22 : decode cX3_addAll 22 = .ok (.getfield 15, 3) := by decide +kernel
theorem dX3_addAll_25 : decode cX3_addAll 25 = .ok (.iload_n 3, 1) := by decide +kernel
theorem dX3_addAll_26 : decode cX3_addAll 26 = .ok (.invokestatic 31, 3) := by decide +kernel
theorem dX3_addAll_29 : decode cX3_addAll 29 = .ok (.aload_n 1, 1) := by decide +kernel
theorem dX3_addAll_30 : decode cX3_addAll 30 = .ok (.getfield 18, 3) := by decide +kernel
theorem dX3_addAll_33 : decode cX3_addAll 33 = .ok (.iload_n 3, 1) := by decide +kernel
theorem dX3_addAll_34 : decode cX3_addAll 34 = .ok (.invokestatic 31, 3) := by decide +kernel
theorem dX3_addAll_37 : decode cX3_addAll 37 = .ok (.aload_n 1, 1) := by decide +kernel
theorem dX3_addAll_38 : decode cX3_addAll 38 = .ok (.getfield 21, 3) := by decide +kernel
theorem dX3_addAll_41 : decode cX3_addAll 41 = .ok (.iload_n 3, 1) := by decide +kernel
theorem dX3_addAll_42 : decode cX3_addAll 42 = .ok (.invokestatic 31, 3) := by decide +kernel
theorem dX3_addAll_45 : decode cX3_addAll 45 = .ok (.invokevirtual 35, 3) := by decide +kernel
theorem dX3_addAll_48 : decode cX3_addAll 48 = .ok (.iinc 3 1, 3) := by decide +kernel
theorem dX3_addAll_51 : decode cX3_addAll 51 = .ok (.goto (-44), 3) := by decide +kernel
theorem dX3_addAll_54 : decode cX3_addAll 54 = .ok (.return_, 1) := by decide +kernel
set_option maxRecDepth 20000 in
theorem ggX3_add_X3_placeFor : GoodIn wsX3_add wsX3_placeFor := goodIn_r _ [15, 2, 16, 17, 18, 14, 19, 10, 8, 20, 21, 22, 29, 30, 31, 32, 33, 34] (by decide +kernel) (by decide +kernel)
set_option maxRecDepth 20000 in
theorem gX3_add_X3_placeFor : GoodIn wsX3_add (wsV RX3 39 RX3 yX3_placeFor wsX3_placeFor) := goodIn_app (goodIn_of _ (by decide +kernel)) ggX3_add_X3_placeFor
set_option maxRecDepth 20000 in
theorem ggX3_add_X6_insert : GoodIn wsX3_add wsX6_insert := goodIn_r _ [24, 25, 20, 21, 22, 26, 27, 28] (by decide +kernel) (by decide +kernel)
set_option maxRecDepth 20000 in
theorem gX3_add_X6_insert_n48 : GoodIn wsX3_add (wsX6_insert) := ggX3_add_X6_insert
theorem dX3_add_0 : decode cX3_add 0 = .ok (.aload_n 0, 1) := by decide +kernel
theorem dX3_add_1 : decode cX3_add 1 = .ok (.iload_n 2, 1) := by decide +kernel
theorem dX3_add_2 : decode cX3_add 2 = .ok (.iload 4, 2) := by decide +kernel
theorem dX3_add_4 : decode cX3_add 4 = .ok (.invokevirtual 39, 3) := by decide +kernel
theorem dX3_add_7 : decode cX3_add 7 = .ok (.istore 5, 2) := by decide +kernel
theorem dX3_add_9 : decode cX3_add 9 = .ok (.iload 5, 2) := by decide +kernel
theorem dX3_add_11 : decode cX3_add 11 = .ok (.aload_n 0, 1) := by decide +kernel
theorem dX3_add_12 : decode cX3_add 12 = .ok (.getfield 24, 3) := by decide +kernel
theorem dX3_add_15 : decode cX3_add 15 = .ok (.if_icmp .le 4, 3) := by decide +kernel
theorem dX3_add_18 : decode cX3_add 18 = .ok (.return_, 1) := by decide +kernel
theorem dX3_add_19 : decode cX3_add 19 = .ok (.aload_n 0, 1) := by decide +kernel
theorem dX3_add_20 : decode cX3_add 20 = .ok (.aload_n 0, 1) := by decide +kernel
theorem dX3_add_21 : decode cX3_add 21 = .ok (.getfield 28, 3) := by decide +kernel
theorem dX3_add_24 : decode cX3_add 24 = .ok (.iconst 1, 1) := by decide +kernel
theorem dX3_add_25 : decode cX3_add 25 = .ok (.iadd, 1) := by decide +kernel
theorem dX3_add_26 : decode cX3_add 26 = .ok (.aload_n 0, 1) := by decide +kernel
theorem dX3_add_27 : decode cX3_add 27 = .ok (.getfield 24, 3) := by decide +kernel
theorem dX3_add_30 : decode cX3_add 30 = .ok (.iconst 1, 1) := by decide +kernel
theorem dX3_add_31 : decode cX3_add 31 = .ok (.iadd, 1) := by decide +kernel
theorem dX3_add_32 : decode cX3_add 32 = .ok (.invokestatic 43, 3) := by decide +kernel
theorem dX3_add_35 : decode cX3_add 35 = .ok (.putfield 28, 3) := by decide +kernel
theorem dX3_add_38 : decode cX3_add 38 = .ok (.aload_n 0, 1) := by decide +kernel
theorem dX3_add_39 : decode cX3_add 39 = .ok (.getfield 9, 3) := by decide +kernel
theorem dX3_add_42 : decode cX3_add 42 = .ok (.iload 5, 2) := by decide +kernel
theorem dX3_add_44 : decode cX3_add 44 = .ok (.aload_n 0, 1) := by decide +kernel
theorem dX3_add_45 : decode cX3_add 45 = .ok (.getfield 28, 3) := by decide +kernel
theorem dX3_add_48 : decode cX3_add 48 = .ok (.iload_n 1, 1) := by decide +kernel
theorem dX3_add_49 : decode cX3_add 49 = .ok (.invokestatic 48, 3) := by decide +kernel
theorem dX3_add_52 : decode cX3_add 52 = .ok (.aload_n 0, 1) := by decide +kernel
theorem dX3_add_53 : decode cX3_add 53 = .ok (.getfield 15, 3) := by decide +kernel
theorem dX3_add_56 : decode cX3_add 56 = .ok (.iload 5, 2) := by decide +kernel
theorem dX3_add_58 : decode cX3_add 58 = .ok (.aload_n 0, 1) := by decide +kernel
theorem dX3_add_59 : decode cX3_add 59 = .ok (.getfield 28, 3) := by decide +kernel
theorem dX3_add_62 : decode cX3_add 62 = .ok (.iload_n 2, 1) := by decide +kernel
theorem dX3_add_63 : decode cX3_add 63 = .ok (.invokestatic 48, 3) := by decide +kernel
theorem dX3_add_66 : decode cX3_add 66 = .ok (.aload_n 0, 1) := by decide +kernel
theorem dX3_add_67 : decode cX3_add 67 = .ok (.getfield 18, 3) := by decide +kernel
theorem dX3_add_70 : decode cX3_add 70 = .ok (.iload 5, 2) := by decide +kernel
theorem dX3_add_72 : decode cX3_add 72 = .ok (.aload_n 0, 1) := by decide +kernel
theorem dX3_add_73 : decode cX3_add 73 = .ok (.getfield 28, 3) := by decide +kernel
theorem dX3_add_76 : decode cX3_add 76 = .ok (.iload_n 3, 1) := by decide +kernel
theorem dX3_add_77 : decode cX3_add 77 = .ok (.invokestatic 48, 3) := by decide +kernel
theorem dX3_add_80 : decode cX3_add 80 = .ok (.aload_n 0, 1) := by decide +kernel
theorem dX3_add_81 : decode cX3_add 81 = .ok (.getfield 21, 3) := by decide +kernel
theorem dX3_add_84 : decode cX3_add 84 = .ok (.iload 5, 2) := by decide +kernel
theorem dX3_add_86 : decode cX3_add 86 = .ok (.aload_n 0, 1) := by decide +kernel
theorem dX3_add_87 : decode cX3_add 87 = .ok (.getfield 28, 3) := by decide +kernel
theorem dX3_add_90 : decode cX3_add 90 = .ok (.iload 4, 2) := by decide +kernel
theorem dX3_add_92 : decode cX3_add 92 = .ok (.invokestatic 48, 3) := by decide +kernel
theorem dX3_add_95 : decode cX3_add 95 = .ok (.return_, 1) := by decide +kernel
set_option maxRecDepth 20000 in
theorem ggX3_placeFor_X3_isGreater : GoodIn wsX3_placeFor wsX3_isGreater := goodIn_r _ [6, 7, 8, 9, 10, 11, 12, 13, 14, 15, 16, 17] (by decide +kernel) (by decide +kernel)
set_option maxRecDepth 20000 in
theorem gX3_placeFor_X3_isGreater : GoodIn wsX3_placeFor (wsV RX3 52 RX3 yX3_isGreater wsX3_isGreater) := goodIn_app (goodIn_of _ (by decide +kernel)) ggX3_placeFor_X3_isGreater
theorem dX3_placeFor_0 : decode cX3_placeFor 0 = .ok (.aload_n 0, 1) := by decide +kernel
theorem dX3_placeFor_1 : decode cX3_placeFor 1 = .ok (.getfield 28, 3) := by decide +kernel
theorem dX3_placeFor_4 : decode cX3_placeFor 4 = .ok (.istore_n 3, 1) := by decide +kernel
theorem dX3_placeFor_5 : decode cX3_placeFor 5 = .ok (.iload_n 3, 1) := by decide +kernel
theorem dX3_placeFor_6 : decode cX3_placeFor 6 = .ok (.ifCond .le 21, 3) := by decide +kernel
theorem dX3_placeFor_9 : decode cX3_placeFor 9 = .ok (.aload_n 0, 1) := by decide +kernel
theorem dX3_placeFor_10 : decode cX3_placeFor 10 = .ok (.iload_n 1, 1) := by decide +kernel
theorem dX3_placeFor_11 : decode cX3_placeFor 11 = .ok (.iload_n 2, 1) := by decide +kernel
theorem dX3_placeFor_12 : decode cX3_placeFor 12 = .ok (.iload_n 3, 1) := by decide +kernel
theorem dX3_placeFor_13 : decode cX3_placeFor 13 = .ok (.iconst 1, 1) := by decide +kernel
theorem dX3_placeFor_14 : decode cX3_placeFor 14 = .ok (.isub, 1) := by decide +kernel
theorem dX3_placeFor_15 : decode cX3_placeFor 15 = .ok (.invokevirtual 52, 3) := by decide +kernel
theorem dX3_placeFor_18 : decode cX3_placeFor 18 = .ok (.ifCond .eq 9, 3) := by decide +kernel
theorem dX3_placeFor_21 : decode cX3_placeFor 21 = .ok (.iinc 3 (-1), 3) := by decide +kernel
theorem dX3_placeFor_24 : decode cX3_placeFor 24 = .ok (.goto (-19), 3) := by decide +kernel
theorem dX3_placeFor_27 : decode cX3_placeFor 27 = .ok (.iload_n 3, 1) := by decide +kernel
theorem dX3_placeFor_28 : decode cX3_placeFor 28 = .ok (.ireturn, 1) := by decide +kernel
set_option maxRecDepth 20000 in
theorem ggX3_isGreater_X6_at : GoodIn wsX3_isGreater wsX6_at := goodIn_r _ [5] (by decide +kernel) (by decide +kernel)
set_option maxRecDepth 20000 in
theorem gX3_isGreater_X6_at_n31 : GoodIn wsX3_isGreater (wsX6_at) := ggX3_isGreater_X6_at
theorem dX3_isGreater_0 : decode cX3_isGreater 0 = .ok (.iload_n 1, 1) := by decide +kernel
theorem dX3_isGreater_1 : decode cX3_isGreater 1 = .ok (.i2l, 1) := by decide +kernel
theorem dX3_isGreater_2 : decode cX3_isGreater 2 = .ok (.aload_n 0, 1) := by decide +kernel
theorem dX3_isGreater_3 : decode cX3_isGreater 3 = .ok (.getfield 21, 3) := by decide +kernel
theorem dX3_isGreater_6 : decode cX3_isGreater 6 = .ok (.iload_n 3, 1) := by decide +kernel
theorem dX3_isGreater_7 : decode cX3_isGreater 7 = .ok (.invokestatic 31, 3) := by decide +kernel
theorem dX3_isGreater_10 : decode cX3_isGreater 10 = .ok (.i2l, 1) := by decide +kernel
theorem dX3_isGreater_11 : decode cX3_isGreater 11 = .ok (.lconst 1, 1) := by decide +kernel
theorem dX3_isGreater_12 : decode cX3_isGreater 12 = .ok (.ladd, 1) := by decide +kernel
theorem dX3_isGreater_13 : decode cX3_isGreater 13 = .ok (.lmul, 1) := by decide +kernel
theorem dX3_isGreater_14 : decode cX3_isGreater 14 = .ok (.aload_n 0, 1) := by decide +kernel
theorem dX3_isGreater_15 : decode cX3_isGreater 15 = .ok (.getfield 15, 3) := by decide +kernel
theorem dX3_isGreater_18 : decode cX3_isGreater 18 = .ok (.iload_n 3, 1) := by decide +kernel
theorem dX3_isGreater_19 : decode cX3_isGreater 19 = .ok (.invokestatic 31, 3) := by decide +kernel
theorem dX3_isGreater_22 : decode cX3_isGreater 22 = .ok (.i2l, 1) := by decide +kernel
theorem dX3_isGreater_23 : decode cX3_isGreater 23 = .ok (.iload_n 2, 1) := by decide +kernel
theorem dX3_isGreater_24 : decode cX3_isGreater 24 = .ok (.i2l, 1) := by decide +kernel
theorem dX3_isGreater_25 : decode cX3_isGreater 25 = .ok (.lconst 1, 1) := by decide +kernel
theorem dX3_isGreater_26 : decode cX3_isGreater 26 = .ok (.ladd, 1) := by decide +kernel
theorem dX3_isGreater_27 : decode cX3_isGreater 27 = .ok (.lmul, 1) := by decide +kernel
theorem dX3_isGreater_28 : decode cX3_isGreater 28 = .ok (.lcmp, 1) := by decide +kernel
theorem dX3_isGreater_29 : decode cX3_isGreater 29 = .ok (.ifCond .le 7, 3) := by decide +kernel
theorem dX3_isGreater_32 : decode cX3_isGreater 32 = .ok (.iconst 1, 1) := by decide +kernel
theorem dX3_isGreater_33 : decode cX3_isGreater 33 = .ok (.goto 4, 3) := by decide +kernel
theorem dX3_isGreater_36 : decode cX3_isGreater 36 = .ok (.iconst 0, 1) := by decide +kernel
theorem dX3_isGreater_37 : decode cX3_isGreater 37 = .ok (.ireturn, 1) := by decide +kernel
theorem dX3_sampled_0 : decode cX3_sampled 0 = .ok (.aload_n 0, 1) := by decide +kernel
theorem dX3_sampled_1 : decode cX3_sampled 1 = .ok (.getfield 28, 3) := by decide +kernel
theorem dX3_sampled_4 : decode cX3_sampled 4 = .ok (.aload_n 0, 1) := by decide +kernel
theorem dX3_sampled_5 : decode cX3_sampled 5 = .ok (.getfield 24, 3) := by decide +kernel
theorem dX3_sampled_8 : decode cX3_sampled 8 = .ok (.invokestatic 43, 3) := by decide +kernel
theorem dX3_sampled_11 : decode cX3_sampled 11 = .ok (.ireturn, 1) := by decide +kernel
set_option maxRecDepth 20000 in
theorem ggX3_bound_X6_at : GoodIn wsX3_bound wsX6_at := goodIn_r _ [7] (by decide +kernel) (by decide +kernel)
set_option maxRecDepth 20000 in
theorem gX3_bound_X6_at_n31 : GoodIn wsX3_bound (wsX6_at) := ggX3_bound_X6_at
set_option maxRecDepth 20000 in
theorem ggX3_bound_X6_quotient : GoodIn wsX3_bound wsX6_quotient := goodIn_r _ [9] (by decide +kernel) (by decide +kernel)
set_option maxRecDepth 20000 in
theorem gX3_bound_X6_quotient_n56 : GoodIn wsX3_bound (wsX6_quotient) := ggX3_bound_X6_quotient
theorem dX3_bound_0 : decode cX3_bound 0 = .ok (.aload_n 0, 1) := by decide +kernel
theorem dX3_bound_1 : decode cX3_bound 1 = .ok (.getfield 28, 3) := by decide +kernel
theorem dX3_bound_4 : decode cX3_bound 4 = .ok (.aload_n 0, 1) := by decide +kernel
theorem dX3_bound_5 : decode cX3_bound 5 = .ok (.getfield 24, 3) := by decide +kernel
theorem dX3_bound_8 : decode cX3_bound 8 = .ok (.if_icmp .gt 5, 3) := by decide +kernel
theorem dX3_bound_11 : decode cX3_bound 11 = .ok (.lconst 0, 1) := by decide +kernel
theorem dX3_bound_12 : decode cX3_bound 12 = .ok (.lreturn, 1) := by decide +kernel
theorem dX3_bound_13 : decode cX3_bound 13 = .ok (.aload_n 0, 1) := by decide +kernel
theorem dX3_bound_14 : decode cX3_bound 14 = .ok (.getfield 15, 3) := by decide +kernel
theorem dX3_bound_17 : decode cX3_bound 17 = .ok (.aload_n 0, 1) := by decide +kernel
theorem dX3_bound_18 : decode cX3_bound 18 = .ok (.getfield 24, 3) := by decide +kernel
theorem dX3_bound_21 : decode cX3_bound 21 = .ok (.invokestatic 31, 3) := by decide +kernel
theorem dX3_bound_24 : decode cX3_bound 24 = .ok (.i2l, 1) := by decide +kernel
theorem dX3_bound_25 : decode cX3_bound 25 = .ok (.lstore_n 1, 1) := by decide +kernel
theorem dX3_bound_26 : decode cX3_bound 26 = .ok (.lload_n 1, 1) := by decide +kernel
theorem dX3_bound_27 : decode cX3_bound 27 = .ok (.bipush 31, 2) := by decide +kernel
theorem dX3_bound_29 : decode cX3_bound 29 = .ok (.lshl, 1) := by decide +kernel
theorem dX3_bound_30 : decode cX3_bound 30 = .ok (.aload_n 0, 1) := by decide +kernel
theorem dX3_bound_31 : decode cX3_bound 31 = .ok (.getfield 21, 3) := by decide +kernel
theorem dX3_bound_34 : decode cX3_bound 34 = .ok (.aload_n 0, 1) := by decide +kernel
theorem dX3_bound_35 : decode cX3_bound 35 = .ok (.getfield 24, 3) := by decide +kernel
theorem dX3_bound_38 : decode cX3_bound 38 = .ok (.invokestatic 31, 3) := by decide +kernel
theorem dX3_bound_41 : decode cX3_bound 41 = .ok (.i2l, 1) := by decide +kernel
theorem dX3_bound_42 : decode cX3_bound 42 = .ok (.lconst 1, 1) := by decide +kernel
theorem dX3_bound_43 : decode cX3_bound 43 = .ok (.ladd, 1) := by decide +kernel
theorem dX3_bound_44 : decode cX3_bound 44 = .ok (.invokestatic 56, 3) := by decide +kernel
theorem dX3_bound_47 : decode cX3_bound 47 = .ok (.lreturn, 1) := by decide +kernel
set_option maxRecDepth 20000 in
theorem ggX3_estimateAt_X6_at : GoodIn wsX3_estimateAt wsX6_at := goodIn_r _ [8] (by decide +kernel) (by decide +kernel)
set_option maxRecDepth 20000 in
theorem gX3_estimateAt_X6_at_n31 : GoodIn wsX3_estimateAt (wsX6_at) := ggX3_estimateAt_X6_at
set_option maxRecDepth 20000 in
theorem ggX3_estimateAt_X3_bound : GoodIn wsX3_estimateAt wsX3_bound := goodIn_r _ [13, 14, 15, 1, 16, 6, 7, 8, 17, 18, 19, 20, 21, 22, 23, 24] (by decide +kernel) (by decide +kernel)
set_option maxRecDepth 20000 in
theorem gX3_estimateAt_X3_bound : GoodIn wsX3_estimateAt (wsV RX3 60 RX3 yX3_bound wsX3_bound) := goodIn_app (goodIn_of _ (by decide +kernel)) ggX3_estimateAt_X3_bound
theorem dX3_estimateAt_0 : decode cX3_estimateAt 0 = .ok (.aload_n 0, 1) := by decide +kernel
theorem dX3_estimateAt_1 : decode cX3_estimateAt 1 = .ok (.getfield 15, 3) := by decide +kernel
theorem dX3_estimateAt_4 : decode cX3_estimateAt 4 = .ok (.iload_n 1, 1) := by decide +kernel
theorem dX3_estimateAt_5 : decode cX3_estimateAt 5 = .ok (.invokestatic 31, 3) := by decide +kernel
theorem dX3_estimateAt_8 : decode cX3_estimateAt 8 = .ok (.i2l, 1) := by decide +kernel
theorem dX3_estimateAt_9 : decode cX3_estimateAt 9 = .ok (.aload_n 0, 1) := by decide +kernel
theorem dX3_estimateAt_10 : decode cX3_estimateAt 10 = .ok (.invokevirtual 60, 3) := by decide +kernel
theorem dX3_estimateAt_13 : decode cX3_estimateAt 13 = .ok (.invokestatic 64, 3) := by decide +kernel
theorem dX3_estimateAt_16 : decode cX3_estimateAt 16 = .ok (.lreturn, 1) := by decide +kernel
set_option maxRecDepth 20000 in
theorem ggX3_estimatedSum_X3_sampled : GoodIn wsX3_estimatedSum wsX3_sampled := goodIn_r _ [6, 7, 8, 9, 10, 11, 12, 31, 32, 33, 34, 35, 36] (by decide +kernel) (by decide +kernel)
set_option maxRecDepth 20000 in
theorem gX3_estimatedSum_X3_sampled : GoodIn wsX3_estimatedSum (wsV RX3 67 RX3 yX3_sampled wsX3_sampled) := goodIn_app (goodIn_of _ (by decide +kernel)) ggX3_estimatedSum_X3_sampled
set_option maxRecDepth 20000 in
theorem ggX3_estimatedSum_X6_at : GoodIn wsX3_estimatedSum wsX6_at := goodIn_r _ [15] (by decide +kernel) (by decide +kernel)
set_option maxRecDepth 20000 in
theorem gX3_estimatedSum_X6_at_n31 : GoodIn wsX3_estimatedSum (wsX6_at) := ggX3_estimatedSum_X6_at
set_option maxRecDepth 20000 in
theorem ggX3_estimatedSum_X3_estimateAt : GoodIn wsX3_estimatedSum wsX3_estimateAt := goodIn_r _ [19, 20, 21, 22, 11, 23, 13, 14, 15, 24, 25, 26, 5, 27, 7, 8, 28, 29, 30, 31, 32, 33, 34, 35, 36] (by decide +kernel) (by decide +kernel)
set_option maxRecDepth 20000 in
theorem gX3_estimatedSum_X3_estimateAt : GoodIn wsX3_estimatedSum (wsV RX3 71 RX3 yX3_estimateAt wsX3_estimateAt) := goodIn_app (goodIn_of _ (by decide +kernel)) ggX3_estimatedSum_X3_estimateAt
theorem dX3_estimatedSum_0 : decode cX3_estimatedSum 0 = .ok (.lconst 0, 1) := by decide +kernel
theorem dX3_estimatedSum_1 : decode cX3_estimatedSum 1 = .ok (.lstore_n 2, 1) := by decide +kernel
theorem dX3_estimatedSum_2 : decode cX3_estimatedSum 2 = .ok (.aload_n 0, 1) := by decide +kernel
theorem dX3_estimatedSum_3 : decode cX3_estimatedSum 3 = .ok (.invokevirtual 67, 3) := by decide +kernel
theorem dX3_estimatedSum_6 : decode cX3_estimatedSum 6 = .ok (.istore 4, 2) := by decide +kernel
theorem dX3_estimatedSum_8 : decode cX3_estimatedSum 8 = .ok (.iconst 0, 1) := by decide +kernel
theorem dX3_estimatedSum_9 : decode cX3_estimatedSum 9 = .ok (.istore 5, 2) := by decide +kernel
theorem dX3_estimatedSum_11 : decode cX3_estimatedSum 11 = .ok (.iload 5, 2) := by decide +kernel
theorem dX3_estimatedSum_13 : decode cX3_estimatedSum 13 = .ok (.iload 4, 2) := by decide +kernel
theorem dX3_estimatedSum_15 : decode cX3_estimatedSum 15 = .ok (.if_icmp .ge 31, 3) := by decide +kernel
theorem dX3_estimatedSum_18 : decode cX3_estimatedSum 18 = .ok (.aload_n 0, 1) := by decide +kernel
theorem dX3_estimatedSum_19 : decode cX3_estimatedSum 19 = .ok (.getfield 18, 3) := by decide +kernel
theorem dX3_estimatedSum_22 : decode cX3_estimatedSum 22 = .ok (.iload 5, 2) := by decide +kernel
theorem dX3_estimatedSum_24 : decode cX3_estimatedSum 24 = .ok (.invokestatic 31, 3) := by decide +kernel
theorem dX3_estimatedSum_27 : decode cX3_estimatedSum 27 = .ok (.iload_n 1, 1) := by decide +kernel
theorem dX3_estimatedSum_28 : decode cX3_estimatedSum 28 = .ok (.if_icmp .ne 12, 3) := by decide +kernel
theorem dX3_estimatedSum_31 : decode cX3_estimatedSum 31 = .ok (.lload_n 2, 1) := by decide +kernel
theorem dX3_estimatedSum_32 : decode cX3_estimatedSum 32 = .ok (.aload_n 0, 1) := by decide +kernel
theorem dX3_estimatedSum_33 : decode cX3_estimatedSum 33 = .ok (.iload 5, 2) := by decide +kernel
theorem dX3_estimatedSum_35 : decode cX3_estimatedSum 35 = .ok (.invokevirtual 71, 3) := by decide +kernel
theorem dX3_estimatedSum_38 : decode cX3_estimatedSum 38 = .ok (.ladd, 1) := by decide +kernel
theorem dX3_estimatedSum_39 : decode cX3_estimatedSum 39 = .ok (.lstore_n 2, 1) := by decide +kernel
theorem dX3_estimatedSum_40 : decode cX3_estimatedSum 40 = .ok (.iinc 5 1, 3) := by decide +kernel
theorem dX3_estimatedSum_43 : decode cX3_estimatedSum 43 = .ok (.goto (-32), 3) := by decide +kernel
theorem dX3_estimatedSum_46 : decode cX3_estimatedSum 46 = .ok (.lload_n 2, 1) := by decide +kernel
theorem dX3_estimatedSum_47 : decode cX3_estimatedSum 47 = .ok (.lreturn, 1) := by decide +kernel
set_option maxRecDepth 20000 in
theorem ggX3_weightSum_X3_sampled : GoodIn wsX3_weightSum wsX3_sampled := goodIn_r _ [7, 8, 9, 10, 11, 12, 13, 17, 18, 19, 20, 21, 22] (by decide +kernel) (by decide +kernel)
set_option maxRecDepth 20000 in
theorem gX3_weightSum_X3_sampled : GoodIn wsX3_weightSum (wsV RX3 67 RX3 yX3_sampled wsX3_sampled) := goodIn_app (goodIn_of _ (by decide +kernel)) ggX3_weightSum_X3_sampled
set_option maxRecDepth 20000 in
theorem ggX3_weightSum_X6_at : GoodIn wsX3_weightSum wsX6_at := goodIn_r _ [16] (by decide +kernel) (by decide +kernel)
set_option maxRecDepth 20000 in
theorem gX3_weightSum_X6_at_n31 : GoodIn wsX3_weightSum (wsX6_at) := ggX3_weightSum_X6_at
theorem dX3_weightSum_0 : decode cX3_weightSum 0 = .ok (.iconst 0, 1) := by decide +kernel
theorem dX3_weightSum_1 : decode cX3_weightSum 1 = .ok (.istore_n 2, 1) := by decide +kernel
theorem dX3_weightSum_2 : decode cX3_weightSum 2 = .ok (.aload_n 0, 1) := by decide +kernel
theorem dX3_weightSum_3 : decode cX3_weightSum 3 = .ok (.invokevirtual 67, 3) := by decide +kernel
theorem dX3_weightSum_6 : decode cX3_weightSum 6 = .ok (.istore_n 3, 1) := by decide +kernel
theorem dX3_weightSum_7 : decode cX3_weightSum 7 = .ok (.iconst 0, 1) := by decide +kernel
theorem dX3_weightSum_8 : decode cX3_weightSum 8 = .ok (.istore 4, 2) := by decide +kernel
theorem dX3_weightSum_10 : decode cX3_weightSum 10 = .ok (.iload 4, 2) := by decide +kernel
theorem dX3_weightSum_12 : decode cX3_weightSum 12 = .ok (.iload_n 3, 1) := by decide +kernel
theorem dX3_weightSum_13 : decode cX3_weightSum 13 = .ok (.if_icmp .ge 34, 3) := by decide +kernel
theorem dX3_weightSum_16 : decode cX3_weightSum 16 = .ok (.aload_n 0, 1) := by decide +kernel
theorem dX3_weightSum_17 : decode cX3_weightSum 17 = .ok (.getfield 18, 3) := by decide +kernel
theorem dX3_weightSum_20 : decode cX3_weightSum 20 = .ok (.iload 4, 2) := by decide +kernel
theorem dX3_weightSum_22 : decode cX3_weightSum 22 = .ok (.invokestatic 31, 3) := by decide +kernel
theorem dX3_weightSum_25 : decode cX3_weightSum 25 = .ok (.iload_n 1, 1) := by decide +kernel
theorem dX3_weightSum_26 : decode cX3_weightSum 26 = .ok (.if_icmp .ne 15, 3) := by decide +kernel
theorem dX3_weightSum_29 : decode cX3_weightSum 29 = .ok (.iload_n 2, 1) := by decide +kernel
theorem dX3_weightSum_30 : decode cX3_weightSum 30 = .ok (.aload_n 0, 1) := by decide +kernel
theorem dX3_weightSum_31 : decode cX3_weightSum 31 = .ok (.getfield 15, 3) := by decide +kernel
theorem dX3_weightSum_34 : decode cX3_weightSum 34 = .ok (.iload 4, 2) := by decide +kernel
theorem dX3_weightSum_36 : decode cX3_weightSum 36 = .ok (.invokestatic 31, 3) := by decide +kernel
theorem dX3_weightSum_39 : decode cX3_weightSum 39 = .ok (.iadd, 1) := by decide +kernel
theorem dX3_weightSum_40 : decode cX3_weightSum 40 = .ok (.istore_n 2, 1) := by decide +kernel
theorem dX3_weightSum_41 : decode cX3_weightSum 41 = .ok (.iinc 4 1, 3) := by decide +kernel
theorem dX3_weightSum_44 : decode cX3_weightSum 44 = .ok (.goto (-34), 3) := by decide +kernel
theorem dX3_weightSum_47 : decode cX3_weightSum 47 = .ok (.iload_n 2, 1) := by decide +kernel
theorem dX3_weightSum_48 : decode cX3_weightSum 48 = .ok (.ireturn, 1) := by decide +kernel
theorem dX4_init_0 : decode cX4_init 0 = .ok (.aload_n 0, 1) := by decide +kernel
theorem dX4_init_1 : decode cX4_init 1 = .ok (.invokespecial 3, 3) := by decide +kernel
theorem dX4_init_4 : decode cX4_init 4 = .ok (.aload_n 0, 1) := by decide +kernel
theorem dX4_init_5 : decode cX4_init 5 = .ok (.bipush 16, 2) := by decide +kernel
theorem dX4_init_7 : decode cX4_init 7 = .ok (.newarray .int, 2) := by decide +kernel
theorem dX4_init_9 : decode cX4_init 9 = .ok (.putfield 9, 3) := by decide +kernel
theorem dX4_init_12 : decode cX4_init 12 = .ok (.aload_n 0, 1) := by decide +kernel
theorem dX4_init_13 : decode cX4_init 13 = .ok (.bipush 16, 2) := by decide +kernel
theorem dX4_init_15 : decode cX4_init 15 = .ok (.newarray .int, 2) := by decide +kernel
theorem dX4_init_17 : decode cX4_init 17 = .ok (.putfield 15, 3) := by decide +kernel
theorem dX4_init_20 : decode cX4_init 20 = .ok (.return_, 1) := by decide +kernel
theorem dX4_startAgain_0 : decode cX4_startAgain 0 = .ok (.aload_n 0, 1) := by decide +kernel
theorem dX4_startAgain_1 : decode cX4_startAgain 1 = .ok (.iload_n 1, 1) := by decide +kernel
theorem dX4_startAgain_2 : decode cX4_startAgain 2 = .ok (.putfield 18, 3) := by decide +kernel
theorem dX4_startAgain_5 : decode cX4_startAgain 5 = .ok (.aload_n 0, 1) := by decide +kernel
