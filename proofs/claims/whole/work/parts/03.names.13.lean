set_option maxRecDepth 20000 in
theorem gX7_noPlace_X7_sampled : GoodIn wsX7_noPlace (wsV RX7 84 RX7 yX7_sampled wsX7_sampled) := goodIn_app (goodIn_of _ (by decide +kernel)) ggX7_noPlace_X7_sampled
set_option maxRecDepth 20000 in
theorem ggX7_noPlace_X7_refused : GoodIn wsX7_noPlace wsX7_refused := goodIn_r _ [18, 19, 20, 21, 22, 23, 24, 25, 26, 27, 28, 29, 30, 31, 32] (by decide +kernel) (by decide +kernel)
set_option maxRecDepth 20000 in
theorem gX7_noPlace_X7_refused : GoodIn wsX7_noPlace (wsV RX7 49 RX7 yX7_refused wsX7_refused) := goodIn_app (goodIn_of _ (by decide +kernel)) ggX7_noPlace_X7_refused
theorem dX7_noPlace_0 : decode cX7_noPlace 0 = .ok (.aload_n 0, 1) := by decide +kernel
theorem dX7_noPlace_1 : decode cX7_noPlace 1 = .ok (.iload_n 1, 1) := by decide +kernel
theorem dX7_noPlace_2 : decode cX7_noPlace 2 = .ok (.iconst 0, 1) := by decide +kernel
theorem dX7_noPlace_3 : decode cX7_noPlace 3 = .ok (.iconst 2, 1) := by decide +kernel
theorem dX7_noPlace_4 : decode cX7_noPlace 4 = .ok (.invokestatic 45, 3) := by decide +kernel
theorem dX7_noPlace_7 : decode cX7_noPlace 7 = .ok (.ifCond .ne 7, 3) := by decide +kernel
theorem dX7_noPlace_10 : decode cX7_noPlace 10 = .ok (.iconst 1, 1) := by decide +kernel
theorem dX7_noPlace_11 : decode cX7_noPlace 11 = .ok (.goto 23, 3) := by decide +kernel
theorem dX7_noPlace_14 : decode cX7_noPlace 14 = .ok (.iload_n 2, 1) := by decide +kernel
theorem dX7_noPlace_15 : decode cX7_noPlace 15 = .ok (.iconst 0, 1) := by decide +kernel
theorem dX7_noPlace_16 : decode cX7_noPlace 16 = .ok (.aload_n 0, 1) := by decide +kernel
theorem dX7_noPlace_17 : decode cX7_noPlace 17 = .ok (.iload_n 1, 1) := by decide +kernel
theorem dX7_noPlace_18 : decode cX7_noPlace 18 = .ok (.invokevirtual 84, 3) := by decide +kernel
theorem dX7_noPlace_21 : decode cX7_noPlace 21 = .ok (.iconst 1, 1) := by decide +kernel
theorem dX7_noPlace_22 : decode cX7_noPlace 22 = .ok (.isub, 1) := by decide +kernel
theorem dX7_noPlace_23 : decode cX7_noPlace 23 = .ok (.invokestatic 45, 3) := by decide +kernel
theorem dX7_noPlace_26 : decode cX7_noPlace 26 = .ok (.ifCond .eq 7, 3) := by decide +kernel
theorem dX7_noPlace_29 : decode cX7_noPlace 29 = .ok (.iconst 0, 1) := by decide +kernel
theorem dX7_noPlace_30 : decode cX7_noPlace 30 = .ok (.goto 4, 3) := by decide +kernel
theorem dX7_noPlace_33 : decode cX7_noPlace 33 = .ok (.iconst 2, 1) := by decide +kernel
theorem dX7_noPlace_34 : decode cX7_noPlace 34 = .ok (.invokevirtual 49, 3) := by decide +kernel
theorem dX7_noPlace_37 : decode cX7_noPlace 37 = .ok (.ireturn, 1) := by decide +kernel
set_option maxRecDepth 20000 in
theorem ggX7_priorityItem_X7_noPlace : GoodIn wsX7_priorityItem wsX7_noPlace := goodIn_r _ [6, 7, 8, 5, 9, 10, 11, 12, 13, 14, 15, 16, 17, 18, 19, 20, 21, 22, 23, 24, 39, 40, 41, 42, 43, 44, 45, 46, 47, 48, 49, 50, 51] (by decide +kernel) (by decide +kernel)
set_option maxRecDepth 20000 in
theorem gX7_priorityItem_X7_noPlace : GoodIn wsX7_priorityItem (wsV RX7 87 RX7 yX7_noPlace wsX7_noPlace) := goodIn_app (goodIn_of _ (by decide +kernel)) ggX7_priorityItem_X7_noPlace
set_option maxRecDepth 20000 in
theorem ggX7_priorityItem_X7_ranked : GoodIn wsX7_priorityItem wsX7_ranked := goodIn_r _ [28, 29, 30, 31, 5, 32, 19, 33, 34, 35, 36, 37, 38, 39, 40, 41, 42, 43, 44, 45, 46, 47, 48, 49, 50, 51] (by decide +kernel) (by decide +kernel)
set_option maxRecDepth 20000 in
theorem gX7_priorityItem_X7_ranked : GoodIn wsX7_priorityItem (wsV RX7 78 RX7 yX7_ranked wsX7_ranked) := goodIn_app (goodIn_of _ (by decide +kernel)) ggX7_priorityItem_X7_ranked
theorem dX7_priorityItem_0 : decode cX7_priorityItem 0 = .ok (.aload_n 0, 1) := by decide +kernel
theorem dX7_priorityItem_1 : decode cX7_priorityItem 1 = .ok (.iload_n 1, 1) := by decide +kernel
theorem dX7_priorityItem_2 : decode cX7_priorityItem 2 = .ok (.iload_n 2, 1) := by decide +kernel
theorem dX7_priorityItem_3 : decode cX7_priorityItem 3 = .ok (.invokevirtual 87, 3) := by decide +kernel
theorem dX7_priorityItem_6 : decode cX7_priorityItem 6 = .ok (.ifCond .eq 7, 3) := by decide +kernel
theorem dX7_priorityItem_9 : decode cX7_priorityItem 9 = .ok (.iconst 0, 1) := by decide +kernel
theorem dX7_priorityItem_10 : decode cX7_priorityItem 10 = .ok (.goto 14, 3) := by decide +kernel
theorem dX7_priorityItem_13 : decode cX7_priorityItem 13 = .ok (.aload_n 0, 1) := by decide +kernel
theorem dX7_priorityItem_14 : decode cX7_priorityItem 14 = .ok (.getfield 20, 3) := by decide +kernel
theorem dX7_priorityItem_17 : decode cX7_priorityItem 17 = .ok (.aload_n 0, 1) := by decide +kernel
theorem dX7_priorityItem_18 : decode cX7_priorityItem 18 = .ok (.iload_n 1, 1) := by decide +kernel
theorem dX7_priorityItem_19 : decode cX7_priorityItem 19 = .ok (.iload_n 2, 1) := by decide +kernel
theorem dX7_priorityItem_20 : decode cX7_priorityItem 20 = .ok (.invokevirtual 78, 3) := by decide +kernel
theorem dX7_priorityItem_23 : decode cX7_priorityItem 23 = .ok (.iaload, 1) := by decide +kernel
theorem dX7_priorityItem_24 : decode cX7_priorityItem 24 = .ok (.ireturn, 1) := by decide +kernel
set_option maxRecDepth 20000 in
theorem ggX7_estimatedWeight_X7_noPlace : GoodIn wsX7_estimatedWeight wsX7_noPlace := goodIn_r _ [6, 7, 8, 5, 9, 10, 11, 12, 13, 14, 15, 16, 17, 18, 19, 20, 21, 22, 23, 24, 43, 44, 45, 46, 47, 48, 49, 50, 51, 52, 53, 54, 55] (by decide +kernel) (by decide +kernel)
set_option maxRecDepth 20000 in
theorem gX7_estimatedWeight_X7_noPlace : GoodIn wsX7_estimatedWeight (wsV RX7 87 RX7 yX7_noPlace wsX7_noPlace) := goodIn_app (goodIn_of _ (by decide +kernel)) ggX7_estimatedWeight_X7_noPlace
set_option maxRecDepth 20000 in
theorem ggX7_estimatedWeight_X7_thresholdOf : GoodIn wsX7_estimatedWeight wsX7_thresholdOf := goodIn_r _ [28, 14, 1, 29, 30, 31, 32, 33, 5, 34, 35, 36, 37, 38, 19, 39, 40, 41, 42, 43, 44, 45, 46, 47, 48, 49, 50, 51, 52, 53, 54, 55] (by decide +kernel) (by decide +kernel)
set_option maxRecDepth 20000 in
theorem gX7_estimatedWeight_X7_thresholdOf : GoodIn wsX7_estimatedWeight (wsV RX7 90 RX7 yX7_thresholdOf wsX7_thresholdOf) := goodIn_app (goodIn_of _ (by decide +kernel)) ggX7_estimatedWeight_X7_thresholdOf
set_option maxRecDepth 20000 in
theorem ggX7_estimatedWeight_X7_ranked : GoodIn wsX7_estimatedWeight wsX7_ranked := goodIn_r _ [34, 35, 36, 37, 5, 38, 19, 39, 40, 41, 42, 1, 30, 43, 44, 45, 46, 47, 48, 49, 50, 51, 52, 53, 54, 55] (by decide +kernel) (by decide +kernel)
set_option maxRecDepth 20000 in
theorem gX7_estimatedWeight_X7_ranked : GoodIn wsX7_estimatedWeight (wsV RX7 78 RX7 yX7_ranked wsX7_ranked) := goodIn_app (goodIn_of _ (by decide +kernel)) ggX7_estimatedWeight_X7_ranked
theorem dX7_estimatedWeight_0 : decode cX7_estimatedWeight 0 = .ok (.aload_n 0, 1) := by decide +kernel
theorem dX7_estimatedWeight_1 : decode cX7_estimatedWeight 1 = .ok (.iload_n 1, 1) := by decide +kernel
theorem dX7_estimatedWeight_2 : decode cX7_estimatedWeight 2 = .ok (.iload_n 2, 1) := by decide +kernel
theorem dX7_estimatedWeight_3 : decode cX7_estimatedWeight 3 = .ok (.invokevirtual 87, 3) := by decide +kernel
theorem dX7_estimatedWeight_6 : decode cX7_estimatedWeight 6 = .ok (.ifCond .eq 5, 3) := by decide +kernel
theorem dX7_estimatedWeight_9 : decode cX7_estimatedWeight 9 = .ok (.lconst 0, 1) := by decide +kernel
theorem dX7_estimatedWeight_10 : decode cX7_estimatedWeight 10 = .ok (.lreturn, 1) := by decide +kernel
theorem dX7_estimatedWeight_11 : decode cX7_estimatedWeight 11 = .ok (.aload_n 0, 1) := by decide +kernel
theorem dX7_estimatedWeight_12 : decode cX7_estimatedWeight 12 = .ok (.iload_n 1, 1) := by decide +kernel
theorem dX7_estimatedWeight_13 : decode cX7_estimatedWeight 13 = .ok (.invokevirtual 90, 3) := by decide +kernel
theorem dX7_estimatedWeight_16 : decode cX7_estimatedWeight 16 = .ok (.lstore_n 3, 1) := by decide +kernel
theorem dX7_estimatedWeight_17 : decode cX7_estimatedWeight 17 = .ok (.aload_n 0, 1) := by decide +kernel
theorem dX7_estimatedWeight_18 : decode cX7_estimatedWeight 18 = .ok (.getfield 23, 3) := by decide +kernel
theorem dX7_estimatedWeight_21 : decode cX7_estimatedWeight 21 = .ok (.aload_n 0, 1) := by decide +kernel
theorem dX7_estimatedWeight_22 : decode cX7_estimatedWeight 22 = .ok (.iload_n 1, 1) := by decide +kernel
theorem dX7_estimatedWeight_23 : decode cX7_estimatedWeight 23 = .ok (.iload_n 2, 1) := by decide +kernel
theorem dX7_estimatedWeight_24 : decode cX7_estimatedWeight 24 = .ok (.invokevirtual 78, 3) := by decide +kernel
theorem dX7_estimatedWeight_27 : decode cX7_estimatedWeight 27 = .ok (.iaload, 1) := by decide +kernel
theorem dX7_estimatedWeight_28 : decode cX7_estimatedWeight 28 = .ok (.istore 5, 2) := by decide +kernel
theorem dX7_estimatedWeight_30 : decode cX7_estimatedWeight 30 = .ok (.iload 5, 2) := by decide +kernel
theorem dX7_estimatedWeight_32 : decode cX7_estimatedWeight 32 = .ok (.i2l, 1) := by decide +kernel
theorem dX7_estimatedWeight_33 : decode cX7_estimatedWeight 33 = .ok (.lload_n 3, 1) := by decide +kernel
theorem dX7_estimatedWeight_34 : decode cX7_estimatedWeight 34 = .ok (.lcmp, 1) := by decide +kernel
theorem dX7_estimatedWeight_35 : decode cX7_estimatedWeight 35 = .ok (.ifCond .le 9, 3) := by decide +kernel
theorem dX7_estimatedWeight_38 : decode cX7_estimatedWeight 38 = .ok (.iload 5, 2) := by decide +kernel
theorem dX7_estimatedWeight_40 : decode cX7_estimatedWeight 40 = .ok (.i2l, 1) := by decide +kernel
theorem dX7_estimatedWeight_41 : decode cX7_estimatedWeight 41 = .ok (.goto 4, 3) := by decide +kernel
theorem dX7_estimatedWeight_44 : decode cX7_estimatedWeight 44 = .ok (.lload_n 3, 1) := by decide +kernel
theorem dX7_estimatedWeight_45 : decode cX7_estimatedWeight 45 = .ok (.lreturn, 1) := by decide +kernel
set_option maxRecDepth 20000 in
theorem ggX7_threshold_X7_noStream : GoodIn wsX7_threshold wsX7_noStream := goodIn_r _ [5, 6, 7, 4, 8, 9, 10, 11, 12, 13, 35, 36, 37, 38, 39, 40, 41, 42, 43, 44, 45, 46, 47] (by decide +kernel) (by decide +kernel)
set_option maxRecDepth 20000 in
theorem gX7_threshold_X7_noStream : GoodIn wsX7_threshold (wsV RX7 54 RX7 yX7_noStream wsX7_noStream) := goodIn_app (goodIn_of _ (by decide +kernel)) ggX7_threshold_X7_noStream
set_option maxRecDepth 20000 in
theorem ggX7_threshold_X7_thresholdOf : GoodIn wsX7_threshold wsX7_thresholdOf := goodIn_r _ [17, 18, 19, 20, 21, 22, 23, 24, 4, 25, 26, 27, 28, 29, 30, 31, 32, 33, 34, 35, 36, 37, 38, 39, 40, 41, 42, 43, 44, 45, 46, 47] (by decide +kernel) (by decide +kernel)
set_option maxRecDepth 20000 in
theorem gX7_threshold_X7_thresholdOf : GoodIn wsX7_threshold (wsV RX7 90 RX7 yX7_thresholdOf wsX7_thresholdOf) := goodIn_app (goodIn_of _ (by decide +kernel)) ggX7_threshold_X7_thresholdOf
theorem dX7_threshold_0 : decode cX7_threshold 0 = .ok (.aload_n 0, 1) := by decide +kernel
theorem dX7_threshold_1 : decode cX7_threshold 1 = .ok (.iload_n 1, 1) := by decide +kernel
theorem dX7_threshold_2 : decode cX7_threshold 2 = .ok (.iconst 2, 1) := by decide +kernel
theorem dX7_threshold_3 : decode cX7_threshold 3 = .ok (.invokevirtual 54, 3) := by decide +kernel
theorem dX7_threshold_6 : decode cX7_threshold 6 = .ok (.ifCond .eq 7, 3) := by decide +kernel
theorem dX7_threshold_9 : decode cX7_threshold 9 = .ok (.lconst 0, 1) := by decide +kernel
theorem dX7_threshold_10 : decode cX7_threshold 10 = .ok (.goto 8, 3) := by decide +kernel
theorem dX7_threshold_13 : decode cX7_threshold 13 = .ok (.aload_n 0, 1) := by decide +kernel
theorem dX7_threshold_14 : decode cX7_threshold 14 = .ok (.iload_n 1, 1) := by decide +kernel
theorem dX7_threshold_15 : decode cX7_threshold 15 = .ok (.invokevirtual 90, 3) := by decide +kernel
theorem dX7_threshold_18 : decode cX7_threshold 18 = .ok (.lreturn, 1) := by decide +kernel
set_option maxRecDepth 20000 in
theorem ggX7_estimate_X7_noGroup : GoodIn wsX7_estimate wsX7_noGroup := goodIn_r _ [7, 8, 9, 6, 10, 11, 12, 13, 14, 15, 44, 45, 46, 47, 48, 49, 50, 51, 52, 53, 54, 55, 56] (by decide +kernel) (by decide +kernel)
set_option maxRecDepth 20000 in
theorem gX7_estimate_X7_noGroup : GoodIn wsX7_estimate (wsV RX7 58 RX7 yX7_noGroup wsX7_noGroup) := goodIn_app (goodIn_of _ (by decide +kernel)) ggX7_estimate_X7_noGroup
set_option maxRecDepth 20000 in
theorem ggX7_estimate_X7_thresholdOf : GoodIn wsX7_estimate wsX7_thresholdOf := goodIn_r _ [19, 20, 1, 21, 22, 23, 24, 25, 6, 26, 27, 28, 29, 30, 31, 32, 33, 34, 35, 44, 45, 46, 47, 48, 49, 50, 51, 52, 53, 54, 55, 56] (by decide +kernel) (by decide +kernel)
set_option maxRecDepth 20000 in
theorem gX7_estimate_X7_thresholdOf : GoodIn wsX7_estimate (wsV RX7 90 RX7 yX7_thresholdOf wsX7_thresholdOf) := goodIn_app (goodIn_of _ (by decide +kernel)) ggX7_estimate_X7_thresholdOf
set_option maxRecDepth 20000 in
theorem ggX7_estimate_X7_sampled : GoodIn wsX7_estimate wsX7_sampled := goodIn_r _ [39, 20, 40, 41, 42, 6, 43, 31, 44, 45, 46, 47, 48, 49, 50, 51, 52, 53, 54, 55, 56] (by decide +kernel) (by decide +kernel)
set_option maxRecDepth 20000 in
theorem gX7_estimate_X7_sampled : GoodIn wsX7_estimate (wsV RX7 84 RX7 yX7_sampled wsX7_sampled) := goodIn_app (goodIn_of _ (by decide +kernel)) ggX7_estimate_X7_sampled
set_option maxRecDepth 20000 in
theorem ggX7_estimate_X7_ranked : GoodIn wsX7_estimate wsX7_ranked := goodIn_r _ [26, 27, 28, 29, 6, 30, 31, 32, 33, 34, 35, 1, 22, 44, 45, 46, 47, 48, 49, 50, 51, 52, 53, 54, 55, 56] (by decide +kernel) (by decide +kernel)
set_option maxRecDepth 20000 in
theorem gX7_estimate_X7_ranked : GoodIn wsX7_estimate (wsV RX7 78 RX7 yX7_ranked wsX7_ranked) := goodIn_app (goodIn_of _ (by decide +kernel)) ggX7_estimate_X7_ranked
theorem dX7_estimate_0 : decode cX7_estimate 0 = .ok (.aload_n 0, 1) := by decide +kernel
theorem dX7_estimate_1 : decode cX7_estimate 1 = .ok (.iload_n 1, 1) := by decide +kernel
theorem dX7_estimate_2 : decode cX7_estimate 2 = .ok (.iconst 2, 1) := by decide +kernel
theorem dX7_estimate_3 : decode cX7_estimate 3 = .ok (.iload_n 2, 1) := by decide +kernel
theorem dX7_estimate_4 : decode cX7_estimate 4 = .ok (.invokevirtual 58, 3) := by decide +kernel
theorem dX7_estimate_7 : decode cX7_estimate 7 = .ok (.ifCond .eq 5, 3) := by decide +kernel
theorem dX7_estimate_10 : decode cX7_estimate 10 = .ok (.lconst 0, 1) := by decide +kernel
theorem dX7_estimate_11 : decode cX7_estimate 11 = .ok (.lreturn, 1) := by decide +kernel
theorem dX7_estimate_12 : decode cX7_estimate 12 = .ok (.aload_n 0, 1) := by decide +kernel
theorem dX7_estimate_13 : decode cX7_estimate 13 = .ok (.iload_n 1, 1) := by decide +kernel
theorem dX7_estimate_14 : decode cX7_estimate 14 = .ok (.invokevirtual 90, 3) := by decide +kernel
theorem dX7_estimate_17 : decode cX7_estimate 17 = .ok (.lstore_n 3, 1) := by decide +kernel
theorem dX7_estimate_18 : decode cX7_estimate 18 = .ok (.lconst 0, 1) := by decide +kernel
theorem dX7_estimate_19 : decode cX7_estimate 19 = .ok (.lstore 5, 2) := by decide +kernel
theorem dX7_estimate_21 : decode cX7_estimate 21 = .ok (.iconst 0, 1) := by decide +kernel
theorem dX7_estimate_22 : decode cX7_estimate 22 = .ok (.istore 7, 2) := by decide +kernel
theorem dX7_estimate_24 : decode cX7_estimate 24 = .ok (.iload 7, 2) := by decide +kernel
theorem dX7_estimate_26 : decode cX7_estimate 26 = .ok (.aload_n 0, 1) := by decide +kernel
theorem dX7_estimate_27 : decode cX7_estimate 27 = .ok (.iload_n 1, 1) := by decide +kernel
theorem dX7_estimate_28 : decode cX7_estimate 28 = .ok (.invokevirtual 84, 3) := by decide +kernel
theorem dX7_estimate_31 : decode cX7_estimate 31 = .ok (.if_icmp .ge 67, 3) := by decide +kernel
theorem dX7_estimate_34 : decode cX7_estimate 34 = .ok (.aload_n 0, 1) := by decide +kernel
theorem dX7_estimate_35 : decode cX7_estimate 35 = .ok (.iload_n 1, 1) := by decide +kernel
theorem dX7_estimate_36 : decode cX7_estimate 36 = .ok (.iload 7, 2) := by decide +kernel
theorem dX7_estimate_38 : decode cX7_estimate 38 = .ok (.invokevirtual 78, 3) := by decide +kernel
theorem dX7_estimate_41 : decode cX7_estimate 41 = .ok (.istore 8, 2) := by decide +kernel
theorem dX7_estimate_43 : decode cX7_estimate 43 = .ok (.aload_n 0, 1) := by decide +kernel
theorem dX7_estimate_44 : decode cX7_estimate 44 = .ok (.getfield 23, 3) := by decide +kernel
theorem dX7_estimate_47 : decode cX7_estimate 47 = .ok (.iload 8, 2) := by decide +kernel
theorem dX7_estimate_49 : decode cX7_estimate 49 = .ok (.iaload, 1) := by decide +kernel
theorem dX7_estimate_50 : decode cX7_estimate 50 = .ok (.i2l, 1) := by decide +kernel
theorem dX7_estimate_51 : decode cX7_estimate 51 = .ok (.lload_n 3, 1) := by decide +kernel
theorem dX7_estimate_52 : decode cX7_estimate 52 = .ok (.lcmp, 1) := by decide +kernel
theorem dX7_estimate_53 : decode cX7_estimate 53 = .ok (.ifCond .le 14, 3) := by decide +kernel
theorem dX7_estimate_56 : decode cX7_estimate 56 = .ok (.aload_n 0, 1) := by decide +kernel
theorem dX7_estimate_57 : decode cX7_estimate 57 = .ok (.getfield 23, 3) := by decide +kernel
theorem dX7_estimate_60 : decode cX7_estimate 60 = .ok (.iload 8, 2) := by decide +kernel
theorem dX7_estimate_62 : decode cX7_estimate 62 = .ok (.iaload, 1) := by decide +kernel
theorem dX7_estimate_63 : decode cX7_estimate 63 = .ok (.i2l, 1) := by decide +kernel
theorem dX7_estimate_64 : decode cX7_estimate 64 = .ok (.goto 4, 3) := by decide +kernel
theorem dX7_estimate_67 : decode cX7_estimate 67 = .ok (.lload_n 3, 1) := by decide +kernel
theorem dX7_estimate_68 : decode cX7_estimate 68 = .ok (.lstore 9, 2) := by decide +kernel
theorem dX7_estimate_70 : decode cX7_estimate 70 = .ok (.lload 5, 2) := by decide +kernel
theorem dX7_estimate_72 : decode cX7_estimate 72 = .ok (.aload_n 0, 1) := by decide +kernel
theorem dX7_estimate_73 : decode cX7_estimate 73 = .ok (.getfield 26, 3) := by decide +kernel
theorem dX7_estimate_76 : decode cX7_estimate 76 = .ok (.iload 8, 2) := by decide +kernel
theorem dX7_estimate_78 : decode cX7_estimate 78 = .ok (.iaload, 1) := by decide +kernel
theorem dX7_estimate_79 : decode cX7_estimate 79 = .ok (.iload_n 2, 1) := by decide +kernel
theorem dX7_estimate_80 : decode cX7_estimate 80 = .ok (.if_icmp .ne 8, 3) := by decide +kernel
theorem dX7_estimate_83 : decode cX7_estimate 83 = .ok (.lload 9, 2) := by decide +kernel
theorem dX7_estimate_85 : decode cX7_estimate 85 = .ok (.goto 4, 3) := by decide +kernel
theorem dX7_estimate_88 : decode cX7_estimate 88 = .ok (.lconst 0, 1) := by decide +kernel
theorem dX7_estimate_89 : decode cX7_estimate 89 = .ok (.ladd, 1) := by decide +kernel
theorem dX7_estimate_90 : decode cX7_estimate 90 = .ok (.lstore 5, 2) := by decide +kernel
theorem dX7_estimate_92 : decode cX7_estimate 92 = .ok (.iinc 7 1, 3) := by decide +kernel
theorem dX7_estimate_95 : decode cX7_estimate 95 = .ok (.goto (-71), 3) := by decide +kernel
theorem dX7_estimate_98 : decode cX7_estimate 98 = .ok (.lload 5, 2) := by decide +kernel
theorem dX7_estimate_100 : decode cX7_estimate 100 = .ok (.lreturn, 1) := by decide +kernel
set_option maxRecDepth 20000 in
theorem ggX7_sampledWeight_X7_noGroup : GoodIn wsX7_sampledWeight wsX7_noGroup := goodIn_r _ [7, 8, 9, 6, 10, 11, 12, 13, 14, 15, 39, 40, 41, 42, 43, 44, 45, 46, 47, 48, 49, 50, 51] (by decide +kernel) (by decide +kernel)
set_option maxRecDepth 20000 in
theorem gX7_sampledWeight_X7_noGroup : GoodIn wsX7_sampledWeight (wsV RX7 58 RX7 yX7_noGroup wsX7_noGroup) := goodIn_app (goodIn_of _ (by decide +kernel)) ggX7_sampledWeight_X7_noGroup
set_option maxRecDepth 20000 in
theorem ggX7_sampledWeight_X7_sampled : GoodIn wsX7_sampledWeight wsX7_sampled := goodIn_r _ [19, 20, 21, 22, 23, 6, 24, 25, 39, 40, 41, 42, 43, 44, 45, 46, 47, 48, 49, 50, 51] (by decide +kernel) (by decide +kernel)
set_option maxRecDepth 20000 in
theorem gX7_sampledWeight_X7_sampled : GoodIn wsX7_sampledWeight (wsV RX7 84 RX7 yX7_sampled wsX7_sampled) := goodIn_app (goodIn_of _ (by decide +kernel)) ggX7_sampledWeight_X7_sampled
set_option maxRecDepth 20000 in
theorem ggX7_sampledWeight_X7_ranked : GoodIn wsX7_sampledWeight wsX7_ranked := goodIn_r _ [29, 30, 31, 32, 6, 33, 25, 34, 35, 36, 37, 2, 38, 39, 40, 41, 42, 43, 44, 45, 46, 47, 48, 49, 50, 51] (by decide +kernel) (by decide +kernel)
set_option maxRecDepth 20000 in
theorem gX7_sampledWeight_X7_ranked : GoodIn wsX7_sampledWeight (wsV RX7 78 RX7 yX7_ranked wsX7_ranked) := goodIn_app (goodIn_of _ (by decide +kernel)) ggX7_sampledWeight_X7_ranked
theorem dX7_sampledWeight_0 : decode cX7_sampledWeight 0 = .ok (.aload_n 0, 1) := by decide +kernel
theorem dX7_sampledWeight_1 : decode cX7_sampledWeight 1 = .ok (.iload_n 1, 1) := by decide +kernel
theorem dX7_sampledWeight_2 : decode cX7_sampledWeight 2 = .ok (.iconst 2, 1) := by decide +kernel
theorem dX7_sampledWeight_3 : decode cX7_sampledWeight 3 = .ok (.iload_n 2, 1) := by decide +kernel
theorem dX7_sampledWeight_4 : decode cX7_sampledWeight 4 = .ok (.invokevirtual 58, 3) := by decide +kernel
theorem dX7_sampledWeight_7 : decode cX7_sampledWeight 7 = .ok (.ifCond .eq 5, 3) := by decide +kernel
theorem dX7_sampledWeight_10 : decode cX7_sampledWeight 10 = .ok (.iconst 0, 1) := by decide +kernel
theorem dX7_sampledWeight_11 : decode cX7_sampledWeight 11 = .ok (.ireturn, 1) := by decide +kernel
theorem dX7_sampledWeight_12 : decode cX7_sampledWeight 12 = .ok (.iconst 0, 1) := by decide +kernel
theorem dX7_sampledWeight_13 : decode cX7_sampledWeight 13 = .ok (.istore_n 3, 1) := by decide +kernel
theorem dX7_sampledWeight_14 : decode cX7_sampledWeight 14 = .ok (.iconst 0, 1) := by decide +kernel
theorem dX7_sampledWeight_15 : decode cX7_sampledWeight 15 = .ok (.istore 4, 2) := by decide +kernel
theorem dX7_sampledWeight_17 : decode cX7_sampledWeight 17 = .ok (.iload 4, 2) := by decide +kernel
theorem dX7_sampledWeight_19 : decode cX7_sampledWeight 19 = .ok (.aload_n 0, 1) := by decide +kernel
theorem dX7_sampledWeight_20 : decode cX7_sampledWeight 20 = .ok (.iload_n 1, 1) := by decide +kernel
theorem dX7_sampledWeight_21 : decode cX7_sampledWeight 21 = .ok (.invokevirtual 84, 3) := by decide +kernel
theorem dX7_sampledWeight_24 : decode cX7_sampledWeight 24 = .ok (.if_icmp .ge 43, 3) := by decide +kernel
theorem dX7_sampledWeight_27 : decode cX7_sampledWeight 27 = .ok (.aload_n 0, 1) := by decide +kernel
theorem dX7_sampledWeight_28 : decode cX7_sampledWeight 28 = .ok (.iload_n 1, 1) := by decide +kernel
theorem dX7_sampledWeight_29 : decode cX7_sampledWeight 29 = .ok (.iload 4, 2) := by decide +kernel
theorem dX7_sampledWeight_31 : decode cX7_sampledWeight 31 = .ok (.invokevirtual 78, 3) := by decide +kernel
theorem dX7_sampledWeight_34 : decode cX7_sampledWeight 34 = .ok (.istore 5, 2) := by decide +kernel
theorem dX7_sampledWeight_36 : decode cX7_sampledWeight 36 = .ok (.iload_n 3, 1) := by decide +kernel
theorem dX7_sampledWeight_37 : decode cX7_sampledWeight 37 = .ok (.aload_n 0, 1) := by decide +kernel
theorem dX7_sampledWeight_38 : decode cX7_sampledWeight 38 = .ok (.getfield 26, 3) := by decide +kernel
theorem dX7_sampledWeight_41 : decode cX7_sampledWeight 41 = .ok (.iload 5, 2) := by decide +kernel
theorem dX7_sampledWeight_43 : decode cX7_sampledWeight 43 = .ok (.iaload, 1) := by decide +kernel
theorem dX7_sampledWeight_44 : decode cX7_sampledWeight 44 = .ok (.iload_n 2, 1) := by decide +kernel
theorem dX7_sampledWeight_45 : decode cX7_sampledWeight 45 = .ok (.if_icmp .ne 13, 3) := by decide +kernel
theorem dX7_sampledWeight_48 : decode cX7_sampledWeight 48 = .ok (.aload_n 0, 1) := by decide +kernel
theorem dX7_sampledWeight_49 : decode cX7_sampledWeight 49 = .ok (.getfield 23, 3) := by decide +kernel
theorem dX7_sampledWeight_52 : decode cX7_sampledWeight 52 = .ok (.iload 5, 2) := by decide +kernel
theorem dX7_sampledWeight_54 : decode cX7_sampledWeight 54 = .ok (.iaload, 1) := by decide +kernel
theorem dX7_sampledWeight_55 : decode cX7_sampledWeight 55 = .ok (.goto 4, 3) := by decide +kernel
theorem dX7_sampledWeight_58 : decode cX7_sampledWeight 58 = .ok (.iconst 0, 1) := by decide +kernel
theorem dX7_sampledWeight_59 : decode cX7_sampledWeight 59 = .ok (.iadd, 1) := by decide +kernel
theorem dX7_sampledWeight_60 : decode cX7_sampledWeight 60 = .ok (.istore_n 3, 1) := by decide +kernel
theorem dX7_sampledWeight_61 : decode cX7_sampledWeight 61 = .ok (.iinc 4 1, 3) := by decide +kernel
theorem dX7_sampledWeight_64 : decode cX7_sampledWeight 64 = .ok (.goto (-47), 3) := by decide +kernel
theorem dX7_sampledWeight_67 : decode cX7_sampledWeight 67 = .ok (.iload_n 3, 1) := by decide +kernel
theorem dX7_sampledWeight_68 : decode cX7_sampledWeight 68 = .ok (.ireturn, 1) := by decide +kernel
theorem dX7_hash_0 : decode cX7_hash 0 = .ok (.iload_n 0, 1) := by decide +kernel
theorem dX7_hash_1 : decode cX7_hash 1 = .ok (.i2l, 1) := by decide +kernel
theorem dX7_hash_2 : decode cX7_hash 2 = .ok (.ldc2_w 94, 3) := by decide +kernel
theorem dX7_hash_5 : decode cX7_hash 5 = .ok (.lmul, 1) := by decide +kernel
theorem dX7_hash_6 : decode cX7_hash 6 = .ok (.ldc2_w 96, 3) := by decide +kernel
theorem dX7_hash_9 : decode cX7_hash 9 = .ok (.lrem, 1) := by decide +kernel
theorem dX7_hash_10 : decode cX7_hash 10 = .ok (.lconst 1, 1) := by decide +kernel
theorem dX7_hash_11 : decode cX7_hash 11 = .ok (.ladd, 1) := by decide +kernel
theorem dX7_hash_12 : decode cX7_hash 12 = .ok (.lreturn, 1) := by decide +kernel
set_option maxRecDepth 20000 in
theorem ggX7_distinct_X7_isOf : GoodIn wsX7_distinct wsX7_isOf := goodIn_r _ [7, 8, 9, 10, 11, 12, 13, 14, 15, 16, 17, 18, 19, 20, 21] (by decide +kernel) (by decide +kernel)
set_option maxRecDepth 20000 in
theorem gX7_distinct_X7_isOf : GoodIn wsX7_distinct (wsV RX7 61 RX7 yX7_isOf wsX7_isOf) := goodIn_app (goodIn_of _ (by decide +kernel)) ggX7_distinct_X7_isOf
theorem dX7_distinct_0 : decode cX7_distinct 0 = .ok (.iconst 0, 1) := by decide +kernel
theorem dX7_distinct_1 : decode cX7_distinct 1 = .ok (.istore_n 2, 1) := by decide +kernel
theorem dX7_distinct_2 : decode cX7_distinct 2 = .ok (.iconst 0, 1) := by decide +kernel
theorem dX7_distinct_3 : decode cX7_distinct 3 = .ok (.istore_n 3, 1) := by decide +kernel
theorem dX7_distinct_4 : decode cX7_distinct 4 = .ok (.iload_n 3, 1) := by decide +kernel
theorem dX7_distinct_5 : decode cX7_distinct 5 = .ok (.sipush 600, 3) := by decide +kernel
theorem dX7_distinct_8 : decode cX7_distinct 8 = .ok (.if_icmp .ge 99, 3) := by decide +kernel
theorem dX7_distinct_11 : decode cX7_distinct 11 = .ok (.aload_n 0, 1) := by decide +kernel
theorem dX7_distinct_12 : decode cX7_distinct 12 = .ok (.getfield 35, 3) := by decide +kernel
theorem dX7_distinct_15 : decode cX7_distinct 15 = .ok (.iload_n 3, 1) := by decide +kernel
theorem dX7_distinct_16 : decode cX7_distinct 16 = .ok (.aload_n 0, 1) := by decide +kernel
theorem dX7_distinct_17 : decode cX7_distinct 17 = .ok (.iload_n 1, 1) := by decide +kernel
theorem dX7_distinct_18 : decode cX7_distinct 18 = .ok (.iload_n 3, 1) := by decide +kernel
theorem dX7_distinct_19 : decode cX7_distinct 19 = .ok (.invokevirtual 61, 3) := by decide +kernel
theorem dX7_distinct_22 : decode cX7_distinct 22 = .ok (.bastore, 1) := by decide +kernel
theorem dX7_distinct_23 : decode cX7_distinct 23 = .ok (.iconst 0, 1) := by decide +kernel
theorem dX7_distinct_24 : decode cX7_distinct 24 = .ok (.istore 4, 2) := by decide +kernel
theorem dX7_distinct_26 : decode cX7_distinct 26 = .ok (.iload 4, 2) := by decide +kernel
theorem dX7_distinct_28 : decode cX7_distinct 28 = .ok (.iload_n 3, 1) := by decide +kernel
theorem dX7_distinct_29 : decode cX7_distinct 29 = .ok (.if_icmp .ge 55, 3) := by decide +kernel
theorem dX7_distinct_32 : decode cX7_distinct 32 = .ok (.aload_n 0, 1) := by decide +kernel
theorem dX7_distinct_33 : decode cX7_distinct 33 = .ok (.getfield 35, 3) := by decide +kernel
theorem dX7_distinct_36 : decode cX7_distinct 36 = .ok (.iload_n 3, 1) := by decide +kernel
theorem dX7_distinct_37 : decode cX7_distinct 37 = .ok (.baload, 1) := by decide +kernel
theorem dX7_distinct_38 : decode cX7_distinct 38 = .ok (.ifCond .eq 46, 3) := by decide +kernel
theorem dX7_distinct_41 : decode cX7_distinct 41 = .ok (.aload_n 0, 1) := by decide +kernel
theorem dX7_distinct_42 : decode cX7_distinct 42 = .ok (.getfield 35, 3) := by decide +kernel
theorem dX7_distinct_45 : decode cX7_distinct 45 = .ok (.iload_n 3, 1) := by decide +kernel
theorem dX7_distinct_46 : decode cX7_distinct 46 = .ok (.aload_n 0, 1) := by decide +kernel
theorem dX7_distinct_47 : decode cX7_distinct 47 = .ok (.iload_n 1, 1) := by decide +kernel
theorem dX7_distinct_48 : decode cX7_distinct 48 = .ok (.iload 4, 2) := by decide +kernel
theorem dX7_distinct_50 : decode cX7_distinct 50 = .ok (.invokevirtual 61, 3) := by decide +kernel
theorem dX7_distinct_53 : decode cX7_distinct 53 = .ok (.ifCond .eq 19, 3) := by decide +kernel
theorem dX7_distinct_56 : decode cX7_distinct 56 = .ok (.aload_n 0, 1) := by decide +kernel
theorem dX7_distinct_57 : decode cX7_distinct 57 = .ok (.getfield 20, 3) := by decide +kernel
theorem dX7_distinct_60 : decode cX7_distinct 60 = .ok (.iload 4, 2) := by decide +kernel
theorem dX7_distinct_62 : decode cX7_distinct 62 = .ok (.iaload, 1) := by decide +kernel
theorem dX7_distinct_63 : decode cX7_distinct 63 = .ok (.aload_n 0, 1) := by decide +kernel
theorem dX7_distinct_64 : decode cX7_distinct 64 = .ok (.getfield 20, 3) := by decide +kernel
theorem dX7_distinct_67 : decode cX7_distinct 67 = .ok (.iload_n 3, 1) := by decide +kernel
theorem dX7_distinct_68 : decode cX7_distinct 68 = .ok (.iaload, 1) := by decide +kernel
theorem dX7_distinct_69 : decode cX7_distinct 69 = .ok (.if_icmp .eq 7, 3) := by decide +kernel
theorem dX7_distinct_72 : decode cX7_distinct 72 = .ok (.iconst 1, 1) := by decide +kernel
theorem dX7_distinct_73 : decode cX7_distinct 73 = .ok (.goto 4, 3) := by decide +kernel
theorem dX7_distinct_76 : decode cX7_distinct 76 = .ok (.iconst 0, 1) := by decide +kernel
theorem dX7_distinct_77 : decode cX7_distinct 77 = .ok (.bastore, 1) := by decide +kernel
theorem dX7_distinct_78 : decode cX7_distinct 78 = .ok (.iinc 4 1, 3) := by decide +kernel
theorem dX7_distinct_81 : decode cX7_distinct 81 = .ok (.goto (-55), 3) := by decide +kernel
theorem dX7_distinct_84 : decode cX7_distinct 84 = .ok (.iload_n 2, 1) := by decide +kernel
theorem dX7_distinct_85 : decode cX7_distinct 85 = .ok (.aload_n 0, 1) := by decide +kernel
theorem dX7_distinct_86 : decode cX7_distinct 86 = .ok (.getfield 35, 3) := by decide +kernel
theorem dX7_distinct_89 : decode cX7_distinct 89 = .ok (.iload_n 3, 1) := by decide +kernel
theorem dX7_distinct_90 : decode cX7_distinct 90 = .ok (.baload, 1) := by decide +kernel
theorem dX7_distinct_91 : decode cX7_distinct 91 = .ok (.ifCond .eq 7, 3) := by decide +kernel
theorem dX7_distinct_94 : decode cX7_distinct 94 = .ok (.iconst 1, 1) := by decide +kernel
theorem dX7_distinct_95 : decode cX7_distinct 95 = .ok (.goto 4, 3) := by decide +kernel
theorem dX7_distinct_98 : decode cX7_distinct 98 = .ok (.iconst 0, 1) := by decide +kernel
theorem dX7_distinct_99 : decode cX7_distinct 99 = .ok (.iadd, 1) := by decide +kernel
theorem dX7_distinct_100 : decode cX7_distinct 100 = .ok (.istore_n 2, 1) := by decide +kernel
theorem dX7_distinct_101 : decode cX7_distinct 101 = .ok (.iinc 3 1, 3) := by decide +kernel
theorem dX7_distinct_104 : decode cX7_distinct 104 = .ok (.goto (-100), 3) := by decide +kernel
theorem dX7_distinct_107 : decode cX7_distinct 107 = .ok (.iload_n 2, 1) := by decide +kernel
theorem dX7_distinct_108 : decode cX7_distinct 108 = .ok (.ireturn, 1) := by decide +kernel
set_option maxRecDepth 20000 in
theorem ggX7_distinctIn_X7_distinct : GoodIn wsX7_distinctIn wsX7_distinct := goodIn_r _ [6, 7, 8, 9, 10, 11, 5, 12, 13, 14, 15, 16, 17, 18, 19, 20, 21, 22, 23, 24, 25, 26] (by decide +kernel) (by decide +kernel)
set_option maxRecDepth 20000 in
theorem gX7_distinctIn_X7_distinct : GoodIn wsX7_distinctIn (wsV RX7 98 RX7 yX7_distinct wsX7_distinct) := goodIn_app (goodIn_of _ (by decide +kernel)) ggX7_distinctIn_X7_distinct
theorem dX7_distinctIn_0 : decode cX7_distinctIn 0 = .ok (.aload_n 0, 1) := by decide +kernel
theorem dX7_distinctIn_1 : decode cX7_distinctIn 1 = .ok (.iload_n 1, 1) := by decide +kernel
theorem dX7_distinctIn_2 : decode cX7_distinctIn 2 = .ok (.invokevirtual 98, 3) := by decide +kernel
theorem dX7_distinctIn_5 : decode cX7_distinctIn 5 = .ok (.istore_n 2, 1) := by decide +kernel
theorem dX7_distinctIn_6 : decode cX7_distinctIn 6 = .ok (.iload_n 2, 1) := by decide +kernel
theorem dX7_distinctIn_7 : decode cX7_distinctIn 7 = .ok (.aload_n 0, 1) := by decide +kernel
theorem dX7_distinctIn_8 : decode cX7_distinctIn 8 = .ok (.getfield 7, 3) := by decide +kernel
theorem dX7_distinctIn_11 : decode cX7_distinctIn 11 = .ok (.if_icmp .ge 7, 3) := by decide +kernel
theorem dX7_distinctIn_14 : decode cX7_distinctIn 14 = .ok (.iload_n 2, 1) := by decide +kernel
theorem dX7_distinctIn_15 : decode cX7_distinctIn 15 = .ok (.goto 7, 3) := by decide +kernel
theorem dX7_distinctIn_18 : decode cX7_distinctIn 18 = .ok (.aload_n 0, 1) := by decide +kernel
theorem dX7_distinctIn_19 : decode cX7_distinctIn 19 = .ok (.getfield 7, 3) := by decide +kernel
theorem dX7_distinctIn_22 : decode cX7_distinctIn 22 = .ok (.ireturn, 1) := by decide +kernel
set_option maxRecDepth 20000 in
theorem ggX7_hashed_X7_hash : GoodIn wsX7_hashed wsX7_hash := goodIn_r _ [6, 7, 8] (by decide +kernel) (by decide +kernel)
set_option maxRecDepth 20000 in
theorem gX7_hashed_X7_hash : GoodIn wsX7_hashed (va_wsS RX7 101 yX7_hash wsX7_hash) := goodIn_app (goodIn_of _ (by decide +kernel)) ggX7_hashed_X7_hash
theorem dX7_hashed_0 : decode cX7_hashed 0 = .ok (.iconst (-1), 1) := by decide +kernel
theorem dX7_hashed_1 : decode cX7_hashed 1 = .ok (.istore_n 2, 1) := by decide +kernel
theorem dX7_hashed_2 : decode cX7_hashed 2 = .ok (.iconst 0, 1) := by decide +kernel
theorem dX7_hashed_3 : decode cX7_hashed 3 = .ok (.istore_n 3, 1) := by decide +kernel
theorem dX7_hashed_4 : decode cX7_hashed 4 = .ok (.iload_n 3, 1) := by decide +kernel
theorem dX7_hashed_5 : decode cX7_hashed 5 = .ok (.sipush 600, 3) := by decide +kernel
theorem dX7_hashed_8 : decode cX7_hashed 8 = .ok (.if_icmp .ge 93, 3) := by decide +kernel
theorem dX7_hashed_11 : decode cX7_hashed 11 = .ok (.aload_n 0, 1) := by decide +kernel
theorem dX7_hashed_12 : decode cX7_hashed 12 = .ok (.getfield 35, 3) := by decide +kernel
theorem dX7_hashed_15 : decode cX7_hashed 15 = .ok (.iload_n 3, 1) := by decide +kernel
theorem dX7_hashed_16 : decode cX7_hashed 16 = .ok (.baload, 1) := by decide +kernel
theorem dX7_hashed_17 : decode cX7_hashed 17 = .ok (.ifCond .eq 78, 3) := by decide +kernel
theorem dX7_hashed_20 : decode cX7_hashed 20 = .ok (.iconst 0, 1) := by decide +kernel
theorem dX7_hashed_21 : decode cX7_hashed 21 = .ok (.istore 4, 2) := by decide +kernel
theorem dX7_hashed_23 : decode cX7_hashed 23 = .ok (.iconst 0, 1) := by decide +kernel
