theorem dX7_hashed_24 : decode cX7_hashed 24 = .ok (.istore 5, 2) := by decide +kernel
theorem dX7_hashed_26 : decode cX7_hashed 26 = .ok (.iload 5, 2) := by decide +kernel
theorem dX7_hashed_28 : decode cX7_hashed 28 = .ok (.sipush 600, 3) := by decide +kernel
theorem dX7_hashed_31 : decode cX7_hashed 31 = .ok (.if_icmp .ge 52, 3) := by decide +kernel
theorem dX7_hashed_34 : decode cX7_hashed 34 = .ok (.iload 4, 2) := by decide +kernel
theorem dX7_hashed_36 : decode cX7_hashed 36 = .ok (.aload_n 0, 1) := by decide +kernel
theorem dX7_hashed_37 : decode cX7_hashed 37 = .ok (.getfield 35, 3) := by decide +kernel
theorem dX7_hashed_40 : decode cX7_hashed 40 = .ok (.iload 5, 2) := by decide +kernel
theorem dX7_hashed_42 : decode cX7_hashed 42 = .ok (.baload, 1) := by decide +kernel
theorem dX7_hashed_43 : decode cX7_hashed 43 = .ok (.ifCond .eq 30, 3) := by decide +kernel
theorem dX7_hashed_46 : decode cX7_hashed 46 = .ok (.aload_n 0, 1) := by decide +kernel
theorem dX7_hashed_47 : decode cX7_hashed 47 = .ok (.getfield 20, 3) := by decide +kernel
theorem dX7_hashed_50 : decode cX7_hashed 50 = .ok (.iload 5, 2) := by decide +kernel
theorem dX7_hashed_52 : decode cX7_hashed 52 = .ok (.iaload, 1) := by decide +kernel
theorem dX7_hashed_53 : decode cX7_hashed 53 = .ok (.invokestatic 101, 3) := by decide +kernel
theorem dX7_hashed_56 : decode cX7_hashed 56 = .ok (.aload_n 0, 1) := by decide +kernel
theorem dX7_hashed_57 : decode cX7_hashed 57 = .ok (.getfield 20, 3) := by decide +kernel
theorem dX7_hashed_60 : decode cX7_hashed 60 = .ok (.iload_n 3, 1) := by decide +kernel
theorem dX7_hashed_61 : decode cX7_hashed 61 = .ok (.iaload, 1) := by decide +kernel
theorem dX7_hashed_62 : decode cX7_hashed 62 = .ok (.invokestatic 101, 3) := by decide +kernel
theorem dX7_hashed_65 : decode cX7_hashed 65 = .ok (.lcmp, 1) := by decide +kernel
theorem dX7_hashed_66 : decode cX7_hashed 66 = .ok (.ifCond .ge 7, 3) := by decide +kernel
theorem dX7_hashed_69 : decode cX7_hashed 69 = .ok (.iconst 1, 1) := by decide +kernel
theorem dX7_hashed_70 : decode cX7_hashed 70 = .ok (.goto 4, 3) := by decide +kernel
theorem dX7_hashed_73 : decode cX7_hashed 73 = .ok (.iconst 0, 1) := by decide +kernel
theorem dX7_hashed_74 : decode cX7_hashed 74 = .ok (.iadd, 1) := by decide +kernel
theorem dX7_hashed_75 : decode cX7_hashed 75 = .ok (.istore 4, 2) := by decide +kernel
theorem dX7_hashed_77 : decode cX7_hashed 77 = .ok (.iinc 5 1, 3) := by decide +kernel
theorem dX7_hashed_80 : decode cX7_hashed 80 = .ok (.goto (-54), 3) := by decide +kernel
theorem dX7_hashed_83 : decode cX7_hashed 83 = .ok (.iload 4, 2) := by decide +kernel
theorem dX7_hashed_85 : decode cX7_hashed 85 = .ok (.iload_n 1, 1) := by decide +kernel
theorem dX7_hashed_86 : decode cX7_hashed 86 = .ok (.if_icmp .ne 7, 3) := by decide +kernel
theorem dX7_hashed_89 : decode cX7_hashed 89 = .ok (.iload_n 3, 1) := by decide +kernel
theorem dX7_hashed_90 : decode cX7_hashed 90 = .ok (.goto 4, 3) := by decide +kernel
theorem dX7_hashed_93 : decode cX7_hashed 93 = .ok (.iload_n 2, 1) := by decide +kernel
theorem dX7_hashed_94 : decode cX7_hashed 94 = .ok (.istore_n 2, 1) := by decide +kernel
theorem dX7_hashed_95 : decode cX7_hashed 95 = .ok (.iinc 3 1, 3) := by decide +kernel
theorem dX7_hashed_98 : decode cX7_hashed 98 = .ok (.goto (-94), 3) := by decide +kernel
theorem dX7_hashed_101 : decode cX7_hashed 101 = .ok (.iload_n 2, 1) := by decide +kernel
theorem dX7_hashed_102 : decode cX7_hashed 102 = .ok (.ireturn, 1) := by decide +kernel
set_option maxRecDepth 20000 in
theorem ggX7_distinctSize_X7_noStream : GoodIn wsX7_distinctSize wsX7_noStream := goodIn_r _ [5, 6, 7, 4, 8, 9, 10, 11, 12, 13, 30, 31, 32, 33, 34, 35, 36, 37, 38, 39, 40, 41, 42] (by decide +kernel) (by decide +kernel)
set_option maxRecDepth 20000 in
theorem gX7_distinctSize_X7_noStream : GoodIn wsX7_distinctSize (wsV RX7 54 RX7 yX7_noStream wsX7_noStream) := goodIn_app (goodIn_of _ (by decide +kernel)) ggX7_distinctSize_X7_noStream
set_option maxRecDepth 20000 in
theorem ggX7_distinctSize_X7_distinctIn : GoodIn wsX7_distinctSize wsX7_distinctIn := goodIn_r _ [17, 18, 19, 20, 21, 4, 22, 23, 24, 25, 26, 27, 28, 29, 30, 31, 32, 33, 34, 35, 36, 37, 38, 39, 40, 41, 42] (by decide +kernel) (by decide +kernel)
set_option maxRecDepth 20000 in
theorem gX7_distinctSize_X7_distinctIn : GoodIn wsX7_distinctSize (wsV RX7 104 RX7 yX7_distinctIn wsX7_distinctIn) := goodIn_app (goodIn_of _ (by decide +kernel)) ggX7_distinctSize_X7_distinctIn
theorem dX7_distinctSize_0 : decode cX7_distinctSize 0 = .ok (.aload_n 0, 1) := by decide +kernel
theorem dX7_distinctSize_1 : decode cX7_distinctSize 1 = .ok (.iload_n 1, 1) := by decide +kernel
theorem dX7_distinctSize_2 : decode cX7_distinctSize 2 = .ok (.iconst 2, 1) := by decide +kernel
theorem dX7_distinctSize_3 : decode cX7_distinctSize 3 = .ok (.invokevirtual 54, 3) := by decide +kernel
theorem dX7_distinctSize_6 : decode cX7_distinctSize 6 = .ok (.ifCond .eq 7, 3) := by decide +kernel
theorem dX7_distinctSize_9 : decode cX7_distinctSize 9 = .ok (.iconst 0, 1) := by decide +kernel
theorem dX7_distinctSize_10 : decode cX7_distinctSize 10 = .ok (.goto 8, 3) := by decide +kernel
theorem dX7_distinctSize_13 : decode cX7_distinctSize 13 = .ok (.aload_n 0, 1) := by decide +kernel
theorem dX7_distinctSize_14 : decode cX7_distinctSize 14 = .ok (.iload_n 1, 1) := by decide +kernel
theorem dX7_distinctSize_15 : decode cX7_distinctSize 15 = .ok (.invokevirtual 104, 3) := by decide +kernel
theorem dX7_distinctSize_18 : decode cX7_distinctSize 18 = .ok (.ireturn, 1) := by decide +kernel
set_option maxRecDepth 20000 in
theorem ggX7_distinctAt_X7_in : GoodIn wsX7_distinctAt wsX7_in := goodIn_r _ [4] (by decide +kernel) (by decide +kernel)
set_option maxRecDepth 20000 in
theorem gX7_distinctAt_X7_in : GoodIn wsX7_distinctAt (va_wsS RX7 45 yX7_in wsX7_in) := goodIn_app (goodIn_of _ (by decide +kernel)) ggX7_distinctAt_X7_in
set_option maxRecDepth 20000 in
theorem ggX7_distinctAt_X7_distinctIn : GoodIn wsX7_distinctAt wsX7_distinctIn := goodIn_r _ [8, 9, 10, 11, 12, 3, 13, 14, 15, 16, 17, 18, 19, 20, 35, 36, 37, 38, 39, 40, 41, 42, 43, 44, 45, 46, 47] (by decide +kernel) (by decide +kernel)
set_option maxRecDepth 20000 in
theorem gX7_distinctAt_X7_distinctIn : GoodIn wsX7_distinctAt (wsV RX7 104 RX7 yX7_distinctIn wsX7_distinctIn) := goodIn_app (goodIn_of _ (by decide +kernel)) ggX7_distinctAt_X7_distinctIn
set_option maxRecDepth 20000 in
theorem ggX7_distinctAt_X7_refused : GoodIn wsX7_distinctAt wsX7_refused := goodIn_r _ [24, 25, 35, 36, 37, 38, 39, 40, 41, 42, 43, 44, 45, 46, 47] (by decide +kernel) (by decide +kernel)
set_option maxRecDepth 20000 in
theorem gX7_distinctAt_X7_refused : GoodIn wsX7_distinctAt (wsV RX7 49 RX7 yX7_refused wsX7_refused) := goodIn_app (goodIn_of _ (by decide +kernel)) ggX7_distinctAt_X7_refused
set_option maxRecDepth 20000 in
theorem ggX7_distinctAt_X7_hashed : GoodIn wsX7_distinctAt wsX7_hashed := goodIn_r _ [29, 14, 15, 30, 31, 3, 32, 33, 34, 35, 36, 37, 38, 39, 40, 41, 42, 43, 44, 45, 46, 47] (by decide +kernel) (by decide +kernel)
set_option maxRecDepth 20000 in
theorem gX7_distinctAt_X7_hashed : GoodIn wsX7_distinctAt (wsV RX7 107 RX7 yX7_hashed wsX7_hashed) := goodIn_app (goodIn_of _ (by decide +kernel)) ggX7_distinctAt_X7_hashed
theorem dX7_distinctAt_0 : decode cX7_distinctAt 0 = .ok (.iload_n 1, 1) := by decide +kernel
theorem dX7_distinctAt_1 : decode cX7_distinctAt 1 = .ok (.iconst 0, 1) := by decide +kernel
theorem dX7_distinctAt_2 : decode cX7_distinctAt 2 = .ok (.iconst 2, 1) := by decide +kernel
theorem dX7_distinctAt_3 : decode cX7_distinctAt 3 = .ok (.invokestatic 45, 3) := by decide +kernel
theorem dX7_distinctAt_6 : decode cX7_distinctAt 6 = .ok (.istore_n 3, 1) := by decide +kernel
theorem dX7_distinctAt_7 : decode cX7_distinctAt 7 = .ok (.iload_n 3, 1) := by decide +kernel
theorem dX7_distinctAt_8 : decode cX7_distinctAt 8 = .ok (.ifCond .eq 22, 3) := by decide +kernel
theorem dX7_distinctAt_11 : decode cX7_distinctAt 11 = .ok (.iload_n 2, 1) := by decide +kernel
theorem dX7_distinctAt_12 : decode cX7_distinctAt 12 = .ok (.iconst 0, 1) := by decide +kernel
theorem dX7_distinctAt_13 : decode cX7_distinctAt 13 = .ok (.aload_n 0, 1) := by decide +kernel
theorem dX7_distinctAt_14 : decode cX7_distinctAt 14 = .ok (.iload_n 1, 1) := by decide +kernel
theorem dX7_distinctAt_15 : decode cX7_distinctAt 15 = .ok (.invokevirtual 104, 3) := by decide +kernel
theorem dX7_distinctAt_18 : decode cX7_distinctAt 18 = .ok (.iconst 1, 1) := by decide +kernel
theorem dX7_distinctAt_19 : decode cX7_distinctAt 19 = .ok (.isub, 1) := by decide +kernel
theorem dX7_distinctAt_20 : decode cX7_distinctAt 20 = .ok (.invokestatic 45, 3) := by decide +kernel
theorem dX7_distinctAt_23 : decode cX7_distinctAt 23 = .ok (.ifCond .eq 7, 3) := by decide +kernel
theorem dX7_distinctAt_26 : decode cX7_distinctAt 26 = .ok (.iconst 1, 1) := by decide +kernel
theorem dX7_distinctAt_27 : decode cX7_distinctAt 27 = .ok (.goto 4, 3) := by decide +kernel
theorem dX7_distinctAt_30 : decode cX7_distinctAt 30 = .ok (.iconst 0, 1) := by decide +kernel
theorem dX7_distinctAt_31 : decode cX7_distinctAt 31 = .ok (.istore 4, 2) := by decide +kernel
theorem dX7_distinctAt_33 : decode cX7_distinctAt 33 = .ok (.aload_n 0, 1) := by decide +kernel
theorem dX7_distinctAt_34 : decode cX7_distinctAt 34 = .ok (.iload_n 3, 1) := by decide +kernel
theorem dX7_distinctAt_35 : decode cX7_distinctAt 35 = .ok (.ifCond .ne 7, 3) := by decide +kernel
theorem dX7_distinctAt_38 : decode cX7_distinctAt 38 = .ok (.iconst 1, 1) := by decide +kernel
theorem dX7_distinctAt_39 : decode cX7_distinctAt 39 = .ok (.goto 13, 3) := by decide +kernel
theorem dX7_distinctAt_42 : decode cX7_distinctAt 42 = .ok (.iload 4, 2) := by decide +kernel
theorem dX7_distinctAt_44 : decode cX7_distinctAt 44 = .ok (.ifCond .eq 7, 3) := by decide +kernel
theorem dX7_distinctAt_47 : decode cX7_distinctAt 47 = .ok (.iconst 0, 1) := by decide +kernel
theorem dX7_distinctAt_48 : decode cX7_distinctAt 48 = .ok (.goto 4, 3) := by decide +kernel
theorem dX7_distinctAt_51 : decode cX7_distinctAt 51 = .ok (.iconst 2, 1) := by decide +kernel
theorem dX7_distinctAt_52 : decode cX7_distinctAt 52 = .ok (.invokevirtual 49, 3) := by decide +kernel
theorem dX7_distinctAt_55 : decode cX7_distinctAt 55 = .ok (.ifCond .eq 7, 3) := by decide +kernel
theorem dX7_distinctAt_58 : decode cX7_distinctAt 58 = .ok (.iconst (-1), 1) := by decide +kernel
theorem dX7_distinctAt_59 : decode cX7_distinctAt 59 = .ok (.goto 8, 3) := by decide +kernel
theorem dX7_distinctAt_62 : decode cX7_distinctAt 62 = .ok (.aload_n 0, 1) := by decide +kernel
theorem dX7_distinctAt_63 : decode cX7_distinctAt 63 = .ok (.iload_n 2, 1) := by decide +kernel
theorem dX7_distinctAt_64 : decode cX7_distinctAt 64 = .ok (.invokevirtual 107, 3) := by decide +kernel
theorem dX7_distinctAt_67 : decode cX7_distinctAt 67 = .ok (.ireturn, 1) := by decide +kernel
set_option maxRecDepth 20000 in
theorem ggX7_distinctItem_X7_distinctAt : GoodIn wsX7_distinctItem wsX7_distinctAt := goodIn_r _ [6, 7, 8, 5, 9, 10, 11, 12, 13, 14, 15, 16, 17, 18, 19, 1, 20, 21, 22, 23, 24, 25, 26, 27, 28, 29, 30, 31, 32, 33, 34, 35, 36, 37, 38, 39, 40, 41, 42, 43, 44, 45, 46, 47, 48, 49, 50, 51] (by decide +kernel) (by decide +kernel)
set_option maxRecDepth 20000 in
theorem gX7_distinctItem_X7_distinctAt : GoodIn wsX7_distinctItem (wsV RX7 110 RX7 yX7_distinctAt wsX7_distinctAt) := goodIn_app (goodIn_of _ (by decide +kernel)) ggX7_distinctItem_X7_distinctAt
theorem dX7_distinctItem_0 : decode cX7_distinctItem 0 = .ok (.aload_n 0, 1) := by decide +kernel
theorem dX7_distinctItem_1 : decode cX7_distinctItem 1 = .ok (.iload_n 1, 1) := by decide +kernel
theorem dX7_distinctItem_2 : decode cX7_distinctItem 2 = .ok (.iload_n 2, 1) := by decide +kernel
theorem dX7_distinctItem_3 : decode cX7_distinctItem 3 = .ok (.invokevirtual 110, 3) := by decide +kernel
theorem dX7_distinctItem_6 : decode cX7_distinctItem 6 = .ok (.istore_n 3, 1) := by decide +kernel
theorem dX7_distinctItem_7 : decode cX7_distinctItem 7 = .ok (.iload_n 3, 1) := by decide +kernel
theorem dX7_distinctItem_8 : decode cX7_distinctItem 8 = .ok (.iconst (-1), 1) := by decide +kernel
theorem dX7_distinctItem_9 : decode cX7_distinctItem 9 = .ok (.if_icmp .ne 7, 3) := by decide +kernel
theorem dX7_distinctItem_12 : decode cX7_distinctItem 12 = .ok (.iconst 0, 1) := by decide +kernel
theorem dX7_distinctItem_13 : decode cX7_distinctItem 13 = .ok (.goto 9, 3) := by decide +kernel
theorem dX7_distinctItem_16 : decode cX7_distinctItem 16 = .ok (.aload_n 0, 1) := by decide +kernel
theorem dX7_distinctItem_17 : decode cX7_distinctItem 17 = .ok (.getfield 20, 3) := by decide +kernel
theorem dX7_distinctItem_20 : decode cX7_distinctItem 20 = .ok (.iload_n 3, 1) := by decide +kernel
theorem dX7_distinctItem_21 : decode cX7_distinctItem 21 = .ok (.iaload, 1) := by decide +kernel
theorem dX7_distinctItem_22 : decode cX7_distinctItem 22 = .ok (.ireturn, 1) := by decide +kernel
set_option maxRecDepth 20000 in
theorem ggX7_distinctOffers_X7_distinctAt : GoodIn wsX7_distinctOffers wsX7_distinctAt := goodIn_r _ [6, 7, 8, 5, 9, 10, 11, 12, 13, 14, 15, 16, 17, 18, 19, 1, 20, 21, 22, 23, 24, 25, 26, 27, 28, 29, 30, 31, 32, 33, 34, 35, 36, 37, 38, 39, 40, 41, 42, 43, 44, 45, 46, 47, 48, 49, 50, 51] (by decide +kernel) (by decide +kernel)
set_option maxRecDepth 20000 in
theorem gX7_distinctOffers_X7_distinctAt : GoodIn wsX7_distinctOffers (wsV RX7 110 RX7 yX7_distinctAt wsX7_distinctAt) := goodIn_app (goodIn_of _ (by decide +kernel)) ggX7_distinctOffers_X7_distinctAt
set_option maxRecDepth 20000 in
theorem ggX7_distinctOffers_X7_isOf : GoodIn wsX7_distinctOffers wsX7_isOf := goodIn_r _ [23, 24, 39, 40, 41, 42, 43, 44, 45, 46, 47, 48, 49, 50, 51] (by decide +kernel) (by decide +kernel)
set_option maxRecDepth 20000 in
theorem gX7_distinctOffers_X7_isOf : GoodIn wsX7_distinctOffers (wsV RX7 61 RX7 yX7_isOf wsX7_isOf) := goodIn_app (goodIn_of _ (by decide +kernel)) ggX7_distinctOffers_X7_isOf
theorem dX7_distinctOffers_0 : decode cX7_distinctOffers 0 = .ok (.aload_n 0, 1) := by decide +kernel
theorem dX7_distinctOffers_1 : decode cX7_distinctOffers 1 = .ok (.iload_n 1, 1) := by decide +kernel
theorem dX7_distinctOffers_2 : decode cX7_distinctOffers 2 = .ok (.iload_n 2, 1) := by decide +kernel
theorem dX7_distinctOffers_3 : decode cX7_distinctOffers 3 = .ok (.invokevirtual 110, 3) := by decide +kernel
theorem dX7_distinctOffers_6 : decode cX7_distinctOffers 6 = .ok (.istore_n 3, 1) := by decide +kernel
theorem dX7_distinctOffers_7 : decode cX7_distinctOffers 7 = .ok (.iconst 0, 1) := by decide +kernel
theorem dX7_distinctOffers_8 : decode cX7_distinctOffers 8 = .ok (.istore 4, 2) := by decide +kernel
theorem dX7_distinctOffers_10 : decode cX7_distinctOffers 10 = .ok (.iconst 0, 1) := by decide +kernel
theorem dX7_distinctOffers_11 : decode cX7_distinctOffers 11 = .ok (.istore 5, 2) := by decide +kernel
theorem dX7_distinctOffers_13 : decode cX7_distinctOffers 13 = .ok (.iload 5, 2) := by decide +kernel
theorem dX7_distinctOffers_15 : decode cX7_distinctOffers 15 = .ok (.sipush 600, 3) := by decide +kernel
theorem dX7_distinctOffers_18 : decode cX7_distinctOffers 18 = .ok (.if_icmp .ge 50, 3) := by decide +kernel
theorem dX7_distinctOffers_21 : decode cX7_distinctOffers 21 = .ok (.iload_n 3, 1) := by decide +kernel
theorem dX7_distinctOffers_22 : decode cX7_distinctOffers 22 = .ok (.iconst (-1), 1) := by decide +kernel
theorem dX7_distinctOffers_23 : decode cX7_distinctOffers 23 = .ok (.if_icmp .eq 45, 3) := by decide +kernel
theorem dX7_distinctOffers_26 : decode cX7_distinctOffers 26 = .ok (.iload 4, 2) := by decide +kernel
theorem dX7_distinctOffers_28 : decode cX7_distinctOffers 28 = .ok (.aload_n 0, 1) := by decide +kernel
theorem dX7_distinctOffers_29 : decode cX7_distinctOffers 29 = .ok (.iload_n 1, 1) := by decide +kernel
theorem dX7_distinctOffers_30 : decode cX7_distinctOffers 30 = .ok (.iload 5, 2) := by decide +kernel
theorem dX7_distinctOffers_32 : decode cX7_distinctOffers 32 = .ok (.invokevirtual 61, 3) := by decide +kernel
theorem dX7_distinctOffers_35 : decode cX7_distinctOffers 35 = .ok (.ifCond .eq 23, 3) := by decide +kernel
theorem dX7_distinctOffers_38 : decode cX7_distinctOffers 38 = .ok (.aload_n 0, 1) := by decide +kernel
theorem dX7_distinctOffers_39 : decode cX7_distinctOffers 39 = .ok (.getfield 20, 3) := by decide +kernel
theorem dX7_distinctOffers_42 : decode cX7_distinctOffers 42 = .ok (.iload 5, 2) := by decide +kernel
theorem dX7_distinctOffers_44 : decode cX7_distinctOffers 44 = .ok (.iaload, 1) := by decide +kernel
theorem dX7_distinctOffers_45 : decode cX7_distinctOffers 45 = .ok (.aload_n 0, 1) := by decide +kernel
theorem dX7_distinctOffers_46 : decode cX7_distinctOffers 46 = .ok (.getfield 20, 3) := by decide +kernel
theorem dX7_distinctOffers_49 : decode cX7_distinctOffers 49 = .ok (.iload_n 3, 1) := by decide +kernel
theorem dX7_distinctOffers_50 : decode cX7_distinctOffers 50 = .ok (.iaload, 1) := by decide +kernel
theorem dX7_distinctOffers_51 : decode cX7_distinctOffers 51 = .ok (.if_icmp .ne 7, 3) := by decide +kernel
theorem dX7_distinctOffers_54 : decode cX7_distinctOffers 54 = .ok (.iconst 1, 1) := by decide +kernel
theorem dX7_distinctOffers_55 : decode cX7_distinctOffers 55 = .ok (.goto 4, 3) := by decide +kernel
theorem dX7_distinctOffers_58 : decode cX7_distinctOffers 58 = .ok (.iconst 0, 1) := by decide +kernel
theorem dX7_distinctOffers_59 : decode cX7_distinctOffers 59 = .ok (.iadd, 1) := by decide +kernel
theorem dX7_distinctOffers_60 : decode cX7_distinctOffers 60 = .ok (.istore 4, 2) := by decide +kernel
theorem dX7_distinctOffers_62 : decode cX7_distinctOffers 62 = .ok (.iinc 5 1, 3) := by decide +kernel
theorem dX7_distinctOffers_65 : decode cX7_distinctOffers 65 = .ok (.goto (-52), 3) := by decide +kernel
theorem dX7_distinctOffers_68 : decode cX7_distinctOffers 68 = .ok (.iload 4, 2) := by decide +kernel
theorem dX7_distinctOffers_70 : decode cX7_distinctOffers 70 = .ok (.ireturn, 1) := by decide +kernel
set_option maxRecDepth 20000 in
theorem ggX7_distinctEstimate_X7_noStream : GoodIn wsX7_distinctEstimate wsX7_noStream := goodIn_r _ [8, 9, 10, 7, 11, 12, 13, 14, 15, 16, 39, 40, 41, 42, 43, 44, 45, 46, 47, 48, 49, 50, 51] (by decide +kernel) (by decide +kernel)
set_option maxRecDepth 20000 in
theorem gX7_distinctEstimate_X7_noStream : GoodIn wsX7_distinctEstimate (wsV RX7 54 RX7 yX7_noStream wsX7_noStream) := goodIn_app (goodIn_of _ (by decide +kernel)) ggX7_distinctEstimate_X7_noStream
set_option maxRecDepth 20000 in
theorem ggX7_distinctEstimate_X7_distinctIn : GoodIn wsX7_distinctEstimate wsX7_distinctIn := goodIn_r _ [20, 1, 21, 22, 23, 7, 24, 25, 3, 26, 27, 28, 29, 30, 39, 40, 41, 42, 43, 44, 45, 46, 47, 48, 49, 50, 51] (by decide +kernel) (by decide +kernel)
set_option maxRecDepth 20000 in
theorem gX7_distinctEstimate_X7_distinctIn : GoodIn wsX7_distinctEstimate (wsV RX7 104 RX7 yX7_distinctIn wsX7_distinctIn) := goodIn_app (goodIn_of _ (by decide +kernel)) ggX7_distinctEstimate_X7_distinctIn
set_option maxRecDepth 20000 in
theorem ggX7_distinctEstimate_X7_hashed : GoodIn wsX7_distinctEstimate wsX7_hashed := goodIn_r _ [34, 25, 3, 35, 36, 7, 37, 38, 2, 39, 40, 41, 42, 43, 44, 45, 46, 47, 48, 49, 50, 51] (by decide +kernel) (by decide +kernel)
set_option maxRecDepth 20000 in
theorem gX7_distinctEstimate_X7_hashed : GoodIn wsX7_distinctEstimate (wsV RX7 107 RX7 yX7_hashed wsX7_hashed) := goodIn_app (goodIn_of _ (by decide +kernel)) ggX7_distinctEstimate_X7_hashed
set_option maxRecDepth 20000 in
theorem ggX7_distinctEstimate_X7_hash : GoodIn wsX7_distinctEstimate wsX7_hash := goodIn_r _ [37, 38, 2] (by decide +kernel) (by decide +kernel)
set_option maxRecDepth 20000 in
theorem gX7_distinctEstimate_X7_hash : GoodIn wsX7_distinctEstimate (va_wsS RX7 101 yX7_hash wsX7_hash) := goodIn_app (goodIn_of _ (by decide +kernel)) ggX7_distinctEstimate_X7_hash
theorem dX7_distinctEstimate_0 : decode cX7_distinctEstimate 0 = .ok (.aload_n 0, 1) := by decide +kernel
theorem dX7_distinctEstimate_1 : decode cX7_distinctEstimate 1 = .ok (.iload_n 1, 1) := by decide +kernel
theorem dX7_distinctEstimate_2 : decode cX7_distinctEstimate 2 = .ok (.iconst 2, 1) := by decide +kernel
theorem dX7_distinctEstimate_3 : decode cX7_distinctEstimate 3 = .ok (.invokevirtual 54, 3) := by decide +kernel
theorem dX7_distinctEstimate_6 : decode cX7_distinctEstimate 6 = .ok (.ifCond .eq 5, 3) := by decide +kernel
theorem dX7_distinctEstimate_9 : decode cX7_distinctEstimate 9 = .ok (.lconst 0, 1) := by decide +kernel
theorem dX7_distinctEstimate_10 : decode cX7_distinctEstimate 10 = .ok (.lreturn, 1) := by decide +kernel
theorem dX7_distinctEstimate_11 : decode cX7_distinctEstimate 11 = .ok (.aload_n 0, 1) := by decide +kernel
theorem dX7_distinctEstimate_12 : decode cX7_distinctEstimate 12 = .ok (.iload_n 1, 1) := by decide +kernel
theorem dX7_distinctEstimate_13 : decode cX7_distinctEstimate 13 = .ok (.invokevirtual 104, 3) := by decide +kernel
theorem dX7_distinctEstimate_16 : decode cX7_distinctEstimate 16 = .ok (.istore_n 2, 1) := by decide +kernel
theorem dX7_distinctEstimate_17 : decode cX7_distinctEstimate 17 = .ok (.iload_n 2, 1) := by decide +kernel
theorem dX7_distinctEstimate_18 : decode cX7_distinctEstimate 18 = .ok (.aload_n 0, 1) := by decide +kernel
theorem dX7_distinctEstimate_19 : decode cX7_distinctEstimate 19 = .ok (.getfield 7, 3) := by decide +kernel
theorem dX7_distinctEstimate_22 : decode cX7_distinctEstimate 22 = .ok (.if_icmp .ge 8, 3) := by decide +kernel
theorem dX7_distinctEstimate_25 : decode cX7_distinctEstimate 25 = .ok (.iload_n 2, 1) := by decide +kernel
theorem dX7_distinctEstimate_26 : decode cX7_distinctEstimate 26 = .ok (.i2l, 1) := by decide +kernel
theorem dX7_distinctEstimate_27 : decode cX7_distinctEstimate 27 = .ok (.goto 33, 3) := by decide +kernel
theorem dX7_distinctEstimate_30 : decode cX7_distinctEstimate 30 = .ok (.aload_n 0, 1) := by decide +kernel
theorem dX7_distinctEstimate_31 : decode cX7_distinctEstimate 31 = .ok (.getfield 7, 3) := by decide +kernel
theorem dX7_distinctEstimate_34 : decode cX7_distinctEstimate 34 = .ok (.i2l, 1) := by decide +kernel
theorem dX7_distinctEstimate_35 : decode cX7_distinctEstimate 35 = .ok (.lconst 1, 1) := by decide +kernel
theorem dX7_distinctEstimate_36 : decode cX7_distinctEstimate 36 = .ok (.lsub, 1) := by decide +kernel
theorem dX7_distinctEstimate_37 : decode cX7_distinctEstimate 37 = .ok (.ldc2_w 96, 3) := by decide +kernel
theorem dX7_distinctEstimate_40 : decode cX7_distinctEstimate 40 = .ok (.lmul, 1) := by decide +kernel
theorem dX7_distinctEstimate_41 : decode cX7_distinctEstimate 41 = .ok (.aload_n 0, 1) := by decide +kernel
theorem dX7_distinctEstimate_42 : decode cX7_distinctEstimate 42 = .ok (.getfield 20, 3) := by decide +kernel
theorem dX7_distinctEstimate_45 : decode cX7_distinctEstimate 45 = .ok (.aload_n 0, 1) := by decide +kernel
theorem dX7_distinctEstimate_46 : decode cX7_distinctEstimate 46 = .ok (.aload_n 0, 1) := by decide +kernel
theorem dX7_distinctEstimate_47 : decode cX7_distinctEstimate 47 = .ok (.getfield 7, 3) := by decide +kernel
theorem dX7_distinctEstimate_50 : decode cX7_distinctEstimate 50 = .ok (.iconst 1, 1) := by decide +kernel
theorem dX7_distinctEstimate_51 : decode cX7_distinctEstimate 51 = .ok (.isub, 1) := by decide +kernel
theorem dX7_distinctEstimate_52 : decode cX7_distinctEstimate 52 = .ok (.invokevirtual 107, 3) := by decide +kernel
theorem dX7_distinctEstimate_55 : decode cX7_distinctEstimate 55 = .ok (.iaload, 1) := by decide +kernel
theorem dX7_distinctEstimate_56 : decode cX7_distinctEstimate 56 = .ok (.invokestatic 101, 3) := by decide +kernel
theorem dX7_distinctEstimate_59 : decode cX7_distinctEstimate 59 = .ok (.ldiv, 1) := by decide +kernel
theorem dX7_distinctEstimate_60 : decode cX7_distinctEstimate 60 = .ok (.lreturn, 1) := by decide +kernel
theorem dX7_runChain_0 : decode cX7_runChain 0 = .ok (.aload_n 0, 1) := by decide +kernel
theorem dX7_runChain_1 : decode cX7_runChain 1 = .ok (.iconst 0, 1) := by decide +kernel
theorem dX7_runChain_2 : decode cX7_runChain 2 = .ok (.putfield 113, 3) := by decide +kernel
theorem dX7_runChain_5 : decode cX7_runChain 5 = .ok (.aload_n 0, 1) := by decide +kernel
theorem dX7_runChain_6 : decode cX7_runChain 6 = .ok (.iconst 0, 1) := by decide +kernel
theorem dX7_runChain_7 : decode cX7_runChain 7 = .ok (.putfield 116, 3) := by decide +kernel
theorem dX7_runChain_10 : decode cX7_runChain 10 = .ok (.iconst 1, 1) := by decide +kernel
theorem dX7_runChain_11 : decode cX7_runChain 11 = .ok (.istore_n 2, 1) := by decide +kernel
theorem dX7_runChain_12 : decode cX7_runChain 12 = .ok (.iload_n 2, 1) := by decide +kernel
theorem dX7_runChain_13 : decode cX7_runChain 13 = .ok (.aload_n 0, 1) := by decide +kernel
theorem dX7_runChain_14 : decode cX7_runChain 14 = .ok (.getfield 16, 3) := by decide +kernel
theorem dX7_runChain_17 : decode cX7_runChain 17 = .ok (.iload_n 1, 1) := by decide +kernel
theorem dX7_runChain_18 : decode cX7_runChain 18 = .ok (.iaload, 1) := by decide +kernel
theorem dX7_runChain_19 : decode cX7_runChain 19 = .ok (.if_icmp .gt 183, 3) := by decide +kernel
theorem dX7_runChain_22 : decode cX7_runChain 22 = .ok (.sipush 300, 3) := by decide +kernel
theorem dX7_runChain_25 : decode cX7_runChain 25 = .ok (.iload_n 1, 1) := by decide +kernel
theorem dX7_runChain_26 : decode cX7_runChain 26 = .ok (.imul, 1) := by decide +kernel
theorem dX7_runChain_27 : decode cX7_runChain 27 = .ok (.iload_n 2, 1) := by decide +kernel
theorem dX7_runChain_28 : decode cX7_runChain 28 = .ok (.iadd, 1) := by decide +kernel
theorem dX7_runChain_29 : decode cX7_runChain 29 = .ok (.iconst 1, 1) := by decide +kernel
theorem dX7_runChain_30 : decode cX7_runChain 30 = .ok (.isub, 1) := by decide +kernel
theorem dX7_runChain_31 : decode cX7_runChain 31 = .ok (.istore_n 3, 1) := by decide +kernel
theorem dX7_runChain_32 : decode cX7_runChain 32 = .ok (.aload_n 0, 1) := by decide +kernel
theorem dX7_runChain_33 : decode cX7_runChain 33 = .ok (.getfield 29, 3) := by decide +kernel
theorem dX7_runChain_36 : decode cX7_runChain 36 = .ok (.iload_n 3, 1) := by decide +kernel
theorem dX7_runChain_37 : decode cX7_runChain 37 = .ok (.iaload, 1) := by decide +kernel
theorem dX7_runChain_38 : decode cX7_runChain 38 = .ok (.iload_n 2, 1) := by decide +kernel
theorem dX7_runChain_39 : decode cX7_runChain 39 = .ok (.aload_n 0, 1) := by decide +kernel
theorem dX7_runChain_40 : decode cX7_runChain 40 = .ok (.getfield 13, 3) := by decide +kernel
theorem dX7_runChain_43 : decode cX7_runChain 43 = .ok (.if_icmp .ge 7, 3) := by decide +kernel
theorem dX7_runChain_46 : decode cX7_runChain 46 = .ok (.iload_n 2, 1) := by decide +kernel
theorem dX7_runChain_47 : decode cX7_runChain 47 = .ok (.goto 7, 3) := by decide +kernel
theorem dX7_runChain_50 : decode cX7_runChain 50 = .ok (.aload_n 0, 1) := by decide +kernel
theorem dX7_runChain_51 : decode cX7_runChain 51 = .ok (.getfield 13, 3) := by decide +kernel
theorem dX7_runChain_54 : decode cX7_runChain 54 = .ok (.irem, 1) := by decide +kernel
theorem dX7_runChain_55 : decode cX7_runChain 55 = .ok (.ifCond .ne 7, 3) := by decide +kernel
theorem dX7_runChain_58 : decode cX7_runChain 58 = .ok (.iconst 1, 1) := by decide +kernel
theorem dX7_runChain_59 : decode cX7_runChain 59 = .ok (.goto 4, 3) := by decide +kernel
theorem dX7_runChain_62 : decode cX7_runChain 62 = .ok (.iconst 0, 1) := by decide +kernel
theorem dX7_runChain_63 : decode cX7_runChain 63 = .ok (.istore 4, 2) := by decide +kernel
theorem dX7_runChain_65 : decode cX7_runChain 65 = .ok (.iload 4, 2) := by decide +kernel
theorem dX7_runChain_67 : decode cX7_runChain 67 = .ok (.ifCond .ne 11, 3) := by decide +kernel
theorem dX7_runChain_70 : decode cX7_runChain 70 = .ok (.iload_n 2, 1) := by decide +kernel
theorem dX7_runChain_71 : decode cX7_runChain 71 = .ok (.aload_n 0, 1) := by decide +kernel
theorem dX7_runChain_72 : decode cX7_runChain 72 = .ok (.getfield 116, 3) := by decide +kernel
theorem dX7_runChain_75 : decode cX7_runChain 75 = .ok (.if_icmp .ne 59, 3) := by decide +kernel
theorem dX7_runChain_78 : decode cX7_runChain 78 = .ok (.aload_n 0, 1) := by decide +kernel
theorem dX7_runChain_79 : decode cX7_runChain 79 = .ok (.iload 4, 2) := by decide +kernel
theorem dX7_runChain_81 : decode cX7_runChain 81 = .ok (.ifCond .eq 7, 3) := by decide +kernel
theorem dX7_runChain_84 : decode cX7_runChain 84 = .ok (.iconst 0, 1) := by decide +kernel
theorem dX7_runChain_85 : decode cX7_runChain 85 = .ok (.goto 7, 3) := by decide +kernel
theorem dX7_runChain_88 : decode cX7_runChain 88 = .ok (.aload_n 0, 1) := by decide +kernel
theorem dX7_runChain_89 : decode cX7_runChain 89 = .ok (.getfield 113, 3) := by decide +kernel
theorem dX7_runChain_92 : decode cX7_runChain 92 = .ok (.putfield 113, 3) := by decide +kernel
theorem dX7_runChain_95 : decode cX7_runChain 95 = .ok (.aload_n 0, 1) := by decide +kernel
theorem dX7_runChain_96 : decode cX7_runChain 96 = .ok (.getfield 39, 3) := by decide +kernel
theorem dX7_runChain_99 : decode cX7_runChain 99 = .ok (.aload_n 0, 1) := by decide +kernel
theorem dX7_runChain_100 : decode cX7_runChain 100 = .ok (.getfield 113, 3) := by decide +kernel
theorem dX7_runChain_103 : decode cX7_runChain 103 = .ok (.iload_n 2, 1) := by decide +kernel
theorem dX7_runChain_104 : decode cX7_runChain 104 = .ok (.iastore, 1) := by decide +kernel
theorem dX7_runChain_105 : decode cX7_runChain 105 = .ok (.aload_n 0, 1) := by decide +kernel
theorem dX7_runChain_106 : decode cX7_runChain 106 = .ok (.dup, 1) := by decide +kernel
theorem dX7_runChain_107 : decode cX7_runChain 107 = .ok (.getfield 113, 3) := by decide +kernel
theorem dX7_runChain_110 : decode cX7_runChain 110 = .ok (.iconst 1, 1) := by decide +kernel
theorem dX7_runChain_111 : decode cX7_runChain 111 = .ok (.iadd, 1) := by decide +kernel
theorem dX7_runChain_112 : decode cX7_runChain 112 = .ok (.putfield 113, 3) := by decide +kernel
theorem dX7_runChain_115 : decode cX7_runChain 115 = .ok (.aload_n 0, 1) := by decide +kernel
theorem dX7_runChain_116 : decode cX7_runChain 116 = .ok (.iload_n 2, 1) := by decide +kernel
theorem dX7_runChain_117 : decode cX7_runChain 117 = .ok (.iconst 1, 1) := by decide +kernel
theorem dX7_runChain_118 : decode cX7_runChain 118 = .ok (.iadd, 1) := by decide +kernel
theorem dX7_runChain_119 : decode cX7_runChain 119 = .ok (.aload_n 0, 1) := by decide +kernel
theorem dX7_runChain_120 : decode cX7_runChain 120 = .ok (.getfield 32, 3) := by decide +kernel
theorem dX7_runChain_123 : decode cX7_runChain 123 = .ok (.iload_n 3, 1) := by decide +kernel
theorem dX7_runChain_124 : decode cX7_runChain 124 = .ok (.iaload, 1) := by decide +kernel
theorem dX7_runChain_125 : decode cX7_runChain 125 = .ok (.aload_n 0, 1) := by decide +kernel
theorem dX7_runChain_126 : decode cX7_runChain 126 = .ok (.getfield 13, 3) := by decide +kernel
theorem dX7_runChain_129 : decode cX7_runChain 129 = .ok (.irem, 1) := by decide +kernel
theorem dX7_runChain_130 : decode cX7_runChain 130 = .ok (.iadd, 1) := by decide +kernel
theorem dX7_runChain_131 : decode cX7_runChain 131 = .ok (.putfield 116, 3) := by decide +kernel
theorem dX7_runChain_134 : decode cX7_runChain 134 = .ok (.aload_n 0, 1) := by decide +kernel
theorem dX7_runChain_135 : decode cX7_runChain 135 = .ok (.getfield 39, 3) := by decide +kernel
theorem dX7_runChain_138 : decode cX7_runChain 138 = .ok (.iconst 0, 1) := by decide +kernel
theorem dX7_runChain_139 : decode cX7_runChain 139 = .ok (.iaload, 1) := by decide +kernel
theorem dX7_runChain_140 : decode cX7_runChain 140 = .ok (.iload_n 2, 1) := by decide +kernel
theorem dX7_runChain_141 : decode cX7_runChain 141 = .ok (.aload_n 0, 1) := by decide +kernel
theorem dX7_runChain_142 : decode cX7_runChain 142 = .ok (.getfield 13, 3) := by decide +kernel
theorem dX7_runChain_145 : decode cX7_runChain 145 = .ok (.isub, 1) := by decide +kernel
theorem dX7_runChain_146 : decode cX7_runChain 146 = .ok (.if_icmp .gt 50, 3) := by decide +kernel
theorem dX7_runChain_149 : decode cX7_runChain 149 = .ok (.aload_n 0, 1) := by decide +kernel
theorem dX7_runChain_150 : decode cX7_runChain 150 = .ok (.dup, 1) := by decide +kernel
theorem dX7_runChain_151 : decode cX7_runChain 151 = .ok (.getfield 113, 3) := by decide +kernel
theorem dX7_runChain_154 : decode cX7_runChain 154 = .ok (.iconst 1, 1) := by decide +kernel
theorem dX7_runChain_155 : decode cX7_runChain 155 = .ok (.isub, 1) := by decide +kernel
theorem dX7_runChain_156 : decode cX7_runChain 156 = .ok (.putfield 113, 3) := by decide +kernel
theorem dX7_runChain_159 : decode cX7_runChain 159 = .ok (.iconst 0, 1) := by decide +kernel
theorem dX7_runChain_160 : decode cX7_runChain 160 = .ok (.istore 5, 2) := by decide +kernel
theorem dX7_runChain_162 : decode cX7_runChain 162 = .ok (.iload 5, 2) := by decide +kernel
theorem dX7_runChain_164 : decode cX7_runChain 164 = .ok (.aload_n 0, 1) := by decide +kernel
theorem dX7_runChain_165 : decode cX7_runChain 165 = .ok (.getfield 113, 3) := by decide +kernel
theorem dX7_runChain_168 : decode cX7_runChain 168 = .ok (.if_icmp .ge 25, 3) := by decide +kernel
theorem dX7_runChain_171 : decode cX7_runChain 171 = .ok (.aload_n 0, 1) := by decide +kernel
theorem dX7_runChain_172 : decode cX7_runChain 172 = .ok (.getfield 39, 3) := by decide +kernel
theorem dX7_runChain_175 : decode cX7_runChain 175 = .ok (.iload 5, 2) := by decide +kernel
theorem dX7_runChain_177 : decode cX7_runChain 177 = .ok (.aload_n 0, 1) := by decide +kernel
theorem dX7_runChain_178 : decode cX7_runChain 178 = .ok (.getfield 39, 3) := by decide +kernel
theorem dX7_runChain_181 : decode cX7_runChain 181 = .ok (.iload 5, 2) := by decide +kernel
theorem dX7_runChain_183 : decode cX7_runChain 183 = .ok (.iconst 1, 1) := by decide +kernel
theorem dX7_runChain_184 : decode cX7_runChain 184 = .ok (.iadd, 1) := by decide +kernel
theorem dX7_runChain_185 : decode cX7_runChain 185 = .ok (.iaload, 1) := by decide +kernel
theorem dX7_runChain_186 : decode cX7_runChain 186 = .ok (.iastore, 1) := by decide +kernel
theorem dX7_runChain_187 : decode cX7_runChain 187 = .ok (.iinc 5 1, 3) := by decide +kernel
theorem dX7_runChain_190 : decode cX7_runChain 190 = .ok (.goto (-28), 3) := by decide +kernel
theorem dX7_runChain_193 : decode cX7_runChain 193 = .ok (.goto (-59), 3) := by decide +kernel
theorem dX7_runChain_196 : decode cX7_runChain 196 = .ok (.iinc 2 1, 3) := by decide +kernel
theorem dX7_runChain_199 : decode cX7_runChain 199 = .ok (.goto (-187), 3) := by decide +kernel
theorem dX7_runChain_202 : decode cX7_runChain 202 = .ok (.return_, 1) := by decide +kernel
set_option maxRecDepth 20000 in
theorem ggX7_noWindow_X7_in : GoodIn wsX7_noWindow wsX7_in := goodIn_r _ [5] (by decide +kernel) (by decide +kernel)
