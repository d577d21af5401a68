theorem dX7_slotOf_6 : decode cX7_slotOf 6 = .ok (.ifCond .eq 16, 3) := by decide +kernel
theorem dX7_slotOf_9 : decode cX7_slotOf 9 = .ok (.iload_n 2, 1) := by decide +kernel
theorem dX7_slotOf_10 : decode cX7_slotOf 10 = .ok (.iconst (-1), 1) := by decide +kernel
theorem dX7_slotOf_11 : decode cX7_slotOf 11 = .ok (.iconst 3, 1) := by decide +kernel
theorem dX7_slotOf_12 : decode cX7_slotOf 12 = .ok (.invokestatic 45, 3) := by decide +kernel
theorem dX7_slotOf_15 : decode cX7_slotOf 15 = .ok (.ifCond .eq 7, 3) := by decide +kernel
theorem dX7_slotOf_18 : decode cX7_slotOf 18 = .ok (.iconst 1, 1) := by decide +kernel
theorem dX7_slotOf_19 : decode cX7_slotOf 19 = .ok (.goto 4, 3) := by decide +kernel
theorem dX7_slotOf_22 : decode cX7_slotOf 22 = .ok (.iconst 0, 1) := by decide +kernel
theorem dX7_slotOf_23 : decode cX7_slotOf 23 = .ok (.istore 4, 2) := by decide +kernel
theorem dX7_slotOf_25 : decode cX7_slotOf 25 = .ok (.iload 4, 2) := by decide +kernel
theorem dX7_slotOf_27 : decode cX7_slotOf 27 = .ok (.ifCond .eq 13, 3) := by decide +kernel
theorem dX7_slotOf_30 : decode cX7_slotOf 30 = .ok (.aload_n 0, 1) := by decide +kernel
theorem dX7_slotOf_31 : decode cX7_slotOf 31 = .ok (.iload_n 1, 1) := by decide +kernel
theorem dX7_slotOf_32 : decode cX7_slotOf 32 = .ok (.iload_n 2, 1) := by decide +kernel
theorem dX7_slotOf_33 : decode cX7_slotOf 33 = .ok (.iload_n 3, 1) := by decide +kernel
theorem dX7_slotOf_34 : decode cX7_slotOf 34 = .ok (.invokevirtual 64, 3) := by decide +kernel
theorem dX7_slotOf_37 : decode cX7_slotOf 37 = .ok (.goto 4, 3) := by decide +kernel
theorem dX7_slotOf_40 : decode cX7_slotOf 40 = .ok (.iconst (-1), 1) := by decide +kernel
theorem dX7_slotOf_41 : decode cX7_slotOf 41 = .ok (.istore 5, 2) := by decide +kernel
theorem dX7_slotOf_43 : decode cX7_slotOf 43 = .ok (.aload_n 0, 1) := by decide +kernel
theorem dX7_slotOf_44 : decode cX7_slotOf 44 = .ok (.iload 4, 2) := by decide +kernel
theorem dX7_slotOf_46 : decode cX7_slotOf 46 = .ok (.ifCond .ne 7, 3) := by decide +kernel
theorem dX7_slotOf_49 : decode cX7_slotOf 49 = .ok (.iconst 1, 1) := by decide +kernel
theorem dX7_slotOf_50 : decode cX7_slotOf 50 = .ok (.goto 14, 3) := by decide +kernel
theorem dX7_slotOf_53 : decode cX7_slotOf 53 = .ok (.iload 5, 2) := by decide +kernel
theorem dX7_slotOf_55 : decode cX7_slotOf 55 = .ok (.iconst (-1), 1) := by decide +kernel
theorem dX7_slotOf_56 : decode cX7_slotOf 56 = .ok (.if_icmp .ne 7, 3) := by decide +kernel
theorem dX7_slotOf_59 : decode cX7_slotOf 59 = .ok (.iconst 2, 1) := by decide +kernel
theorem dX7_slotOf_60 : decode cX7_slotOf 60 = .ok (.goto 4, 3) := by decide +kernel
theorem dX7_slotOf_63 : decode cX7_slotOf 63 = .ok (.iconst 0, 1) := by decide +kernel
theorem dX7_slotOf_64 : decode cX7_slotOf 64 = .ok (.invokevirtual 49, 3) := by decide +kernel
theorem dX7_slotOf_67 : decode cX7_slotOf 67 = .ok (.ifCond .eq 7, 3) := by decide +kernel
theorem dX7_slotOf_70 : decode cX7_slotOf 70 = .ok (.iconst (-1), 1) := by decide +kernel
theorem dX7_slotOf_71 : decode cX7_slotOf 71 = .ok (.goto 5, 3) := by decide +kernel
theorem dX7_slotOf_74 : decode cX7_slotOf 74 = .ok (.iload 5, 2) := by decide +kernel
theorem dX7_slotOf_76 : decode cX7_slotOf 76 = .ok (.ireturn, 1) := by decide +kernel
set_option maxRecDepth 20000 in
theorem ggX7_reservoirItem_X7_slotOf : GoodIn wsX7_reservoirItem wsX7_slotOf := goodIn_r _ [6, 7, 8, 5, 9, 10, 11, 12, 13, 14, 15, 16, 17, 18, 19, 20, 21, 22, 23, 24, 25, 26, 27, 28, 29, 30, 31, 32, 33, 34, 35] (by decide +kernel) (by decide +kernel)
set_option maxRecDepth 20000 in
theorem gX7_reservoirItem_X7_slotOf : GoodIn wsX7_reservoirItem (wsV RX7 68 RX7 yX7_slotOf wsX7_slotOf) := goodIn_app (goodIn_of _ (by decide +kernel)) ggX7_reservoirItem_X7_slotOf
theorem dX7_reservoirItem_0 : decode cX7_reservoirItem 0 = .ok (.aload_n 0, 1) := by decide +kernel
theorem dX7_reservoirItem_1 : decode cX7_reservoirItem 1 = .ok (.iload_n 1, 1) := by decide +kernel
theorem dX7_reservoirItem_2 : decode cX7_reservoirItem 2 = .ok (.iconst (-1), 1) := by decide +kernel
theorem dX7_reservoirItem_3 : decode cX7_reservoirItem 3 = .ok (.iload_n 2, 1) := by decide +kernel
theorem dX7_reservoirItem_4 : decode cX7_reservoirItem 4 = .ok (.invokevirtual 68, 3) := by decide +kernel
theorem dX7_reservoirItem_7 : decode cX7_reservoirItem 7 = .ok (.istore_n 3, 1) := by decide +kernel
theorem dX7_reservoirItem_8 : decode cX7_reservoirItem 8 = .ok (.iload_n 3, 1) := by decide +kernel
theorem dX7_reservoirItem_9 : decode cX7_reservoirItem 9 = .ok (.iconst (-1), 1) := by decide +kernel
theorem dX7_reservoirItem_10 : decode cX7_reservoirItem 10 = .ok (.if_icmp .ne 7, 3) := by decide +kernel
theorem dX7_reservoirItem_13 : decode cX7_reservoirItem 13 = .ok (.iconst 0, 1) := by decide +kernel
theorem dX7_reservoirItem_14 : decode cX7_reservoirItem 14 = .ok (.goto 9, 3) := by decide +kernel
theorem dX7_reservoirItem_17 : decode cX7_reservoirItem 17 = .ok (.aload_n 0, 1) := by decide +kernel
theorem dX7_reservoirItem_18 : decode cX7_reservoirItem 18 = .ok (.getfield 20, 3) := by decide +kernel
theorem dX7_reservoirItem_21 : decode cX7_reservoirItem 21 = .ok (.iload_n 3, 1) := by decide +kernel
theorem dX7_reservoirItem_22 : decode cX7_reservoirItem 22 = .ok (.iaload, 1) := by decide +kernel
theorem dX7_reservoirItem_23 : decode cX7_reservoirItem 23 = .ok (.ireturn, 1) := by decide +kernel
set_option maxRecDepth 20000 in
theorem ggX7_reservoirPosition_X7_slotOf : GoodIn wsX7_reservoirPosition wsX7_slotOf := goodIn_r _ [5, 6, 7, 4, 8, 9, 10, 11, 12, 13, 14, 15, 16, 17, 18, 19, 20, 21, 22, 23, 24, 25, 26, 27, 28, 29, 30, 31, 32, 33, 34] (by decide +kernel) (by decide +kernel)
set_option maxRecDepth 20000 in
theorem gX7_reservoirPosition_X7_slotOf : GoodIn wsX7_reservoirPosition (wsV RX7 68 RX7 yX7_slotOf wsX7_slotOf) := goodIn_app (goodIn_of _ (by decide +kernel)) ggX7_reservoirPosition_X7_slotOf
theorem dX7_reservoirPosition_0 : decode cX7_reservoirPosition 0 = .ok (.aload_n 0, 1) := by decide +kernel
theorem dX7_reservoirPosition_1 : decode cX7_reservoirPosition 1 = .ok (.iload_n 1, 1) := by decide +kernel
theorem dX7_reservoirPosition_2 : decode cX7_reservoirPosition 2 = .ok (.iconst (-1), 1) := by decide +kernel
theorem dX7_reservoirPosition_3 : decode cX7_reservoirPosition 3 = .ok (.iload_n 2, 1) := by decide +kernel
theorem dX7_reservoirPosition_4 : decode cX7_reservoirPosition 4 = .ok (.invokevirtual 68, 3) := by decide +kernel
theorem dX7_reservoirPosition_7 : decode cX7_reservoirPosition 7 = .ok (.istore_n 3, 1) := by decide +kernel
theorem dX7_reservoirPosition_8 : decode cX7_reservoirPosition 8 = .ok (.iload_n 3, 1) := by decide +kernel
theorem dX7_reservoirPosition_9 : decode cX7_reservoirPosition 9 = .ok (.iconst (-1), 1) := by decide +kernel
theorem dX7_reservoirPosition_10 : decode cX7_reservoirPosition 10 = .ok (.if_icmp .ne 7, 3) := by decide +kernel
theorem dX7_reservoirPosition_13 : decode cX7_reservoirPosition 13 = .ok (.iconst 0, 1) := by decide +kernel
theorem dX7_reservoirPosition_14 : decode cX7_reservoirPosition 14 = .ok (.goto 10, 3) := by decide +kernel
theorem dX7_reservoirPosition_17 : decode cX7_reservoirPosition 17 = .ok (.iload_n 3, 1) := by decide +kernel
theorem dX7_reservoirPosition_18 : decode cX7_reservoirPosition 18 = .ok (.sipush 300, 3) := by decide +kernel
theorem dX7_reservoirPosition_21 : decode cX7_reservoirPosition 21 = .ok (.irem, 1) := by decide +kernel
theorem dX7_reservoirPosition_22 : decode cX7_reservoirPosition 22 = .ok (.iconst 1, 1) := by decide +kernel
theorem dX7_reservoirPosition_23 : decode cX7_reservoirPosition 23 = .ok (.iadd, 1) := by decide +kernel
theorem dX7_reservoirPosition_24 : decode cX7_reservoirPosition 24 = .ok (.ireturn, 1) := by decide +kernel
set_option maxRecDepth 20000 in
theorem ggX7_groupOffers_X7_noGroup : GoodIn wsX7_groupOffers wsX7_noGroup := goodIn_r _ [6, 7, 8, 5, 9, 10, 11, 12, 13, 14, 20, 21, 22, 23, 24, 25, 26, 27, 28, 29, 30, 31, 32] (by decide +kernel) (by decide +kernel)
set_option maxRecDepth 20000 in
theorem gX7_groupOffers_X7_noGroup : GoodIn wsX7_groupOffers (wsV RX7 58 RX7 yX7_noGroup wsX7_noGroup) := goodIn_app (goodIn_of _ (by decide +kernel)) ggX7_groupOffers_X7_noGroup
set_option maxRecDepth 20000 in
theorem ggX7_groupOffers_X7_isOf : GoodIn wsX7_groupOffers wsX7_isOf := goodIn_r _ [18, 19, 20, 21, 22, 23, 24, 25, 26, 27, 28, 29, 30, 31, 32] (by decide +kernel) (by decide +kernel)
set_option maxRecDepth 20000 in
theorem gX7_groupOffers_X7_isOf : GoodIn wsX7_groupOffers (wsV RX7 61 RX7 yX7_isOf wsX7_isOf) := goodIn_app (goodIn_of _ (by decide +kernel)) ggX7_groupOffers_X7_isOf
theorem dX7_groupOffers_0 : decode cX7_groupOffers 0 = .ok (.aload_n 0, 1) := by decide +kernel
theorem dX7_groupOffers_1 : decode cX7_groupOffers 1 = .ok (.iload_n 1, 1) := by decide +kernel
theorem dX7_groupOffers_2 : decode cX7_groupOffers 2 = .ok (.iconst 1, 1) := by decide +kernel
theorem dX7_groupOffers_3 : decode cX7_groupOffers 3 = .ok (.iload_n 2, 1) := by decide +kernel
theorem dX7_groupOffers_4 : decode cX7_groupOffers 4 = .ok (.invokevirtual 58, 3) := by decide +kernel
theorem dX7_groupOffers_7 : decode cX7_groupOffers 7 = .ok (.ifCond .eq 5, 3) := by decide +kernel
theorem dX7_groupOffers_10 : decode cX7_groupOffers 10 = .ok (.iconst 0, 1) := by decide +kernel
theorem dX7_groupOffers_11 : decode cX7_groupOffers 11 = .ok (.ireturn, 1) := by decide +kernel
theorem dX7_groupOffers_12 : decode cX7_groupOffers 12 = .ok (.iconst 0, 1) := by decide +kernel
theorem dX7_groupOffers_13 : decode cX7_groupOffers 13 = .ok (.istore_n 3, 1) := by decide +kernel
theorem dX7_groupOffers_14 : decode cX7_groupOffers 14 = .ok (.iconst 0, 1) := by decide +kernel
theorem dX7_groupOffers_15 : decode cX7_groupOffers 15 = .ok (.istore 4, 2) := by decide +kernel
theorem dX7_groupOffers_17 : decode cX7_groupOffers 17 = .ok (.iload 4, 2) := by decide +kernel
theorem dX7_groupOffers_19 : decode cX7_groupOffers 19 = .ok (.sipush 600, 3) := by decide +kernel
theorem dX7_groupOffers_22 : decode cX7_groupOffers 22 = .ok (.if_icmp .ge 38, 3) := by decide +kernel
theorem dX7_groupOffers_25 : decode cX7_groupOffers 25 = .ok (.iload_n 3, 1) := by decide +kernel
theorem dX7_groupOffers_26 : decode cX7_groupOffers 26 = .ok (.aload_n 0, 1) := by decide +kernel
theorem dX7_groupOffers_27 : decode cX7_groupOffers 27 = .ok (.iload_n 1, 1) := by decide +kernel
theorem dX7_groupOffers_28 : decode cX7_groupOffers 28 = .ok (.iload 4, 2) := by decide +kernel
theorem dX7_groupOffers_30 : decode cX7_groupOffers 30 = .ok (.invokevirtual 61, 3) := by decide +kernel
theorem dX7_groupOffers_33 : decode cX7_groupOffers 33 = .ok (.ifCond .eq 18, 3) := by decide +kernel
theorem dX7_groupOffers_36 : decode cX7_groupOffers 36 = .ok (.aload_n 0, 1) := by decide +kernel
theorem dX7_groupOffers_37 : decode cX7_groupOffers 37 = .ok (.getfield 26, 3) := by decide +kernel
theorem dX7_groupOffers_40 : decode cX7_groupOffers 40 = .ok (.iload 4, 2) := by decide +kernel
theorem dX7_groupOffers_42 : decode cX7_groupOffers 42 = .ok (.iaload, 1) := by decide +kernel
theorem dX7_groupOffers_43 : decode cX7_groupOffers 43 = .ok (.iload_n 2, 1) := by decide +kernel
theorem dX7_groupOffers_44 : decode cX7_groupOffers 44 = .ok (.if_icmp .ne 7, 3) := by decide +kernel
theorem dX7_groupOffers_47 : decode cX7_groupOffers 47 = .ok (.iconst 1, 1) := by decide +kernel
theorem dX7_groupOffers_48 : decode cX7_groupOffers 48 = .ok (.goto 4, 3) := by decide +kernel
theorem dX7_groupOffers_51 : decode cX7_groupOffers 51 = .ok (.iconst 0, 1) := by decide +kernel
theorem dX7_groupOffers_52 : decode cX7_groupOffers 52 = .ok (.iadd, 1) := by decide +kernel
theorem dX7_groupOffers_53 : decode cX7_groupOffers 53 = .ok (.istore_n 3, 1) := by decide +kernel
theorem dX7_groupOffers_54 : decode cX7_groupOffers 54 = .ok (.iinc 4 1, 3) := by decide +kernel
theorem dX7_groupOffers_57 : decode cX7_groupOffers 57 = .ok (.goto (-40), 3) := by decide +kernel
theorem dX7_groupOffers_60 : decode cX7_groupOffers 60 = .ok (.iload_n 3, 1) := by decide +kernel
theorem dX7_groupOffers_61 : decode cX7_groupOffers 61 = .ok (.ireturn, 1) := by decide +kernel
set_option maxRecDepth 20000 in
theorem ggX7_groupItem_X7_noGroup : GoodIn wsX7_groupItem wsX7_noGroup := goodIn_r _ [6, 7, 8, 5, 9, 10, 11, 12, 13, 14, 27, 28, 29, 30, 31, 32, 33, 34, 35, 36, 37, 38, 39] (by decide +kernel) (by decide +kernel)
set_option maxRecDepth 20000 in
theorem gX7_groupItem_X7_noGroup : GoodIn wsX7_groupItem (wsV RX7 58 RX7 yX7_noGroup wsX7_noGroup) := goodIn_app (goodIn_of _ (by decide +kernel)) ggX7_groupItem_X7_noGroup
set_option maxRecDepth 20000 in
theorem ggX7_groupItem_X7_slotOf : GoodIn wsX7_groupItem wsX7_slotOf := goodIn_r _ [18, 7, 8, 5, 9, 19, 20, 21, 22, 23, 24, 25, 26, 10, 11, 12, 13, 14, 27, 28, 29, 30, 31, 32, 33, 34, 35, 36, 37, 38, 39] (by decide +kernel) (by decide +kernel)
set_option maxRecDepth 20000 in
theorem gX7_groupItem_X7_slotOf : GoodIn wsX7_groupItem (wsV RX7 68 RX7 yX7_slotOf wsX7_slotOf) := goodIn_app (goodIn_of _ (by decide +kernel)) ggX7_groupItem_X7_slotOf
theorem dX7_groupItem_0 : decode cX7_groupItem 0 = .ok (.aload_n 0, 1) := by decide +kernel
theorem dX7_groupItem_1 : decode cX7_groupItem 1 = .ok (.iload_n 1, 1) := by decide +kernel
theorem dX7_groupItem_2 : decode cX7_groupItem 2 = .ok (.iconst 1, 1) := by decide +kernel
theorem dX7_groupItem_3 : decode cX7_groupItem 3 = .ok (.iload_n 2, 1) := by decide +kernel
theorem dX7_groupItem_4 : decode cX7_groupItem 4 = .ok (.invokevirtual 58, 3) := by decide +kernel
theorem dX7_groupItem_7 : decode cX7_groupItem 7 = .ok (.ifCond .eq 5, 3) := by decide +kernel
theorem dX7_groupItem_10 : decode cX7_groupItem 10 = .ok (.iconst 0, 1) := by decide +kernel
theorem dX7_groupItem_11 : decode cX7_groupItem 11 = .ok (.ireturn, 1) := by decide +kernel
theorem dX7_groupItem_12 : decode cX7_groupItem 12 = .ok (.aload_n 0, 1) := by decide +kernel
theorem dX7_groupItem_13 : decode cX7_groupItem 13 = .ok (.iload_n 1, 1) := by decide +kernel
theorem dX7_groupItem_14 : decode cX7_groupItem 14 = .ok (.iload_n 2, 1) := by decide +kernel
theorem dX7_groupItem_15 : decode cX7_groupItem 15 = .ok (.iload_n 3, 1) := by decide +kernel
theorem dX7_groupItem_16 : decode cX7_groupItem 16 = .ok (.invokevirtual 68, 3) := by decide +kernel
theorem dX7_groupItem_19 : decode cX7_groupItem 19 = .ok (.istore 4, 2) := by decide +kernel
theorem dX7_groupItem_21 : decode cX7_groupItem 21 = .ok (.iload 4, 2) := by decide +kernel
theorem dX7_groupItem_23 : decode cX7_groupItem 23 = .ok (.iconst (-1), 1) := by decide +kernel
theorem dX7_groupItem_24 : decode cX7_groupItem 24 = .ok (.if_icmp .ne 7, 3) := by decide +kernel
theorem dX7_groupItem_27 : decode cX7_groupItem 27 = .ok (.iconst 0, 1) := by decide +kernel
theorem dX7_groupItem_28 : decode cX7_groupItem 28 = .ok (.goto 10, 3) := by decide +kernel
theorem dX7_groupItem_31 : decode cX7_groupItem 31 = .ok (.aload_n 0, 1) := by decide +kernel
theorem dX7_groupItem_32 : decode cX7_groupItem 32 = .ok (.getfield 20, 3) := by decide +kernel
theorem dX7_groupItem_35 : decode cX7_groupItem 35 = .ok (.iload 4, 2) := by decide +kernel
theorem dX7_groupItem_37 : decode cX7_groupItem 37 = .ok (.iaload, 1) := by decide +kernel
theorem dX7_groupItem_38 : decode cX7_groupItem 38 = .ok (.ireturn, 1) := by decide +kernel
theorem dX7_isAhead_0 : decode cX7_isAhead 0 = .ok (.aload_n 0, 1) := by decide +kernel
theorem dX7_isAhead_1 : decode cX7_isAhead 1 = .ok (.getfield 23, 3) := by decide +kernel
theorem dX7_isAhead_4 : decode cX7_isAhead 4 = .ok (.iload_n 1, 1) := by decide +kernel
theorem dX7_isAhead_5 : decode cX7_isAhead 5 = .ok (.iaload, 1) := by decide +kernel
theorem dX7_isAhead_6 : decode cX7_isAhead 6 = .ok (.i2l, 1) := by decide +kernel
theorem dX7_isAhead_7 : decode cX7_isAhead 7 = .ok (.aload_n 0, 1) := by decide +kernel
theorem dX7_isAhead_8 : decode cX7_isAhead 8 = .ok (.getfield 29, 3) := by decide +kernel
theorem dX7_isAhead_11 : decode cX7_isAhead 11 = .ok (.iload_n 2, 1) := by decide +kernel
theorem dX7_isAhead_12 : decode cX7_isAhead 12 = .ok (.iaload, 1) := by decide +kernel
theorem dX7_isAhead_13 : decode cX7_isAhead 13 = .ok (.i2l, 1) := by decide +kernel
theorem dX7_isAhead_14 : decode cX7_isAhead 14 = .ok (.lconst 1, 1) := by decide +kernel
theorem dX7_isAhead_15 : decode cX7_isAhead 15 = .ok (.ladd, 1) := by decide +kernel
theorem dX7_isAhead_16 : decode cX7_isAhead 16 = .ok (.lmul, 1) := by decide +kernel
theorem dX7_isAhead_17 : decode cX7_isAhead 17 = .ok (.lstore_n 3, 1) := by decide +kernel
theorem dX7_isAhead_18 : decode cX7_isAhead 18 = .ok (.aload_n 0, 1) := by decide +kernel
theorem dX7_isAhead_19 : decode cX7_isAhead 19 = .ok (.getfield 23, 3) := by decide +kernel
theorem dX7_isAhead_22 : decode cX7_isAhead 22 = .ok (.iload_n 2, 1) := by decide +kernel
theorem dX7_isAhead_23 : decode cX7_isAhead 23 = .ok (.iaload, 1) := by decide +kernel
theorem dX7_isAhead_24 : decode cX7_isAhead 24 = .ok (.i2l, 1) := by decide +kernel
theorem dX7_isAhead_25 : decode cX7_isAhead 25 = .ok (.aload_n 0, 1) := by decide +kernel
theorem dX7_isAhead_26 : decode cX7_isAhead 26 = .ok (.getfield 29, 3) := by decide +kernel
theorem dX7_isAhead_29 : decode cX7_isAhead 29 = .ok (.iload_n 1, 1) := by decide +kernel
theorem dX7_isAhead_30 : decode cX7_isAhead 30 = .ok (.iaload, 1) := by decide +kernel
theorem dX7_isAhead_31 : decode cX7_isAhead 31 = .ok (.i2l, 1) := by decide +kernel
theorem dX7_isAhead_32 : decode cX7_isAhead 32 = .ok (.lconst 1, 1) := by decide +kernel
theorem dX7_isAhead_33 : decode cX7_isAhead 33 = .ok (.ladd, 1) := by decide +kernel
theorem dX7_isAhead_34 : decode cX7_isAhead 34 = .ok (.lmul, 1) := by decide +kernel
theorem dX7_isAhead_35 : decode cX7_isAhead 35 = .ok (.lstore 5, 2) := by decide +kernel
theorem dX7_isAhead_37 : decode cX7_isAhead 37 = .ok (.lload_n 3, 1) := by decide +kernel
theorem dX7_isAhead_38 : decode cX7_isAhead 38 = .ok (.lload 5, 2) := by decide +kernel
theorem dX7_isAhead_40 : decode cX7_isAhead 40 = .ok (.lcmp, 1) := by decide +kernel
theorem dX7_isAhead_41 : decode cX7_isAhead 41 = .ok (.ifCond .gt 15, 3) := by decide +kernel
theorem dX7_isAhead_44 : decode cX7_isAhead 44 = .ok (.lload_n 3, 1) := by decide +kernel
theorem dX7_isAhead_45 : decode cX7_isAhead 45 = .ok (.lload 5, 2) := by decide +kernel
theorem dX7_isAhead_47 : decode cX7_isAhead 47 = .ok (.lcmp, 1) := by decide +kernel
theorem dX7_isAhead_48 : decode cX7_isAhead 48 = .ok (.ifCond .ne 12, 3) := by decide +kernel
theorem dX7_isAhead_51 : decode cX7_isAhead 51 = .ok (.iload_n 1, 1) := by decide +kernel
theorem dX7_isAhead_52 : decode cX7_isAhead 52 = .ok (.iload_n 2, 1) := by decide +kernel
theorem dX7_isAhead_53 : decode cX7_isAhead 53 = .ok (.if_icmp .ge 7, 3) := by decide +kernel
theorem dX7_isAhead_56 : decode cX7_isAhead 56 = .ok (.iconst 1, 1) := by decide +kernel
theorem dX7_isAhead_57 : decode cX7_isAhead 57 = .ok (.goto 4, 3) := by decide +kernel
theorem dX7_isAhead_60 : decode cX7_isAhead 60 = .ok (.iconst 0, 1) := by decide +kernel
theorem dX7_isAhead_61 : decode cX7_isAhead 61 = .ok (.ireturn, 1) := by decide +kernel
set_option maxRecDepth 20000 in
theorem ggX7_ranked_X7_isOf : GoodIn wsX7_ranked wsX7_isOf := goodIn_r _ [5, 6, 13, 14, 15, 16, 17, 18, 19, 20, 21, 22, 23, 24, 25] (by decide +kernel) (by decide +kernel)
set_option maxRecDepth 20000 in
theorem gX7_ranked_X7_isOf : GoodIn wsX7_ranked (wsV RX7 61 RX7 yX7_isOf wsX7_isOf) := goodIn_app (goodIn_of _ (by decide +kernel)) ggX7_ranked_X7_isOf
set_option maxRecDepth 20000 in
theorem ggX7_ranked_X7_isAhead : GoodIn wsX7_ranked wsX7_isAhead := goodIn_r _ [10, 11, 12, 13, 14, 15, 16, 17, 18, 19, 20, 21, 22, 23, 24, 25] (by decide +kernel) (by decide +kernel)
set_option maxRecDepth 20000 in
theorem gX7_ranked_X7_isAhead : GoodIn wsX7_ranked (wsV RX7 71 RX7 yX7_isAhead wsX7_isAhead) := goodIn_app (goodIn_of _ (by decide +kernel)) ggX7_ranked_X7_isAhead
theorem dX7_ranked_0 : decode cX7_ranked 0 = .ok (.iconst (-1), 1) := by decide +kernel
theorem dX7_ranked_1 : decode cX7_ranked 1 = .ok (.istore_n 3, 1) := by decide +kernel
theorem dX7_ranked_2 : decode cX7_ranked 2 = .ok (.iconst 0, 1) := by decide +kernel
theorem dX7_ranked_3 : decode cX7_ranked 3 = .ok (.istore 4, 2) := by decide +kernel
theorem dX7_ranked_5 : decode cX7_ranked 5 = .ok (.iload 4, 2) := by decide +kernel
theorem dX7_ranked_7 : decode cX7_ranked 7 = .ok (.sipush 600, 3) := by decide +kernel
theorem dX7_ranked_10 : decode cX7_ranked 10 = .ok (.if_icmp .ge 95, 3) := by decide +kernel
theorem dX7_ranked_13 : decode cX7_ranked 13 = .ok (.iload_n 3, 1) := by decide +kernel
theorem dX7_ranked_14 : decode cX7_ranked 14 = .ok (.iconst (-1), 1) := by decide +kernel
theorem dX7_ranked_15 : decode cX7_ranked 15 = .ok (.if_icmp .ne 90, 3) := by decide +kernel
theorem dX7_ranked_18 : decode cX7_ranked 18 = .ok (.aload_n 0, 1) := by decide +kernel
theorem dX7_ranked_19 : decode cX7_ranked 19 = .ok (.iload_n 1, 1) := by decide +kernel
theorem dX7_ranked_20 : decode cX7_ranked 20 = .ok (.iload 4, 2) := by decide +kernel
theorem dX7_ranked_22 : decode cX7_ranked 22 = .ok (.invokevirtual 61, 3) := by decide +kernel
theorem dX7_ranked_25 : decode cX7_ranked 25 = .ok (.ifCond .eq 74, 3) := by decide +kernel
theorem dX7_ranked_28 : decode cX7_ranked 28 = .ok (.iconst 0, 1) := by decide +kernel
theorem dX7_ranked_29 : decode cX7_ranked 29 = .ok (.istore 5, 2) := by decide +kernel
theorem dX7_ranked_31 : decode cX7_ranked 31 = .ok (.iconst 0, 1) := by decide +kernel
theorem dX7_ranked_32 : decode cX7_ranked 32 = .ok (.istore 6, 2) := by decide +kernel
theorem dX7_ranked_34 : decode cX7_ranked 34 = .ok (.iload 6, 2) := by decide +kernel
theorem dX7_ranked_36 : decode cX7_ranked 36 = .ok (.sipush 600, 3) := by decide +kernel
theorem dX7_ranked_39 : decode cX7_ranked 39 = .ok (.if_icmp .ge 47, 3) := by decide +kernel
theorem dX7_ranked_42 : decode cX7_ranked 42 = .ok (.iload 5, 2) := by decide +kernel
theorem dX7_ranked_44 : decode cX7_ranked 44 = .ok (.aload_n 0, 1) := by decide +kernel
theorem dX7_ranked_45 : decode cX7_ranked 45 = .ok (.iload_n 1, 1) := by decide +kernel
theorem dX7_ranked_46 : decode cX7_ranked 46 = .ok (.iload 6, 2) := by decide +kernel
theorem dX7_ranked_48 : decode cX7_ranked 48 = .ok (.invokevirtual 61, 3) := by decide +kernel
theorem dX7_ranked_51 : decode cX7_ranked 51 = .ok (.ifCond .eq 25, 3) := by decide +kernel
theorem dX7_ranked_54 : decode cX7_ranked 54 = .ok (.iload 6, 2) := by decide +kernel
theorem dX7_ranked_56 : decode cX7_ranked 56 = .ok (.iload 4, 2) := by decide +kernel
theorem dX7_ranked_58 : decode cX7_ranked 58 = .ok (.if_icmp .eq 18, 3) := by decide +kernel
theorem dX7_ranked_61 : decode cX7_ranked 61 = .ok (.aload_n 0, 1) := by decide +kernel
theorem dX7_ranked_62 : decode cX7_ranked 62 = .ok (.iload 6, 2) := by decide +kernel
theorem dX7_ranked_64 : decode cX7_ranked 64 = .ok (.iload 4, 2) := by decide +kernel
theorem dX7_ranked_66 : decode cX7_ranked 66 = .ok (.invokevirtual 71, 3) := by decide +kernel
theorem dX7_ranked_69 : decode cX7_ranked 69 = .ok (.ifCond .eq 7, 3) := by decide +kernel
theorem dX7_ranked_72 : decode cX7_ranked 72 = .ok (.iconst 1, 1) := by decide +kernel
theorem dX7_ranked_73 : decode cX7_ranked 73 = .ok (.goto 4, 3) := by decide +kernel
theorem dX7_ranked_76 : decode cX7_ranked 76 = .ok (.iconst 0, 1) := by decide +kernel
theorem dX7_ranked_77 : decode cX7_ranked 77 = .ok (.iadd, 1) := by decide +kernel
theorem dX7_ranked_78 : decode cX7_ranked 78 = .ok (.istore 5, 2) := by decide +kernel
theorem dX7_ranked_80 : decode cX7_ranked 80 = .ok (.iinc 6 1, 3) := by decide +kernel
theorem dX7_ranked_83 : decode cX7_ranked 83 = .ok (.goto (-49), 3) := by decide +kernel
theorem dX7_ranked_86 : decode cX7_ranked 86 = .ok (.iload 5, 2) := by decide +kernel
theorem dX7_ranked_88 : decode cX7_ranked 88 = .ok (.iload_n 2, 1) := by decide +kernel
theorem dX7_ranked_89 : decode cX7_ranked 89 = .ok (.if_icmp .ne 8, 3) := by decide +kernel
theorem dX7_ranked_92 : decode cX7_ranked 92 = .ok (.iload 4, 2) := by decide +kernel
theorem dX7_ranked_94 : decode cX7_ranked 94 = .ok (.goto 4, 3) := by decide +kernel
theorem dX7_ranked_97 : decode cX7_ranked 97 = .ok (.iconst (-1), 1) := by decide +kernel
theorem dX7_ranked_98 : decode cX7_ranked 98 = .ok (.istore_n 3, 1) := by decide +kernel
theorem dX7_ranked_99 : decode cX7_ranked 99 = .ok (.iinc 4 1, 3) := by decide +kernel
theorem dX7_ranked_102 : decode cX7_ranked 102 = .ok (.goto (-97), 3) := by decide +kernel
theorem dX7_ranked_105 : decode cX7_ranked 105 = .ok (.iload_n 3, 1) := by decide +kernel
theorem dX7_ranked_106 : decode cX7_ranked 106 = .ok (.ireturn, 1) := by decide +kernel
theorem dX7_all_0 : decode cX7_all 0 = .ok (.iload_n 1, 1) := by decide +kernel
theorem dX7_all_1 : decode cX7_all 1 = .ok (.iconst 2, 1) := by decide +kernel
theorem dX7_all_2 : decode cX7_all 2 = .ok (.if_icmp .ne 19, 3) := by decide +kernel
theorem dX7_all_5 : decode cX7_all 5 = .ok (.aload_n 0, 1) := by decide +kernel
theorem dX7_all_6 : decode cX7_all 6 = .ok (.getfield 16, 3) := by decide +kernel
theorem dX7_all_9 : decode cX7_all 9 = .ok (.iconst 0, 1) := by decide +kernel
theorem dX7_all_10 : decode cX7_all 10 = .ok (.iaload, 1) := by decide +kernel
theorem dX7_all_11 : decode cX7_all 11 = .ok (.aload_n 0, 1) := by decide +kernel
theorem dX7_all_12 : decode cX7_all 12 = .ok (.getfield 16, 3) := by decide +kernel
theorem dX7_all_15 : decode cX7_all 15 = .ok (.iconst 1, 1) := by decide +kernel
theorem dX7_all_16 : decode cX7_all 16 = .ok (.iaload, 1) := by decide +kernel
theorem dX7_all_17 : decode cX7_all 17 = .ok (.iadd, 1) := by decide +kernel
theorem dX7_all_18 : decode cX7_all 18 = .ok (.goto 9, 3) := by decide +kernel
theorem dX7_all_21 : decode cX7_all 21 = .ok (.aload_n 0, 1) := by decide +kernel
theorem dX7_all_22 : decode cX7_all 22 = .ok (.getfield 16, 3) := by decide +kernel
theorem dX7_all_25 : decode cX7_all 25 = .ok (.iload_n 1, 1) := by decide +kernel
theorem dX7_all_26 : decode cX7_all 26 = .ok (.iaload, 1) := by decide +kernel
theorem dX7_all_27 : decode cX7_all 27 = .ok (.ireturn, 1) := by decide +kernel
set_option maxRecDepth 20000 in
theorem ggX7_sampled_X7_all : GoodIn wsX7_sampled wsX7_all := goodIn_r _ [6, 7, 8, 9, 10, 11, 12, 13, 14, 15, 16, 17, 18, 19, 20] (by decide +kernel) (by decide +kernel)
set_option maxRecDepth 20000 in
theorem gX7_sampled_X7_all : GoodIn wsX7_sampled (wsV RX7 74 RX7 yX7_all wsX7_all) := goodIn_app (goodIn_of _ (by decide +kernel)) ggX7_sampled_X7_all
theorem dX7_sampled_0 : decode cX7_sampled 0 = .ok (.aload_n 0, 1) := by decide +kernel
theorem dX7_sampled_1 : decode cX7_sampled 1 = .ok (.iload_n 1, 1) := by decide +kernel
theorem dX7_sampled_2 : decode cX7_sampled 2 = .ok (.invokevirtual 74, 3) := by decide +kernel
theorem dX7_sampled_5 : decode cX7_sampled 5 = .ok (.aload_n 0, 1) := by decide +kernel
theorem dX7_sampled_6 : decode cX7_sampled 6 = .ok (.getfield 7, 3) := by decide +kernel
theorem dX7_sampled_9 : decode cX7_sampled 9 = .ok (.if_icmp .ge 11, 3) := by decide +kernel
theorem dX7_sampled_12 : decode cX7_sampled 12 = .ok (.aload_n 0, 1) := by decide +kernel
theorem dX7_sampled_13 : decode cX7_sampled 13 = .ok (.iload_n 1, 1) := by decide +kernel
theorem dX7_sampled_14 : decode cX7_sampled 14 = .ok (.invokevirtual 74, 3) := by decide +kernel
theorem dX7_sampled_17 : decode cX7_sampled 17 = .ok (.goto 7, 3) := by decide +kernel
theorem dX7_sampled_20 : decode cX7_sampled 20 = .ok (.aload_n 0, 1) := by decide +kernel
theorem dX7_sampled_21 : decode cX7_sampled 21 = .ok (.getfield 7, 3) := by decide +kernel
theorem dX7_sampled_24 : decode cX7_sampled 24 = .ok (.ireturn, 1) := by decide +kernel
set_option maxRecDepth 20000 in
theorem ggX7_thresholdOf_X7_ranked : GoodIn wsX7_thresholdOf wsX7_ranked := goodIn_r _ [9, 10, 11, 12, 8, 13, 14, 15, 16, 17, 18, 2, 4, 19, 20, 21, 22, 23, 24, 25, 26, 27, 28, 29, 30, 31] (by decide +kernel) (by decide +kernel)
set_option maxRecDepth 20000 in
theorem gX7_thresholdOf_X7_ranked : GoodIn wsX7_thresholdOf (wsV RX7 78 RX7 yX7_ranked wsX7_ranked) := goodIn_app (goodIn_of _ (by decide +kernel)) ggX7_thresholdOf_X7_ranked
theorem dX7_thresholdOf_0 : decode cX7_thresholdOf 0 = .ok (.aload_n 0, 1) := by decide +kernel
theorem dX7_thresholdOf_1 : decode cX7_thresholdOf 1 = .ok (.iload_n 1, 1) := by decide +kernel
theorem dX7_thresholdOf_2 : decode cX7_thresholdOf 2 = .ok (.aload_n 0, 1) := by decide +kernel
theorem dX7_thresholdOf_3 : decode cX7_thresholdOf 3 = .ok (.getfield 7, 3) := by decide +kernel
theorem dX7_thresholdOf_6 : decode cX7_thresholdOf 6 = .ok (.invokevirtual 78, 3) := by decide +kernel
theorem dX7_thresholdOf_9 : decode cX7_thresholdOf 9 = .ok (.istore_n 2, 1) := by decide +kernel
theorem dX7_thresholdOf_10 : decode cX7_thresholdOf 10 = .ok (.iload_n 2, 1) := by decide +kernel
theorem dX7_thresholdOf_11 : decode cX7_thresholdOf 11 = .ok (.iconst (-1), 1) := by decide +kernel
theorem dX7_thresholdOf_12 : decode cX7_thresholdOf 12 = .ok (.if_icmp .ne 7, 3) := by decide +kernel
theorem dX7_thresholdOf_15 : decode cX7_thresholdOf 15 = .ok (.lconst 0, 1) := by decide +kernel
theorem dX7_thresholdOf_16 : decode cX7_thresholdOf 16 = .ok (.goto 24, 3) := by decide +kernel
theorem dX7_thresholdOf_19 : decode cX7_thresholdOf 19 = .ok (.aload_n 0, 1) := by decide +kernel
theorem dX7_thresholdOf_20 : decode cX7_thresholdOf 20 = .ok (.getfield 23, 3) := by decide +kernel
theorem dX7_thresholdOf_23 : decode cX7_thresholdOf 23 = .ok (.iload_n 2, 1) := by decide +kernel
theorem dX7_thresholdOf_24 : decode cX7_thresholdOf 24 = .ok (.iaload, 1) := by decide +kernel
theorem dX7_thresholdOf_25 : decode cX7_thresholdOf 25 = .ok (.i2l, 1) := by decide +kernel
theorem dX7_thresholdOf_26 : decode cX7_thresholdOf 26 = .ok (.ldc2_w 82, 3) := by decide +kernel
theorem dX7_thresholdOf_29 : decode cX7_thresholdOf 29 = .ok (.lmul, 1) := by decide +kernel
theorem dX7_thresholdOf_30 : decode cX7_thresholdOf 30 = .ok (.aload_n 0, 1) := by decide +kernel
theorem dX7_thresholdOf_31 : decode cX7_thresholdOf 31 = .ok (.getfield 29, 3) := by decide +kernel
theorem dX7_thresholdOf_34 : decode cX7_thresholdOf 34 = .ok (.iload_n 2, 1) := by decide +kernel
theorem dX7_thresholdOf_35 : decode cX7_thresholdOf 35 = .ok (.iaload, 1) := by decide +kernel
theorem dX7_thresholdOf_36 : decode cX7_thresholdOf 36 = .ok (.i2l, 1) := by decide +kernel
theorem dX7_thresholdOf_37 : decode cX7_thresholdOf 37 = .ok (.lconst 1, 1) := by decide +kernel
theorem dX7_thresholdOf_38 : decode cX7_thresholdOf 38 = .ok (.ladd, 1) := by decide +kernel
theorem dX7_thresholdOf_39 : decode cX7_thresholdOf 39 = .ok (.ldiv, 1) := by decide +kernel
theorem dX7_thresholdOf_40 : decode cX7_thresholdOf 40 = .ok (.lreturn, 1) := by decide +kernel
set_option maxRecDepth 20000 in
theorem ggX7_prioritySize_X7_noStream : GoodIn wsX7_prioritySize wsX7_noStream := goodIn_r _ [5, 6, 7, 4, 8, 9, 10, 11, 12, 13, 24, 25, 26, 27, 28, 29, 30, 31, 32, 33, 34, 35, 36] (by decide +kernel) (by decide +kernel)
set_option maxRecDepth 20000 in
theorem gX7_prioritySize_X7_noStream : GoodIn wsX7_prioritySize (wsV RX7 54 RX7 yX7_noStream wsX7_noStream) := goodIn_app (goodIn_of _ (by decide +kernel)) ggX7_prioritySize_X7_noStream
set_option maxRecDepth 20000 in
theorem ggX7_prioritySize_X7_sampled : GoodIn wsX7_prioritySize wsX7_sampled := goodIn_r _ [17, 18, 19, 20, 21, 4, 22, 23, 24, 25, 26, 27, 28, 29, 30, 31, 32, 33, 34, 35, 36] (by decide +kernel) (by decide +kernel)
set_option maxRecDepth 20000 in
theorem gX7_prioritySize_X7_sampled : GoodIn wsX7_prioritySize (wsV RX7 84 RX7 yX7_sampled wsX7_sampled) := goodIn_app (goodIn_of _ (by decide +kernel)) ggX7_prioritySize_X7_sampled
theorem dX7_prioritySize_0 : decode cX7_prioritySize 0 = .ok (.aload_n 0, 1) := by decide +kernel
theorem dX7_prioritySize_1 : decode cX7_prioritySize 1 = .ok (.iload_n 1, 1) := by decide +kernel
theorem dX7_prioritySize_2 : decode cX7_prioritySize 2 = .ok (.iconst 2, 1) := by decide +kernel
theorem dX7_prioritySize_3 : decode cX7_prioritySize 3 = .ok (.invokevirtual 54, 3) := by decide +kernel
theorem dX7_prioritySize_6 : decode cX7_prioritySize 6 = .ok (.ifCond .eq 7, 3) := by decide +kernel
theorem dX7_prioritySize_9 : decode cX7_prioritySize 9 = .ok (.iconst 0, 1) := by decide +kernel
theorem dX7_prioritySize_10 : decode cX7_prioritySize 10 = .ok (.goto 8, 3) := by decide +kernel
theorem dX7_prioritySize_13 : decode cX7_prioritySize 13 = .ok (.aload_n 0, 1) := by decide +kernel
theorem dX7_prioritySize_14 : decode cX7_prioritySize 14 = .ok (.iload_n 1, 1) := by decide +kernel
theorem dX7_prioritySize_15 : decode cX7_prioritySize 15 = .ok (.invokevirtual 84, 3) := by decide +kernel
theorem dX7_prioritySize_18 : decode cX7_prioritySize 18 = .ok (.ireturn, 1) := by decide +kernel
set_option maxRecDepth 20000 in
theorem ggX7_noPlace_X7_in : GoodIn wsX7_noPlace wsX7_in := goodIn_r _ [4] (by decide +kernel) (by decide +kernel)
set_option maxRecDepth 20000 in
theorem gX7_noPlace_X7_in : GoodIn wsX7_noPlace (va_wsS RX7 45 yX7_in wsX7_in) := goodIn_app (goodIn_of _ (by decide +kernel)) ggX7_noPlace_X7_in
set_option maxRecDepth 20000 in
theorem ggX7_noPlace_X7_sampled : GoodIn wsX7_noPlace wsX7_sampled := goodIn_r _ [8, 9, 10, 11, 12, 3, 13, 14, 20, 21, 22, 23, 24, 25, 26, 27, 28, 29, 30, 31, 32] (by decide +kernel) (by decide +kernel)
