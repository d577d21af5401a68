set_option maxRecDepth 20000 in
theorem ggX6_offer_X5_take : GoodIn wsX6_offer wsX5_take := goodIn_r _ [24, 25, 26, 27, 28, 29, 30, 31, 32, 33, 34, 35, 36, 37, 38, 39, 5, 40, 41, 42, 43, 44, 45, 23, 46, 47, 48, 49, 50, 51, 52, 53, 54, 55, 56, 57, 58, 59, 60, 61, 62, 63, 64, 65, 66, 67, 68, 69, 70, 71, 72, 73, 74, 75, 76, 77, 78, 79, 80, 81, 82, 83, 84, 85, 86, 87, 88, 89, 90, 91, 92, 93, 94, 95, 96, 97, 98, 99, 100, 101, 102, 103, 104, 105, 106, 107, 108, 109, 110, 111, 112, 113, 114, 115, 116, 117, 118, 119, 120, 121, 122, 123, 124, 125, 126, 127, 128, 129, 130, 131, 132, 133, 139, 140, 141, 142, 143, 144, 145, 146, 147, 148, 149, 150, 151, 152, 153, 154, 155, 156, 157, 158, 159, 160] (by decide +kernel) (by decide +kernel)
set_option maxRecDepth 20000 in
theorem gX6_offer_X5_take : GoodIn wsX6_offer (wsV RX6 55 RX5 yX5_take wsX5_take) := goodIn_app (goodIn_of _ (by decide +kernel)) ggX6_offer_X5_take
theorem dX6_offer_0 : decode cX6_offer 0 = .ok (.iload_n 1, 1) := by decide +kernel
theorem dX6_offer_1 : decode cX6_offer 1 = .ok (.iconst 0, 1) := by decide +kernel
theorem dX6_offer_2 : decode cX6_offer 2 = .ok (.iconst 1, 1) := by decide +kernel
theorem dX6_offer_3 : decode cX6_offer 3 = .ok (.invokestatic 37, 3) := by decide +kernel
theorem dX6_offer_6 : decode cX6_offer 6 = .ok (.iload_n 2, 1) := by decide +kernel
theorem dX6_offer_7 : decode cX6_offer 7 = .ok (.iconst 0, 1) := by decide +kernel
theorem dX6_offer_8 : decode cX6_offer 8 = .ok (.ldc 41, 2) := by decide +kernel
theorem dX6_offer_10 : decode cX6_offer 10 = .ok (.invokestatic 37, 3) := by decide +kernel
theorem dX6_offer_13 : decode cX6_offer 13 = .ok (.iload_n 3, 1) := by decide +kernel
theorem dX6_offer_14 : decode cX6_offer 14 = .ok (.iconst 1, 1) := by decide +kernel
theorem dX6_offer_15 : decode cX6_offer 15 = .ok (.ldc 41, 2) := by decide +kernel
theorem dX6_offer_17 : decode cX6_offer 17 = .ok (.invokestatic 37, 3) := by decide +kernel
theorem dX6_offer_20 : decode cX6_offer 20 = .ok (.iload 4, 2) := by decide +kernel
theorem dX6_offer_22 : decode cX6_offer 22 = .ok (.iconst 0, 1) := by decide +kernel
theorem dX6_offer_23 : decode cX6_offer 23 = .ok (.iconst 3, 1) := by decide +kernel
theorem dX6_offer_24 : decode cX6_offer 24 = .ok (.invokestatic 37, 3) := by decide +kernel
theorem dX6_offer_27 : decode cX6_offer 27 = .ok (.iload 5, 2) := by decide +kernel
theorem dX6_offer_29 : decode cX6_offer 29 = .ok (.iconst 0, 1) := by decide +kernel
theorem dX6_offer_30 : decode cX6_offer 30 = .ok (.ldc 42, 2) := by decide +kernel
theorem dX6_offer_32 : decode cX6_offer 32 = .ok (.invokestatic 37, 3) := by decide +kernel
theorem dX6_offer_35 : decode cX6_offer 35 = .ok (.iload 6, 2) := by decide +kernel
theorem dX6_offer_37 : decode cX6_offer 37 = .ok (.iconst 0, 1) := by decide +kernel
theorem dX6_offer_38 : decode cX6_offer 38 = .ok (.ldc 42, 2) := by decide +kernel
theorem dX6_offer_40 : decode cX6_offer 40 = .ok (.invokestatic 37, 3) := by decide +kernel
theorem dX6_offer_43 : decode cX6_offer 43 = .ok (.aload_n 0, 1) := by decide +kernel
theorem dX6_offer_44 : decode cX6_offer 44 = .ok (.iload_n 1, 1) := by decide +kernel
theorem dX6_offer_45 : decode cX6_offer 45 = .ok (.invokevirtual 43, 3) := by decide +kernel
theorem dX6_offer_48 : decode cX6_offer 48 = .ok (.astore 7, 2) := by decide +kernel
theorem dX6_offer_50 : decode cX6_offer 50 = .ok (.aload 7, 2) := by decide +kernel
theorem dX6_offer_52 : decode cX6_offer 52 = .ok (.getfield 47, 3) := by decide +kernel
theorem dX6_offer_55 : decode cX6_offer 55 = .ok (.sipush 300, 3) := by decide +kernel
theorem dX6_offer_58 : decode cX6_offer 58 = .ok (.if_icmp .ge 7, 3) := by decide +kernel
theorem dX6_offer_61 : decode cX6_offer 61 = .ok (.iconst 1, 1) := by decide +kernel
theorem dX6_offer_62 : decode cX6_offer 62 = .ok (.goto 4, 3) := by decide +kernel
theorem dX6_offer_65 : decode cX6_offer 65 = .ok (.iconst 0, 1) := by decide +kernel
theorem dX6_offer_66 : decode cX6_offer 66 = .ok (.invokestatic 51, 3) := by decide +kernel
theorem dX6_offer_69 : decode cX6_offer 69 = .ok (.aload 7, 2) := by decide +kernel
theorem dX6_offer_71 : decode cX6_offer 71 = .ok (.iload_n 2, 1) := by decide +kernel
theorem dX6_offer_72 : decode cX6_offer 72 = .ok (.iload_n 3, 1) := by decide +kernel
theorem dX6_offer_73 : decode cX6_offer 73 = .ok (.iload 4, 2) := by decide +kernel
theorem dX6_offer_75 : decode cX6_offer 75 = .ok (.iload 5, 2) := by decide +kernel
theorem dX6_offer_77 : decode cX6_offer 77 = .ok (.iload 6, 2) := by decide +kernel
theorem dX6_offer_79 : decode cX6_offer 79 = .ok (.invokevirtual 55, 3) := by decide +kernel
theorem dX6_offer_82 : decode cX6_offer 82 = .ok (.aload 7, 2) := by decide +kernel
theorem dX6_offer_84 : decode cX6_offer 84 = .ok (.getfield 47, 3) := by decide +kernel
theorem dX6_offer_87 : decode cX6_offer 87 = .ok (.ireturn, 1) := by decide +kernel
set_option maxRecDepth 20000 in
theorem ggX6_clear_X6_checkArgument : GoodIn wsX6_clear wsX6_checkArgument := goodIn_ca (goodIn_r _ [4, 5, 6] (by decide +kernel) (by decide +kernel)) (goodIn_sub (fun _ h => List.mem_cons_of_mem _ (List.mem_append_right _ h)) (by decide +kernel))
set_option maxRecDepth 20000 in
theorem gX6_clear_X6_checkArgument : GoodIn wsX6_clear (va_wsS RX6 37 yX6_checkArgument wsX6_checkArgument) := goodIn_app (goodIn_of _ (by decide +kernel)) ggX6_clear_X6_checkArgument
set_option maxRecDepth 20000 in
theorem ggX6_clear_X6_streamOf : GoodIn wsX6_clear wsX6_streamOf := goodIn_r _ [10, 11, 12, 78, 79, 80, 81, 82] (by decide +kernel) (by decide +kernel)
set_option maxRecDepth 20000 in
theorem gX6_clear_X6_streamOf : GoodIn wsX6_clear (wsV RX6 43 RX6 yX6_streamOf wsX6_streamOf) := goodIn_app (goodIn_of _ (by decide +kernel)) ggX6_clear_X6_streamOf
set_option maxRecDepth 20000 in
theorem ggX6_clear_X5_makeEmpty : GoodIn wsX6_clear wsX5_makeEmpty := goodIn_r _ [17, 18, 19, 20, 21, 22, 23, 24, 25, 26, 27, 28, 29, 30, 31, 32, 33, 34, 35, 36, 37, 38, 39, 40, 41, 42, 43, 44, 45, 46, 47, 48, 49, 50, 51, 52, 53, 54, 55, 56, 57, 58, 59, 60, 61, 62, 63, 64, 65, 66, 67, 68, 69, 70, 71, 72, 73, 74, 75, 76, 77, 83, 84, 85, 86, 87, 88, 89, 90, 91, 92, 93, 94, 95, 96, 97, 98, 99, 100, 101, 102, 103, 104] (by decide +kernel) (by decide +kernel)
set_option maxRecDepth 20000 in
theorem gX6_clear_X5_makeEmpty : GoodIn wsX6_clear (wsV RX6 59 RX5 yX5_makeEmpty wsX5_makeEmpty) := goodIn_app (goodIn_of _ (by decide +kernel)) ggX6_clear_X5_makeEmpty
theorem dX6_clear_0 : decode cX6_clear 0 = .ok (.iload_n 1, 1) := by decide +kernel
theorem dX6_clear_1 : decode cX6_clear 1 = .ok (.iconst 0, 1) := by decide +kernel
theorem dX6_clear_2 : decode cX6_clear 2 = .ok (.iconst 1, 1) := by decide +kernel
theorem dX6_clear_3 : decode cX6_clear 3 = .ok (.invokestatic 37, 3) := by decide +kernel
theorem dX6_clear_6 : decode cX6_clear 6 = .ok (.aload_n 0, 1) := by decide +kernel
theorem dX6_clear_7 : decode cX6_clear 7 = .ok (.iload_n 1, 1) := by decide +kernel
theorem dX6_clear_8 : decode cX6_clear 8 = .ok (.invokevirtual 43, 3) := by decide +kernel
theorem dX6_clear_11 : decode cX6_clear 11 = .ok (.astore_n 2, 1) := by decide +kernel
theorem dX6_clear_12 : decode cX6_clear 12 = .ok (.aload_n 2, 1) := by decide +kernel
theorem dX6_clear_13 : decode cX6_clear 13 = .ok (.getfield 47, 3) := by decide +kernel
theorem dX6_clear_16 : decode cX6_clear 16 = .ok (.istore_n 3, 1) := by decide +kernel
theorem dX6_clear_17 : decode cX6_clear 17 = .ok (.aload_n 2, 1) := by decide +kernel
theorem dX6_clear_18 : decode cX6_clear 18 = .ok (.invokevirtual 59, 3) := by decide +kernel
theorem dX6_clear_21 : decode cX6_clear 21 = .ok (.iload_n 3, 1) := by decide +kernel
theorem dX6_clear_22 : decode cX6_clear 22 = .ok (.ireturn, 1) := by decide +kernel
set_option maxRecDepth 20000 in
theorem ggX6_offers_X6_checkArgument : GoodIn wsX6_offers wsX6_checkArgument := goodIn_ca (goodIn_r _ [6, 7, 8] (by decide +kernel) (by decide +kernel)) (goodIn_sub (fun _ h => List.mem_cons_of_mem _ (List.mem_append_right _ h)) (by decide +kernel))
set_option maxRecDepth 20000 in
theorem gX6_offers_X6_checkArgument : GoodIn wsX6_offers (va_wsS RX6 37 yX6_checkArgument wsX6_checkArgument) := goodIn_app (goodIn_of _ (by decide +kernel)) ggX6_offers_X6_checkArgument
set_option maxRecDepth 20000 in
theorem ggX6_offers_X6_streamOf : GoodIn wsX6_offers wsX6_streamOf := goodIn_r _ [12, 1, 2, 13, 14, 15, 16, 17] (by decide +kernel) (by decide +kernel)
set_option maxRecDepth 20000 in
theorem gX6_offers_X6_streamOf : GoodIn wsX6_offers (wsV RX6 43 RX6 yX6_streamOf wsX6_streamOf) := goodIn_app (goodIn_of _ (by decide +kernel)) ggX6_offers_X6_streamOf
theorem dX6_offers_0 : decode cX6_offers 0 = .ok (.iload_n 1, 1) := by decide +kernel
theorem dX6_offers_1 : decode cX6_offers 1 = .ok (.iconst 0, 1) := by decide +kernel
theorem dX6_offers_2 : decode cX6_offers 2 = .ok (.iconst 2, 1) := by decide +kernel
theorem dX6_offers_3 : decode cX6_offers 3 = .ok (.invokestatic 37, 3) := by decide +kernel
theorem dX6_offers_6 : decode cX6_offers 6 = .ok (.iload_n 1, 1) := by decide +kernel
theorem dX6_offers_7 : decode cX6_offers 7 = .ok (.iconst 2, 1) := by decide +kernel
theorem dX6_offers_8 : decode cX6_offers 8 = .ok (.if_icmp .ne 19, 3) := by decide +kernel
theorem dX6_offers_11 : decode cX6_offers 11 = .ok (.aload_n 0, 1) := by decide +kernel
theorem dX6_offers_12 : decode cX6_offers 12 = .ok (.getfield 10, 3) := by decide +kernel
theorem dX6_offers_15 : decode cX6_offers 15 = .ok (.getfield 47, 3) := by decide +kernel
theorem dX6_offers_18 : decode cX6_offers 18 = .ok (.aload_n 0, 1) := by decide +kernel
theorem dX6_offers_19 : decode cX6_offers 19 = .ok (.getfield 16, 3) := by decide +kernel
theorem dX6_offers_22 : decode cX6_offers 22 = .ok (.getfield 47, 3) := by decide +kernel
theorem dX6_offers_25 : decode cX6_offers 25 = .ok (.iadd, 1) := by decide +kernel
theorem dX6_offers_26 : decode cX6_offers 26 = .ok (.ireturn, 1) := by decide +kernel
theorem dX6_offers_27 : decode cX6_offers 27 = .ok (.aload_n 0, 1) := by decide +kernel
theorem dX6_offers_28 : decode cX6_offers 28 = .ok (.iload_n 1, 1) := by decide +kernel
theorem dX6_offers_29 : decode cX6_offers 29 = .ok (.invokevirtual 43, 3) := by decide +kernel
theorem dX6_offers_32 : decode cX6_offers 32 = .ok (.getfield 47, 3) := by decide +kernel
theorem dX6_offers_35 : decode cX6_offers 35 = .ok (.ireturn, 1) := by decide +kernel
set_option maxRecDepth 20000 in
theorem ggX6_exactWeight_X6_checkArgument : GoodIn wsX6_exactWeight wsX6_checkArgument := goodIn_ca (goodIn_r _ [6, 7, 8] (by decide +kernel) (by decide +kernel)) (goodIn_sub (fun _ h => List.mem_cons_of_mem _ (List.mem_append_right _ h)) (by decide +kernel))
set_option maxRecDepth 20000 in
theorem gX6_exactWeight_X6_checkArgument : GoodIn wsX6_exactWeight (va_wsS RX6 37 yX6_checkArgument wsX6_checkArgument) := goodIn_app (goodIn_of _ (by decide +kernel)) ggX6_exactWeight_X6_checkArgument
set_option maxRecDepth 20000 in
theorem ggX6_exactWeight_X5_groupOf : GoodIn wsX6_exactWeight wsX5_groupOf := goodIn_r _ [13, 14, 15, 16, 17, 29, 30, 31, 32, 33, 34, 35, 36, 37, 38, 39] (by decide +kernel) (by decide +kernel)
set_option maxRecDepth 20000 in
theorem gX6_exactWeight_X5_groupOf : GoodIn wsX6_exactWeight (wsV RX6 62 RX5 yX5_groupOf wsX5_groupOf) := goodIn_app (goodIn_of _ (by decide +kernel)) ggX6_exactWeight_X5_groupOf
set_option maxRecDepth 20000 in
theorem ggX6_exactWeight_X6_streamOf : GoodIn wsX6_exactWeight wsX6_streamOf := goodIn_r _ [21, 1, 2, 22, 23, 24, 25, 26] (by decide +kernel) (by decide +kernel)
set_option maxRecDepth 20000 in
theorem gX6_exactWeight_X6_streamOf : GoodIn wsX6_exactWeight (wsV RX6 43 RX6 yX6_streamOf wsX6_streamOf) := goodIn_app (goodIn_of _ (by decide +kernel)) ggX6_exactWeight_X6_streamOf
theorem dX6_exactWeight_0 : decode cX6_exactWeight 0 = .ok (.iload_n 1, 1) := by decide +kernel
theorem dX6_exactWeight_1 : decode cX6_exactWeight 1 = .ok (.iconst 0, 1) := by decide +kernel
theorem dX6_exactWeight_2 : decode cX6_exactWeight 2 = .ok (.iconst 2, 1) := by decide +kernel
theorem dX6_exactWeight_3 : decode cX6_exactWeight 3 = .ok (.invokestatic 37, 3) := by decide +kernel
theorem dX6_exactWeight_6 : decode cX6_exactWeight 6 = .ok (.iload_n 2, 1) := by decide +kernel
theorem dX6_exactWeight_7 : decode cX6_exactWeight 7 = .ok (.iconst 0, 1) := by decide +kernel
theorem dX6_exactWeight_8 : decode cX6_exactWeight 8 = .ok (.iconst 3, 1) := by decide +kernel
theorem dX6_exactWeight_9 : decode cX6_exactWeight 9 = .ok (.invokestatic 37, 3) := by decide +kernel
theorem dX6_exactWeight_12 : decode cX6_exactWeight 12 = .ok (.iload_n 1, 1) := by decide +kernel
theorem dX6_exactWeight_13 : decode cX6_exactWeight 13 = .ok (.iconst 2, 1) := by decide +kernel
theorem dX6_exactWeight_14 : decode cX6_exactWeight 14 = .ok (.if_icmp .ne 27, 3) := by decide +kernel
theorem dX6_exactWeight_17 : decode cX6_exactWeight 17 = .ok (.aload_n 0, 1) := by decide +kernel
theorem dX6_exactWeight_18 : decode cX6_exactWeight 18 = .ok (.getfield 10, 3) := by decide +kernel
theorem dX6_exactWeight_21 : decode cX6_exactWeight 21 = .ok (.iload_n 2, 1) := by decide +kernel
theorem dX6_exactWeight_22 : decode cX6_exactWeight 22 = .ok (.invokevirtual 62, 3) := by decide +kernel
theorem dX6_exactWeight_25 : decode cX6_exactWeight 25 = .ok (.getfield 66, 3) := by decide +kernel
theorem dX6_exactWeight_28 : decode cX6_exactWeight 28 = .ok (.aload_n 0, 1) := by decide +kernel
theorem dX6_exactWeight_29 : decode cX6_exactWeight 29 = .ok (.getfield 16, 3) := by decide +kernel
theorem dX6_exactWeight_32 : decode cX6_exactWeight 32 = .ok (.iload_n 2, 1) := by decide +kernel
theorem dX6_exactWeight_33 : decode cX6_exactWeight 33 = .ok (.invokevirtual 62, 3) := by decide +kernel
theorem dX6_exactWeight_36 : decode cX6_exactWeight 36 = .ok (.getfield 66, 3) := by decide +kernel
theorem dX6_exactWeight_39 : decode cX6_exactWeight 39 = .ok (.iadd, 1) := by decide +kernel
theorem dX6_exactWeight_40 : decode cX6_exactWeight 40 = .ok (.ireturn, 1) := by decide +kernel
theorem dX6_exactWeight_41 : decode cX6_exactWeight 41 = .ok (.aload_n 0, 1) := by decide +kernel
theorem dX6_exactWeight_42 : decode cX6_exactWeight 42 = .ok (.iload_n 1, 1) := by decide +kernel
theorem dX6_exactWeight_43 : decode cX6_exactWeight 43 = .ok (.invokevirtual 43, 3) := by decide +kernel
theorem dX6_exactWeight_46 : decode cX6_exactWeight 46 = .ok (.iload_n 2, 1) := by decide +kernel
theorem dX6_exactWeight_47 : decode cX6_exactWeight 47 = .ok (.invokevirtual 62, 3) := by decide +kernel
theorem dX6_exactWeight_50 : decode cX6_exactWeight 50 = .ok (.getfield 66, 3) := by decide +kernel
theorem dX6_exactWeight_53 : decode cX6_exactWeight 53 = .ok (.ireturn, 1) := by decide +kernel
set_option maxRecDepth 20000 in
theorem ggX6_reservoirSize_X6_checkArgument : GoodIn wsX6_reservoirSize wsX6_checkArgument := goodIn_ca (goodIn_r _ [4, 5, 6] (by decide +kernel) (by decide +kernel)) (goodIn_sub (fun _ h => List.mem_cons_of_mem _ (List.mem_append_right _ h)) (by decide +kernel))
set_option maxRecDepth 20000 in
theorem gX6_reservoirSize_X6_checkArgument : GoodIn wsX6_reservoirSize (va_wsS RX6 37 yX6_checkArgument wsX6_checkArgument) := goodIn_app (goodIn_of _ (by decide +kernel)) ggX6_reservoirSize_X6_checkArgument
set_option maxRecDepth 20000 in
theorem ggX6_reservoirSize_X6_streamOf : GoodIn wsX6_reservoirSize wsX6_streamOf := goodIn_r _ [10, 11, 12, 35, 36, 37, 38, 39] (by decide +kernel) (by decide +kernel)
set_option maxRecDepth 20000 in
theorem gX6_reservoirSize_X6_streamOf : GoodIn wsX6_reservoirSize (wsV RX6 43 RX6 yX6_streamOf wsX6_streamOf) := goodIn_app (goodIn_of _ (by decide +kernel)) ggX6_reservoirSize_X6_streamOf
set_option maxRecDepth 20000 in
theorem ggX6_reservoirSize_X4_filled : GoodIn wsX6_reservoirSize wsX4_filled := goodIn_r _ [17, 18, 19, 20, 21, 22, 23, 40, 41, 42, 43] (by decide +kernel) (by decide +kernel)
set_option maxRecDepth 20000 in
theorem gX6_reservoirSize_X4_filled : GoodIn wsX6_reservoirSize (wsV RX6 75 RX4 yX4_filled wsX4_filled) := goodIn_app (goodIn_of _ (by decide +kernel)) ggX6_reservoirSize_X4_filled
theorem dX6_reservoirSize_0 : decode cX6_reservoirSize 0 = .ok (.iload_n 1, 1) := by decide +kernel
theorem dX6_reservoirSize_1 : decode cX6_reservoirSize 1 = .ok (.iconst 0, 1) := by decide +kernel
theorem dX6_reservoirSize_2 : decode cX6_reservoirSize 2 = .ok (.iconst 1, 1) := by decide +kernel
theorem dX6_reservoirSize_3 : decode cX6_reservoirSize 3 = .ok (.invokestatic 37, 3) := by decide +kernel
theorem dX6_reservoirSize_6 : decode cX6_reservoirSize 6 = .ok (.aload_n 0, 1) := by decide +kernel
theorem dX6_reservoirSize_7 : decode cX6_reservoirSize 7 = .ok (.iload_n 1, 1) := by decide +kernel
theorem dX6_reservoirSize_8 : decode cX6_reservoirSize 8 = .ok (.invokevirtual 43, 3) := by decide +kernel
theorem dX6_reservoirSize_11 : decode cX6_reservoirSize 11 = .ok (.getfield 71, 3) := by decide +kernel
theorem dX6_reservoirSize_14 : decode cX6_reservoirSize 14 = .ok (.invokevirtual 75, 3) := by decide +kernel
theorem dX6_reservoirSize_17 : decode cX6_reservoirSize 17 = .ok (.ireturn, 1) := by decide +kernel
set_option maxRecDepth 20000 in
theorem ggX6_reservoirItem_X6_checkArgument : GoodIn wsX6_reservoirItem wsX6_checkArgument := goodIn_ca (goodIn_r _ [4, 5, 6] (by decide +kernel) (by decide +kernel)) (goodIn_sub (fun _ h => List.mem_cons_of_mem _ (List.mem_append_left _ (List.mem_append_right _ h))) (by decide +kernel))
set_option maxRecDepth 20000 in
theorem gX6_reservoirItem_X6_checkArgument : GoodIn wsX6_reservoirItem (va_wsS RX6 37 yX6_checkArgument wsX6_checkArgument) := goodIn_app (goodIn_of _ (by decide +kernel)) ggX6_reservoirItem_X6_checkArgument
set_option maxRecDepth 20000 in
theorem ggX6_reservoirItem_X6_streamOf : GoodIn wsX6_reservoirItem wsX6_streamOf := goodIn_r _ [10, 11, 12, 47, 48, 49, 50, 51] (by decide +kernel) (by decide +kernel)
set_option maxRecDepth 20000 in
theorem gX6_reservoirItem_X6_streamOf : GoodIn wsX6_reservoirItem (wsV RX6 43 RX6 yX6_streamOf wsX6_streamOf) := goodIn_app (goodIn_of _ (by decide +kernel)) ggX6_reservoirItem_X6_streamOf
set_option maxRecDepth 20000 in
theorem ggX6_reservoirItem_X4_filled : GoodIn wsX6_reservoirItem wsX4_filled := goodIn_r _ [17, 18, 19, 20, 21, 22, 23, 43, 44, 45, 46] (by decide +kernel) (by decide +kernel)
set_option maxRecDepth 20000 in
theorem gX6_reservoirItem_X4_filled : GoodIn wsX6_reservoirItem (wsV RX6 75 RX4 yX4_filled wsX4_filled) := goodIn_app (goodIn_of _ (by decide +kernel)) ggX6_reservoirItem_X4_filled
set_option maxRecDepth 20000 in
theorem ggX6_reservoirItem_X6_checkPlace : GoodIn wsX6_reservoirItem wsX6_checkPlace := goodIn_ca (goodIn_r _ [26, 27, 28] (by decide +kernel) (by decide +kernel)) (goodIn_sub (fun _ h => List.mem_cons_of_mem _ (List.mem_append_right _ h)) (by decide +kernel))
set_option maxRecDepth 20000 in
theorem gX6_reservoirItem_X6_checkPlace : GoodIn wsX6_reservoirItem (va_wsS RX6 81 yX6_checkPlace wsX6_checkPlace) := goodIn_app (goodIn_of _ (by decide +kernel)) ggX6_reservoirItem_X6_checkPlace
set_option maxRecDepth 20000 in
theorem ggX6_reservoirItem_X6_at : GoodIn wsX6_reservoirItem wsX6_at := goodIn_r _ [31] (by decide +kernel) (by decide +kernel)
set_option maxRecDepth 20000 in
theorem gX6_reservoirItem_X6_at : GoodIn wsX6_reservoirItem (va_wsS RX6 88 yX6_at wsX6_at) := goodIn_app (goodIn_of _ (by decide +kernel)) ggX6_reservoirItem_X6_at
theorem dX6_reservoirItem_0 : decode cX6_reservoirItem 0 = .ok (.iload_n 1, 1) := by decide +kernel
theorem dX6_reservoirItem_1 : decode cX6_reservoirItem 1 = .ok (.iconst 0, 1) := by decide +kernel
theorem dX6_reservoirItem_2 : decode cX6_reservoirItem 2 = .ok (.iconst 1, 1) := by decide +kernel
theorem dX6_reservoirItem_3 : decode cX6_reservoirItem 3 = .ok (.invokestatic 37, 3) := by decide +kernel
theorem dX6_reservoirItem_6 : decode cX6_reservoirItem 6 = .ok (.aload_n 0, 1) := by decide +kernel
theorem dX6_reservoirItem_7 : decode cX6_reservoirItem 7 = .ok (.iload_n 1, 1) := by decide +kernel
theorem dX6_reservoirItem_8 : decode cX6_reservoirItem 8 = .ok (.invokevirtual 43, 3) := by decide +kernel
theorem dX6_reservoirItem_11 : decode cX6_reservoirItem 11 = .ok (.getfield 71, 3) := by decide +kernel
theorem dX6_reservoirItem_14 : decode cX6_reservoirItem 14 = .ok (.astore_n 3, 1) := by decide +kernel
theorem dX6_reservoirItem_15 : decode cX6_reservoirItem 15 = .ok (.iload_n 2, 1) := by decide +kernel
theorem dX6_reservoirItem_16 : decode cX6_reservoirItem 16 = .ok (.aload_n 3, 1) := by decide +kernel
theorem dX6_reservoirItem_17 : decode cX6_reservoirItem 17 = .ok (.invokevirtual 75, 3) := by decide +kernel
theorem dX6_reservoirItem_20 : decode cX6_reservoirItem 20 = .ok (.invokestatic 81, 3) := by decide +kernel
theorem dX6_reservoirItem_23 : decode cX6_reservoirItem 23 = .ok (.aload_n 3, 1) := by decide +kernel
theorem dX6_reservoirItem_24 : decode cX6_reservoirItem 24 = .ok (.getfield 84, 3) := by decide +kernel
theorem dX6_reservoirItem_27 : decode cX6_reservoirItem 27 = .ok (.iload_n 2, 1) := by decide +kernel
theorem dX6_reservoirItem_28 : decode cX6_reservoirItem 28 = .ok (.invokestatic 88, 3) := by decide +kernel
theorem dX6_reservoirItem_31 : decode cX6_reservoirItem 31 = .ok (.ireturn, 1) := by decide +kernel
set_option maxRecDepth 20000 in
theorem ggX6_reservoirPosition_X6_checkArgument : GoodIn wsX6_reservoirPosition wsX6_checkArgument := goodIn_ca (goodIn_r _ [4, 5, 6] (by decide +kernel) (by decide +kernel)) (goodIn_sub (fun _ h => List.mem_cons_of_mem _ (List.mem_append_left _ (List.mem_append_right _ h))) (by decide +kernel))
set_option maxRecDepth 20000 in
theorem gX6_reservoirPosition_X6_checkArgument : GoodIn wsX6_reservoirPosition (va_wsS RX6 37 yX6_checkArgument wsX6_checkArgument) := goodIn_app (goodIn_of _ (by decide +kernel)) ggX6_reservoirPosition_X6_checkArgument
set_option maxRecDepth 20000 in
theorem ggX6_reservoirPosition_X6_streamOf : GoodIn wsX6_reservoirPosition wsX6_streamOf := goodIn_r _ [10, 11, 12, 47, 48, 49, 50, 51] (by decide +kernel) (by decide +kernel)
set_option maxRecDepth 20000 in
theorem gX6_reservoirPosition_X6_streamOf : GoodIn wsX6_reservoirPosition (wsV RX6 43 RX6 yX6_streamOf wsX6_streamOf) := goodIn_app (goodIn_of _ (by decide +kernel)) ggX6_reservoirPosition_X6_streamOf
set_option maxRecDepth 20000 in
theorem ggX6_reservoirPosition_X4_filled : GoodIn wsX6_reservoirPosition wsX4_filled := goodIn_r _ [17, 18, 19, 20, 21, 22, 23, 43, 44, 45, 46] (by decide +kernel) (by decide +kernel)
set_option maxRecDepth 20000 in
theorem gX6_reservoirPosition_X4_filled : GoodIn wsX6_reservoirPosition (wsV RX6 75 RX4 yX4_filled wsX4_filled) := goodIn_app (goodIn_of _ (by decide +kernel)) ggX6_reservoirPosition_X4_filled
set_option maxRecDepth 20000 in
theorem ggX6_reservoirPosition_X6_checkPlace : GoodIn wsX6_reservoirPosition wsX6_checkPlace := goodIn_ca (goodIn_r _ [26, 27, 28] (by decide +kernel) (by decide +kernel)) (goodIn_sub (fun _ h => List.mem_cons_of_mem _ (List.mem_append_right _ h)) (by decide +kernel))
set_option maxRecDepth 20000 in
theorem gX6_reservoirPosition_X6_checkPlace : GoodIn wsX6_reservoirPosition (va_wsS RX6 81 yX6_checkPlace wsX6_checkPlace) := goodIn_app (goodIn_of _ (by decide +kernel)) ggX6_reservoirPosition_X6_checkPlace
set_option maxRecDepth 20000 in
theorem ggX6_reservoirPosition_X6_at : GoodIn wsX6_reservoirPosition wsX6_at := goodIn_r _ [31] (by decide +kernel) (by decide +kernel)
set_option maxRecDepth 20000 in
theorem gX6_reservoirPosition_X6_at : GoodIn wsX6_reservoirPosition (va_wsS RX6 88 yX6_at wsX6_at) := goodIn_app (goodIn_of _ (by decide +kernel)) ggX6_reservoirPosition_X6_at
theorem dX6_reservoirPosition_0 : decode cX6_reservoirPosition 0 = .ok (.iload_n 1, 1) := by decide +kernel
theorem dX6_reservoirPosition_1 : decode cX6_reservoirPosition 1 = .ok (.iconst 0, 1) := by decide +kernel
theorem dX6_reservoirPosition_2 : decode cX6_reservoirPosition 2 = .ok (.iconst 1, 1) := by decide +kernel
theorem dX6_reservoirPosition_3 : decode cX6_reservoirPosition 3 = .ok (.invokestatic 37, 3) := by decide +kernel
theorem dX6_reservoirPosition_6 : decode cX6_reservoirPosition 6 = .ok (.aload_n 0, 1) := by decide +kernel
theorem dX6_reservoirPosition_7 : decode cX6_reservoirPosition 7 = .ok (.iload_n 1, 1) := by decide +kernel
theorem dX6_reservoirPosition_8 : decode cX6_reservoirPosition 8 = .ok (.invokevirtual 43, 3) := by decide +kernel
theorem dX6_reservoirPosition_11 : decode cX6_reservoirPosition 11 = .ok (.getfield 71, 3) := by decide +kernel
theorem dX6_reservoirPosition_14 : decode cX6_reservoirPosition 14 = .ok (.astore_n 3, 1) := by decide +kernel
theorem dX6_reservoirPosition_15 : decode cX6_reservoirPosition 15 = .ok (.iload_n 2, 1) := by decide +kernel
theorem dX6_reservoirPosition_16 : decode cX6_reservoirPosition 16 = .ok (.aload_n 3, 1) := by decide +kernel
theorem dX6_reservoirPosition_17 : decode cX6_reservoirPosition 17 = .ok (.invokevirtual 75, 3) := by decide +kernel
theorem dX6_reservoirPosition_20 : decode cX6_reservoirPosition 20 = .ok (.invokestatic 81, 3) := by decide +kernel
theorem dX6_reservoirPosition_23 : decode cX6_reservoirPosition 23 = .ok (.aload_n 3, 1) := by decide +kernel
theorem dX6_reservoirPosition_24 : decode cX6_reservoirPosition 24 = .ok (.getfield 92, 3) := by decide +kernel
theorem dX6_reservoirPosition_27 : decode cX6_reservoirPosition 27 = .ok (.iload_n 2, 1) := by decide +kernel
theorem dX6_reservoirPosition_28 : decode cX6_reservoirPosition 28 = .ok (.invokestatic 88, 3) := by decide +kernel
theorem dX6_reservoirPosition_31 : decode cX6_reservoirPosition 31 = .ok (.ireturn, 1) := by decide +kernel
set_option maxRecDepth 20000 in
theorem ggX6_groupOffers_X6_checkArgument : GoodIn wsX6_groupOffers wsX6_checkArgument := goodIn_ca (goodIn_r _ [4, 5, 6] (by decide +kernel) (by decide +kernel)) (goodIn_sub (fun _ h => List.mem_cons_of_mem _ (List.mem_append_right _ h)) (by decide +kernel))
set_option maxRecDepth 20000 in
theorem gX6_groupOffers_X6_checkArgument : GoodIn wsX6_groupOffers (va_wsS RX6 37 yX6_checkArgument wsX6_checkArgument) := goodIn_app (goodIn_of _ (by decide +kernel)) ggX6_groupOffers_X6_checkArgument
set_option maxRecDepth 20000 in
theorem ggX6_groupOffers_X6_streamOf : GoodIn wsX6_groupOffers wsX6_streamOf := goodIn_r _ [10, 11, 12, 28, 29, 30, 31, 32] (by decide +kernel) (by decide +kernel)
set_option maxRecDepth 20000 in
theorem gX6_groupOffers_X6_streamOf : GoodIn wsX6_groupOffers (wsV RX6 43 RX6 yX6_streamOf wsX6_streamOf) := goodIn_app (goodIn_of _ (by decide +kernel)) ggX6_groupOffers_X6_streamOf
set_option maxRecDepth 20000 in
theorem ggX6_groupOffers_X5_groupOf : GoodIn wsX6_groupOffers wsX5_groupOf := goodIn_r _ [17, 18, 19, 20, 21, 33, 34, 35, 36, 37, 38, 39, 40, 41, 42, 43] (by decide +kernel) (by decide +kernel)
set_option maxRecDepth 20000 in
theorem gX6_groupOffers_X5_groupOf : GoodIn wsX6_groupOffers (wsV RX6 62 RX5 yX5_groupOf wsX5_groupOf) := goodIn_app (goodIn_of _ (by decide +kernel)) ggX6_groupOffers_X5_groupOf
theorem dX6_groupOffers_0 : decode cX6_groupOffers 0 = .ok (.iload_n 1, 1) := by decide +kernel
theorem dX6_groupOffers_1 : decode cX6_groupOffers 1 = .ok (.iconst 0, 1) := by decide +kernel
theorem dX6_groupOffers_2 : decode cX6_groupOffers 2 = .ok (.iconst 1, 1) := by decide +kernel
theorem dX6_groupOffers_3 : decode cX6_groupOffers 3 = .ok (.invokestatic 37, 3) := by decide +kernel
theorem dX6_groupOffers_6 : decode cX6_groupOffers 6 = .ok (.iload_n 2, 1) := by decide +kernel
theorem dX6_groupOffers_7 : decode cX6_groupOffers 7 = .ok (.iconst 0, 1) := by decide +kernel
theorem dX6_groupOffers_8 : decode cX6_groupOffers 8 = .ok (.iconst 3, 1) := by decide +kernel
theorem dX6_groupOffers_9 : decode cX6_groupOffers 9 = .ok (.invokestatic 37, 3) := by decide +kernel
theorem dX6_groupOffers_12 : decode cX6_groupOffers 12 = .ok (.aload_n 0, 1) := by decide +kernel
theorem dX6_groupOffers_13 : decode cX6_groupOffers 13 = .ok (.iload_n 1, 1) := by decide +kernel
theorem dX6_groupOffers_14 : decode cX6_groupOffers 14 = .ok (.invokevirtual 43, 3) := by decide +kernel
theorem dX6_groupOffers_17 : decode cX6_groupOffers 17 = .ok (.iload_n 2, 1) := by decide +kernel
theorem dX6_groupOffers_18 : decode cX6_groupOffers 18 = .ok (.invokevirtual 62, 3) := by decide +kernel
theorem dX6_groupOffers_21 : decode cX6_groupOffers 21 = .ok (.getfield 95, 3) := by decide +kernel
theorem dX6_groupOffers_24 : decode cX6_groupOffers 24 = .ok (.getfield 96, 3) := by decide +kernel
theorem dX6_groupOffers_27 : decode cX6_groupOffers 27 = .ok (.ireturn, 1) := by decide +kernel
set_option maxRecDepth 20000 in
theorem ggX6_groupItem_X6_checkArgument : GoodIn wsX6_groupItem wsX6_checkArgument := goodIn_ca (goodIn_r _ [4, 5, 6] (by decide +kernel) (by decide +kernel)) (goodIn_sub (fun _ h => List.mem_cons_of_mem _ (List.mem_append_left _ (List.mem_append_right _ h))) (by decide +kernel))
set_option maxRecDepth 20000 in
theorem gX6_groupItem_X6_checkArgument : GoodIn wsX6_groupItem (va_wsS RX6 37 yX6_checkArgument wsX6_checkArgument) := goodIn_app (goodIn_of _ (by decide +kernel)) ggX6_groupItem_X6_checkArgument
set_option maxRecDepth 20000 in
theorem ggX6_groupItem_X6_streamOf : GoodIn wsX6_groupItem wsX6_streamOf := goodIn_r _ [10, 11, 12, 47, 48, 49, 50, 51] (by decide +kernel) (by decide +kernel)
set_option maxRecDepth 20000 in
theorem gX6_groupItem_X6_streamOf : GoodIn wsX6_groupItem (wsV RX6 43 RX6 yX6_streamOf wsX6_streamOf) := goodIn_app (goodIn_of _ (by decide +kernel)) ggX6_groupItem_X6_streamOf
set_option maxRecDepth 20000 in
theorem ggX6_groupItem_X5_groupOf : GoodIn wsX6_groupItem wsX5_groupOf := goodIn_r _ [17, 18, 19, 20, 21, 52, 53, 54, 55, 56, 57, 58, 59, 60, 61, 62] (by decide +kernel) (by decide +kernel)
set_option maxRecDepth 20000 in
theorem gX6_groupItem_X5_groupOf : GoodIn wsX6_groupItem (wsV RX6 62 RX5 yX5_groupOf wsX5_groupOf) := goodIn_app (goodIn_of _ (by decide +kernel)) ggX6_groupItem_X5_groupOf
set_option maxRecDepth 20000 in
theorem ggX6_groupItem_X4_filled : GoodIn wsX6_groupItem wsX4_filled := goodIn_r _ [26, 27, 28, 29, 30, 31, 32, 43, 44, 45, 46] (by decide +kernel) (by decide +kernel)
set_option maxRecDepth 20000 in
theorem gX6_groupItem_X4_filled : GoodIn wsX6_groupItem (wsV RX6 75 RX4 yX4_filled wsX4_filled) := goodIn_app (goodIn_of _ (by decide +kernel)) ggX6_groupItem_X4_filled
set_option maxRecDepth 20000 in
theorem ggX6_groupItem_X6_checkPlace : GoodIn wsX6_groupItem wsX6_checkPlace := goodIn_ca (goodIn_r _ [35, 36, 37] (by decide +kernel) (by decide +kernel)) (goodIn_sub (fun _ h => List.mem_cons_of_mem _ (List.mem_append_right _ h)) (by decide +kernel))
set_option maxRecDepth 20000 in
theorem gX6_groupItem_X6_checkPlace : GoodIn wsX6_groupItem (va_wsS RX6 81 yX6_checkPlace wsX6_checkPlace) := goodIn_app (goodIn_of _ (by decide +kernel)) ggX6_groupItem_X6_checkPlace
set_option maxRecDepth 20000 in
theorem ggX6_groupItem_X6_at : GoodIn wsX6_groupItem wsX6_at := goodIn_r _ [40] (by decide +kernel) (by decide +kernel)
set_option maxRecDepth 20000 in
theorem gX6_groupItem_X6_at : GoodIn wsX6_groupItem (va_wsS RX6 88 yX6_at wsX6_at) := goodIn_app (goodIn_of _ (by decide +kernel)) ggX6_groupItem_X6_at
theorem dX6_groupItem_0 : decode cX6_groupItem 0 = .ok (.iload_n 1, 1) := by decide +kernel
theorem dX6_groupItem_1 : decode cX6_groupItem 1 = .ok (.iconst 0, 1) := by decide +kernel
theorem dX6_groupItem_2 : decode cX6_groupItem 2 = .ok (.iconst 1, 1) := by decide +kernel
theorem dX6_groupItem_3 : decode cX6_groupItem 3 = .ok (.invokestatic 37, 3) := by decide +kernel
theorem dX6_groupItem_6 : decode cX6_groupItem 6 = .ok (.iload_n 2, 1) := by decide +kernel
theorem dX6_groupItem_7 : decode cX6_groupItem 7 = .ok (.iconst 0, 1) := by decide +kernel
theorem dX6_groupItem_8 : decode cX6_groupItem 8 = .ok (.iconst 3, 1) := by decide +kernel
theorem dX6_groupItem_9 : decode cX6_groupItem 9 = .ok (.invokestatic 37, 3) := by decide +kernel
theorem dX6_groupItem_12 : decode cX6_groupItem 12 = .ok (.aload_n 0, 1) := by decide +kernel
theorem dX6_groupItem_13 : decode cX6_groupItem 13 = .ok (.iload_n 1, 1) := by decide +kernel
theorem dX6_groupItem_14 : decode cX6_groupItem 14 = .ok (.invokevirtual 43, 3) := by decide +kernel
theorem dX6_groupItem_17 : decode cX6_groupItem 17 = .ok (.iload_n 2, 1) := by decide +kernel
theorem dX6_groupItem_18 : decode cX6_groupItem 18 = .ok (.invokevirtual 62, 3) := by decide +kernel
theorem dX6_groupItem_21 : decode cX6_groupItem 21 = .ok (.getfield 95, 3) := by decide +kernel
theorem dX6_groupItem_24 : decode cX6_groupItem 24 = .ok (.astore 4, 2) := by decide +kernel
theorem dX6_groupItem_26 : decode cX6_groupItem 26 = .ok (.iload_n 3, 1) := by decide +kernel
theorem dX6_groupItem_27 : decode cX6_groupItem 27 = .ok (.aload 4, 2) := by decide +kernel
theorem dX6_groupItem_29 : decode cX6_groupItem 29 = .ok (.invokevirtual 75, 3) := by decide +kernel
theorem dX6_groupItem_32 : decode cX6_groupItem 32 = .ok (.invokestatic 81, 3) := by decide +kernel
theorem dX6_groupItem_35 : decode cX6_groupItem 35 = .ok (.aload 4, 2) := by decide +kernel
theorem dX6_groupItem_37 : decode cX6_groupItem 37 = .ok (.getfield 84, 3) := by decide +kernel
theorem dX6_groupItem_40 : decode cX6_groupItem 40 = .ok (.iload_n 3, 1) := by decide +kernel
theorem dX6_groupItem_41 : decode cX6_groupItem 41 = .ok (.invokestatic 88, 3) := by decide +kernel
theorem dX6_groupItem_44 : decode cX6_groupItem 44 = .ok (.ireturn, 1) := by decide +kernel
set_option maxRecDepth 20000 in
theorem ggX6_prioritySize_X6_checkArgument : GoodIn wsX6_prioritySize wsX6_checkArgument := goodIn_ca (goodIn_r _ [4, 5, 6] (by decide +kernel) (by decide +kernel)) (goodIn_sub (fun _ h => List.mem_cons_of_mem _ (List.mem_append_right _ h)) (by decide +kernel))
set_option maxRecDepth 20000 in
theorem gX6_prioritySize_X6_checkArgument : GoodIn wsX6_prioritySize (va_wsS RX6 37 yX6_checkArgument wsX6_checkArgument) := goodIn_app (goodIn_of _ (by decide +kernel)) ggX6_prioritySize_X6_checkArgument
set_option maxRecDepth 20000 in
theorem ggX6_prioritySize_X6_prioritiesOf : GoodIn wsX6_prioritySize wsX6_prioritiesOf := goodIn_r _ [10, 11, 12, 13, 14, 15, 16, 17, 3, 18, 19, 20, 21, 22, 23, 24, 25, 26, 27, 28, 29, 30, 31, 32, 33, 34, 35, 36, 37, 38, 39, 40, 41, 42, 43, 44, 45, 46, 47, 48, 49, 50, 51, 52, 53, 54, 55, 56, 57, 62, 63, 64, 65, 66, 67, 68, 69, 70, 71, 72, 73, 74, 75, 76, 77, 78, 79, 80, 81, 82, 83] (by decide +kernel) (by decide +kernel)
set_option maxRecDepth 20000 in
theorem gX6_prioritySize_X6_prioritiesOf : GoodIn wsX6_prioritySize (wsV RX6 99 RX6 yX6_prioritiesOf wsX6_prioritiesOf) := goodIn_app (goodIn_of _ (by decide +kernel)) ggX6_prioritySize_X6_prioritiesOf
set_option maxRecDepth 20000 in
theorem ggX6_prioritySize_X3_sampled : GoodIn wsX6_prioritySize wsX3_sampled := goodIn_r _ [61, 25, 24, 40, 41, 42, 43, 78, 79, 80, 81, 82, 83] (by decide +kernel) (by decide +kernel)
set_option maxRecDepth 20000 in
theorem gX6_prioritySize_X3_sampled : GoodIn wsX6_prioritySize (wsV RX6 103 RX3 yX3_sampled wsX3_sampled) := goodIn_app (goodIn_of _ (by decide +kernel)) ggX6_prioritySize_X3_sampled
theorem dX6_prioritySize_0 : decode cX6_prioritySize 0 = .ok (.iload_n 1, 1) := by decide +kernel
theorem dX6_prioritySize_1 : decode cX6_prioritySize 1 = .ok (.iconst 0, 1) := by decide +kernel
theorem dX6_prioritySize_2 : decode cX6_prioritySize 2 = .ok (.iconst 2, 1) := by decide +kernel
theorem dX6_prioritySize_3 : decode cX6_prioritySize 3 = .ok (.invokestatic 37, 3) := by decide +kernel
theorem dX6_prioritySize_6 : decode cX6_prioritySize 6 = .ok (.aload_n 0, 1) := by decide +kernel
theorem dX6_prioritySize_7 : decode cX6_prioritySize 7 = .ok (.iload_n 1, 1) := by decide +kernel
theorem dX6_prioritySize_8 : decode cX6_prioritySize 8 = .ok (.invokevirtual 99, 3) := by decide +kernel
theorem dX6_prioritySize_11 : decode cX6_prioritySize 11 = .ok (.invokevirtual 103, 3) := by decide +kernel
theorem dX6_prioritySize_14 : decode cX6_prioritySize 14 = .ok (.ireturn, 1) := by decide +kernel
set_option maxRecDepth 20000 in
theorem ggX6_priorityItem_X6_checkArgument : GoodIn wsX6_priorityItem wsX6_checkArgument := goodIn_ca (goodIn_r _ [4, 5, 6] (by decide +kernel) (by decide +kernel)) (goodIn_sub (fun _ h => List.mem_cons_of_mem _ (List.mem_append_left _ (List.mem_append_right _ h))) (by decide +kernel))
set_option maxRecDepth 20000 in
theorem gX6_priorityItem_X6_checkArgument : GoodIn wsX6_priorityItem (va_wsS RX6 37 yX6_checkArgument wsX6_checkArgument) := goodIn_app (goodIn_of _ (by decide +kernel)) ggX6_priorityItem_X6_checkArgument
set_option maxRecDepth 20000 in
theorem ggX6_priorityItem_X6_prioritiesOf : GoodIn wsX6_priorityItem wsX6_prioritiesOf := goodIn_r _ [10, 11, 12, 13, 14, 15, 16, 17, 3, 18, 19, 20, 21, 22, 23, 24, 25, 26, 27, 28, 29, 30, 31, 32, 33, 34, 35, 36, 37, 38, 39, 40, 41, 42, 43, 44, 45, 46, 47, 48, 49, 50, 51, 52, 53, 54, 55, 56, 57, 73, 74, 75, 76, 77, 78, 79, 80, 81, 82, 83, 84, 85, 86, 87, 88, 67, 68, 69, 70, 71, 72] (by decide +kernel) (by decide +kernel)
set_option maxRecDepth 20000 in
theorem gX6_priorityItem_X6_prioritiesOf : GoodIn wsX6_priorityItem (wsV RX6 99 RX6 yX6_prioritiesOf wsX6_prioritiesOf) := goodIn_app (goodIn_of _ (by decide +kernel)) ggX6_priorityItem_X6_prioritiesOf
