theorem dL_slotPosition_10 : decode cL_slotPosition 10 = .ok (.ireturn, 1) := by decide +kernel
theorem dL_slotPosition_11 : decode cL_slotPosition 11 = .ok (.astore_n 3, 1) := by decide +kernel
theorem dL_slotPosition_12 : decode cL_slotPosition 12 = .ok (.ldc 42, 2) := by decide +kernel
theorem dL_slotPosition_14 : decode cL_slotPosition 14 = .ok (.ireturn, 1) := by decide +kernel
set_option maxRecDepth 20000 in
theorem ggL_groupOffers_X6_groupOffers : GoodIn wsL_groupOffers wsX6_groupOffers := goodIn_ca (goodIn_r _ [7, 8, 9, 6, 10, 11, 12, 13, 14, 15, 16, 17, 18, 19, 20, 21, 22, 23, 24, 25, 26, 27, 28, 29, 30, 31, 32, 33, 34, 35, 36, 37, 38, 39, 40, 41, 42, 43, 44, 45, 46, 47, 48, 49] (by decide +kernel) (by decide +kernel)) (goodIn_sub (fun _ h => List.mem_cons_of_mem _ (List.mem_append_right _ h)) (by decide +kernel))
set_option maxRecDepth 20000 in
theorem gL_groupOffers_X6_groupOffers : GoodIn wsL_groupOffers (wsV RL 46 RX6 yX6_groupOffers wsX6_groupOffers) := goodIn_app (goodIn_of _ (by decide +kernel)) ggL_groupOffers_X6_groupOffers
theorem dL_groupOffers_0 : decode cL_groupOffers 0 = .ok (.aload_n 0, 1) := by decide +kernel
theorem dL_groupOffers_1 : decode cL_groupOffers 1 = .ok (.iload_n 1, 1) := by decide +kernel
theorem dL_groupOffers_2 : decode cL_groupOffers 2 = .ok (.iload_n 2, 1) := by decide +kernel
theorem dL_groupOffers_3 : decode cL_groupOffers 3 = .ok (.invokevirtual 46, 3) := by decide +kernel
theorem dL_groupOffers_6 : decode cL_groupOffers 6 = .ok (.ireturn, 1) := by decide +kernel
theorem dL_groupOffers_7 : decode cL_groupOffers 7 = .ok (.astore_n 3, 1) := by decide +kernel
theorem dL_groupOffers_8 : decode cL_groupOffers 8 = .ok (.ldc 15, 2) := by decide +kernel
theorem dL_groupOffers_10 : decode cL_groupOffers 10 = .ok (.ireturn, 1) := by decide +kernel
set_option maxRecDepth 20000 in
theorem ggL_groupItem_X6_groupItem : GoodIn wsL_groupItem wsX6_groupItem := goodIn_ca (goodIn_ca (goodIn_r _ [9, 10, 11, 8, 12, 13, 14, 15, 16, 17, 18, 19, 20, 21, 22, 23, 24, 25, 26, 27, 28, 29, 30, 31, 32, 33, 34, 35, 36, 37, 38, 39, 40, 41, 42, 43, 44, 45, 46, 47, 48, 49, 50, 51, 52, 53, 54, 55, 56, 57, 58, 59, 60, 61, 62, 63, 64, 65, 66, 67, 68, 69, 70] (by decide +kernel) (by decide +kernel)) (goodIn_sub (fun _ h => List.mem_cons_of_mem _ (List.mem_append_left _ (List.mem_append_right _ h))) (by decide +kernel))) (goodIn_sub (fun _ h => List.mem_cons_of_mem _ (List.mem_append_right _ h)) (by decide +kernel))
set_option maxRecDepth 20000 in
theorem gL_groupItem_X6_groupItem : GoodIn wsL_groupItem (wsV RL 49 RX6 yX6_groupItem wsX6_groupItem) := goodIn_app (goodIn_of _ (by decide +kernel)) ggL_groupItem_X6_groupItem
theorem dL_groupItem_0 : decode cL_groupItem 0 = .ok (.aload_n 0, 1) := by decide +kernel
theorem dL_groupItem_1 : decode cL_groupItem 1 = .ok (.iload_n 1, 1) := by decide +kernel
theorem dL_groupItem_2 : decode cL_groupItem 2 = .ok (.iload_n 2, 1) := by decide +kernel
theorem dL_groupItem_3 : decode cL_groupItem 3 = .ok (.iload_n 3, 1) := by decide +kernel
theorem dL_groupItem_4 : decode cL_groupItem 4 = .ok (.invokevirtual 49, 3) := by decide +kernel
theorem dL_groupItem_7 : decode cL_groupItem 7 = .ok (.ireturn, 1) := by decide +kernel
theorem dL_groupItem_8 : decode cL_groupItem 8 = .ok (.astore 4, 2) := by decide +kernel
theorem dL_groupItem_10 : decode cL_groupItem 10 = .ok (.ldc 15, 2) := by decide +kernel
theorem dL_groupItem_12 : decode cL_groupItem 12 = .ok (.ireturn, 1) := by decide +kernel
theorem dL_groupItem_13 : decode cL_groupItem 13 = .ok (.astore 4, 2) := by decide +kernel
theorem dL_groupItem_15 : decode cL_groupItem 15 = .ok (.ldc 42, 2) := by decide +kernel
theorem dL_groupItem_17 : decode cL_groupItem 17 = .ok (.ireturn, 1) := by decide +kernel
set_option maxRecDepth 20000 in
theorem ggL_prioritySize_X6_prioritySize : GoodIn wsL_prioritySize wsX6_prioritySize := goodIn_ca (goodIn_r _ [7, 8, 9, 6, 10, 11, 12, 13, 14, 15, 16, 17, 18, 19, 20, 21, 22, 23, 24, 25, 26, 27, 28, 29, 30, 31, 32, 33, 34, 35, 36, 37, 38, 39, 40, 41, 42, 43, 44, 45, 46, 47, 48, 49, 50, 51, 52, 53, 54, 55, 56, 57, 58, 59, 60, 61, 62, 63, 64, 65, 66, 67, 68, 69, 70, 71, 72, 73, 74, 75, 76, 77, 78, 79, 80, 81, 82, 83, 84, 85, 86, 87, 88, 89] (by decide +kernel) (by decide +kernel)) (goodIn_sub (fun _ h => List.mem_cons_of_mem _ (List.mem_append_right _ h)) (by decide +kernel))
set_option maxRecDepth 20000 in
theorem gL_prioritySize_X6_prioritySize : GoodIn wsL_prioritySize (wsV RL 53 RX6 yX6_prioritySize wsX6_prioritySize) := goodIn_app (goodIn_of _ (by decide +kernel)) ggL_prioritySize_X6_prioritySize
theorem dL_prioritySize_0 : decode cL_prioritySize 0 = .ok (.aload_n 0, 1) := by decide +kernel
theorem dL_prioritySize_1 : decode cL_prioritySize 1 = .ok (.iload_n 1, 1) := by decide +kernel
theorem dL_prioritySize_2 : decode cL_prioritySize 2 = .ok (.invokevirtual 53, 3) := by decide +kernel
theorem dL_prioritySize_5 : decode cL_prioritySize 5 = .ok (.ireturn, 1) := by decide +kernel
theorem dL_prioritySize_6 : decode cL_prioritySize 6 = .ok (.astore_n 2, 1) := by decide +kernel
theorem dL_prioritySize_7 : decode cL_prioritySize 7 = .ok (.ldc 15, 2) := by decide +kernel
theorem dL_prioritySize_9 : decode cL_prioritySize 9 = .ok (.ireturn, 1) := by decide +kernel
set_option maxRecDepth 20000 in
theorem ggL_priorityItem_X6_priorityItem : GoodIn wsL_priorityItem wsX6_priorityItem := goodIn_ca (goodIn_ca (goodIn_r _ [9, 10, 11, 8, 12, 13, 14, 15, 16, 17, 18, 19, 20, 21, 22, 23, 24, 25, 26, 27, 28, 29, 30, 31, 32, 33, 34, 35, 36, 37, 38, 39, 40, 41, 42, 43, 44, 45, 46, 47, 48, 49, 50, 51, 52, 53, 54, 55, 56, 57, 58, 59, 60, 61, 62, 63, 64, 65, 66, 67, 68, 69, 70, 71, 72, 73, 74, 75, 76, 77, 78, 79, 80, 81, 82, 83, 84, 85, 86, 87, 88, 89, 90, 91, 92, 93, 94, 95, 96] (by decide +kernel) (by decide +kernel)) (goodIn_sub (fun _ h => List.mem_cons_of_mem _ (List.mem_append_left _ (List.mem_append_right _ h))) (by decide +kernel))) (goodIn_sub (fun _ h => List.mem_cons_of_mem _ (List.mem_append_right _ h)) (by decide +kernel))
set_option maxRecDepth 20000 in
theorem gL_priorityItem_X6_priorityItem : GoodIn wsL_priorityItem (wsV RL 56 RX6 yX6_priorityItem wsX6_priorityItem) := goodIn_app (goodIn_of _ (by decide +kernel)) ggL_priorityItem_X6_priorityItem
theorem dL_priorityItem_0 : decode cL_priorityItem 0 = .ok (.aload_n 0, 1) := by decide +kernel
theorem dL_priorityItem_1 : decode cL_priorityItem 1 = .ok (.iload_n 1, 1) := by decide +kernel
theorem dL_priorityItem_2 : decode cL_priorityItem 2 = .ok (.iload_n 2, 1) := by decide +kernel
theorem dL_priorityItem_3 : decode cL_priorityItem 3 = .ok (.invokevirtual 56, 3) := by decide +kernel
theorem dL_priorityItem_6 : decode cL_priorityItem 6 = .ok (.ireturn, 1) := by decide +kernel
theorem dL_priorityItem_7 : decode cL_priorityItem 7 = .ok (.astore_n 3, 1) := by decide +kernel
theorem dL_priorityItem_8 : decode cL_priorityItem 8 = .ok (.ldc 15, 2) := by decide +kernel
theorem dL_priorityItem_10 : decode cL_priorityItem 10 = .ok (.ireturn, 1) := by decide +kernel
theorem dL_priorityItem_11 : decode cL_priorityItem 11 = .ok (.astore_n 3, 1) := by decide +kernel
theorem dL_priorityItem_12 : decode cL_priorityItem 12 = .ok (.ldc 42, 2) := by decide +kernel
theorem dL_priorityItem_14 : decode cL_priorityItem 14 = .ok (.ireturn, 1) := by decide +kernel
set_option maxRecDepth 20000 in
theorem ggL_estimated_X6_estimatedWeight : GoodIn wsL_estimated wsX6_estimatedWeight := goodIn_ca (goodIn_ca (goodIn_r _ [9, 10, 11, 8, 12, 13, 14, 15, 16, 17, 18, 19, 20, 21, 22, 23, 24, 25, 26, 27, 28, 29, 30, 31, 32, 33, 34, 35, 36, 37, 38, 39, 40, 41, 42, 43, 44, 45, 46, 47, 48, 49, 50, 51, 52, 53, 54, 55, 56, 57, 58, 59, 60, 61, 62, 63, 64, 65, 66, 67, 68, 69, 70, 71, 72, 73, 74, 75, 76, 77, 78, 79, 80, 81, 82, 83, 84, 85, 86, 87, 88, 89, 90, 91, 92, 93, 94, 95, 96, 97, 98, 99, 100, 101, 102, 103, 104, 105, 106, 107, 108, 109] (by decide +kernel) (by decide +kernel)) (goodIn_sub (fun _ h => List.mem_cons_of_mem _ (List.mem_append_left _ (List.mem_append_right _ h))) (by decide +kernel))) (goodIn_sub (fun _ h => List.mem_cons_of_mem _ (List.mem_append_right _ h)) (by decide +kernel))
set_option maxRecDepth 20000 in
theorem gL_estimated_X6_estimatedWeight : GoodIn wsL_estimated (wsV RL 59 RX6 yX6_estimatedWeight wsX6_estimatedWeight) := goodIn_app (goodIn_of _ (by decide +kernel)) ggL_estimated_X6_estimatedWeight
theorem dL_estimated_0 : decode cL_estimated 0 = .ok (.aload_n 0, 1) := by decide +kernel
theorem dL_estimated_1 : decode cL_estimated 1 = .ok (.iload_n 1, 1) := by decide +kernel
theorem dL_estimated_2 : decode cL_estimated 2 = .ok (.iload_n 2, 1) := by decide +kernel
theorem dL_estimated_3 : decode cL_estimated 3 = .ok (.invokevirtual 59, 3) := by decide +kernel
theorem dL_estimated_6 : decode cL_estimated 6 = .ok (.lreturn, 1) := by decide +kernel
theorem dL_estimated_7 : decode cL_estimated 7 = .ok (.astore_n 3, 1) := by decide +kernel
theorem dL_estimated_8 : decode cL_estimated 8 = .ok (.ldc2_w 63, 3) := by decide +kernel
theorem dL_estimated_11 : decode cL_estimated 11 = .ok (.lreturn, 1) := by decide +kernel
theorem dL_estimated_12 : decode cL_estimated 12 = .ok (.astore_n 3, 1) := by decide +kernel
theorem dL_estimated_13 : decode cL_estimated 13 = .ok (.ldc2_w 65, 3) := by decide +kernel
theorem dL_estimated_16 : decode cL_estimated 16 = .ok (.lreturn, 1) := by decide +kernel
set_option maxRecDepth 20000 in
theorem ggL_threshold_X6_threshold : GoodIn wsL_threshold wsX6_threshold := goodIn_ca (goodIn_r _ [7, 8, 9, 6, 10, 11, 12, 13, 14, 15, 16, 17, 18, 19, 20, 21, 22, 23, 24, 25, 26, 27, 28, 29, 30, 31, 32, 33, 34, 35, 36, 37, 38, 39, 40, 41, 42, 43, 44, 45, 46, 47, 48, 49, 50, 51, 52, 53, 54, 55, 56, 57, 58, 59, 60, 61, 62, 63, 64, 65, 66, 67, 68, 69, 70, 71, 72, 73, 74, 75, 76, 77, 78, 79, 80, 81, 82, 83, 84, 85, 86, 87, 88, 89, 90, 91] (by decide +kernel) (by decide +kernel)) (goodIn_sub (fun _ h => List.mem_cons_of_mem _ (List.mem_append_right _ h)) (by decide +kernel))
set_option maxRecDepth 20000 in
theorem gL_threshold_X6_threshold : GoodIn wsL_threshold (wsV RL 67 RX6 yX6_threshold wsX6_threshold) := goodIn_app (goodIn_of _ (by decide +kernel)) ggL_threshold_X6_threshold
theorem dL_threshold_0 : decode cL_threshold 0 = .ok (.aload_n 0, 1) := by decide +kernel
theorem dL_threshold_1 : decode cL_threshold 1 = .ok (.iload_n 1, 1) := by decide +kernel
theorem dL_threshold_2 : decode cL_threshold 2 = .ok (.invokevirtual 67, 3) := by decide +kernel
theorem dL_threshold_5 : decode cL_threshold 5 = .ok (.lreturn, 1) := by decide +kernel
theorem dL_threshold_6 : decode cL_threshold 6 = .ok (.astore_n 2, 1) := by decide +kernel
theorem dL_threshold_7 : decode cL_threshold 7 = .ok (.ldc2_w 63, 3) := by decide +kernel
theorem dL_threshold_10 : decode cL_threshold 10 = .ok (.lreturn, 1) := by decide +kernel
set_option maxRecDepth 20000 in
theorem ggL_estimate_X6_estimate : GoodIn wsL_estimate wsX6_estimate := goodIn_ca (goodIn_r _ [7, 8, 9, 6, 10, 11, 12, 13, 14, 15, 16, 17, 18, 19, 20, 21, 22, 23, 24, 25, 26, 27, 28, 29, 30, 31, 32, 33, 34, 35, 36, 37, 38, 39, 40, 41, 42, 43, 44, 45, 46, 47, 48, 49, 50, 51, 52, 53, 54, 55, 56, 57, 58, 59, 60, 61, 62, 63, 64, 65, 66, 67, 68, 69, 70, 71, 72, 73, 74, 75, 76, 77, 78, 79, 80, 81, 82, 83, 84, 85, 86, 87, 88, 89, 90, 91, 92, 93, 94, 95, 96, 97, 98, 99, 100, 101, 102, 103, 104, 105, 106] (by decide +kernel) (by decide +kernel)) (goodIn_sub (fun _ h => List.mem_cons_of_mem _ (List.mem_append_right _ h)) (by decide +kernel))
set_option maxRecDepth 20000 in
theorem gL_estimate_X6_estimate : GoodIn wsL_estimate (wsV RL 71 RX6 yX6_estimate wsX6_estimate) := goodIn_app (goodIn_of _ (by decide +kernel)) ggL_estimate_X6_estimate
theorem dL_estimate_0 : decode cL_estimate 0 = .ok (.aload_n 0, 1) := by decide +kernel
theorem dL_estimate_1 : decode cL_estimate 1 = .ok (.iload_n 1, 1) := by decide +kernel
theorem dL_estimate_2 : decode cL_estimate 2 = .ok (.iload_n 2, 1) := by decide +kernel
theorem dL_estimate_3 : decode cL_estimate 3 = .ok (.invokevirtual 71, 3) := by decide +kernel
theorem dL_estimate_6 : decode cL_estimate 6 = .ok (.lreturn, 1) := by decide +kernel
theorem dL_estimate_7 : decode cL_estimate 7 = .ok (.astore_n 3, 1) := by decide +kernel
theorem dL_estimate_8 : decode cL_estimate 8 = .ok (.ldc2_w 63, 3) := by decide +kernel
theorem dL_estimate_11 : decode cL_estimate 11 = .ok (.lreturn, 1) := by decide +kernel
set_option maxRecDepth 20000 in
theorem ggL_sampled_X6_sampledWeight : GoodIn wsL_sampled wsX6_sampledWeight := goodIn_ca (goodIn_r _ [7, 8, 9, 6, 10, 11, 12, 13, 14, 15, 16, 17, 18, 19, 20, 21, 22, 23, 24, 25, 26, 27, 28, 29, 30, 31, 32, 33, 34, 35, 36, 37, 38, 39, 40, 41, 42, 43, 44, 45, 46, 47, 48, 49, 50, 51, 52, 53, 54, 55, 56, 57, 58, 59, 60, 61, 62, 63, 64, 65, 66, 67, 68, 69, 70, 71, 72, 73, 74, 75, 76, 77, 78, 79, 80, 81, 82, 83, 84, 85, 86, 87, 88, 89, 90, 91, 92, 93] (by decide +kernel) (by decide +kernel)) (goodIn_sub (fun _ h => List.mem_cons_of_mem _ (List.mem_append_right _ h)) (by decide +kernel))
set_option maxRecDepth 20000 in
theorem gL_sampled_X6_sampledWeight : GoodIn wsL_sampled (wsV RL 74 RX6 yX6_sampledWeight wsX6_sampledWeight) := goodIn_app (goodIn_of _ (by decide +kernel)) ggL_sampled_X6_sampledWeight
theorem dL_sampled_0 : decode cL_sampled 0 = .ok (.aload_n 0, 1) := by decide +kernel
theorem dL_sampled_1 : decode cL_sampled 1 = .ok (.iload_n 1, 1) := by decide +kernel
theorem dL_sampled_2 : decode cL_sampled 2 = .ok (.iload_n 2, 1) := by decide +kernel
theorem dL_sampled_3 : decode cL_sampled 3 = .ok (.invokevirtual 74, 3) := by decide +kernel
theorem dL_sampled_6 : decode cL_sampled 6 = .ok (.ireturn, 1) := by decide +kernel
theorem dL_sampled_7 : decode cL_sampled 7 = .ok (.astore_n 3, 1) := by decide +kernel
theorem dL_sampled_8 : decode cL_sampled 8 = .ok (.ldc 15, 2) := by decide +kernel
theorem dL_sampled_10 : decode cL_sampled 10 = .ok (.ireturn, 1) := by decide +kernel
set_option maxRecDepth 20000 in
theorem ggL_distinctSize_X6_distinctSize : GoodIn wsL_distinctSize wsX6_distinctSize := goodIn_ca (goodIn_r _ [7, 8, 9, 6, 10, 11, 12, 13, 14, 15, 16, 17, 18, 19, 20, 21, 22, 23, 24, 25, 26, 27, 28, 29, 30, 31, 32, 33, 34, 35, 36, 37, 38, 39, 40, 41, 42, 43, 44, 45, 46, 47, 48, 49, 50, 51, 52, 53, 54, 55, 56, 57, 58, 59, 60, 61, 62, 63, 64, 65, 66, 67, 68, 69, 70, 71, 72, 73, 74, 75, 76, 77, 78, 79, 80, 81, 82] (by decide +kernel) (by decide +kernel)) (goodIn_sub (fun _ h => List.mem_cons_of_mem _ (List.mem_append_right _ h)) (by decide +kernel))
set_option maxRecDepth 20000 in
theorem gL_distinctSize_X6_distinctSize : GoodIn wsL_distinctSize (wsV RL 77 RX6 yX6_distinctSize wsX6_distinctSize) := goodIn_app (goodIn_of _ (by decide +kernel)) ggL_distinctSize_X6_distinctSize
theorem dL_distinctSize_0 : decode cL_distinctSize 0 = .ok (.aload_n 0, 1) := by decide +kernel
theorem dL_distinctSize_1 : decode cL_distinctSize 1 = .ok (.iload_n 1, 1) := by decide +kernel
theorem dL_distinctSize_2 : decode cL_distinctSize 2 = .ok (.invokevirtual 77, 3) := by decide +kernel
theorem dL_distinctSize_5 : decode cL_distinctSize 5 = .ok (.ireturn, 1) := by decide +kernel
theorem dL_distinctSize_6 : decode cL_distinctSize 6 = .ok (.astore_n 2, 1) := by decide +kernel
theorem dL_distinctSize_7 : decode cL_distinctSize 7 = .ok (.ldc 15, 2) := by decide +kernel
theorem dL_distinctSize_9 : decode cL_distinctSize 9 = .ok (.ireturn, 1) := by decide +kernel
set_option maxRecDepth 20000 in
theorem ggL_distinctItem_X6_distinctItem : GoodIn wsL_distinctItem wsX6_distinctItem := goodIn_ca (goodIn_ca (goodIn_r _ [9, 10, 11, 8, 12, 13, 14, 15, 16, 17, 18, 19, 20, 21, 22, 23, 24, 25, 26, 27, 28, 29, 30, 31, 32, 33, 34, 35, 36, 37, 38, 39, 40, 41, 42, 43, 44, 45, 46, 47, 48, 49, 50, 51, 52, 53, 54, 55, 56, 57, 58, 59, 60, 61, 62, 63, 64, 65, 66, 67, 68, 69, 70, 71, 72, 73, 74, 75, 76, 77, 78, 79, 80, 81, 82, 83, 84, 85, 86, 87, 88, 89] (by decide +kernel) (by decide +kernel)) (goodIn_sub (fun _ h => List.mem_cons_of_mem _ (List.mem_append_left _ (List.mem_append_right _ h))) (by decide +kernel))) (goodIn_sub (fun _ h => List.mem_cons_of_mem _ (List.mem_append_right _ h)) (by decide +kernel))
set_option maxRecDepth 20000 in
theorem gL_distinctItem_X6_distinctItem : GoodIn wsL_distinctItem (wsV RL 80 RX6 yX6_distinctItem wsX6_distinctItem) := goodIn_app (goodIn_of _ (by decide +kernel)) ggL_distinctItem_X6_distinctItem
theorem dL_distinctItem_0 : decode cL_distinctItem 0 = .ok (.aload_n 0, 1) := by decide +kernel
theorem dL_distinctItem_1 : decode cL_distinctItem 1 = .ok (.iload_n 1, 1) := by decide +kernel
theorem dL_distinctItem_2 : decode cL_distinctItem 2 = .ok (.iload_n 2, 1) := by decide +kernel
theorem dL_distinctItem_3 : decode cL_distinctItem 3 = .ok (.invokevirtual 80, 3) := by decide +kernel
theorem dL_distinctItem_6 : decode cL_distinctItem 6 = .ok (.ireturn, 1) := by decide +kernel
theorem dL_distinctItem_7 : decode cL_distinctItem 7 = .ok (.astore_n 3, 1) := by decide +kernel
theorem dL_distinctItem_8 : decode cL_distinctItem 8 = .ok (.ldc 15, 2) := by decide +kernel
theorem dL_distinctItem_10 : decode cL_distinctItem 10 = .ok (.ireturn, 1) := by decide +kernel
theorem dL_distinctItem_11 : decode cL_distinctItem 11 = .ok (.astore_n 3, 1) := by decide +kernel
theorem dL_distinctItem_12 : decode cL_distinctItem 12 = .ok (.ldc 42, 2) := by decide +kernel
theorem dL_distinctItem_14 : decode cL_distinctItem 14 = .ok (.ireturn, 1) := by decide +kernel
set_option maxRecDepth 20000 in
theorem ggL_distinctOffers_X6_distinctOffers : GoodIn wsL_distinctOffers wsX6_distinctOffers := goodIn_ca (goodIn_ca (goodIn_r _ [9, 10, 11, 8, 12, 13, 14, 15, 16, 17, 18, 19, 20, 21, 22, 23, 24, 25, 26, 27, 28, 29, 30, 31, 32, 33, 34, 35, 36, 37, 38, 39, 40, 41, 42, 43, 44, 45, 46, 47, 48, 49, 50, 51, 52, 53, 54, 55, 56, 57, 58, 59, 60, 61, 62, 63, 64, 65, 66, 67, 68, 69, 70, 71, 72, 73, 74, 75, 76, 77, 78, 79, 80, 81, 82, 83, 84, 85, 86, 87, 88, 89] (by decide +kernel) (by decide +kernel)) (goodIn_sub (fun _ h => List.mem_cons_of_mem _ (List.mem_append_left _ (List.mem_append_right _ h))) (by decide +kernel))) (goodIn_sub (fun _ h => List.mem_cons_of_mem _ (List.mem_append_right _ h)) (by decide +kernel))
set_option maxRecDepth 20000 in
theorem gL_distinctOffers_X6_distinctOffers : GoodIn wsL_distinctOffers (wsV RL 83 RX6 yX6_distinctOffers wsX6_distinctOffers) := goodIn_app (goodIn_of _ (by decide +kernel)) ggL_distinctOffers_X6_distinctOffers
theorem dL_distinctOffers_0 : decode cL_distinctOffers 0 = .ok (.aload_n 0, 1) := by decide +kernel
theorem dL_distinctOffers_1 : decode cL_distinctOffers 1 = .ok (.iload_n 1, 1) := by decide +kernel
theorem dL_distinctOffers_2 : decode cL_distinctOffers 2 = .ok (.iload_n 2, 1) := by decide +kernel
theorem dL_distinctOffers_3 : decode cL_distinctOffers 3 = .ok (.invokevirtual 83, 3) := by decide +kernel
theorem dL_distinctOffers_6 : decode cL_distinctOffers 6 = .ok (.ireturn, 1) := by decide +kernel
theorem dL_distinctOffers_7 : decode cL_distinctOffers 7 = .ok (.astore_n 3, 1) := by decide +kernel
theorem dL_distinctOffers_8 : decode cL_distinctOffers 8 = .ok (.ldc 15, 2) := by decide +kernel
theorem dL_distinctOffers_10 : decode cL_distinctOffers 10 = .ok (.ireturn, 1) := by decide +kernel
theorem dL_distinctOffers_11 : decode cL_distinctOffers 11 = .ok (.astore_n 3, 1) := by decide +kernel
theorem dL_distinctOffers_12 : decode cL_distinctOffers 12 = .ok (.ldc 42, 2) := by decide +kernel
theorem dL_distinctOffers_14 : decode cL_distinctOffers 14 = .ok (.ireturn, 1) := by decide +kernel
set_option maxRecDepth 20000 in
theorem ggL_distinctEstimate_X6_distinctEstimate : GoodIn wsL_distinctEstimate wsX6_distinctEstimate := goodIn_ca (goodIn_r _ [7, 8, 9, 6, 10, 11, 12, 13, 14, 15, 16, 17, 18, 19, 20, 21, 22, 23, 24, 25, 26, 27, 28, 29, 30, 31, 32, 33, 34, 35, 36, 37, 38, 39, 40, 41, 42, 43, 44, 45, 46, 47, 48, 49, 50, 51, 52, 53, 54, 55, 56, 57, 58, 59, 60, 61, 62, 63, 64, 65, 66, 67, 68, 69, 70, 71, 72, 73, 74, 75, 76, 77, 78, 79, 80, 81, 82, 83, 84, 85, 86, 87, 88] (by decide +kernel) (by decide +kernel)) (goodIn_sub (fun _ h => List.mem_cons_of_mem _ (List.mem_append_right _ h)) (by decide +kernel))
set_option maxRecDepth 20000 in
theorem gL_distinctEstimate_X6_distinctEstimate : GoodIn wsL_distinctEstimate (wsV RL 86 RX6 yX6_distinctEstimate wsX6_distinctEstimate) := goodIn_app (goodIn_of _ (by decide +kernel)) ggL_distinctEstimate_X6_distinctEstimate
theorem dL_distinctEstimate_0 : decode cL_distinctEstimate 0 = .ok (.aload_n 0, 1) := by decide +kernel
theorem dL_distinctEstimate_1 : decode cL_distinctEstimate 1 = .ok (.iload_n 1, 1) := by decide +kernel
theorem dL_distinctEstimate_2 : decode cL_distinctEstimate 2 = .ok (.invokevirtual 86, 3) := by decide +kernel
theorem dL_distinctEstimate_5 : decode cL_distinctEstimate 5 = .ok (.lreturn, 1) := by decide +kernel
theorem dL_distinctEstimate_6 : decode cL_distinctEstimate 6 = .ok (.astore_n 2, 1) := by decide +kernel
theorem dL_distinctEstimate_7 : decode cL_distinctEstimate 7 = .ok (.ldc2_w 63, 3) := by decide +kernel
theorem dL_distinctEstimate_10 : decode cL_distinctEstimate 10 = .ok (.lreturn, 1) := by decide +kernel
set_option maxRecDepth 20000 in
theorem ggL_windowItem_X6_windowItem : GoodIn wsL_windowItem wsX6_windowItem := goodIn_ca (goodIn_ca (goodIn_r _ [9, 10, 11, 8, 12, 13, 14, 15, 16, 17, 18, 19, 20, 21, 22, 23, 24, 25, 26, 27, 28, 29, 30, 31, 32, 33, 34, 35, 36, 37, 38, 39, 40, 41, 42, 43, 44, 45, 46, 47, 48, 49, 50] (by decide +kernel) (by decide +kernel)) (goodIn_sub (fun _ h => List.mem_cons_of_mem _ (List.mem_append_left _ (List.mem_append_right _ h))) (by decide +kernel))) (goodIn_sub (fun _ h => List.mem_cons_of_mem _ (List.mem_append_right _ h)) (by decide +kernel))
set_option maxRecDepth 20000 in
theorem gL_windowItem_X6_windowItem : GoodIn wsL_windowItem (wsV RL 89 RX6 yX6_windowItem wsX6_windowItem) := goodIn_app (goodIn_of _ (by decide +kernel)) ggL_windowItem_X6_windowItem
theorem dL_windowItem_0 : decode cL_windowItem 0 = .ok (.aload_n 0, 1) := by decide +kernel
theorem dL_windowItem_1 : decode cL_windowItem 1 = .ok (.iload_n 1, 1) := by decide +kernel
theorem dL_windowItem_2 : decode cL_windowItem 2 = .ok (.invokevirtual 89, 3) := by decide +kernel
theorem dL_windowItem_5 : decode cL_windowItem 5 = .ok (.ireturn, 1) := by decide +kernel
theorem dL_windowItem_6 : decode cL_windowItem 6 = .ok (.astore_n 2, 1) := by decide +kernel
theorem dL_windowItem_7 : decode cL_windowItem 7 = .ok (.ldc 15, 2) := by decide +kernel
theorem dL_windowItem_9 : decode cL_windowItem 9 = .ok (.ireturn, 1) := by decide +kernel
theorem dL_windowItem_10 : decode cL_windowItem 10 = .ok (.astore_n 2, 1) := by decide +kernel
theorem dL_windowItem_11 : decode cL_windowItem 11 = .ok (.ldc 22, 2) := by decide +kernel
theorem dL_windowItem_13 : decode cL_windowItem 13 = .ok (.ireturn, 1) := by decide +kernel
set_option maxRecDepth 20000 in
theorem ggL_windowPosition_X6_windowPosition : GoodIn wsL_windowPosition wsX6_windowPosition := goodIn_ca (goodIn_ca (goodIn_r _ [9, 10, 11, 8, 12, 13, 14, 15, 16, 17, 18, 19, 20, 21, 22, 23, 24, 25, 26, 27, 28, 29, 30, 31, 32, 33, 34, 35, 36, 37, 38, 39, 40, 41, 42, 43, 44, 45, 46, 47, 48, 49, 50] (by decide +kernel) (by decide +kernel)) (goodIn_sub (fun _ h => List.mem_cons_of_mem _ (List.mem_append_left _ (List.mem_append_right _ h))) (by decide +kernel))) (goodIn_sub (fun _ h => List.mem_cons_of_mem _ (List.mem_append_right _ h)) (by decide +kernel))
set_option maxRecDepth 20000 in
theorem gL_windowPosition_X6_windowPosition : GoodIn wsL_windowPosition (wsV RL 92 RX6 yX6_windowPosition wsX6_windowPosition) := goodIn_app (goodIn_of _ (by decide +kernel)) ggL_windowPosition_X6_windowPosition
theorem dL_windowPosition_0 : decode cL_windowPosition 0 = .ok (.aload_n 0, 1) := by decide +kernel
theorem dL_windowPosition_1 : decode cL_windowPosition 1 = .ok (.iload_n 1, 1) := by decide +kernel
theorem dL_windowPosition_2 : decode cL_windowPosition 2 = .ok (.invokevirtual 92, 3) := by decide +kernel
theorem dL_windowPosition_5 : decode cL_windowPosition 5 = .ok (.ireturn, 1) := by decide +kernel
theorem dL_windowPosition_6 : decode cL_windowPosition 6 = .ok (.astore_n 2, 1) := by decide +kernel
theorem dL_windowPosition_7 : decode cL_windowPosition 7 = .ok (.ldc 15, 2) := by decide +kernel
theorem dL_windowPosition_9 : decode cL_windowPosition 9 = .ok (.ireturn, 1) := by decide +kernel
theorem dL_windowPosition_10 : decode cL_windowPosition 10 = .ok (.astore_n 2, 1) := by decide +kernel
theorem dL_windowPosition_11 : decode cL_windowPosition 11 = .ok (.ldc 22, 2) := by decide +kernel
theorem dL_windowPosition_13 : decode cL_windowPosition 13 = .ok (.ireturn, 1) := by decide +kernel
set_option maxRecDepth 20000 in
theorem ggL_chainLength_X6_chainLength : GoodIn wsL_chainLength wsX6_chainLength := goodIn_ca (goodIn_r _ [7, 8, 9, 6, 10, 11, 12, 13, 14, 15, 16, 17, 18, 19, 20, 21, 22, 23, 24, 25, 26, 27, 28, 29, 30, 31, 32, 33, 34, 35, 36, 37, 38, 39, 40, 41, 42, 43, 44, 45, 46, 47] (by decide +kernel) (by decide +kernel)) (goodIn_sub (fun _ h => List.mem_cons_of_mem _ (List.mem_append_right _ h)) (by decide +kernel))
set_option maxRecDepth 20000 in
theorem gL_chainLength_X6_chainLength : GoodIn wsL_chainLength (wsV RL 95 RX6 yX6_chainLength wsX6_chainLength) := goodIn_app (goodIn_of _ (by decide +kernel)) ggL_chainLength_X6_chainLength
theorem dL_chainLength_0 : decode cL_chainLength 0 = .ok (.aload_n 0, 1) := by decide +kernel
theorem dL_chainLength_1 : decode cL_chainLength 1 = .ok (.iload_n 1, 1) := by decide +kernel
theorem dL_chainLength_2 : decode cL_chainLength 2 = .ok (.invokevirtual 95, 3) := by decide +kernel
theorem dL_chainLength_5 : decode cL_chainLength 5 = .ok (.ireturn, 1) := by decide +kernel
theorem dL_chainLength_6 : decode cL_chainLength 6 = .ok (.astore_n 2, 1) := by decide +kernel
theorem dL_chainLength_7 : decode cL_chainLength 7 = .ok (.ldc 15, 2) := by decide +kernel
theorem dL_chainLength_9 : decode cL_chainLength 9 = .ok (.ireturn, 1) := by decide +kernel
set_option maxRecDepth 20000 in
theorem ggL_successor_X6_successor : GoodIn wsL_successor wsX6_successor := goodIn_ca (goodIn_ca (goodIn_r _ [9, 10, 11, 8, 12, 13, 14, 15, 16, 17, 18, 19, 20, 21, 22, 23, 24, 25, 26, 27, 28, 29, 30, 31, 32, 33, 34, 35, 36, 37, 38, 39, 40, 41, 42, 43, 44, 45, 46, 47] (by decide +kernel) (by decide +kernel)) (goodIn_sub (fun _ h => List.mem_cons_of_mem _ (List.mem_append_left _ (List.mem_append_right _ h))) (by decide +kernel))) (goodIn_sub (fun _ h => List.mem_cons_of_mem _ (List.mem_append_right _ h)) (by decide +kernel))
set_option maxRecDepth 20000 in
theorem gL_successor_X6_successor : GoodIn wsL_successor (wsV RL 98 RX6 yX6_successor wsX6_successor) := goodIn_app (goodIn_of _ (by decide +kernel)) ggL_successor_X6_successor
theorem dL_successor_0 : decode cL_successor 0 = .ok (.aload_n 0, 1) := by decide +kernel
theorem dL_successor_1 : decode cL_successor 1 = .ok (.iload_n 1, 1) := by decide +kernel
theorem dL_successor_2 : decode cL_successor 2 = .ok (.invokevirtual 98, 3) := by decide +kernel
theorem dL_successor_5 : decode cL_successor 5 = .ok (.ireturn, 1) := by decide +kernel
theorem dL_successor_6 : decode cL_successor 6 = .ok (.astore_n 2, 1) := by decide +kernel
theorem dL_successor_7 : decode cL_successor 7 = .ok (.ldc 15, 2) := by decide +kernel
theorem dL_successor_9 : decode cL_successor 9 = .ok (.ireturn, 1) := by decide +kernel
theorem dL_successor_10 : decode cL_successor 10 = .ok (.astore_n 2, 1) := by decide +kernel
theorem dL_successor_11 : decode cL_successor 11 = .ok (.ldc 22, 2) := by decide +kernel
theorem dL_successor_13 : decode cL_successor 13 = .ok (.ireturn, 1) := by decide +kernel
theorem dL_drawn_0 : decode cL_drawn 0 = .ok (.iload_n 1, 1) := by decide +kernel
theorem dL_drawn_1 : decode cL_drawn 1 = .ok (.aload_n 0, 1) := by decide +kernel
theorem dL_drawn_2 : decode cL_drawn 2 = .ok (.arraylength, 1) := by decide +kernel
theorem dL_drawn_3 : decode cL_drawn 3 = .ok (.if_icmp .ge 9, 3) := by decide +kernel
theorem dL_drawn_6 : decode cL_drawn 6 = .ok (.aload_n 0, 1) := by decide +kernel
theorem dL_drawn_7 : decode cL_drawn 7 = .ok (.iload_n 1, 1) := by decide +kernel
theorem dL_drawn_8 : decode cL_drawn 8 = .ok (.iaload, 1) := by decide +kernel
theorem dL_drawn_9 : decode cL_drawn 9 = .ok (.goto 13, 3) := by decide +kernel
theorem dL_drawn_12 : decode cL_drawn 12 = .ok (.ldc 101, 2) := by decide +kernel
theorem dL_drawn_14 : decode cL_drawn 14 = .ok (.iload_n 1, 1) := by decide +kernel
theorem dL_drawn_15 : decode cL_drawn 15 = .ok (.iconst 3, 1) := by decide +kernel
theorem dL_drawn_16 : decode cL_drawn 16 = .ok (.iadd, 1) := by decide +kernel
theorem dL_drawn_17 : decode cL_drawn 17 = .ok (.imul, 1) := by decide +kernel
theorem dL_drawn_18 : decode cL_drawn 18 = .ok (.sipush 13397, 3) := by decide +kernel
theorem dL_drawn_21 : decode cL_drawn 21 = .ok (.iadd, 1) := by decide +kernel
theorem dL_drawn_22 : decode cL_drawn 22 = .ok (.ldc 102, 2) := by decide +kernel
theorem dL_drawn_24 : decode cL_drawn 24 = .ok (.iand, 1) := by decide +kernel
theorem dL_drawn_25 : decode cL_drawn 25 = .ok (.ireturn, 1) := by decide +kernel
set_option maxRecDepth 20000 in
theorem ggL_refuses_L_begun : GoodIn wsL_refuses wsL_begun := goodIn_ca (goodIn_r _ [9, 10, 1, 11, 12, 13, 14, 15, 16, 17, 18, 19, 20, 21, 22, 23, 24, 25, 26, 27, 28, 29, 30, 31, 32, 33, 34, 35, 36, 37, 38, 39, 40, 41, 42, 43, 44, 45, 46, 47, 48, 49, 50, 51, 52, 53, 54, 55, 56, 57, 58, 59, 60, 61, 62, 63, 64, 65, 66, 67, 68, 69, 70, 71, 72, 73, 74, 75, 76, 77, 78, 79, 80, 81, 82, 83, 84, 85, 407, 408, 409, 410, 411, 412, 413, 414, 415, 416, 417, 418, 419, 420, 421, 422, 423, 424, 425, 426, 427, 428, 429, 430, 431, 432, 433, 434, 435, 436, 437, 438, 439, 440, 441, 442, 443, 444] (by decide +kernel) (by decide +kernel)) (goodIn_sub (fun _ h => List.mem_cons_of_mem _ (List.mem_append_left _ (List.mem_append_left _ (List.mem_append_right _ h)))) (by decide +kernel))
set_option maxRecDepth 20000 in
theorem gL_refuses_L_begun : GoodIn wsL_refuses (va_wsS RL 103 yL_begun wsL_begun) := goodIn_app (goodIn_of _ (by decide +kernel)) ggL_refuses_L_begun
set_option maxRecDepth 20000 in
theorem ggL_refuses_L_offered : GoodIn wsL_refuses wsL_offered := goodIn_ca (goodIn_ca (goodIn_r _ [88, 10, 89, 1, 90, 91, 92, 93, 14, 94, 95, 96, 16, 17, 18, 19, 20, 97, 98, 99, 100, 26, 27, 101, 102, 103, 104, 105, 106, 107, 108, 31, 109, 39, 40, 45, 46, 47, 110, 111, 112, 51, 113, 54, 53, 114, 115, 116, 117, 118, 119, 120, 121, 122, 123, 41, 42, 43, 44, 124, 125, 126, 58, 127, 60, 61, 128, 129, 130, 131, 66, 132, 68, 69, 133, 134, 135, 136, 137, 138, 139, 140, 141, 142, 143, 144, 145, 146, 147, 148, 149, 150, 151, 152, 153, 154, 155, 156, 157, 73, 158, 76, 159, 160, 75, 161, 162, 163, 164, 165, 166, 167, 168, 169, 170, 171, 172, 173, 80, 174, 82, 175, 83, 84, 85, 176, 177, 178, 179, 180, 181, 412, 413, 414, 415, 416, 417, 418, 419, 420, 421, 422, 407, 408, 409, 410, 411, 423, 424, 425, 426, 427, 428, 429, 430, 431, 432, 433, 434, 435, 436, 437, 438, 439, 440, 441, 442, 443, 444] (by decide +kernel) (by decide +kernel)) (goodIn_sub (fun _ h => List.mem_cons_of_mem _ (List.mem_append_left _ (List.mem_append_left _ (List.mem_append_right _ h)))) (by decide +kernel))) (goodIn_sub (fun _ h => List.mem_cons_of_mem _ (List.mem_append_left _ (List.mem_append_right _ h))) (by decide +kernel))
set_option maxRecDepth 20000 in
theorem gL_refuses_L_offered : GoodIn wsL_refuses (va_wsS RL 109 yL_offered wsL_offered) := goodIn_app (goodIn_of _ (by decide +kernel)) ggL_refuses_L_offered
set_option maxRecDepth 20000 in
theorem ggL_refuses_L_cleared : GoodIn wsL_refuses wsL_cleared := goodIn_ca (goodIn_r _ [184, 10, 1, 185, 186, 187, 14, 188, 16, 17, 18, 19, 20, 97, 98, 99, 100, 26, 27, 189, 36, 37, 31, 38, 39, 40, 33, 41, 42, 43, 44, 45, 46, 47, 34, 48, 49, 50, 51, 52, 53, 54, 55, 56, 57, 58, 59, 60, 61, 62, 63, 64, 65, 66, 67, 68, 69, 70, 71, 72, 73, 74, 75, 76, 77, 78, 79, 80, 81, 82, 83, 84, 85, 412, 413, 414, 415, 416, 417, 418, 419, 420, 421, 422, 407, 408, 409, 410, 411, 423, 424, 425, 426, 427, 428, 429, 430, 431, 432, 433, 434, 435, 436, 437, 438, 439, 440, 441, 442, 443, 444] (by decide +kernel) (by decide +kernel)) (goodIn_sub (fun _ h => List.mem_cons_of_mem _ (List.mem_append_left _ (List.mem_append_left _ (List.mem_append_right _ h)))) (by decide +kernel))
set_option maxRecDepth 20000 in
theorem gL_refuses_L_cleared : GoodIn wsL_refuses (va_wsS RL 114 yL_cleared wsL_cleared) := goodIn_app (goodIn_of _ (by decide +kernel)) ggL_refuses_L_cleared
set_option maxRecDepth 20000 in
theorem ggL_refuses_L_offers : GoodIn wsL_refuses wsL_offers := goodIn_ca (goodIn_r _ [192, 10, 1, 193, 194, 195, 14, 196, 26, 27, 16, 17, 18, 19, 20, 97, 98, 99, 100, 407, 408, 409, 410, 411, 412, 413, 414, 415, 416, 417, 418, 419, 420, 421, 422] (by decide +kernel) (by decide +kernel)) (goodIn_sub (fun _ h => List.mem_cons_of_mem _ (List.mem_append_left _ (List.mem_append_left _ (List.mem_append_right _ h)))) (by decide +kernel))
set_option maxRecDepth 20000 in
theorem gL_refuses_L_offers : GoodIn wsL_refuses (va_wsS RL 118 yL_offers wsL_offers) := goodIn_app (goodIn_of _ (by decide +kernel)) ggL_refuses_L_offers
set_option maxRecDepth 20000 in
theorem ggL_refuses_L_exact : GoodIn wsL_refuses wsL_exact := goodIn_ca (goodIn_r _ [199, 10, 1, 200, 201, 202, 14, 203, 26, 27, 16, 17, 18, 19, 20, 204, 121, 122, 31, 123, 41, 42, 43, 44, 97, 98, 99, 100, 407, 408, 409, 410, 411, 427, 428, 412, 413, 414, 415, 416, 417, 418, 419, 420, 421, 422] (by decide +kernel) (by decide +kernel)) (goodIn_sub (fun _ h => List.mem_cons_of_mem _ (List.mem_append_left _ (List.mem_append_left _ (List.mem_append_right _ h)))) (by decide +kernel))
set_option maxRecDepth 20000 in
theorem gL_refuses_L_exact : GoodIn wsL_refuses (va_wsS RL 120 yL_exact wsL_exact) := goodIn_app (goodIn_of _ (by decide +kernel)) ggL_refuses_L_exact
set_option maxRecDepth 20000 in
theorem ggL_refuses_L_filled : GoodIn wsL_refuses wsL_filled := goodIn_ca (goodIn_r _ [207, 10, 1, 208, 209, 210, 14, 211, 16, 17, 18, 19, 20, 97, 98, 99, 100, 26, 27, 212, 213, 214, 51, 215, 54, 53, 216, 134, 135, 136, 412, 413, 414, 415, 416, 417, 418, 419, 420, 421, 422, 407, 408, 409, 410, 411, 423, 424, 425, 426] (by decide +kernel) (by decide +kernel)) (goodIn_sub (fun _ h => List.mem_cons_of_mem _ (List.mem_append_left _ (List.mem_append_left _ (List.mem_append_right _ h)))) (by decide +kernel))
set_option maxRecDepth 20000 in
theorem gL_refuses_L_filled : GoodIn wsL_refuses (va_wsS RL 123 yL_filled wsL_filled) := goodIn_app (goodIn_of _ (by decide +kernel)) ggL_refuses_L_filled
set_option maxRecDepth 20000 in
theorem ggL_refuses_L_slotItem : GoodIn wsL_refuses wsL_slotItem := goodIn_ca (goodIn_ca (goodIn_r _ [219, 10, 220, 1, 3, 221, 222, 223, 14, 224, 16, 17, 18, 19, 20, 97, 98, 99, 100, 26, 27, 212, 213, 214, 51, 215, 54, 53, 216, 134, 135, 136, 225, 226, 227, 228, 229, 153, 149, 150, 412, 413, 414, 415, 416, 417, 418, 419, 420, 421, 422, 423, 424, 425, 426, 407, 408, 409, 410, 411] (by decide +kernel) (by decide +kernel)) (goodIn_sub (fun _ h => List.mem_cons_of_mem _ (List.mem_append_left _ (List.mem_append_left _ (List.mem_append_right _ h)))) (by decide +kernel))) (goodIn_sub (fun _ h => List.mem_cons_of_mem _ (List.mem_append_right _ h)) (by decide +kernel))
set_option maxRecDepth 20000 in
theorem gL_refuses_L_slotItem : GoodIn wsL_refuses (va_wsS RL 126 yL_slotItem wsL_slotItem) := goodIn_app (goodIn_of _ (by decide +kernel)) ggL_refuses_L_slotItem
set_option maxRecDepth 20000 in
theorem ggL_refuses_L_slotPosition : GoodIn wsL_refuses wsL_slotPosition := goodIn_ca (goodIn_ca (goodIn_r _ [232, 10, 220, 1, 3, 233, 234, 235, 14, 236, 16, 17, 18, 19, 20, 97, 98, 99, 100, 26, 27, 212, 213, 214, 51, 215, 54, 53, 216, 134, 135, 136, 225, 226, 227, 228, 229, 153, 149, 150, 412, 413, 414, 415, 416, 417, 418, 419, 420, 421, 422, 423, 424, 425, 426, 407, 408, 409, 410, 411] (by decide +kernel) (by decide +kernel)) (goodIn_sub (fun _ h => List.mem_cons_of_mem _ (List.mem_append_left _ (List.mem_append_left _ (List.mem_append_right _ h)))) (by decide +kernel))) (goodIn_sub (fun _ h => List.mem_cons_of_mem _ (List.mem_append_right _ h)) (by decide +kernel))
set_option maxRecDepth 20000 in
theorem gL_refuses_L_slotPosition : GoodIn wsL_refuses (va_wsS RL 129 yL_slotPosition wsL_slotPosition) := goodIn_app (goodIn_of _ (by decide +kernel)) ggL_refuses_L_slotPosition
set_option maxRecDepth 20000 in
theorem ggL_refuses_L_groupOffers : GoodIn wsL_refuses wsL_groupOffers := goodIn_ca (goodIn_r _ [239, 10, 1, 240, 241, 242, 14, 243, 16, 17, 18, 19, 20, 97, 98, 99, 100, 26, 27, 204, 121, 122, 31, 123, 41, 42, 43, 44, 427, 428, 423, 424, 425, 426, 407, 408, 409, 410, 411, 412, 413, 414, 415, 416, 417, 418, 419, 420, 421, 422] (by decide +kernel) (by decide +kernel)) (goodIn_sub (fun _ h => List.mem_cons_of_mem _ (List.mem_append_left _ (List.mem_append_left _ (List.mem_append_right _ h)))) (by decide +kernel))
set_option maxRecDepth 20000 in
theorem gL_refuses_L_groupOffers : GoodIn wsL_refuses (va_wsS RL 132 yL_groupOffers wsL_groupOffers) := goodIn_app (goodIn_of _ (by decide +kernel)) ggL_refuses_L_groupOffers
set_option maxRecDepth 20000 in
theorem ggL_refuses_L_groupItem : GoodIn wsL_refuses wsL_groupItem := goodIn_ca (goodIn_ca (goodIn_r _ [246, 10, 220, 1, 3, 247, 248, 249, 14, 250, 16, 17, 18, 19, 20, 97, 98, 99, 100, 26, 27, 204, 121, 122, 31, 123, 41, 42, 43, 44, 212, 213, 214, 51, 215, 54, 53, 216, 134, 135, 136, 225, 226, 227, 228, 229, 153, 149, 150, 427, 428, 423, 424, 425, 426, 407, 408, 409, 410, 411, 412, 413, 414, 415, 416, 417, 418, 419, 420, 421, 422] (by decide +kernel) (by decide +kernel)) (goodIn_sub (fun _ h => List.mem_cons_of_mem _ (List.mem_append_left _ (List.mem_append_left _ (List.mem_append_right _ h)))) (by decide +kernel))) (goodIn_sub (fun _ h => List.mem_cons_of_mem _ (List.mem_append_right _ h)) (by decide +kernel))
set_option maxRecDepth 20000 in
theorem gL_refuses_L_groupItem : GoodIn wsL_refuses (va_wsS RL 134 yL_groupItem wsL_groupItem) := goodIn_app (goodIn_of _ (by decide +kernel)) ggL_refuses_L_groupItem
set_option maxRecDepth 20000 in
theorem ggL_refuses_L_prioritySize : GoodIn wsL_refuses wsL_prioritySize := goodIn_ca (goodIn_r _ [253, 10, 1, 254, 255, 256, 14, 257, 16, 17, 18, 19, 20, 258, 259, 260, 261, 262, 25, 26, 27, 97, 98, 99, 100, 263, 64, 65, 66, 67, 68, 69, 264, 265, 266, 267, 137, 138, 139, 140, 149, 150, 268, 130, 131, 132, 133, 134, 135, 136, 141, 142, 143, 144, 145, 146, 147, 148, 151, 152, 153, 154, 118, 119, 269, 270, 271, 272, 412, 413, 414, 415, 416, 417, 418, 419, 420, 421, 422, 407, 408, 409, 410, 411, 429, 430, 431, 432, 433, 434] (by decide +kernel) (by decide +kernel)) (goodIn_sub (fun _ h => List.mem_cons_of_mem _ (List.mem_append_left _ (List.mem_append_left _ (List.mem_append_right _ h)))) (by decide +kernel))
set_option maxRecDepth 20000 in
theorem gL_refuses_L_prioritySize : GoodIn wsL_refuses (va_wsS RL 137 yL_prioritySize wsL_prioritySize) := goodIn_app (goodIn_of _ (by decide +kernel)) ggL_refuses_L_prioritySize
set_option maxRecDepth 20000 in
theorem ggL_refuses_L_priorityItem : GoodIn wsL_refuses wsL_priorityItem := goodIn_ca (goodIn_ca (goodIn_r _ [275, 10, 220, 1, 3, 276, 277, 278, 14, 279, 16, 17, 18, 19, 20, 258, 259, 260, 261, 262, 25, 26, 27, 97, 98, 99, 100, 263, 64, 65, 66, 67, 68, 69, 264, 265, 266, 267, 137, 138, 139, 140, 149, 150, 268, 130, 131, 132, 133, 134, 135, 136, 141, 142, 143, 144, 145, 146, 147, 148, 151, 152, 153, 154, 118, 119, 269, 270, 271, 272, 225, 226, 227, 228, 229, 429, 430, 431, 432, 433, 434, 412, 413, 414, 415, 416, 417, 418, 419, 420, 421, 422, 407, 408, 409, 410, 411] (by decide +kernel) (by decide +kernel)) (goodIn_sub (fun _ h => List.mem_cons_of_mem _ (List.mem_append_left _ (List.mem_append_left _ (List.mem_append_right _ h)))) (by decide +kernel))) (goodIn_sub (fun _ h => List.mem_cons_of_mem _ (List.mem_append_right _ h)) (by decide +kernel))
set_option maxRecDepth 20000 in
theorem gL_refuses_L_priorityItem : GoodIn wsL_refuses (va_wsS RL 139 yL_priorityItem wsL_priorityItem) := goodIn_app (goodIn_of _ (by decide +kernel)) ggL_refuses_L_priorityItem
set_option maxRecDepth 20000 in
theorem ggL_refuses_L_estimated : GoodIn wsL_refuses wsL_estimated := goodIn_ca (goodIn_ca (goodIn_r _ [282, 10, 220, 5, 4, 283, 284, 285, 14, 286, 16, 17, 18, 19, 20, 258, 259, 260, 261, 262, 25, 26, 27, 97, 98, 99, 100, 263, 64, 65, 66, 67, 68, 69, 264, 265, 266, 267, 137, 138, 139, 140, 149, 150, 268, 130, 131, 132, 133, 134, 135, 136, 141, 142, 143, 144, 145, 146, 147, 148, 151, 152, 153, 154, 118, 119, 269, 270, 271, 272, 225, 226, 227, 228, 229, 287, 288, 289, 290, 291, 292, 293, 294, 295, 296, 297, 298, 299, 412, 413, 414, 415, 416, 417, 418, 419, 420, 421, 422, 407, 408, 409, 410, 411, 429, 430, 431, 432, 433, 434] (by decide +kernel) (by decide +kernel)) (goodIn_sub (fun _ h => List.mem_cons_of_mem _ (List.mem_append_left _ (List.mem_append_left _ (List.mem_append_right _ h)))) (by decide +kernel))) (goodIn_sub (fun _ h => List.mem_cons_of_mem _ (List.mem_append_right _ h)) (by decide +kernel))
set_option maxRecDepth 20000 in
theorem gL_refuses_L_estimated : GoodIn wsL_refuses (va_wsS RL 141 yL_estimated wsL_estimated) := goodIn_app (goodIn_of _ (by decide +kernel)) ggL_refuses_L_estimated
set_option maxRecDepth 20000 in
theorem ggL_refuses_L_threshold : GoodIn wsL_refuses wsL_threshold := goodIn_ca (goodIn_r _ [302, 10, 5, 303, 304, 305, 14, 306, 16, 17, 18, 19, 20, 258, 259, 260, 261, 262, 25, 26, 27, 97, 98, 99, 100, 263, 64, 65, 66, 67, 68, 69, 264, 265, 266, 267, 137, 138, 139, 140, 149, 150, 268, 130, 131, 132, 133, 134, 135, 136, 141, 142, 143, 144, 145, 146, 147, 148, 151, 152, 153, 154, 118, 119, 307, 295, 296, 297, 298, 299, 412, 413, 414, 415, 416, 417, 418, 419, 420, 421, 422, 407, 408, 409, 410, 411, 429, 430, 431, 432, 433, 434] (by decide +kernel) (by decide +kernel)) (goodIn_sub (fun _ h => List.mem_cons_of_mem _ (List.mem_append_left _ (List.mem_append_left _ (List.mem_append_right _ h)))) (by decide +kernel))
set_option maxRecDepth 20000 in
theorem gL_refuses_L_threshold : GoodIn wsL_refuses (va_wsS RL 145 yL_threshold wsL_threshold) := goodIn_app (goodIn_of _ (by decide +kernel)) ggL_refuses_L_threshold
set_option maxRecDepth 20000 in
theorem ggL_refuses_L_estimate : GoodIn wsL_refuses wsL_estimate := goodIn_ca (goodIn_r _ [310, 10, 5, 311, 312, 313, 14, 314, 16, 17, 18, 19, 20, 258, 259, 260, 261, 262, 25, 26, 27, 97, 98, 99, 100, 263, 64, 65, 66, 67, 68, 69, 264, 265, 266, 267, 137, 138, 139, 140, 149, 150, 268, 130, 131, 132, 133, 134, 135, 136, 141, 142, 143, 144, 145, 146, 147, 148, 151, 152, 153, 154, 118, 119, 315, 316, 317, 318, 319, 270, 271, 272, 320, 288, 289, 290, 291, 292, 293, 294, 295, 296, 297, 298, 299, 412, 413, 414, 415, 416, 417, 418, 419, 420, 421, 422, 407, 408, 409, 410, 411, 429, 430, 431, 432, 433, 434] (by decide +kernel) (by decide +kernel)) (goodIn_sub (fun _ h => List.mem_cons_of_mem _ (List.mem_append_left _ (List.mem_append_left _ (List.mem_append_right _ h)))) (by decide +kernel))
set_option maxRecDepth 20000 in
theorem gL_refuses_L_estimate : GoodIn wsL_refuses (va_wsS RL 148 yL_estimate wsL_estimate) := goodIn_app (goodIn_of _ (by decide +kernel)) ggL_refuses_L_estimate
set_option maxRecDepth 20000 in
theorem ggL_refuses_L_sampled : GoodIn wsL_refuses wsL_sampled := goodIn_ca (goodIn_r _ [323, 10, 1, 324, 325, 326, 14, 327, 16, 17, 18, 19, 20, 258, 259, 260, 261, 262, 25, 26, 27, 97, 98, 99, 100, 263, 64, 65, 66, 67, 68, 69, 264, 265, 266, 267, 137, 138, 139, 140, 149, 150, 268, 130, 131, 132, 133, 134, 135, 136, 141, 142, 143, 144, 145, 146, 147, 148, 151, 152, 153, 154, 118, 119, 328, 329, 330, 331, 319, 270, 271, 272, 412, 413, 414, 415, 416, 417, 418, 419, 420, 421, 422, 407, 408, 409, 410, 411, 429, 430, 431, 432, 433, 434] (by decide +kernel) (by decide +kernel)) (goodIn_sub (fun _ h => List.mem_cons_of_mem _ (List.mem_append_left _ (List.mem_append_left _ (List.mem_append_right _ h)))) (by decide +kernel))
set_option maxRecDepth 20000 in
theorem gL_refuses_L_sampled : GoodIn wsL_refuses (va_wsS RL 150 yL_sampled wsL_sampled) := goodIn_app (goodIn_of _ (by decide +kernel)) ggL_refuses_L_sampled
set_option maxRecDepth 20000 in
theorem ggL_refuses_L_distinctSize : GoodIn wsL_refuses wsL_distinctSize := goodIn_ca (goodIn_r _ [334, 10, 1, 335, 336, 337, 14, 338, 16, 17, 18, 19, 20, 339, 340, 341, 342, 343, 25, 26, 27, 97, 98, 99, 100, 344, 71, 72, 73, 74, 75, 76, 345, 346, 347, 348, 159, 160, 149, 150, 349, 156, 157, 158, 161, 134, 135, 136, 162, 163, 164, 165, 166, 167, 168, 169, 170, 118, 119, 151, 152, 153, 154, 435, 436, 437, 438, 412, 413, 414, 415, 416, 417, 418, 419, 420, 421, 422, 407, 408, 409, 410, 411] (by decide +kernel) (by decide +kernel)) (goodIn_sub (fun _ h => List.mem_cons_of_mem _ (List.mem_append_left _ (List.mem_append_left _ (List.mem_append_right _ h)))) (by decide +kernel))
set_option maxRecDepth 20000 in
theorem gL_refuses_L_distinctSize : GoodIn wsL_refuses (va_wsS RL 153 yL_distinctSize wsL_distinctSize) := goodIn_app (goodIn_of _ (by decide +kernel)) ggL_refuses_L_distinctSize
set_option maxRecDepth 20000 in
theorem ggL_refuses_L_distinctItem : GoodIn wsL_refuses wsL_distinctItem := goodIn_ca (goodIn_ca (goodIn_r _ [352, 10, 220, 1, 3, 353, 354, 355, 14, 356, 16, 17, 18, 19, 20, 339, 340, 341, 342, 343, 25, 26, 27, 97, 98, 99, 100, 344, 71, 72, 73, 74, 75, 76, 345, 346, 347, 348, 159, 160, 149, 150, 349, 156, 157, 158, 161, 134, 135, 136, 162, 163, 164, 165, 166, 167, 168, 169, 170, 118, 119, 151, 152, 153, 154, 225, 226, 227, 228, 229, 435, 436, 437, 438, 412, 413, 414, 415, 416, 417, 418, 419, 420, 421, 422, 407, 408, 409, 410, 411] (by decide +kernel) (by decide +kernel)) (goodIn_sub (fun _ h => List.mem_cons_of_mem _ (List.mem_append_left _ (List.mem_append_left _ (List.mem_append_right _ h)))) (by decide +kernel))) (goodIn_sub (fun _ h => List.mem_cons_of_mem _ (List.mem_append_right _ h)) (by decide +kernel))
set_option maxRecDepth 20000 in
theorem gL_refuses_L_distinctItem : GoodIn wsL_refuses (va_wsS RL 155 yL_distinctItem wsL_distinctItem) := goodIn_app (goodIn_of _ (by decide +kernel)) ggL_refuses_L_distinctItem
set_option maxRecDepth 20000 in
theorem ggL_refuses_L_distinctOffers : GoodIn wsL_refuses wsL_distinctOffers := goodIn_ca (goodIn_ca (goodIn_r _ [359, 10, 220, 1, 3, 360, 361, 362, 14, 363, 16, 17, 18, 19, 20, 339, 340, 341, 342, 343, 25, 26, 27, 97, 98, 99, 100, 344, 71, 72, 73, 74, 75, 76, 345, 346, 347, 348, 159, 160, 149, 150, 349, 156, 157, 158, 161, 134, 135, 136, 162, 163, 164, 165, 166, 167, 168, 169, 170, 118, 119, 151, 152, 153, 154, 225, 226, 227, 228, 229, 435, 436, 437, 438, 412, 413, 414, 415, 416, 417, 418, 419, 420, 421, 422, 407, 408, 409, 410, 411] (by decide +kernel) (by decide +kernel)) (goodIn_sub (fun _ h => List.mem_cons_of_mem _ (List.mem_append_left _ (List.mem_append_left _ (List.mem_append_right _ h)))) (by decide +kernel))) (goodIn_sub (fun _ h => List.mem_cons_of_mem _ (List.mem_append_right _ h)) (by decide +kernel))
set_option maxRecDepth 20000 in
theorem gL_refuses_L_distinctOffers : GoodIn wsL_refuses (va_wsS RL 157 yL_distinctOffers wsL_distinctOffers) := goodIn_app (goodIn_of _ (by decide +kernel)) ggL_refuses_L_distinctOffers
set_option maxRecDepth 20000 in
theorem ggL_refuses_L_distinctEstimate : GoodIn wsL_refuses wsL_distinctEstimate := goodIn_ca (goodIn_r _ [366, 10, 5, 367, 368, 369, 14, 370, 16, 17, 18, 19, 20, 339, 340, 341, 342, 343, 25, 26, 27, 97, 98, 99, 100, 344, 71, 72, 73, 74, 75, 76, 345, 346, 347, 348, 159, 160, 149, 150, 349, 156, 157, 158, 161, 134, 135, 136, 162, 163, 164, 165, 166, 167, 168, 169, 170, 118, 119, 151, 152, 153, 154, 371, 372, 373, 374, 298, 299, 412, 413, 414, 415, 416, 417, 418, 419, 420, 421, 422, 407, 408, 409, 410, 411, 435, 436, 437, 438] (by decide +kernel) (by decide +kernel)) (goodIn_sub (fun _ h => List.mem_cons_of_mem _ (List.mem_append_left _ (List.mem_append_left _ (List.mem_append_right _ h)))) (by decide +kernel))
set_option maxRecDepth 20000 in
theorem gL_refuses_L_distinctEstimate : GoodIn wsL_refuses (va_wsS RL 159 yL_distinctEstimate wsL_distinctEstimate) := goodIn_app (goodIn_of _ (by decide +kernel)) ggL_refuses_L_distinctEstimate
set_option maxRecDepth 20000 in
theorem ggL_refuses_L_windowItem : GoodIn wsL_refuses wsL_windowItem := goodIn_ca (goodIn_ca (goodIn_r _ [377, 10, 89, 1, 90, 378, 379, 380, 14, 381, 16, 17, 18, 19, 20, 97, 98, 99, 100, 26, 27, 101, 102, 103, 104, 105, 153, 149, 150, 412, 413, 414, 415, 416, 417, 418, 419, 420, 421, 422, 439, 440, 441, 442, 443, 444, 407, 408, 409, 410, 411] (by decide +kernel) (by decide +kernel)) (goodIn_sub (fun _ h => List.mem_cons_of_mem _ (List.mem_append_left _ (List.mem_append_left _ (List.mem_append_right _ h)))) (by decide +kernel))) (goodIn_sub (fun _ h => List.mem_cons_of_mem _ (List.mem_append_left _ (List.mem_append_right _ h))) (by decide +kernel))
set_option maxRecDepth 20000 in
theorem gL_refuses_L_windowItem : GoodIn wsL_refuses (va_wsS RL 161 yL_windowItem wsL_windowItem) := goodIn_app (goodIn_of _ (by decide +kernel)) ggL_refuses_L_windowItem
set_option maxRecDepth 20000 in
theorem ggL_refuses_L_windowPosition : GoodIn wsL_refuses wsL_windowPosition := goodIn_ca (goodIn_ca (goodIn_r _ [384, 10, 89, 1, 90, 385, 386, 387, 14, 388, 16, 17, 18, 19, 20, 97, 98, 99, 100, 26, 27, 101, 102, 103, 104, 105, 153, 149, 150, 412, 413, 414, 415, 416, 417, 418, 419, 420, 421, 422, 439, 440, 441, 442, 443, 444, 407, 408, 409, 410, 411] (by decide +kernel) (by decide +kernel)) (goodIn_sub (fun _ h => List.mem_cons_of_mem _ (List.mem_append_left _ (List.mem_append_left _ (List.mem_append_right _ h)))) (by decide +kernel))) (goodIn_sub (fun _ h => List.mem_cons_of_mem _ (List.mem_append_left _ (List.mem_append_right _ h))) (by decide +kernel))
set_option maxRecDepth 20000 in
theorem gL_refuses_L_windowPosition : GoodIn wsL_refuses (va_wsS RL 163 yL_windowPosition wsL_windowPosition) := goodIn_app (goodIn_of _ (by decide +kernel)) ggL_refuses_L_windowPosition
set_option maxRecDepth 20000 in
theorem ggL_refuses_L_chainLength : GoodIn wsL_refuses wsL_chainLength := goodIn_ca (goodIn_r _ [391, 10, 1, 392, 393, 394, 14, 395, 16, 17, 18, 19, 20, 97, 98, 99, 100, 26, 27, 396, 397, 398, 80, 399, 84, 83, 412, 413, 414, 415, 416, 417, 418, 419, 420, 421, 422, 407, 408, 409, 410, 411, 439, 440, 441, 442, 443, 444] (by decide +kernel) (by decide +kernel)) (goodIn_sub (fun _ h => List.mem_cons_of_mem _ (List.mem_append_left _ (List.mem_append_left _ (List.mem_append_right _ h)))) (by decide +kernel))
set_option maxRecDepth 20000 in
theorem gL_refuses_L_chainLength : GoodIn wsL_refuses (va_wsS RL 165 yL_chainLength wsL_chainLength) := goodIn_app (goodIn_of _ (by decide +kernel)) ggL_refuses_L_chainLength
set_option maxRecDepth 20000 in
theorem ggL_refuses_L_successor : GoodIn wsL_refuses wsL_successor := goodIn_ca (goodIn_ca (goodIn_r _ [402, 10, 89, 1, 90, 403, 404, 405, 14, 406, 16, 17, 18, 19, 20, 97, 98, 99, 100, 26, 27, 101, 102, 103, 104, 105, 412, 413, 414, 415, 416, 417, 418, 419, 420, 421, 422, 439, 440, 441, 442, 443, 444, 407, 408, 409, 410, 411] (by decide +kernel) (by decide +kernel)) (goodIn_sub (fun _ h => List.mem_cons_of_mem _ (List.mem_append_left _ (List.mem_append_left _ (List.mem_append_right _ h)))) (by decide +kernel))) (goodIn_sub (fun _ h => List.mem_cons_of_mem _ (List.mem_append_left _ (List.mem_append_right _ h))) (by decide +kernel))
set_option maxRecDepth 20000 in
theorem gL_refuses_L_successor : GoodIn wsL_refuses (va_wsS RL 167 yL_successor wsL_successor) := goodIn_app (goodIn_of _ (by decide +kernel)) ggL_refuses_L_successor
theorem dL_refuses_0 : decode cL_refuses 0 = .ok (.iload_n 2, 1) := by decide +kernel
theorem dL_refuses_1 : decode cL_refuses 1 = .ok (.iconst 2, 1) := by decide +kernel
theorem dL_refuses_2 : decode cL_refuses 2 = .ok (.irem, 1) := by decide +kernel
theorem dL_refuses_3 : decode cL_refuses 3 = .ok (.ifCond .ne 12, 3) := by decide +kernel
theorem dL_refuses_6 : decode cL_refuses 6 = .ok (.iconst (-1), 1) := by decide +kernel
theorem dL_refuses_7 : decode cL_refuses 7 = .ok (.iload_n 2, 1) := by decide +kernel
theorem dL_refuses_8 : decode cL_refuses 8 = .ok (.bipush 60, 2) := by decide +kernel
theorem dL_refuses_10 : decode cL_refuses 10 = .ok (.irem, 1) := by decide +kernel
theorem dL_refuses_11 : decode cL_refuses 11 = .ok (.isub, 1) := by decide +kernel
theorem dL_refuses_12 : decode cL_refuses 12 = .ok (.goto 9, 3) := by decide +kernel
theorem dL_refuses_15 : decode cL_refuses 15 = .ok (.iconst 3, 1) := by decide +kernel
theorem dL_refuses_16 : decode cL_refuses 16 = .ok (.iload_n 2, 1) := by decide +kernel
theorem dL_refuses_17 : decode cL_refuses 17 = .ok (.bipush 60, 2) := by decide +kernel
theorem dL_refuses_19 : decode cL_refuses 19 = .ok (.irem, 1) := by decide +kernel
theorem dL_refuses_20 : decode cL_refuses 20 = .ok (.iadd, 1) := by decide +kernel
theorem dL_refuses_21 : decode cL_refuses 21 = .ok (.istore_n 3, 1) := by decide +kernel
theorem dL_refuses_22 : decode cL_refuses 22 = .ok (.iload_n 2, 1) := by decide +kernel
theorem dL_refuses_23 : decode cL_refuses 23 = .ok (.iconst 2, 1) := by decide +kernel
theorem dL_refuses_24 : decode cL_refuses 24 = .ok (.irem, 1) := by decide +kernel
theorem dL_refuses_25 : decode cL_refuses 25 = .ok (.ifCond .ne 12, 3) := by decide +kernel
theorem dL_refuses_28 : decode cL_refuses 28 = .ok (.iconst (-1), 1) := by decide +kernel
theorem dL_refuses_29 : decode cL_refuses 29 = .ok (.iload_n 2, 1) := by decide +kernel
theorem dL_refuses_30 : decode cL_refuses 30 = .ok (.bipush 60, 2) := by decide +kernel
