theorem dL_priorityItem_22 : decode cL_priorityItem 22 = .ok (.ireturn, 1) := by decide +kernel
set_option maxRecDepth 20000 in
theorem ggL_estimatedWeight_X6_estimatedWeight : GoodIn wsL_estimatedWeight wsX6_estimatedWeight := goodIn_ca (goodIn_ca (goodIn_r _ [7, 8, 9, 6, 10, 11, 12, 13, 14, 15, 16, 17, 18, 19, 20, 21, 22, 23, 24, 25, 26, 27, 28, 29, 30, 31, 32, 33, 34, 35, 36, 37, 38, 39, 40, 41, 42, 43, 44, 45, 46, 47, 48, 49, 50, 51, 52, 53, 54, 55, 56, 57, 58, 59, 60, 61, 62, 63, 64, 65, 66, 67, 68, 69, 70, 71, 72, 73, 74, 75, 76, 77, 78, 79, 80, 81, 82, 83, 84, 85, 86, 87, 88, 89, 90, 91, 92, 93, 94, 95, 96, 97, 98, 99, 100, 101, 102, 103, 104, 105, 106, 107] (by decide +kernel) (by decide +kernel)) (goodIn_sub (fun _ h => List.mem_cons_of_mem _ (List.mem_append_left _ (List.mem_append_right _ h))) (by decide +kernel))) (goodIn_sub (fun _ h => List.mem_cons_of_mem _ (List.mem_append_right _ h)) (by decide +kernel))
set_option maxRecDepth 20000 in
theorem gL_estimatedWeight_X6_estimatedWeight : GoodIn wsL_estimatedWeight (wsV RL 56 RX6 yX6_estimatedWeight wsX6_estimatedWeight) := goodIn_app (goodIn_of _ (by decide +kernel)) ggL_estimatedWeight_X6_estimatedWeight
theorem dL_estimatedWeight_0 : decode cL_estimatedWeight 0 = .ok (.aload_n 3, 1) := by decide +kernel
theorem dL_estimatedWeight_1 : decode cL_estimatedWeight 1 = .ok (.iconst 0, 1) := by decide +kernel
theorem dL_estimatedWeight_2 : decode cL_estimatedWeight 2 = .ok (.aload_n 0, 1) := by decide +kernel
theorem dL_estimatedWeight_3 : decode cL_estimatedWeight 3 = .ok (.iload_n 1, 1) := by decide +kernel
theorem dL_estimatedWeight_4 : decode cL_estimatedWeight 4 = .ok (.iload_n 2, 1) := by decide +kernel
theorem dL_estimatedWeight_5 : decode cL_estimatedWeight 5 = .ok (.invokevirtual 56, 3) := by decide +kernel
theorem dL_estimatedWeight_8 : decode cL_estimatedWeight 8 = .ok (.lastore, 1) := by decide +kernel
theorem dL_estimatedWeight_9 : decode cL_estimatedWeight 9 = .ok (.goto 11, 3) := by decide +kernel
theorem dL_estimatedWeight_12 : decode cL_estimatedWeight 12 = .ok (.astore 4, 2) := by decide +kernel
theorem dL_estimatedWeight_14 : decode cL_estimatedWeight 14 = .ok (.iconst 1, 1) := by decide +kernel
theorem dL_estimatedWeight_15 : decode cL_estimatedWeight 15 = .ok (.ireturn, 1) := by decide +kernel
theorem dL_estimatedWeight_16 : decode cL_estimatedWeight 16 = .ok (.astore 4, 2) := by decide +kernel
theorem dL_estimatedWeight_18 : decode cL_estimatedWeight 18 = .ok (.iconst 2, 1) := by decide +kernel
theorem dL_estimatedWeight_19 : decode cL_estimatedWeight 19 = .ok (.ireturn, 1) := by decide +kernel
theorem dL_estimatedWeight_20 : decode cL_estimatedWeight 20 = .ok (.iconst 0, 1) := by decide +kernel
theorem dL_estimatedWeight_21 : decode cL_estimatedWeight 21 = .ok (.ireturn, 1) := by decide +kernel
set_option maxRecDepth 20000 in
theorem ggL_threshold_X6_threshold : GoodIn wsL_threshold wsX6_threshold := goodIn_ca (goodIn_r _ [6, 7, 8, 5, 9, 10, 11, 12, 13, 14, 15, 16, 17, 18, 19, 20, 21, 22, 23, 24, 25, 26, 27, 28, 29, 30, 31, 32, 33, 34, 35, 36, 37, 38, 39, 40, 41, 42, 43, 44, 45, 46, 47, 48, 49, 50, 51, 52, 53, 54, 55, 56, 57, 58, 59, 60, 61, 62, 63, 64, 65, 66, 67, 68, 69, 70, 71, 72, 73, 74, 75, 76, 77, 78, 79, 80, 81, 82, 83, 84, 85, 86, 87, 88, 89, 90] (by decide +kernel) (by decide +kernel)) (goodIn_sub (fun _ h => List.mem_cons_of_mem _ (List.mem_append_right _ h)) (by decide +kernel))
set_option maxRecDepth 20000 in
theorem gL_threshold_X6_threshold : GoodIn wsL_threshold (wsV RL 60 RX6 yX6_threshold wsX6_threshold) := goodIn_app (goodIn_of _ (by decide +kernel)) ggL_threshold_X6_threshold
theorem dL_threshold_0 : decode cL_threshold 0 = .ok (.aload_n 2, 1) := by decide +kernel
theorem dL_threshold_1 : decode cL_threshold 1 = .ok (.iconst 0, 1) := by decide +kernel
theorem dL_threshold_2 : decode cL_threshold 2 = .ok (.aload_n 0, 1) := by decide +kernel
theorem dL_threshold_3 : decode cL_threshold 3 = .ok (.iload_n 1, 1) := by decide +kernel
theorem dL_threshold_4 : decode cL_threshold 4 = .ok (.invokevirtual 60, 3) := by decide +kernel
theorem dL_threshold_7 : decode cL_threshold 7 = .ok (.lastore, 1) := by decide +kernel
theorem dL_threshold_8 : decode cL_threshold 8 = .ok (.goto 6, 3) := by decide +kernel
theorem dL_threshold_11 : decode cL_threshold 11 = .ok (.astore_n 3, 1) := by decide +kernel
theorem dL_threshold_12 : decode cL_threshold 12 = .ok (.iconst 1, 1) := by decide +kernel
theorem dL_threshold_13 : decode cL_threshold 13 = .ok (.ireturn, 1) := by decide +kernel
theorem dL_threshold_14 : decode cL_threshold 14 = .ok (.iconst 0, 1) := by decide +kernel
theorem dL_threshold_15 : decode cL_threshold 15 = .ok (.ireturn, 1) := by decide +kernel
set_option maxRecDepth 20000 in
theorem ggL_estimate_X6_estimate : GoodIn wsL_estimate wsX6_estimate := goodIn_ca (goodIn_r _ [6, 7, 8, 5, 9, 10, 11, 12, 13, 14, 15, 16, 17, 18, 19, 20, 21, 22, 23, 24, 25, 26, 27, 28, 29, 30, 31, 32, 33, 34, 35, 36, 37, 38, 39, 40, 41, 42, 43, 44, 45, 46, 47, 48, 49, 50, 51, 52, 53, 54, 55, 56, 57, 58, 59, 60, 61, 62, 63, 64, 65, 66, 67, 68, 69, 70, 71, 72, 73, 74, 75, 76, 77, 78, 79, 80, 81, 82, 83, 84, 85, 86, 87, 88, 89, 90, 91, 92, 93, 94, 95, 96, 97, 98, 99, 100, 101, 102, 103, 104, 105] (by decide +kernel) (by decide +kernel)) (goodIn_sub (fun _ h => List.mem_cons_of_mem _ (List.mem_append_right _ h)) (by decide +kernel))
set_option maxRecDepth 20000 in
theorem gL_estimate_X6_estimate : GoodIn wsL_estimate (wsV RL 64 RX6 yX6_estimate wsX6_estimate) := goodIn_app (goodIn_of _ (by decide +kernel)) ggL_estimate_X6_estimate
theorem dL_estimate_0 : decode cL_estimate 0 = .ok (.aload_n 3, 1) := by decide +kernel
theorem dL_estimate_1 : decode cL_estimate 1 = .ok (.iconst 0, 1) := by decide +kernel
theorem dL_estimate_2 : decode cL_estimate 2 = .ok (.aload_n 0, 1) := by decide +kernel
theorem dL_estimate_3 : decode cL_estimate 3 = .ok (.iload_n 1, 1) := by decide +kernel
theorem dL_estimate_4 : decode cL_estimate 4 = .ok (.iload_n 2, 1) := by decide +kernel
theorem dL_estimate_5 : decode cL_estimate 5 = .ok (.invokevirtual 64, 3) := by decide +kernel
theorem dL_estimate_8 : decode cL_estimate 8 = .ok (.lastore, 1) := by decide +kernel
theorem dL_estimate_9 : decode cL_estimate 9 = .ok (.goto 7, 3) := by decide +kernel
theorem dL_estimate_12 : decode cL_estimate 12 = .ok (.astore 4, 2) := by decide +kernel
theorem dL_estimate_14 : decode cL_estimate 14 = .ok (.iconst 1, 1) := by decide +kernel
theorem dL_estimate_15 : decode cL_estimate 15 = .ok (.ireturn, 1) := by decide +kernel
theorem dL_estimate_16 : decode cL_estimate 16 = .ok (.iconst 0, 1) := by decide +kernel
theorem dL_estimate_17 : decode cL_estimate 17 = .ok (.ireturn, 1) := by decide +kernel
set_option maxRecDepth 20000 in
theorem ggL_sampledWeight_X6_sampledWeight : GoodIn wsL_sampledWeight wsX6_sampledWeight := goodIn_ca (goodIn_r _ [6, 7, 8, 5, 9, 10, 11, 12, 13, 14, 15, 16, 17, 18, 19, 20, 21, 22, 23, 24, 25, 26, 27, 28, 29, 30, 31, 32, 33, 34, 35, 36, 37, 38, 39, 40, 41, 42, 43, 44, 45, 46, 47, 48, 49, 50, 51, 52, 53, 54, 55, 56, 57, 58, 59, 60, 61, 62, 63, 64, 65, 66, 67, 68, 69, 70, 71, 72, 73, 74, 75, 76, 77, 78, 79, 80, 81, 82, 83, 84, 85, 86, 87, 88, 89, 90, 91, 92] (by decide +kernel) (by decide +kernel)) (goodIn_sub (fun _ h => List.mem_cons_of_mem _ (List.mem_append_right _ h)) (by decide +kernel))
set_option maxRecDepth 20000 in
theorem gL_sampledWeight_X6_sampledWeight : GoodIn wsL_sampledWeight (wsV RL 67 RX6 yX6_sampledWeight wsX6_sampledWeight) := goodIn_app (goodIn_of _ (by decide +kernel)) ggL_sampledWeight_X6_sampledWeight
theorem dL_sampledWeight_0 : decode cL_sampledWeight 0 = .ok (.aload_n 3, 1) := by decide +kernel
theorem dL_sampledWeight_1 : decode cL_sampledWeight 1 = .ok (.iconst 0, 1) := by decide +kernel
theorem dL_sampledWeight_2 : decode cL_sampledWeight 2 = .ok (.aload_n 0, 1) := by decide +kernel
theorem dL_sampledWeight_3 : decode cL_sampledWeight 3 = .ok (.iload_n 1, 1) := by decide +kernel
theorem dL_sampledWeight_4 : decode cL_sampledWeight 4 = .ok (.iload_n 2, 1) := by decide +kernel
theorem dL_sampledWeight_5 : decode cL_sampledWeight 5 = .ok (.invokevirtual 67, 3) := by decide +kernel
theorem dL_sampledWeight_8 : decode cL_sampledWeight 8 = .ok (.i2l, 1) := by decide +kernel
theorem dL_sampledWeight_9 : decode cL_sampledWeight 9 = .ok (.lastore, 1) := by decide +kernel
theorem dL_sampledWeight_10 : decode cL_sampledWeight 10 = .ok (.goto 7, 3) := by decide +kernel
theorem dL_sampledWeight_13 : decode cL_sampledWeight 13 = .ok (.astore 4, 2) := by decide +kernel
theorem dL_sampledWeight_15 : decode cL_sampledWeight 15 = .ok (.iconst 1, 1) := by decide +kernel
theorem dL_sampledWeight_16 : decode cL_sampledWeight 16 = .ok (.ireturn, 1) := by decide +kernel
theorem dL_sampledWeight_17 : decode cL_sampledWeight 17 = .ok (.iconst 0, 1) := by decide +kernel
theorem dL_sampledWeight_18 : decode cL_sampledWeight 18 = .ok (.ireturn, 1) := by decide +kernel
set_option maxRecDepth 20000 in
theorem ggL_distinctSize_X6_distinctSize : GoodIn wsL_distinctSize wsX6_distinctSize := goodIn_ca (goodIn_r _ [6, 7, 8, 5, 9, 10, 11, 12, 13, 14, 15, 16, 17, 18, 19, 20, 21, 22, 23, 24, 25, 26, 27, 28, 29, 30, 31, 32, 33, 34, 35, 36, 37, 38, 39, 40, 41, 42, 43, 44, 45, 46, 47, 48, 49, 50, 51, 52, 53, 54, 55, 56, 57, 58, 59, 60, 61, 62, 63, 64, 65, 66, 67, 68, 69, 70, 71, 72, 73, 74, 75, 76, 77, 78, 79, 80, 81] (by decide +kernel) (by decide +kernel)) (goodIn_sub (fun _ h => List.mem_cons_of_mem _ (List.mem_append_right _ h)) (by decide +kernel))
set_option maxRecDepth 20000 in
theorem gL_distinctSize_X6_distinctSize : GoodIn wsL_distinctSize (wsV RL 70 RX6 yX6_distinctSize wsX6_distinctSize) := goodIn_app (goodIn_of _ (by decide +kernel)) ggL_distinctSize_X6_distinctSize
theorem dL_distinctSize_0 : decode cL_distinctSize 0 = .ok (.aload_n 2, 1) := by decide +kernel
theorem dL_distinctSize_1 : decode cL_distinctSize 1 = .ok (.iconst 0, 1) := by decide +kernel
theorem dL_distinctSize_2 : decode cL_distinctSize 2 = .ok (.aload_n 0, 1) := by decide +kernel
theorem dL_distinctSize_3 : decode cL_distinctSize 3 = .ok (.iload_n 1, 1) := by decide +kernel
theorem dL_distinctSize_4 : decode cL_distinctSize 4 = .ok (.invokevirtual 70, 3) := by decide +kernel
theorem dL_distinctSize_7 : decode cL_distinctSize 7 = .ok (.i2l, 1) := by decide +kernel
theorem dL_distinctSize_8 : decode cL_distinctSize 8 = .ok (.lastore, 1) := by decide +kernel
theorem dL_distinctSize_9 : decode cL_distinctSize 9 = .ok (.goto 6, 3) := by decide +kernel
theorem dL_distinctSize_12 : decode cL_distinctSize 12 = .ok (.astore_n 3, 1) := by decide +kernel
theorem dL_distinctSize_13 : decode cL_distinctSize 13 = .ok (.iconst 1, 1) := by decide +kernel
theorem dL_distinctSize_14 : decode cL_distinctSize 14 = .ok (.ireturn, 1) := by decide +kernel
theorem dL_distinctSize_15 : decode cL_distinctSize 15 = .ok (.iconst 0, 1) := by decide +kernel
theorem dL_distinctSize_16 : decode cL_distinctSize 16 = .ok (.ireturn, 1) := by decide +kernel
set_option maxRecDepth 20000 in
theorem ggL_distinctItem_X6_distinctItem : GoodIn wsL_distinctItem wsX6_distinctItem := goodIn_ca (goodIn_ca (goodIn_r _ [7, 8, 9, 6, 10, 11, 12, 13, 14, 15, 16, 17, 18, 19, 20, 21, 22, 23, 24, 25, 26, 27, 28, 29, 30, 31, 32, 33, 34, 35, 36, 37, 38, 39, 40, 41, 42, 43, 44, 45, 46, 47, 48, 49, 50, 51, 52, 53, 54, 55, 56, 57, 58, 59, 60, 61, 62, 63, 64, 65, 66, 67, 68, 69, 70, 71, 72, 73, 74, 75, 76, 77, 78, 79, 80, 81, 82, 83, 84, 85, 86, 87] (by decide +kernel) (by decide +kernel)) (goodIn_sub (fun _ h => List.mem_cons_of_mem _ (List.mem_append_left _ (List.mem_append_right _ h))) (by decide +kernel))) (goodIn_sub (fun _ h => List.mem_cons_of_mem _ (List.mem_append_right _ h)) (by decide +kernel))
set_option maxRecDepth 20000 in
theorem gL_distinctItem_X6_distinctItem : GoodIn wsL_distinctItem (wsV RL 73 RX6 yX6_distinctItem wsX6_distinctItem) := goodIn_app (goodIn_of _ (by decide +kernel)) ggL_distinctItem_X6_distinctItem
theorem dL_distinctItem_0 : decode cL_distinctItem 0 = .ok (.aload_n 3, 1) := by decide +kernel
theorem dL_distinctItem_1 : decode cL_distinctItem 1 = .ok (.iconst 0, 1) := by decide +kernel
theorem dL_distinctItem_2 : decode cL_distinctItem 2 = .ok (.aload_n 0, 1) := by decide +kernel
theorem dL_distinctItem_3 : decode cL_distinctItem 3 = .ok (.iload_n 1, 1) := by decide +kernel
theorem dL_distinctItem_4 : decode cL_distinctItem 4 = .ok (.iload_n 2, 1) := by decide +kernel
theorem dL_distinctItem_5 : decode cL_distinctItem 5 = .ok (.invokevirtual 73, 3) := by decide +kernel
theorem dL_distinctItem_8 : decode cL_distinctItem 8 = .ok (.i2l, 1) := by decide +kernel
theorem dL_distinctItem_9 : decode cL_distinctItem 9 = .ok (.lastore, 1) := by decide +kernel
theorem dL_distinctItem_10 : decode cL_distinctItem 10 = .ok (.goto 11, 3) := by decide +kernel
theorem dL_distinctItem_13 : decode cL_distinctItem 13 = .ok (.astore 4, 2) := by decide +kernel
theorem dL_distinctItem_15 : decode cL_distinctItem 15 = .ok (.iconst 1, 1) := by decide +kernel
theorem dL_distinctItem_16 : decode cL_distinctItem 16 = .ok (.ireturn, 1) := by decide +kernel
theorem dL_distinctItem_17 : decode cL_distinctItem 17 = .ok (.astore 4, 2) := by decide +kernel
theorem dL_distinctItem_19 : decode cL_distinctItem 19 = .ok (.iconst 2, 1) := by decide +kernel
theorem dL_distinctItem_20 : decode cL_distinctItem 20 = .ok (.ireturn, 1) := by decide +kernel
theorem dL_distinctItem_21 : decode cL_distinctItem 21 = .ok (.iconst 0, 1) := by decide +kernel
theorem dL_distinctItem_22 : decode cL_distinctItem 22 = .ok (.ireturn, 1) := by decide +kernel
set_option maxRecDepth 20000 in
theorem ggL_distinctOffers_X6_distinctOffers : GoodIn wsL_distinctOffers wsX6_distinctOffers := goodIn_ca (goodIn_ca (goodIn_r _ [7, 8, 9, 6, 10, 11, 12, 13, 14, 15, 16, 17, 18, 19, 20, 21, 22, 23, 24, 25, 26, 27, 28, 29, 30, 31, 32, 33, 34, 35, 36, 37, 38, 39, 40, 41, 42, 43, 44, 45, 46, 47, 48, 49, 50, 51, 52, 53, 54, 55, 56, 57, 58, 59, 60, 61, 62, 63, 64, 65, 66, 67, 68, 69, 70, 71, 72, 73, 74, 75, 76, 77, 78, 79, 80, 81, 82, 83, 84, 85, 86, 87] (by decide +kernel) (by decide +kernel)) (goodIn_sub (fun _ h => List.mem_cons_of_mem _ (List.mem_append_left _ (List.mem_append_right _ h))) (by decide +kernel))) (goodIn_sub (fun _ h => List.mem_cons_of_mem _ (List.mem_append_right _ h)) (by decide +kernel))
set_option maxRecDepth 20000 in
theorem gL_distinctOffers_X6_distinctOffers : GoodIn wsL_distinctOffers (wsV RL 76 RX6 yX6_distinctOffers wsX6_distinctOffers) := goodIn_app (goodIn_of _ (by decide +kernel)) ggL_distinctOffers_X6_distinctOffers
theorem dL_distinctOffers_0 : decode cL_distinctOffers 0 = .ok (.aload_n 3, 1) := by decide +kernel
theorem dL_distinctOffers_1 : decode cL_distinctOffers 1 = .ok (.iconst 0, 1) := by decide +kernel
theorem dL_distinctOffers_2 : decode cL_distinctOffers 2 = .ok (.aload_n 0, 1) := by decide +kernel
theorem dL_distinctOffers_3 : decode cL_distinctOffers 3 = .ok (.iload_n 1, 1) := by decide +kernel
theorem dL_distinctOffers_4 : decode cL_distinctOffers 4 = .ok (.iload_n 2, 1) := by decide +kernel
theorem dL_distinctOffers_5 : decode cL_distinctOffers 5 = .ok (.invokevirtual 76, 3) := by decide +kernel
theorem dL_distinctOffers_8 : decode cL_distinctOffers 8 = .ok (.i2l, 1) := by decide +kernel
theorem dL_distinctOffers_9 : decode cL_distinctOffers 9 = .ok (.lastore, 1) := by decide +kernel
theorem dL_distinctOffers_10 : decode cL_distinctOffers 10 = .ok (.goto 11, 3) := by decide +kernel
theorem dL_distinctOffers_13 : decode cL_distinctOffers 13 = .ok (.astore 4, 2) := by decide +kernel
theorem dL_distinctOffers_15 : decode cL_distinctOffers 15 = .ok (.iconst 1, 1) := by decide +kernel
theorem dL_distinctOffers_16 : decode cL_distinctOffers 16 = .ok (.ireturn, 1) := by decide +kernel
theorem dL_distinctOffers_17 : decode cL_distinctOffers 17 = .ok (.astore 4, 2) := by decide +kernel
theorem dL_distinctOffers_19 : decode cL_distinctOffers 19 = .ok (.iconst 2, 1) := by decide +kernel
theorem dL_distinctOffers_20 : decode cL_distinctOffers 20 = .ok (.ireturn, 1) := by decide +kernel
theorem dL_distinctOffers_21 : decode cL_distinctOffers 21 = .ok (.iconst 0, 1) := by decide +kernel
theorem dL_distinctOffers_22 : decode cL_distinctOffers 22 = .ok (.ireturn, 1) := by decide +kernel
set_option maxRecDepth 20000 in
theorem ggL_distinctEstimate_X6_distinctEstimate : GoodIn wsL_distinctEstimate wsX6_distinctEstimate := goodIn_ca (goodIn_r _ [6, 7, 8, 5, 9, 10, 11, 12, 13, 14, 15, 16, 17, 18, 19, 20, 21, 22, 23, 24, 25, 26, 27, 28, 29, 30, 31, 32, 33, 34, 35, 36, 37, 38, 39, 40, 41, 42, 43, 44, 45, 46, 47, 48, 49, 50, 51, 52, 53, 54, 55, 56, 57, 58, 59, 60, 61, 62, 63, 64, 65, 66, 67, 68, 69, 70, 71, 72, 73, 74, 75, 76, 77, 78, 79, 80, 81, 82, 83, 84, 85, 86, 87] (by decide +kernel) (by decide +kernel)) (goodIn_sub (fun _ h => List.mem_cons_of_mem _ (List.mem_append_right _ h)) (by decide +kernel))
set_option maxRecDepth 20000 in
theorem gL_distinctEstimate_X6_distinctEstimate : GoodIn wsL_distinctEstimate (wsV RL 79 RX6 yX6_distinctEstimate wsX6_distinctEstimate) := goodIn_app (goodIn_of _ (by decide +kernel)) ggL_distinctEstimate_X6_distinctEstimate
theorem dL_distinctEstimate_0 : decode cL_distinctEstimate 0 = .ok (.aload_n 2, 1) := by decide +kernel
theorem dL_distinctEstimate_1 : decode cL_distinctEstimate 1 = .ok (.iconst 0, 1) := by decide +kernel
theorem dL_distinctEstimate_2 : decode cL_distinctEstimate 2 = .ok (.aload_n 0, 1) := by decide +kernel
theorem dL_distinctEstimate_3 : decode cL_distinctEstimate 3 = .ok (.iload_n 1, 1) := by decide +kernel
theorem dL_distinctEstimate_4 : decode cL_distinctEstimate 4 = .ok (.invokevirtual 79, 3) := by decide +kernel
theorem dL_distinctEstimate_7 : decode cL_distinctEstimate 7 = .ok (.lastore, 1) := by decide +kernel
theorem dL_distinctEstimate_8 : decode cL_distinctEstimate 8 = .ok (.goto 6, 3) := by decide +kernel
theorem dL_distinctEstimate_11 : decode cL_distinctEstimate 11 = .ok (.astore_n 3, 1) := by decide +kernel
theorem dL_distinctEstimate_12 : decode cL_distinctEstimate 12 = .ok (.iconst 1, 1) := by decide +kernel
theorem dL_distinctEstimate_13 : decode cL_distinctEstimate 13 = .ok (.ireturn, 1) := by decide +kernel
theorem dL_distinctEstimate_14 : decode cL_distinctEstimate 14 = .ok (.iconst 0, 1) := by decide +kernel
theorem dL_distinctEstimate_15 : decode cL_distinctEstimate 15 = .ok (.ireturn, 1) := by decide +kernel
set_option maxRecDepth 20000 in
theorem ggL_windowItem_X6_windowItem : GoodIn wsL_windowItem wsX6_windowItem := goodIn_ca (goodIn_ca (goodIn_r _ [7, 8, 9, 6, 10, 11, 12, 13, 14, 15, 16, 17, 18, 19, 20, 21, 22, 23, 24, 25, 26, 27, 28, 29, 30, 31, 32, 33, 34, 35, 36, 37, 38, 39, 40, 41, 42, 43, 44, 45, 46, 47, 48] (by decide +kernel) (by decide +kernel)) (goodIn_sub (fun _ h => List.mem_cons_of_mem _ (List.mem_append_left _ (List.mem_append_right _ h))) (by decide +kernel))) (goodIn_sub (fun _ h => List.mem_cons_of_mem _ (List.mem_append_right _ h)) (by decide +kernel))
set_option maxRecDepth 20000 in
theorem gL_windowItem_X6_windowItem : GoodIn wsL_windowItem (wsV RL 82 RX6 yX6_windowItem wsX6_windowItem) := goodIn_app (goodIn_of _ (by decide +kernel)) ggL_windowItem_X6_windowItem
theorem dL_windowItem_0 : decode cL_windowItem 0 = .ok (.aload_n 2, 1) := by decide +kernel
theorem dL_windowItem_1 : decode cL_windowItem 1 = .ok (.iconst 0, 1) := by decide +kernel
theorem dL_windowItem_2 : decode cL_windowItem 2 = .ok (.aload_n 0, 1) := by decide +kernel
theorem dL_windowItem_3 : decode cL_windowItem 3 = .ok (.iload_n 1, 1) := by decide +kernel
theorem dL_windowItem_4 : decode cL_windowItem 4 = .ok (.invokevirtual 82, 3) := by decide +kernel
theorem dL_windowItem_7 : decode cL_windowItem 7 = .ok (.i2l, 1) := by decide +kernel
theorem dL_windowItem_8 : decode cL_windowItem 8 = .ok (.lastore, 1) := by decide +kernel
theorem dL_windowItem_9 : decode cL_windowItem 9 = .ok (.goto 9, 3) := by decide +kernel
theorem dL_windowItem_12 : decode cL_windowItem 12 = .ok (.astore_n 3, 1) := by decide +kernel
theorem dL_windowItem_13 : decode cL_windowItem 13 = .ok (.iconst 1, 1) := by decide +kernel
theorem dL_windowItem_14 : decode cL_windowItem 14 = .ok (.ireturn, 1) := by decide +kernel
theorem dL_windowItem_15 : decode cL_windowItem 15 = .ok (.astore_n 3, 1) := by decide +kernel
theorem dL_windowItem_16 : decode cL_windowItem 16 = .ok (.iconst 2, 1) := by decide +kernel
theorem dL_windowItem_17 : decode cL_windowItem 17 = .ok (.ireturn, 1) := by decide +kernel
theorem dL_windowItem_18 : decode cL_windowItem 18 = .ok (.iconst 0, 1) := by decide +kernel
theorem dL_windowItem_19 : decode cL_windowItem 19 = .ok (.ireturn, 1) := by decide +kernel
set_option maxRecDepth 20000 in
theorem ggL_windowPosition_X6_windowPosition : GoodIn wsL_windowPosition wsX6_windowPosition := goodIn_ca (goodIn_ca (goodIn_r _ [7, 8, 9, 6, 10, 11, 12, 13, 14, 15, 16, 17, 18, 19, 20, 21, 22, 23, 24, 25, 26, 27, 28, 29, 30, 31, 32, 33, 34, 35, 36, 37, 38, 39, 40, 41, 42, 43, 44, 45, 46, 47, 48] (by decide +kernel) (by decide +kernel)) (goodIn_sub (fun _ h => List.mem_cons_of_mem _ (List.mem_append_left _ (List.mem_append_right _ h))) (by decide +kernel))) (goodIn_sub (fun _ h => List.mem_cons_of_mem _ (List.mem_append_right _ h)) (by decide +kernel))
set_option maxRecDepth 20000 in
theorem gL_windowPosition_X6_windowPosition : GoodIn wsL_windowPosition (wsV RL 85 RX6 yX6_windowPosition wsX6_windowPosition) := goodIn_app (goodIn_of _ (by decide +kernel)) ggL_windowPosition_X6_windowPosition
theorem dL_windowPosition_0 : decode cL_windowPosition 0 = .ok (.aload_n 2, 1) := by decide +kernel
theorem dL_windowPosition_1 : decode cL_windowPosition 1 = .ok (.iconst 0, 1) := by decide +kernel
theorem dL_windowPosition_2 : decode cL_windowPosition 2 = .ok (.aload_n 0, 1) := by decide +kernel
theorem dL_windowPosition_3 : decode cL_windowPosition 3 = .ok (.iload_n 1, 1) := by decide +kernel
theorem dL_windowPosition_4 : decode cL_windowPosition 4 = .ok (.invokevirtual 85, 3) := by decide +kernel
theorem dL_windowPosition_7 : decode cL_windowPosition 7 = .ok (.i2l, 1) := by decide +kernel
theorem dL_windowPosition_8 : decode cL_windowPosition 8 = .ok (.lastore, 1) := by decide +kernel
theorem dL_windowPosition_9 : decode cL_windowPosition 9 = .ok (.goto 9, 3) := by decide +kernel
theorem dL_windowPosition_12 : decode cL_windowPosition 12 = .ok (.astore_n 3, 1) := by decide +kernel
theorem dL_windowPosition_13 : decode cL_windowPosition 13 = .ok (.iconst 1, 1) := by decide +kernel
theorem dL_windowPosition_14 : decode cL_windowPosition 14 = .ok (.ireturn, 1) := by decide +kernel
theorem dL_windowPosition_15 : decode cL_windowPosition 15 = .ok (.astore_n 3, 1) := by decide +kernel
theorem dL_windowPosition_16 : decode cL_windowPosition 16 = .ok (.iconst 2, 1) := by decide +kernel
theorem dL_windowPosition_17 : decode cL_windowPosition 17 = .ok (.ireturn, 1) := by decide +kernel
theorem dL_windowPosition_18 : decode cL_windowPosition 18 = .ok (.iconst 0, 1) := by decide +kernel
theorem dL_windowPosition_19 : decode cL_windowPosition 19 = .ok (.ireturn, 1) := by decide +kernel
set_option maxRecDepth 20000 in
theorem ggL_chainLength_X6_chainLength : GoodIn wsL_chainLength wsX6_chainLength := goodIn_ca (goodIn_r _ [6, 7, 8, 5, 9, 10, 11, 12, 13, 14, 15, 16, 17, 18, 19, 20, 21, 22, 23, 24, 25, 26, 27, 28, 29, 30, 31, 32, 33, 34, 35, 36, 37, 38, 39, 40, 41, 42, 43, 44, 45, 46] (by decide +kernel) (by decide +kernel)) (goodIn_sub (fun _ h => List.mem_cons_of_mem _ (List.mem_append_right _ h)) (by decide +kernel))
set_option maxRecDepth 20000 in
theorem gL_chainLength_X6_chainLength : GoodIn wsL_chainLength (wsV RL 88 RX6 yX6_chainLength wsX6_chainLength) := goodIn_app (goodIn_of _ (by decide +kernel)) ggL_chainLength_X6_chainLength
theorem dL_chainLength_0 : decode cL_chainLength 0 = .ok (.aload_n 2, 1) := by decide +kernel
theorem dL_chainLength_1 : decode cL_chainLength 1 = .ok (.iconst 0, 1) := by decide +kernel
theorem dL_chainLength_2 : decode cL_chainLength 2 = .ok (.aload_n 0, 1) := by decide +kernel
theorem dL_chainLength_3 : decode cL_chainLength 3 = .ok (.iload_n 1, 1) := by decide +kernel
theorem dL_chainLength_4 : decode cL_chainLength 4 = .ok (.invokevirtual 88, 3) := by decide +kernel
theorem dL_chainLength_7 : decode cL_chainLength 7 = .ok (.i2l, 1) := by decide +kernel
theorem dL_chainLength_8 : decode cL_chainLength 8 = .ok (.lastore, 1) := by decide +kernel
theorem dL_chainLength_9 : decode cL_chainLength 9 = .ok (.goto 6, 3) := by decide +kernel
theorem dL_chainLength_12 : decode cL_chainLength 12 = .ok (.astore_n 3, 1) := by decide +kernel
theorem dL_chainLength_13 : decode cL_chainLength 13 = .ok (.iconst 1, 1) := by decide +kernel
theorem dL_chainLength_14 : decode cL_chainLength 14 = .ok (.ireturn, 1) := by decide +kernel
theorem dL_chainLength_15 : decode cL_chainLength 15 = .ok (.iconst 0, 1) := by decide +kernel
theorem dL_chainLength_16 : decode cL_chainLength 16 = .ok (.ireturn, 1) := by decide +kernel
set_option maxRecDepth 20000 in
theorem ggL_successor_X6_successor : GoodIn wsL_successor wsX6_successor := goodIn_ca (goodIn_ca (goodIn_r _ [7, 8, 9, 6, 10, 11, 12, 13, 14, 15, 16, 17, 18, 19, 20, 21, 22, 23, 24, 25, 26, 27, 28, 29, 30, 31, 32, 33, 34, 35, 36, 37, 38, 39, 40, 41, 42, 43, 44, 45] (by decide +kernel) (by decide +kernel)) (goodIn_sub (fun _ h => List.mem_cons_of_mem _ (List.mem_append_left _ (List.mem_append_right _ h))) (by decide +kernel))) (goodIn_sub (fun _ h => List.mem_cons_of_mem _ (List.mem_append_right _ h)) (by decide +kernel))
set_option maxRecDepth 20000 in
theorem gL_successor_X6_successor : GoodIn wsL_successor (wsV RL 91 RX6 yX6_successor wsX6_successor) := goodIn_app (goodIn_of _ (by decide +kernel)) ggL_successor_X6_successor
theorem dL_successor_0 : decode cL_successor 0 = .ok (.aload_n 2, 1) := by decide +kernel
theorem dL_successor_1 : decode cL_successor 1 = .ok (.iconst 0, 1) := by decide +kernel
theorem dL_successor_2 : decode cL_successor 2 = .ok (.aload_n 0, 1) := by decide +kernel
theorem dL_successor_3 : decode cL_successor 3 = .ok (.iload_n 1, 1) := by decide +kernel
theorem dL_successor_4 : decode cL_successor 4 = .ok (.invokevirtual 91, 3) := by decide +kernel
theorem dL_successor_7 : decode cL_successor 7 = .ok (.i2l, 1) := by decide +kernel
theorem dL_successor_8 : decode cL_successor 8 = .ok (.lastore, 1) := by decide +kernel
theorem dL_successor_9 : decode cL_successor 9 = .ok (.goto 9, 3) := by decide +kernel
theorem dL_successor_12 : decode cL_successor 12 = .ok (.astore_n 3, 1) := by decide +kernel
theorem dL_successor_13 : decode cL_successor 13 = .ok (.iconst 1, 1) := by decide +kernel
theorem dL_successor_14 : decode cL_successor 14 = .ok (.ireturn, 1) := by decide +kernel
theorem dL_successor_15 : decode cL_successor 15 = .ok (.astore_n 3, 1) := by decide +kernel
theorem dL_successor_16 : decode cL_successor 16 = .ok (.iconst 2, 1) := by decide +kernel
theorem dL_successor_17 : decode cL_successor 17 = .ok (.ireturn, 1) := by decide +kernel
theorem dL_successor_18 : decode cL_successor 18 = .ok (.iconst 0, 1) := by decide +kernel
theorem dL_successor_19 : decode cL_successor 19 = .ok (.ireturn, 1) := by decide +kernel
set_option maxRecDepth 20000 in
theorem ggL_law_X6_init : GoodIn wsL_law wsX6_init := goodIn_r _ [9, 10, 11, 12, 13, 14, 15, 16, 17, 18, 19, 20, 21, 22, 23, 24, 25, 26, 27, 28, 29, 30, 31, 32, 33, 34, 35, 36, 37, 38, 39, 40, 41, 42, 43, 44, 45, 46, 47, 48, 49, 50, 51, 52, 53, 54, 55, 56, 57, 58, 59, 60, 61, 62, 63, 64, 65, 66, 67, 68, 69, 70, 71, 72, 73, 74, 75, 76, 77, 78, 2, 79, 80, 81, 82, 83, 84, 85, 86, 87, 88, 89, 90, 91, 92, 93, 94, 95, 96, 97, 98, 99, 100, 101, 102, 103, 104, 105, 106, 107, 108, 109, 110, 111, 112, 113, 114, 115, 116, 117, 118, 119, 120, 121, 122, 123, 664, 665, 666, 667, 668, 669, 670, 671, 672, 673, 674, 646, 647, 648, 649, 650, 675, 676, 677, 678, 679, 680, 681, 682, 683, 684, 685, 686, 687, 688, 689, 690, 691, 692, 693, 694, 695, 696] (by decide +kernel) (by decide +kernel)
set_option maxRecDepth 20000 in
theorem gL_law_X6_init : GoodIn wsL_law (wsX6_init) := ggL_law_X6_init
set_option maxRecDepth 20000 in
theorem ggL_law_X7_init : GoodIn wsL_law wsX7_init := goodIn_r _ [126, 127, 11, 12, 128, 129, 51, 130, 131, 132, 133, 134, 135, 136, 137, 138, 651, 652, 653, 654, 655, 656, 657, 658, 659, 660, 661, 662, 663] (by decide +kernel) (by decide +kernel)
set_option maxRecDepth 20000 in
theorem gL_law_X7_init : GoodIn wsL_law (wsX7_init) := ggL_law_X7_init
set_option maxRecDepth 20000 in
theorem ggL_law_L_begin : GoodIn wsL_law wsL_begin := goodIn_ca (goodIn_r _ [142, 143, 144, 145, 146, 2, 147, 148, 149, 150, 151, 152, 76, 77, 78, 79, 80, 16, 17, 81, 82, 83, 15, 84, 85, 86, 87, 88, 89, 90, 91, 32, 36, 37, 38, 39, 41, 43, 47, 92, 93, 94, 31, 95, 96, 97, 98, 99, 100, 35, 101, 102, 58, 103, 104, 105, 106, 20, 107, 108, 109, 110, 111, 112, 24, 113, 114, 115, 116, 117, 118, 46, 119, 120, 121, 122, 123, 646, 647, 648, 649, 650, 664, 665, 666, 667, 668, 669, 670, 671, 672, 673, 674, 685, 686, 687, 688, 689, 690, 675, 676, 677, 678, 679, 680, 681, 682, 683, 684, 691, 692, 693, 694, 695, 696] (by decide +kernel) (by decide +kernel)) (goodIn_sub (fun _ h => List.mem_append_left _ (List.mem_append_left _ (List.mem_append_right _ h))) (by decide +kernel))
set_option maxRecDepth 20000 in
theorem gL_law_L_begin : GoodIn wsL_law (va_wsS RL 98 yL_begin wsL_begin) := goodIn_app (goodIn_of _ (by decide +kernel)) ggL_law_L_begin
set_option maxRecDepth 20000 in
theorem ggL_law_X7_begin : GoodIn wsL_law wsX7_begin := goodIn_r _ [156, 128, 129, 130, 157, 158, 5, 159, 160, 161, 162, 163, 164, 651, 652, 653, 654, 655, 656, 657, 658, 659, 660, 661, 662, 663] (by decide +kernel) (by decide +kernel)
set_option maxRecDepth 20000 in
theorem gL_law_X7_begin : GoodIn wsL_law (wsV RL 103 RX7 yX7_begin wsX7_begin) := goodIn_app (goodIn_of _ (by decide +kernel)) ggL_law_X7_begin
set_option maxRecDepth 20000 in
theorem ggL_law_X7_thrown : GoodIn wsL_law wsX7_thrown := goodIn_r _ [168, 164, 651, 652, 653, 654, 655, 656, 657, 658, 659, 660, 661, 662, 663] (by decide +kernel) (by decide +kernel)
set_option maxRecDepth 20000 in
theorem gL_law_X7_thrown : GoodIn wsL_law (wsV RL 104 RX7 yX7_thrown wsX7_thrown) := goodIn_app (goodIn_of _ (by decide +kernel)) ggL_law_X7_thrown
set_option maxRecDepth 20000 in
theorem ggL_law_L_offer : GoodIn wsL_law wsL_offer := goodIn_ca (goodIn_ca (goodIn_r _ [171, 143, 172, 173, 174, 175, 2, 176, 177, 178, 148, 149, 150, 151, 152, 179, 180, 181, 182, 16, 17, 183, 184, 185, 186, 187, 188, 189, 190, 15, 191, 91, 32, 41, 43, 47, 192, 193, 194, 31, 195, 97, 96, 52, 53, 196, 197, 198, 199, 200, 201, 202, 203, 36, 37, 38, 39, 204, 205, 206, 35, 207, 102, 58, 208, 209, 210, 211, 20, 212, 108, 109, 213, 214, 215, 216, 62, 63, 64, 65, 217, 218, 219, 220, 221, 222, 223, 224, 225, 226, 227, 228, 229, 230, 231, 232, 233, 24, 234, 115, 69, 70, 114, 235, 236, 237, 238, 239, 240, 241, 242, 243, 244, 245, 246, 247, 46, 248, 120, 249, 121, 122, 123, 75, 250, 251, 252, 253, 74, 664, 665, 666, 667, 668, 669, 670, 671, 672, 673, 674, 646, 647, 648, 649, 650, 685, 686, 687, 688, 689, 690, 675, 676, 677, 678, 679, 680, 681, 682, 683, 684, 691, 692, 693, 694, 695, 696] (by decide +kernel) (by decide +kernel)) (goodIn_sub (fun _ h => List.mem_append_left _ (List.mem_append_left _ (List.mem_append_right _ h))) (by decide +kernel))) (goodIn_sub (fun _ h => List.mem_append_left _ (List.mem_append_right _ h)) (by decide +kernel))
set_option maxRecDepth 20000 in
theorem gL_law_L_offer : GoodIn wsL_law (va_wsS RL 108 yL_offer wsL_offer) := goodIn_app (goodIn_of _ (by decide +kernel)) ggL_law_L_offer
set_option maxRecDepth 20000 in
theorem ggL_law_X7_offer : GoodIn wsL_law wsX7_offer := goodIn_r _ [257, 258, 130, 131, 132, 133, 134, 135, 157, 158, 5, 159, 160, 161, 162, 163, 164, 651, 652, 653, 654, 655, 656, 657, 658, 659, 660, 661, 662, 663] (by decide +kernel) (by decide +kernel)
set_option maxRecDepth 20000 in
theorem gL_law_X7_offer : GoodIn wsL_law (wsV RL 111 RX7 yX7_offer wsX7_offer) := goodIn_app (goodIn_of _ (by decide +kernel)) ggL_law_X7_offer
set_option maxRecDepth 20000 in
theorem ggL_law_L_clear : GoodIn wsL_law wsL_clear := goodIn_ca (goodIn_r _ [261, 143, 262, 263, 264, 2, 265, 148, 149, 150, 151, 152, 179, 180, 181, 182, 16, 17, 266, 88, 89, 15, 90, 91, 32, 85, 36, 37, 38, 39, 41, 43, 47, 86, 92, 93, 94, 31, 95, 96, 97, 98, 99, 100, 35, 101, 102, 58, 103, 104, 105, 106, 20, 107, 108, 109, 110, 111, 112, 24, 113, 114, 115, 116, 117, 118, 46, 119, 120, 121, 122, 123, 664, 665, 666, 667, 668, 669, 670, 671, 672, 673, 674, 646, 647, 648, 649, 650, 685, 686, 687, 688, 689, 690, 675, 676, 677, 678, 679, 680, 681, 682, 683, 684, 691, 692, 693, 694, 695, 696] (by decide +kernel) (by decide +kernel)) (goodIn_sub (fun _ h => List.mem_append_left _ (List.mem_append_left _ (List.mem_append_right _ h))) (by decide +kernel))
set_option maxRecDepth 20000 in
theorem gL_law_L_clear : GoodIn wsL_law (va_wsS RL 112 yL_clear wsL_clear) := goodIn_app (goodIn_of _ (by decide +kernel)) ggL_law_L_clear
set_option maxRecDepth 20000 in
theorem ggL_law_X7_clear : GoodIn wsL_law wsX7_clear := goodIn_r _ [270, 130, 271, 272, 273, 5, 274, 157, 158, 159, 160, 161, 162, 163, 164, 651, 652, 653, 654, 655, 656, 657, 658, 659, 660, 661, 662, 663] (by decide +kernel) (by decide +kernel)
set_option maxRecDepth 20000 in
theorem gL_law_X7_clear : GoodIn wsL_law (wsV RL 115 RX7 yX7_clear wsX7_clear) := goodIn_app (goodIn_of _ (by decide +kernel)) ggL_law_X7_clear
set_option maxRecDepth 20000 in
theorem ggL_law_L_offers : GoodIn wsL_law wsL_offers := goodIn_ca (goodIn_r _ [277, 143, 278, 279, 280, 2, 281, 16, 17, 148, 149, 150, 151, 152, 179, 180, 181, 182, 646, 647, 648, 649, 650, 664, 665, 666, 667, 668, 669, 670, 671, 672, 673, 674] (by decide +kernel) (by decide +kernel)) (goodIn_sub (fun _ h => List.mem_append_left _ (List.mem_append_left _ (List.mem_append_right _ h))) (by decide +kernel))
set_option maxRecDepth 20000 in
theorem gL_law_L_offers : GoodIn wsL_law (va_wsS RL 116 yL_offers wsL_offers) := goodIn_app (goodIn_of _ (by decide +kernel)) ggL_law_L_offers
set_option maxRecDepth 20000 in
theorem ggL_law_X7_offers : GoodIn wsL_law wsX7_offers := goodIn_r _ [285, 130, 271, 272, 273, 5, 274, 157, 158, 159, 160, 161, 162, 163, 164, 651, 652, 653, 654, 655, 656, 657, 658, 659, 660, 661, 662, 663] (by decide +kernel) (by decide +kernel)
set_option maxRecDepth 20000 in
theorem gL_law_X7_offers : GoodIn wsL_law (wsV RL 118 RX7 yX7_offers wsX7_offers) := goodIn_app (goodIn_of _ (by decide +kernel)) ggL_law_X7_offers
set_option maxRecDepth 20000 in
theorem ggL_law_L_exactWeight : GoodIn wsL_law wsL_exactWeight := goodIn_ca (goodIn_r _ [288, 143, 289, 290, 291, 2, 292, 16, 17, 148, 149, 150, 151, 152, 293, 201, 202, 15, 203, 36, 37, 38, 39, 179, 180, 181, 182, 646, 647, 648, 649, 650, 689, 690, 664, 665, 666, 667, 668, 669, 670, 671, 672, 673, 674] (by decide +kernel) (by decide +kernel)) (goodIn_sub (fun _ h => List.mem_append_left _ (List.mem_append_left _ (List.mem_append_right _ h))) (by decide +kernel))
set_option maxRecDepth 20000 in
theorem gL_law_L_exactWeight : GoodIn wsL_law (va_wsS RL 119 yL_exactWeight wsL_exactWeight) := goodIn_app (goodIn_of _ (by decide +kernel)) ggL_law_L_exactWeight
set_option maxRecDepth 20000 in
theorem ggL_law_X7_exactWeight : GoodIn wsL_law wsX7_exactWeight := goodIn_r _ [297, 133, 132, 298, 299, 300, 5, 301, 157, 158, 159, 160, 161, 162, 163, 164, 302, 303, 304, 305, 130, 651, 652, 653, 654, 655, 656, 657, 658, 659, 660, 661, 662, 663] (by decide +kernel) (by decide +kernel)
set_option maxRecDepth 20000 in
theorem gL_law_X7_exactWeight : GoodIn wsL_law (wsV RL 122 RX7 yX7_exactWeight wsX7_exactWeight) := goodIn_app (goodIn_of _ (by decide +kernel)) ggL_law_X7_exactWeight
set_option maxRecDepth 20000 in
theorem ggL_law_L_reservoirSize : GoodIn wsL_law wsL_reservoirSize := goodIn_ca (goodIn_r _ [308, 143, 309, 310, 311, 2, 312, 148, 149, 150, 151, 152, 179, 180, 181, 182, 16, 17, 313, 314, 315, 31, 316, 97, 96, 317, 214, 215, 216, 664, 665, 666, 667, 668, 669, 670, 671, 672, 673, 674, 646, 647, 648, 649, 650, 685, 686, 687, 688] (by decide +kernel) (by decide +kernel)) (goodIn_sub (fun _ h => List.mem_append_left _ (List.mem_append_left _ (List.mem_append_right _ h))) (by decide +kernel))
set_option maxRecDepth 20000 in
theorem gL_law_L_reservoirSize : GoodIn wsL_law (va_wsS RL 123 yL_reservoirSize wsL_reservoirSize) := goodIn_app (goodIn_of _ (by decide +kernel)) ggL_law_L_reservoirSize
set_option maxRecDepth 20000 in
theorem ggL_law_X7_reservoirSize : GoodIn wsL_law wsX7_reservoirSize := goodIn_r _ [321, 130, 128, 271, 272, 273, 5, 274, 157, 158, 159, 160, 161, 162, 163, 164, 651, 652, 653, 654, 655, 656, 657, 658, 659, 660, 661, 662, 663] (by decide +kernel) (by decide +kernel)
set_option maxRecDepth 20000 in
theorem gL_law_X7_reservoirSize : GoodIn wsL_law (wsV RL 125 RX7 yX7_reservoirSize wsX7_reservoirSize) := goodIn_app (goodIn_of _ (by decide +kernel)) ggL_law_X7_reservoirSize
set_option maxRecDepth 20000 in
theorem ggL_law_L_reservoirItem : GoodIn wsL_law wsL_reservoirItem := goodIn_ca (goodIn_ca (goodIn_r _ [324, 143, 325, 326, 327, 328, 2, 329, 148, 149, 150, 151, 152, 179, 180, 181, 182, 16, 17, 313, 314, 315, 31, 316, 97, 96, 317, 214, 215, 216, 330, 331, 332, 333, 334, 229, 225, 226, 664, 665, 666, 667, 668, 669, 670, 671, 672, 673, 674, 685, 686, 687, 688, 646, 647, 648, 649, 650] (by decide +kernel) (by decide +kernel)) (goodIn_sub (fun _ h => List.mem_append_left _ (List.mem_append_left _ (List.mem_append_right _ h))) (by decide +kernel))) (goodIn_sub (fun _ h => List.mem_append_right _ h) (by decide +kernel))
set_option maxRecDepth 20000 in
theorem gL_law_L_reservoirItem : GoodIn wsL_law (va_wsS RL 126 yL_reservoirItem wsL_reservoirItem) := goodIn_app (goodIn_of _ (by decide +kernel)) ggL_law_L_reservoirItem
set_option maxRecDepth 20000 in
theorem ggL_law_X7_reservoirItem : GoodIn wsL_law wsX7_reservoirItem := goodIn_r _ [338, 131, 339, 340, 341, 5, 342, 157, 158, 159, 343, 344, 345, 346, 130, 133, 128, 134, 160, 161, 162, 163, 164, 651, 652, 653, 654, 655, 656, 657, 658, 659, 660, 661, 662, 663] (by decide +kernel) (by decide +kernel)
set_option maxRecDepth 20000 in
theorem gL_law_X7_reservoirItem : GoodIn wsL_law (wsV RL 128 RX7 yX7_reservoirItem wsX7_reservoirItem) := goodIn_app (goodIn_of _ (by decide +kernel)) ggL_law_X7_reservoirItem
set_option maxRecDepth 20000 in
theorem ggL_law_L_reservoirPosition : GoodIn wsL_law wsL_reservoirPosition := goodIn_ca (goodIn_ca (goodIn_r _ [349, 143, 325, 350, 351, 352, 2, 353, 148, 149, 150, 151, 152, 179, 180, 181, 182, 16, 17, 313, 314, 315, 31, 316, 97, 96, 317, 214, 215, 216, 330, 331, 332, 333, 334, 229, 225, 226, 664, 665, 666, 667, 668, 669, 670, 671, 672, 673, 674, 685, 686, 687, 688, 646, 647, 648, 649, 650] (by decide +kernel) (by decide +kernel)) (goodIn_sub (fun _ h => List.mem_append_left _ (List.mem_append_left _ (List.mem_append_right _ h))) (by decide +kernel))) (goodIn_sub (fun _ h => List.mem_append_right _ h) (by decide +kernel))
set_option maxRecDepth 20000 in
theorem gL_law_L_reservoirPosition : GoodIn wsL_law (va_wsS RL 129 yL_reservoirPosition wsL_reservoirPosition) := goodIn_app (goodIn_of _ (by decide +kernel)) ggL_law_L_reservoirPosition
set_option maxRecDepth 20000 in
theorem ggL_law_X7_reservoirPosition : GoodIn wsL_law wsX7_reservoirPosition := goodIn_r _ [357, 339, 340, 341, 5, 342, 157, 158, 159, 343, 344, 345, 346, 130, 133, 128, 134, 160, 161, 162, 163, 164, 651, 652, 653, 654, 655, 656, 657, 658, 659, 660, 661, 662, 663] (by decide +kernel) (by decide +kernel)
set_option maxRecDepth 20000 in
theorem gL_law_X7_reservoirPosition : GoodIn wsL_law (wsV RL 131 RX7 yX7_reservoirPosition wsX7_reservoirPosition) := goodIn_app (goodIn_of _ (by decide +kernel)) ggL_law_X7_reservoirPosition
set_option maxRecDepth 20000 in
theorem ggL_law_L_groupOffers : GoodIn wsL_law wsL_groupOffers := goodIn_ca (goodIn_r _ [360, 143, 361, 362, 363, 2, 364, 148, 149, 150, 151, 152, 179, 180, 181, 182, 16, 17, 293, 201, 202, 15, 203, 36, 37, 38, 39, 689, 690, 685, 686, 687, 688, 646, 647, 648, 649, 650, 664, 665, 666, 667, 668, 669, 670, 671, 672, 673, 674] (by decide +kernel) (by decide +kernel)) (goodIn_sub (fun _ h => List.mem_append_left _ (List.mem_append_left _ (List.mem_append_right _ h))) (by decide +kernel))
set_option maxRecDepth 20000 in
theorem gL_law_L_groupOffers : GoodIn wsL_law (va_wsS RL 132 yL_groupOffers wsL_groupOffers) := goodIn_app (goodIn_of _ (by decide +kernel)) ggL_law_L_groupOffers
set_option maxRecDepth 20000 in
theorem ggL_law_X7_groupOffers : GoodIn wsL_law wsX7_groupOffers := goodIn_r _ [368, 133, 298, 299, 300, 5, 301, 157, 158, 159, 160, 161, 162, 163, 164, 302, 303, 304, 305, 130, 651, 652, 653, 654, 655, 656, 657, 658, 659, 660, 661, 662, 663] (by decide +kernel) (by decide +kernel)
set_option maxRecDepth 20000 in
theorem gL_law_X7_groupOffers : GoodIn wsL_law (wsV RL 134 RX7 yX7_groupOffers wsX7_groupOffers) := goodIn_app (goodIn_of _ (by decide +kernel)) ggL_law_X7_groupOffers
set_option maxRecDepth 20000 in
theorem ggL_law_L_groupItem : GoodIn wsL_law wsL_groupItem := goodIn_ca (goodIn_ca (goodIn_r _ [371, 143, 325, 372, 373, 374, 2, 375, 148, 149, 150, 151, 152, 179, 180, 181, 182, 16, 17, 293, 201, 202, 15, 203, 36, 37, 38, 39, 313, 314, 315, 31, 316, 97, 96, 317, 214, 215, 216, 330, 331, 332, 333, 334, 229, 225, 226, 689, 690, 685, 686, 687, 688, 646, 647, 648, 649, 650, 664, 665, 666, 667, 668, 669, 670, 671, 672, 673, 674] (by decide +kernel) (by decide +kernel)) (goodIn_sub (fun _ h => List.mem_append_left _ (List.mem_append_left _ (List.mem_append_right _ h))) (by decide +kernel))) (goodIn_sub (fun _ h => List.mem_append_right _ h) (by decide +kernel))
set_option maxRecDepth 20000 in
theorem gL_law_L_groupItem : GoodIn wsL_law (va_wsS RL 135 yL_groupItem wsL_groupItem) := goodIn_app (goodIn_of _ (by decide +kernel)) ggL_law_L_groupItem
set_option maxRecDepth 20000 in
theorem ggL_law_X7_groupItem : GoodIn wsL_law wsX7_groupItem := goodIn_r _ [379, 131, 298, 299, 300, 5, 301, 157, 158, 159, 160, 161, 162, 163, 164, 339, 340, 341, 342, 343, 344, 345, 346, 130, 133, 128, 134, 651, 652, 653, 654, 655, 656, 657, 658, 659, 660, 661, 662, 663] (by decide +kernel) (by decide +kernel)
set_option maxRecDepth 20000 in
theorem gL_law_X7_groupItem : GoodIn wsL_law (wsV RL 138 RX7 yX7_groupItem wsX7_groupItem) := goodIn_app (goodIn_of _ (by decide +kernel)) ggL_law_X7_groupItem
set_option maxRecDepth 20000 in
theorem ggL_law_L_prioritySize : GoodIn wsL_law wsL_prioritySize := goodIn_ca (goodIn_r _ [382, 143, 383, 384, 385, 2, 386, 148, 149, 150, 151, 152, 387, 388, 389, 390, 21, 80, 16, 17, 179, 180, 181, 182, 391, 105, 106, 20, 107, 108, 109, 392, 393, 394, 395, 62, 63, 64, 65, 225, 226, 396, 210, 211, 212, 213, 214, 215, 216, 217, 218, 219, 220, 221, 222, 223, 224, 227, 228, 229, 230, 198, 199, 397, 398, 399, 400, 664, 665, 666, 667, 668, 669, 670, 671, 672, 673, 674, 646, 647, 648, 649, 650, 675, 676, 677, 678, 679, 680] (by decide +kernel) (by decide +kernel)) (goodIn_sub (fun _ h => List.mem_append_left _ (List.mem_append_left _ (List.mem_append_right _ h))) (by decide +kernel))
set_option maxRecDepth 20000 in
theorem gL_law_L_prioritySize : GoodIn wsL_law (va_wsS RL 139 yL_prioritySize wsL_prioritySize) := goodIn_app (goodIn_of _ (by decide +kernel)) ggL_law_L_prioritySize
set_option maxRecDepth 20000 in
theorem ggL_law_X7_prioritySize : GoodIn wsL_law wsX7_prioritySize := goodIn_r _ [404, 271, 272, 273, 5, 274, 157, 158, 159, 160, 161, 162, 163, 164, 405, 406, 407, 408, 128, 409, 410, 411, 412, 130, 651, 652, 653, 654, 655, 656, 657, 658, 659, 660, 661, 662, 663] (by decide +kernel) (by decide +kernel)
set_option maxRecDepth 20000 in
theorem gL_law_X7_prioritySize : GoodIn wsL_law (wsV RL 141 RX7 yX7_prioritySize wsX7_prioritySize) := goodIn_app (goodIn_of _ (by decide +kernel)) ggL_law_X7_prioritySize
set_option maxRecDepth 20000 in
theorem ggL_law_L_priorityItem : GoodIn wsL_law wsL_priorityItem := goodIn_ca (goodIn_ca (goodIn_r _ [415, 143, 325, 416, 417, 418, 2, 419, 148, 149, 150, 151, 152, 387, 388, 389, 390, 21, 80, 16, 17, 179, 180, 181, 182, 391, 105, 106, 20, 107, 108, 109, 392, 393, 394, 395, 62, 63, 64, 65, 225, 226, 396, 210, 211, 212, 213, 214, 215, 216, 217, 218, 219, 220, 221, 222, 223, 224, 227, 228, 229, 230, 198, 199, 397, 398, 399, 400, 330, 331, 332, 333, 334, 675, 676, 677, 678, 679, 680, 664, 665, 666, 667, 668, 669, 670, 671, 672, 673, 674, 646, 647, 648, 649, 650] (by decide +kernel) (by decide +kernel)) (goodIn_sub (fun _ h => List.mem_append_left _ (List.mem_append_left _ (List.mem_append_right _ h))) (by decide +kernel))) (goodIn_sub (fun _ h => List.mem_append_right _ h) (by decide +kernel))
set_option maxRecDepth 20000 in
theorem gL_law_L_priorityItem : GoodIn wsL_law (va_wsS RL 142 yL_priorityItem wsL_priorityItem) := goodIn_app (goodIn_of _ (by decide +kernel)) ggL_law_L_priorityItem
set_option maxRecDepth 20000 in
theorem ggL_law_X7_priorityItem : GoodIn wsL_law wsX7_priorityItem := goodIn_r _ [423, 131, 424, 425, 426, 5, 427, 157, 158, 159, 405, 406, 407, 408, 128, 409, 410, 411, 412, 130, 160, 161, 162, 163, 164, 428, 429, 430, 431, 302, 303, 304, 305, 432, 433, 434, 435, 132, 134, 651, 652, 653, 654, 655, 656, 657, 658, 659, 660, 661, 662, 663] (by decide +kernel) (by decide +kernel)
set_option maxRecDepth 20000 in
theorem gL_law_X7_priorityItem : GoodIn wsL_law (wsV RL 144 RX7 yX7_priorityItem wsX7_priorityItem) := goodIn_app (goodIn_of _ (by decide +kernel)) ggL_law_X7_priorityItem
set_option maxRecDepth 20000 in
theorem ggL_law_L_estimatedWeight : GoodIn wsL_law wsL_estimatedWeight := goodIn_ca (goodIn_ca (goodIn_r _ [438, 143, 325, 439, 440, 441, 2, 442, 148, 149, 150, 151, 152, 387, 388, 389, 390, 21, 80, 16, 17, 179, 180, 181, 182, 391, 105, 106, 20, 107, 108, 109, 392, 393, 394, 395, 62, 63, 64, 65, 225, 226, 396, 210, 211, 212, 213, 214, 215, 216, 217, 218, 219, 220, 221, 222, 223, 224, 227, 228, 229, 230, 198, 199, 397, 398, 399, 400, 330, 331, 332, 333, 334, 443, 444, 445, 446, 447, 448, 449, 450, 451, 452, 453, 454, 455, 664, 665, 666, 667, 668, 669, 670, 671, 672, 673, 674, 646, 647, 648, 649, 650, 675, 676, 677, 678, 679, 680] (by decide +kernel) (by decide +kernel)) (goodIn_sub (fun _ h => List.mem_append_left _ (List.mem_append_left _ (List.mem_append_right _ h))) (by decide +kernel))) (goodIn_sub (fun _ h => List.mem_append_right _ h) (by decide +kernel))
set_option maxRecDepth 20000 in
theorem gL_law_L_estimatedWeight : GoodIn wsL_law (va_wsS RL 145 yL_estimatedWeight wsL_estimatedWeight) := goodIn_app (goodIn_of _ (by decide +kernel)) ggL_law_L_estimatedWeight
set_option maxRecDepth 20000 in
theorem ggL_law_X7_estimatedWeight : GoodIn wsL_law wsX7_estimatedWeight := goodIn_r _ [459, 132, 424, 425, 426, 5, 427, 157, 158, 159, 405, 406, 407, 408, 128, 409, 410, 411, 412, 130, 160, 161, 162, 163, 164, 460, 461, 462, 463, 464, 134, 428, 429, 430, 431, 302, 303, 304, 305, 432, 433, 434, 435, 651, 652, 653, 654, 655, 656, 657, 658, 659, 660, 661, 662, 663] (by decide +kernel) (by decide +kernel)
set_option maxRecDepth 20000 in
theorem gL_law_X7_estimatedWeight : GoodIn wsL_law (wsV RL 147 RX7 yX7_estimatedWeight wsX7_estimatedWeight) := goodIn_app (goodIn_of _ (by decide +kernel)) ggL_law_X7_estimatedWeight
set_option maxRecDepth 20000 in
theorem ggL_law_L_threshold : GoodIn wsL_law wsL_threshold := goodIn_ca (goodIn_r _ [467, 143, 468, 469, 470, 2, 471, 148, 149, 150, 151, 152, 387, 388, 389, 390, 21, 80, 16, 17, 179, 180, 181, 182, 391, 105, 106, 20, 107, 108, 109, 392, 393, 394, 395, 62, 63, 64, 65, 225, 226, 396, 210, 211, 212, 213, 214, 215, 216, 217, 218, 219, 220, 221, 222, 223, 224, 227, 228, 229, 230, 198, 199, 472, 451, 452, 453, 454, 455, 664, 665, 666, 667, 668, 669, 670, 671, 672, 673, 674, 646, 647, 648, 649, 650, 675, 676, 677, 678, 679, 680] (by decide +kernel) (by decide +kernel)) (goodIn_sub (fun _ h => List.mem_append_left _ (List.mem_append_left _ (List.mem_append_right _ h))) (by decide +kernel))
set_option maxRecDepth 20000 in
theorem gL_law_L_threshold : GoodIn wsL_law (va_wsS RL 148 yL_threshold wsL_threshold) := goodIn_app (goodIn_of _ (by decide +kernel)) ggL_law_L_threshold
set_option maxRecDepth 20000 in
theorem ggL_law_X7_threshold : GoodIn wsL_law wsX7_threshold := goodIn_r _ [476, 271, 272, 273, 5, 274, 157, 158, 159, 160, 161, 162, 163, 164, 460, 461, 462, 463, 128, 132, 464, 134, 428, 429, 430, 431, 302, 303, 304, 305, 130, 432, 433, 434, 435, 651, 652, 653, 654, 655, 656, 657, 658, 659, 660, 661, 662, 663] (by decide +kernel) (by decide +kernel)
set_option maxRecDepth 20000 in
theorem gL_law_X7_threshold : GoodIn wsL_law (wsV RL 150 RX7 yX7_threshold wsX7_threshold) := goodIn_app (goodIn_of _ (by decide +kernel)) ggL_law_X7_threshold
set_option maxRecDepth 20000 in
theorem ggL_law_L_estimate : GoodIn wsL_law wsL_estimate := goodIn_ca (goodIn_r _ [479, 143, 480, 481, 482, 2, 483, 148, 149, 150, 151, 152, 387, 388, 389, 390, 21, 80, 16, 17, 179, 180, 181, 182, 391, 105, 106, 20, 107, 108, 109, 392, 393, 394, 395, 62, 63, 64, 65, 225, 226, 396, 210, 211, 212, 213, 214, 215, 216, 217, 218, 219, 220, 221, 222, 223, 224, 227, 228, 229, 230, 198, 199, 484, 485, 486, 487, 488, 398, 399, 400, 489, 444, 445, 446, 447, 448, 449, 450, 451, 452, 453, 454, 455, 664, 665, 666, 667, 668, 669, 670, 671, 672, 673, 674, 646, 647, 648, 649, 650, 675, 676, 677, 678, 679, 680] (by decide +kernel) (by decide +kernel)) (goodIn_sub (fun _ h => List.mem_append_left _ (List.mem_append_left _ (List.mem_append_right _ h))) (by decide +kernel))
