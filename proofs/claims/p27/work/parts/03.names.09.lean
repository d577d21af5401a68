set_option maxRecDepth 20000 in
theorem ggX6_priorityItem_X3_sampled : GoodIn wsX6_priorityItem wsX3_sampled := goodIn_r _ [61, 25, 24, 40, 41, 42, 43, 67, 68, 69, 70, 71, 72] (by decide +kernel) (by decide +kernel)
set_option maxRecDepth 20000 in
theorem gX6_priorityItem_X3_sampled : GoodIn wsX6_priorityItem (wsV RX6 103 RX3 yX3_sampled wsX3_sampled) := goodIn_app (goodIn_of _ (by decide +kernel)) ggX6_priorityItem_X3_sampled
set_option maxRecDepth 20000 in
theorem ggX6_priorityItem_X6_checkPlace : GoodIn wsX6_priorityItem wsX6_checkPlace := goodIn_ca (goodIn_r _ [64, 65, 66] (by decide +kernel) (by decide +kernel)) (goodIn_sub (fun _ h => List.mem_cons_of_mem _ (List.mem_append_right _ h)) (by decide +kernel))
set_option maxRecDepth 20000 in
theorem gX6_priorityItem_X6_checkPlace : GoodIn wsX6_priorityItem (va_wsS RX6 81 yX6_checkPlace wsX6_checkPlace) := goodIn_app (goodIn_of _ (by decide +kernel)) ggX6_priorityItem_X6_checkPlace
set_option maxRecDepth 20000 in
theorem ggX6_priorityItem_X6_at : GoodIn wsX6_priorityItem wsX6_at := goodIn_r _ [35] (by decide +kernel) (by decide +kernel)
set_option maxRecDepth 20000 in
theorem gX6_priorityItem_X6_at : GoodIn wsX6_priorityItem (va_wsS RX6 88 yX6_at wsX6_at) := goodIn_app (goodIn_of _ (by decide +kernel)) ggX6_priorityItem_X6_at
theorem dX6_priorityItem_0 : decode cX6_priorityItem 0 = .ok (.iload_n 1, 1) := by decide +kernel
theorem dX6_priorityItem_1 : decode cX6_priorityItem 1 = .ok (.iconst 0, 1) := by decide +kernel
theorem dX6_priorityItem_2 : decode cX6_priorityItem 2 = .ok (.iconst 2, 1) := by decide +kernel
theorem dX6_priorityItem_3 : decode cX6_priorityItem 3 = .ok (.invokestatic 37, 3) := by decide +kernel
theorem dX6_priorityItem_6 : decode cX6_priorityItem 6 = .ok (.aload_n 0, 1) := by decide +kernel
theorem dX6_priorityItem_7 : decode cX6_priorityItem 7 = .ok (.iload_n 1, 1) := by decide +kernel
theorem dX6_priorityItem_8 : decode cX6_priorityItem 8 = .ok (.invokevirtual 99, 3) := by decide +kernel
theorem dX6_priorityItem_11 : decode cX6_priorityItem 11 = .ok (.astore_n 3, 1) := by decide +kernel
theorem dX6_priorityItem_12 : decode cX6_priorityItem 12 = .ok (.iload_n 2, 1) := by decide +kernel
theorem dX6_priorityItem_13 : decode cX6_priorityItem 13 = .ok (.aload_n 3, 1) := by decide +kernel
theorem dX6_priorityItem_14 : decode cX6_priorityItem 14 = .ok (.invokevirtual 103, 3) := by decide +kernel
theorem dX6_priorityItem_17 : decode cX6_priorityItem 17 = .ok (.invokestatic 81, 3) := by decide +kernel
theorem dX6_priorityItem_20 : decode cX6_priorityItem 20 = .ok (.aload_n 3, 1) := by decide +kernel
theorem dX6_priorityItem_21 : decode cX6_priorityItem 21 = .ok (.getfield 106, 3) := by decide +kernel
theorem dX6_priorityItem_24 : decode cX6_priorityItem 24 = .ok (.iload_n 2, 1) := by decide +kernel
theorem dX6_priorityItem_25 : decode cX6_priorityItem 25 = .ok (.invokestatic 88, 3) := by decide +kernel
theorem dX6_priorityItem_28 : decode cX6_priorityItem 28 = .ok (.ireturn, 1) := by decide +kernel
set_option maxRecDepth 20000 in
theorem ggX6_estimatedWeight_X6_checkArgument : GoodIn wsX6_estimatedWeight wsX6_checkArgument := goodIn_ca (goodIn_r _ [4, 5, 6] (by decide +kernel) (by decide +kernel)) (goodIn_sub (fun _ h => List.mem_cons_of_mem _ (List.mem_append_left _ (List.mem_append_right _ h))) (by decide +kernel))
set_option maxRecDepth 20000 in
theorem gX6_estimatedWeight_X6_checkArgument : GoodIn wsX6_estimatedWeight (va_wsS RX6 37 yX6_checkArgument wsX6_checkArgument) := goodIn_app (goodIn_of _ (by decide +kernel)) ggX6_estimatedWeight_X6_checkArgument
set_option maxRecDepth 20000 in
theorem ggX6_estimatedWeight_X6_prioritiesOf : GoodIn wsX6_estimatedWeight wsX6_prioritiesOf := goodIn_r _ [10, 11, 12, 13, 14, 15, 16, 17, 3, 18, 19, 20, 21, 22, 23, 24, 25, 26, 27, 28, 29, 30, 31, 32, 33, 34, 35, 36, 37, 38, 39, 40, 41, 42, 43, 44, 45, 46, 47, 48, 49, 50, 51, 52, 53, 54, 55, 56, 57, 80, 81, 82, 83, 84, 85, 86, 87, 88, 89, 90, 91, 92, 93, 94, 95, 96, 97, 98, 99, 100, 101] (by decide +kernel) (by decide +kernel)
set_option maxRecDepth 20000 in
theorem gX6_estimatedWeight_X6_prioritiesOf : GoodIn wsX6_estimatedWeight (wsV RX6 99 RX6 yX6_prioritiesOf wsX6_prioritiesOf) := goodIn_app (goodIn_of _ (by decide +kernel)) ggX6_estimatedWeight_X6_prioritiesOf
set_option maxRecDepth 20000 in
theorem ggX6_estimatedWeight_X3_sampled : GoodIn wsX6_estimatedWeight wsX3_sampled := goodIn_r _ [61, 25, 24, 40, 41, 42, 43, 96, 97, 98, 99, 100, 101] (by decide +kernel) (by decide +kernel)
set_option maxRecDepth 20000 in
theorem gX6_estimatedWeight_X3_sampled : GoodIn wsX6_estimatedWeight (wsV RX6 103 RX3 yX3_sampled wsX3_sampled) := goodIn_app (goodIn_of _ (by decide +kernel)) ggX6_estimatedWeight_X3_sampled
set_option maxRecDepth 20000 in
theorem ggX6_estimatedWeight_X6_checkPlace : GoodIn wsX6_estimatedWeight wsX6_checkPlace := goodIn_ca (goodIn_r _ [64, 65, 66] (by decide +kernel) (by decide +kernel)) (goodIn_sub (fun _ h => List.mem_cons_of_mem _ (List.mem_append_right _ h)) (by decide +kernel))
set_option maxRecDepth 20000 in
theorem gX6_estimatedWeight_X6_checkPlace : GoodIn wsX6_estimatedWeight (va_wsS RX6 81 yX6_checkPlace wsX6_checkPlace) := goodIn_app (goodIn_of _ (by decide +kernel)) ggX6_estimatedWeight_X6_checkPlace
set_option maxRecDepth 20000 in
theorem ggX6_estimatedWeight_X3_estimateAt : GoodIn wsX6_estimatedWeight wsX3_estimateAt := goodIn_r _ [70, 31, 71, 72, 42, 73, 34, 3, 35, 74, 75, 76, 22, 77, 25, 24, 33, 78, 79, 96, 97, 98, 99, 100, 101] (by decide +kernel) (by decide +kernel)
set_option maxRecDepth 20000 in
theorem gX6_estimatedWeight_X3_estimateAt : GoodIn wsX6_estimatedWeight (wsV RX6 107 RX3 yX3_estimateAt wsX3_estimateAt) := goodIn_app (goodIn_of _ (by decide +kernel)) ggX6_estimatedWeight_X3_estimateAt
theorem dX6_estimatedWeight_0 : decode cX6_estimatedWeight 0 = .ok (.iload_n 1, 1) := by decide +kernel
theorem dX6_estimatedWeight_1 : decode cX6_estimatedWeight 1 = .ok (.iconst 0, 1) := by decide +kernel
theorem dX6_estimatedWeight_2 : decode cX6_estimatedWeight 2 = .ok (.iconst 2, 1) := by decide +kernel
theorem dX6_estimatedWeight_3 : decode cX6_estimatedWeight 3 = .ok (.invokestatic 37, 3) := by decide +kernel
theorem dX6_estimatedWeight_6 : decode cX6_estimatedWeight 6 = .ok (.aload_n 0, 1) := by decide +kernel
theorem dX6_estimatedWeight_7 : decode cX6_estimatedWeight 7 = .ok (.iload_n 1, 1) := by decide +kernel
theorem dX6_estimatedWeight_8 : decode cX6_estimatedWeight 8 = .ok (.invokevirtual 99, 3) := by decide +kernel
theorem dX6_estimatedWeight_11 : decode cX6_estimatedWeight 11 = .ok (.astore_n 3, 1) := by decide +kernel
theorem dX6_estimatedWeight_12 : decode cX6_estimatedWeight 12 = .ok (.iload_n 2, 1) := by decide +kernel
theorem dX6_estimatedWeight_13 : decode cX6_estimatedWeight 13 = .ok (.aload_n 3, 1) := by decide +kernel
theorem dX6_estimatedWeight_14 : decode cX6_estimatedWeight 14 = .ok (.invokevirtual 103, 3) := by decide +kernel
theorem dX6_estimatedWeight_17 : decode cX6_estimatedWeight 17 = .ok (.invokestatic 81, 3) := by decide +kernel
theorem dX6_estimatedWeight_20 : decode cX6_estimatedWeight 20 = .ok (.aload_n 3, 1) := by decide +kernel
theorem dX6_estimatedWeight_21 : decode cX6_estimatedWeight 21 = .ok (.iload_n 2, 1) := by decide +kernel
theorem dX6_estimatedWeight_22 : decode cX6_estimatedWeight 22 = .ok (.invokevirtual 107, 3) := by decide +kernel
theorem dX6_estimatedWeight_25 : decode cX6_estimatedWeight 25 = .ok (.lreturn, 1) := by decide +kernel
set_option maxRecDepth 20000 in
theorem ggX6_threshold_X6_checkArgument : GoodIn wsX6_threshold wsX6_checkArgument := goodIn_ca (goodIn_r _ [4, 5, 6] (by decide +kernel) (by decide +kernel)) (goodIn_sub (fun _ h => List.mem_cons_of_mem _ (List.mem_append_right _ h)) (by decide +kernel))
set_option maxRecDepth 20000 in
theorem gX6_threshold_X6_checkArgument : GoodIn wsX6_threshold (va_wsS RX6 37 yX6_checkArgument wsX6_checkArgument) := goodIn_app (goodIn_of _ (by decide +kernel)) ggX6_threshold_X6_checkArgument
set_option maxRecDepth 20000 in
theorem ggX6_threshold_X6_prioritiesOf : GoodIn wsX6_threshold wsX6_prioritiesOf := goodIn_r _ [10, 11, 12, 13, 14, 15, 16, 17, 3, 18, 19, 20, 21, 22, 23, 24, 25, 26, 27, 28, 29, 30, 31, 32, 33, 34, 35, 36, 37, 38, 39, 40, 41, 42, 43, 44, 45, 46, 47, 48, 49, 50, 51, 52, 53, 54, 55, 56, 57, 64, 65, 66, 67, 68, 69, 70, 71, 72, 73, 74, 75, 76, 77, 78, 79, 80, 81, 82, 83, 84, 85] (by decide +kernel) (by decide +kernel)
set_option maxRecDepth 20000 in
theorem gX6_threshold_X6_prioritiesOf : GoodIn wsX6_threshold (wsV RX6 99 RX6 yX6_prioritiesOf wsX6_prioritiesOf) := goodIn_app (goodIn_of _ (by decide +kernel)) ggX6_threshold_X6_prioritiesOf
set_option maxRecDepth 20000 in
theorem ggX6_threshold_X3_bound : GoodIn wsX6_threshold wsX3_bound := goodIn_r _ [61, 25, 24, 31, 33, 34, 3, 35, 62, 63, 80, 81, 82, 83, 84, 85] (by decide +kernel) (by decide +kernel)
set_option maxRecDepth 20000 in
theorem gX6_threshold_X3_bound : GoodIn wsX6_threshold (wsV RX6 111 RX3 yX3_bound wsX3_bound) := goodIn_app (goodIn_of _ (by decide +kernel)) ggX6_threshold_X3_bound
theorem dX6_threshold_0 : decode cX6_threshold 0 = .ok (.iload_n 1, 1) := by decide +kernel
theorem dX6_threshold_1 : decode cX6_threshold 1 = .ok (.iconst 0, 1) := by decide +kernel
theorem dX6_threshold_2 : decode cX6_threshold 2 = .ok (.iconst 2, 1) := by decide +kernel
theorem dX6_threshold_3 : decode cX6_threshold 3 = .ok (.invokestatic 37, 3) := by decide +kernel
theorem dX6_threshold_6 : decode cX6_threshold 6 = .ok (.aload_n 0, 1) := by decide +kernel
theorem dX6_threshold_7 : decode cX6_threshold 7 = .ok (.iload_n 1, 1) := by decide +kernel
theorem dX6_threshold_8 : decode cX6_threshold 8 = .ok (.invokevirtual 99, 3) := by decide +kernel
theorem dX6_threshold_11 : decode cX6_threshold 11 = .ok (.invokevirtual 111, 3) := by decide +kernel
theorem dX6_threshold_14 : decode cX6_threshold 14 = .ok (.lreturn, 1) := by decide +kernel
set_option maxRecDepth 20000 in
theorem ggX6_estimate_X6_checkArgument : GoodIn wsX6_estimate wsX6_checkArgument := goodIn_ca (goodIn_r _ [4, 5, 6] (by decide +kernel) (by decide +kernel)) (goodIn_sub (fun _ h => List.mem_cons_of_mem _ (List.mem_append_right _ h)) (by decide +kernel))
set_option maxRecDepth 20000 in
theorem gX6_estimate_X6_checkArgument : GoodIn wsX6_estimate (va_wsS RX6 37 yX6_checkArgument wsX6_checkArgument) := goodIn_app (goodIn_of _ (by decide +kernel)) ggX6_estimate_X6_checkArgument
set_option maxRecDepth 20000 in
theorem ggX6_estimate_X6_prioritiesOf : GoodIn wsX6_estimate wsX6_prioritiesOf := goodIn_r _ [10, 11, 12, 13, 14, 15, 16, 17, 3, 18, 19, 20, 21, 22, 23, 24, 25, 26, 27, 28, 29, 30, 31, 32, 33, 34, 35, 36, 37, 38, 39, 40, 41, 42, 43, 44, 45, 46, 47, 48, 49, 50, 51, 52, 53, 54, 55, 56, 57, 79, 80, 81, 82, 83, 84, 85, 86, 87, 88, 89, 90, 91, 92, 93, 94, 95, 96, 97, 98, 99, 100] (by decide +kernel) (by decide +kernel)
set_option maxRecDepth 20000 in
theorem gX6_estimate_X6_prioritiesOf : GoodIn wsX6_estimate (wsV RX6 99 RX6 yX6_prioritiesOf wsX6_prioritiesOf) := goodIn_app (goodIn_of _ (by decide +kernel)) ggX6_estimate_X6_prioritiesOf
set_option maxRecDepth 20000 in
theorem ggX6_estimate_X3_estimatedSum : GoodIn wsX6_estimate wsX3_estimatedSum := goodIn_r _ [61, 32, 62, 63, 64, 22, 65, 25, 24, 40, 41, 42, 43, 34, 3, 35, 66, 67, 68, 69, 31, 70, 71, 72, 73, 74, 75, 76, 33, 77, 78, 95, 96, 97, 98, 99, 100] (by decide +kernel) (by decide +kernel)
set_option maxRecDepth 20000 in
theorem gX6_estimate_X3_estimatedSum : GoodIn wsX6_estimate (wsV RX6 115 RX3 yX3_estimatedSum wsX3_estimatedSum) := goodIn_app (goodIn_of _ (by decide +kernel)) ggX6_estimate_X3_estimatedSum
theorem dX6_estimate_0 : decode cX6_estimate 0 = .ok (.iload_n 1, 1) := by decide +kernel
theorem dX6_estimate_1 : decode cX6_estimate 1 = .ok (.iconst 0, 1) := by decide +kernel
theorem dX6_estimate_2 : decode cX6_estimate 2 = .ok (.iconst 2, 1) := by decide +kernel
theorem dX6_estimate_3 : decode cX6_estimate 3 = .ok (.invokestatic 37, 3) := by decide +kernel
theorem dX6_estimate_6 : decode cX6_estimate 6 = .ok (.iload_n 2, 1) := by decide +kernel
theorem dX6_estimate_7 : decode cX6_estimate 7 = .ok (.iconst 0, 1) := by decide +kernel
theorem dX6_estimate_8 : decode cX6_estimate 8 = .ok (.iconst 3, 1) := by decide +kernel
theorem dX6_estimate_9 : decode cX6_estimate 9 = .ok (.invokestatic 37, 3) := by decide +kernel
theorem dX6_estimate_12 : decode cX6_estimate 12 = .ok (.aload_n 0, 1) := by decide +kernel
theorem dX6_estimate_13 : decode cX6_estimate 13 = .ok (.iload_n 1, 1) := by decide +kernel
theorem dX6_estimate_14 : decode cX6_estimate 14 = .ok (.invokevirtual 99, 3) := by decide +kernel
theorem dX6_estimate_17 : decode cX6_estimate 17 = .ok (.iload_n 2, 1) := by decide +kernel
theorem dX6_estimate_18 : decode cX6_estimate 18 = .ok (.invokevirtual 115, 3) := by decide +kernel
theorem dX6_estimate_21 : decode cX6_estimate 21 = .ok (.lreturn, 1) := by decide +kernel
set_option maxRecDepth 20000 in
theorem ggX6_sampledWeight_X6_checkArgument : GoodIn wsX6_sampledWeight wsX6_checkArgument := goodIn_ca (goodIn_r _ [4, 5, 6] (by decide +kernel) (by decide +kernel)) (goodIn_sub (fun _ h => List.mem_cons_of_mem _ (List.mem_append_right _ h)) (by decide +kernel))
set_option maxRecDepth 20000 in
theorem gX6_sampledWeight_X6_checkArgument : GoodIn wsX6_sampledWeight (va_wsS RX6 37 yX6_checkArgument wsX6_checkArgument) := goodIn_app (goodIn_of _ (by decide +kernel)) ggX6_sampledWeight_X6_checkArgument
set_option maxRecDepth 20000 in
theorem ggX6_sampledWeight_X6_prioritiesOf : GoodIn wsX6_sampledWeight wsX6_prioritiesOf := goodIn_r _ [10, 11, 12, 13, 14, 15, 16, 17, 3, 18, 19, 20, 21, 22, 23, 24, 25, 26, 27, 28, 29, 30, 31, 32, 33, 34, 35, 36, 37, 38, 39, 40, 41, 42, 43, 44, 45, 46, 47, 48, 49, 50, 51, 52, 53, 54, 55, 56, 57, 66, 67, 68, 69, 70, 71, 72, 73, 74, 75, 76, 77, 78, 79, 80, 81, 82, 83, 84, 85, 86, 87] (by decide +kernel) (by decide +kernel)
set_option maxRecDepth 20000 in
theorem gX6_sampledWeight_X6_prioritiesOf : GoodIn wsX6_sampledWeight (wsV RX6 99 RX6 yX6_prioritiesOf wsX6_prioritiesOf) := goodIn_app (goodIn_of _ (by decide +kernel)) ggX6_sampledWeight_X6_prioritiesOf
set_option maxRecDepth 20000 in
theorem ggX6_sampledWeight_X3_weightSum : GoodIn wsX6_sampledWeight wsX3_weightSum := goodIn_r _ [61, 32, 31, 62, 63, 64, 22, 65, 25, 24, 40, 41, 42, 43, 34, 3, 35, 82, 83, 84, 85, 86, 87] (by decide +kernel) (by decide +kernel)
set_option maxRecDepth 20000 in
theorem gX6_sampledWeight_X3_weightSum : GoodIn wsX6_sampledWeight (wsV RX6 118 RX3 yX3_weightSum wsX3_weightSum) := goodIn_app (goodIn_of _ (by decide +kernel)) ggX6_sampledWeight_X3_weightSum
theorem dX6_sampledWeight_0 : decode cX6_sampledWeight 0 = .ok (.iload_n 1, 1) := by decide +kernel
theorem dX6_sampledWeight_1 : decode cX6_sampledWeight 1 = .ok (.iconst 0, 1) := by decide +kernel
theorem dX6_sampledWeight_2 : decode cX6_sampledWeight 2 = .ok (.iconst 2, 1) := by decide +kernel
theorem dX6_sampledWeight_3 : decode cX6_sampledWeight 3 = .ok (.invokestatic 37, 3) := by decide +kernel
theorem dX6_sampledWeight_6 : decode cX6_sampledWeight 6 = .ok (.iload_n 2, 1) := by decide +kernel
theorem dX6_sampledWeight_7 : decode cX6_sampledWeight 7 = .ok (.iconst 0, 1) := by decide +kernel
theorem dX6_sampledWeight_8 : decode cX6_sampledWeight 8 = .ok (.iconst 3, 1) := by decide +kernel
theorem dX6_sampledWeight_9 : decode cX6_sampledWeight 9 = .ok (.invokestatic 37, 3) := by decide +kernel
theorem dX6_sampledWeight_12 : decode cX6_sampledWeight 12 = .ok (.aload_n 0, 1) := by decide +kernel
theorem dX6_sampledWeight_13 : decode cX6_sampledWeight 13 = .ok (.iload_n 1, 1) := by decide +kernel
theorem dX6_sampledWeight_14 : decode cX6_sampledWeight 14 = .ok (.invokevirtual 99, 3) := by decide +kernel
theorem dX6_sampledWeight_17 : decode cX6_sampledWeight 17 = .ok (.iload_n 2, 1) := by decide +kernel
theorem dX6_sampledWeight_18 : decode cX6_sampledWeight 18 = .ok (.invokevirtual 118, 3) := by decide +kernel
theorem dX6_sampledWeight_21 : decode cX6_sampledWeight 21 = .ok (.ireturn, 1) := by decide +kernel
set_option maxRecDepth 20000 in
theorem ggX6_distinctSize_X6_checkArgument : GoodIn wsX6_distinctSize wsX6_checkArgument := goodIn_ca (goodIn_r _ [4, 5, 6] (by decide +kernel) (by decide +kernel)) (goodIn_sub (fun _ h => List.mem_cons_of_mem _ (List.mem_append_right _ h)) (by decide +kernel))
set_option maxRecDepth 20000 in
theorem gX6_distinctSize_X6_checkArgument : GoodIn wsX6_distinctSize (va_wsS RX6 37 yX6_checkArgument wsX6_checkArgument) := goodIn_app (goodIn_of _ (by decide +kernel)) ggX6_distinctSize_X6_checkArgument
set_option maxRecDepth 20000 in
theorem ggX6_distinctSize_X6_distinctOf : GoodIn wsX6_distinctSize wsX6_distinctOf := goodIn_r _ [10, 11, 12, 13, 14, 15, 16, 17, 3, 18, 19, 20, 21, 22, 23, 24, 25, 26, 27, 28, 29, 30, 31, 32, 33, 34, 35, 36, 37, 38, 39, 40, 41, 42, 43, 44, 45, 46, 47, 48, 49, 50, 51, 52, 53, 54, 55, 56, 61, 62, 63, 64, 65, 66, 67, 68, 69, 70, 71, 72, 73, 74, 75, 76, 57, 58, 59, 60] (by decide +kernel) (by decide +kernel)
set_option maxRecDepth 20000 in
theorem gX6_distinctSize_X6_distinctOf : GoodIn wsX6_distinctSize (wsV RX6 122 RX6 yX6_distinctOf wsX6_distinctOf) := goodIn_app (goodIn_of _ (by decide +kernel)) ggX6_distinctSize_X6_distinctOf
theorem dX6_distinctSize_0 : decode cX6_distinctSize 0 = .ok (.iload_n 1, 1) := by decide +kernel
theorem dX6_distinctSize_1 : decode cX6_distinctSize 1 = .ok (.iconst 0, 1) := by decide +kernel
theorem dX6_distinctSize_2 : decode cX6_distinctSize 2 = .ok (.iconst 2, 1) := by decide +kernel
theorem dX6_distinctSize_3 : decode cX6_distinctSize 3 = .ok (.invokestatic 37, 3) := by decide +kernel
theorem dX6_distinctSize_6 : decode cX6_distinctSize 6 = .ok (.aload_n 0, 1) := by decide +kernel
theorem dX6_distinctSize_7 : decode cX6_distinctSize 7 = .ok (.iload_n 1, 1) := by decide +kernel
theorem dX6_distinctSize_8 : decode cX6_distinctSize 8 = .ok (.invokevirtual 122, 3) := by decide +kernel
theorem dX6_distinctSize_11 : decode cX6_distinctSize 11 = .ok (.getfield 126, 3) := by decide +kernel
theorem dX6_distinctSize_14 : decode cX6_distinctSize 14 = .ok (.ireturn, 1) := by decide +kernel
set_option maxRecDepth 20000 in
theorem ggX6_distinctItem_X6_checkArgument : GoodIn wsX6_distinctItem wsX6_checkArgument := goodIn_ca (goodIn_r _ [4, 5, 6] (by decide +kernel) (by decide +kernel)) (goodIn_sub (fun _ h => List.mem_cons_of_mem _ (List.mem_append_left _ (List.mem_append_right _ h))) (by decide +kernel))
set_option maxRecDepth 20000 in
theorem gX6_distinctItem_X6_checkArgument : GoodIn wsX6_distinctItem (va_wsS RX6 37 yX6_checkArgument wsX6_checkArgument) := goodIn_app (goodIn_of _ (by decide +kernel)) ggX6_distinctItem_X6_checkArgument
set_option maxRecDepth 20000 in
theorem ggX6_distinctItem_X6_distinctOf : GoodIn wsX6_distinctItem wsX6_distinctOf := goodIn_r _ [10, 11, 12, 13, 14, 15, 16, 17, 3, 18, 19, 20, 21, 22, 23, 24, 25, 26, 27, 28, 29, 30, 31, 32, 33, 34, 35, 36, 37, 38, 39, 40, 41, 42, 43, 44, 45, 46, 47, 48, 49, 50, 51, 52, 53, 54, 55, 56, 66, 67, 68, 69, 70, 71, 72, 73, 74, 75, 76, 77, 78, 79, 80, 81, 62, 63, 64, 65] (by decide +kernel) (by decide +kernel)
set_option maxRecDepth 20000 in
theorem gX6_distinctItem_X6_distinctOf : GoodIn wsX6_distinctItem (wsV RX6 122 RX6 yX6_distinctOf wsX6_distinctOf) := goodIn_app (goodIn_of _ (by decide +kernel)) ggX6_distinctItem_X6_distinctOf
set_option maxRecDepth 20000 in
theorem ggX6_distinctItem_X6_checkPlace : GoodIn wsX6_distinctItem wsX6_checkPlace := goodIn_ca (goodIn_r _ [59, 60, 61] (by decide +kernel) (by decide +kernel)) (goodIn_sub (fun _ h => List.mem_cons_of_mem _ (List.mem_append_right _ h)) (by decide +kernel))
set_option maxRecDepth 20000 in
theorem gX6_distinctItem_X6_checkPlace : GoodIn wsX6_distinctItem (va_wsS RX6 81 yX6_checkPlace wsX6_checkPlace) := goodIn_app (goodIn_of _ (by decide +kernel)) ggX6_distinctItem_X6_checkPlace
set_option maxRecDepth 20000 in
theorem ggX6_distinctItem_X6_at : GoodIn wsX6_distinctItem wsX6_at := goodIn_r _ [33] (by decide +kernel) (by decide +kernel)
set_option maxRecDepth 20000 in
theorem gX6_distinctItem_X6_at : GoodIn wsX6_distinctItem (va_wsS RX6 88 yX6_at wsX6_at) := goodIn_app (goodIn_of _ (by decide +kernel)) ggX6_distinctItem_X6_at
theorem dX6_distinctItem_0 : decode cX6_distinctItem 0 = .ok (.iload_n 1, 1) := by decide +kernel
theorem dX6_distinctItem_1 : decode cX6_distinctItem 1 = .ok (.iconst 0, 1) := by decide +kernel
theorem dX6_distinctItem_2 : decode cX6_distinctItem 2 = .ok (.iconst 2, 1) := by decide +kernel
theorem dX6_distinctItem_3 : decode cX6_distinctItem 3 = .ok (.invokestatic 37, 3) := by decide +kernel
theorem dX6_distinctItem_6 : decode cX6_distinctItem 6 = .ok (.aload_n 0, 1) := by decide +kernel
theorem dX6_distinctItem_7 : decode cX6_distinctItem 7 = .ok (.iload_n 1, 1) := by decide +kernel
theorem dX6_distinctItem_8 : decode cX6_distinctItem 8 = .ok (.invokevirtual 122, 3) := by decide +kernel
theorem dX6_distinctItem_11 : decode cX6_distinctItem 11 = .ok (.astore_n 3, 1) := by decide +kernel
theorem dX6_distinctItem_12 : decode cX6_distinctItem 12 = .ok (.iload_n 2, 1) := by decide +kernel
theorem dX6_distinctItem_13 : decode cX6_distinctItem 13 = .ok (.aload_n 3, 1) := by decide +kernel
theorem dX6_distinctItem_14 : decode cX6_distinctItem 14 = .ok (.getfield 126, 3) := by decide +kernel
theorem dX6_distinctItem_17 : decode cX6_distinctItem 17 = .ok (.invokestatic 81, 3) := by decide +kernel
theorem dX6_distinctItem_20 : decode cX6_distinctItem 20 = .ok (.aload_n 3, 1) := by decide +kernel
theorem dX6_distinctItem_21 : decode cX6_distinctItem 21 = .ok (.getfield 129, 3) := by decide +kernel
theorem dX6_distinctItem_24 : decode cX6_distinctItem 24 = .ok (.iload_n 2, 1) := by decide +kernel
theorem dX6_distinctItem_25 : decode cX6_distinctItem 25 = .ok (.invokestatic 88, 3) := by decide +kernel
theorem dX6_distinctItem_28 : decode cX6_distinctItem 28 = .ok (.ireturn, 1) := by decide +kernel
set_option maxRecDepth 20000 in
theorem ggX6_distinctOffers_X6_checkArgument : GoodIn wsX6_distinctOffers wsX6_checkArgument := goodIn_ca (goodIn_r _ [4, 5, 6] (by decide +kernel) (by decide +kernel)) (goodIn_sub (fun _ h => List.mem_cons_of_mem _ (List.mem_append_left _ (List.mem_append_right _ h))) (by decide +kernel))
set_option maxRecDepth 20000 in
theorem gX6_distinctOffers_X6_checkArgument : GoodIn wsX6_distinctOffers (va_wsS RX6 37 yX6_checkArgument wsX6_checkArgument) := goodIn_app (goodIn_of _ (by decide +kernel)) ggX6_distinctOffers_X6_checkArgument
set_option maxRecDepth 20000 in
theorem ggX6_distinctOffers_X6_distinctOf : GoodIn wsX6_distinctOffers wsX6_distinctOf := goodIn_r _ [10, 11, 12, 13, 14, 15, 16, 17, 3, 18, 19, 20, 21, 22, 23, 24, 25, 26, 27, 28, 29, 30, 31, 32, 33, 34, 35, 36, 37, 38, 39, 40, 41, 42, 43, 44, 45, 46, 47, 48, 49, 50, 51, 52, 53, 54, 55, 56, 66, 67, 68, 69, 70, 71, 72, 73, 74, 75, 76, 77, 78, 79, 80, 81, 62, 63, 64, 65] (by decide +kernel) (by decide +kernel)
set_option maxRecDepth 20000 in
theorem gX6_distinctOffers_X6_distinctOf : GoodIn wsX6_distinctOffers (wsV RX6 122 RX6 yX6_distinctOf wsX6_distinctOf) := goodIn_app (goodIn_of _ (by decide +kernel)) ggX6_distinctOffers_X6_distinctOf
set_option maxRecDepth 20000 in
theorem ggX6_distinctOffers_X6_checkPlace : GoodIn wsX6_distinctOffers wsX6_checkPlace := goodIn_ca (goodIn_r _ [59, 60, 61] (by decide +kernel) (by decide +kernel)) (goodIn_sub (fun _ h => List.mem_cons_of_mem _ (List.mem_append_right _ h)) (by decide +kernel))
set_option maxRecDepth 20000 in
theorem gX6_distinctOffers_X6_checkPlace : GoodIn wsX6_distinctOffers (va_wsS RX6 81 yX6_checkPlace wsX6_checkPlace) := goodIn_app (goodIn_of _ (by decide +kernel)) ggX6_distinctOffers_X6_checkPlace
set_option maxRecDepth 20000 in
theorem ggX6_distinctOffers_X6_at : GoodIn wsX6_distinctOffers wsX6_at := goodIn_r _ [33] (by decide +kernel) (by decide +kernel)
set_option maxRecDepth 20000 in
theorem gX6_distinctOffers_X6_at : GoodIn wsX6_distinctOffers (va_wsS RX6 88 yX6_at wsX6_at) := goodIn_app (goodIn_of _ (by decide +kernel)) ggX6_distinctOffers_X6_at
theorem dX6_distinctOffers_0 : decode cX6_distinctOffers 0 = .ok (.iload_n 1, 1) := by decide +kernel
theorem dX6_distinctOffers_1 : decode cX6_distinctOffers 1 = .ok (.iconst 0, 1) := by decide +kernel
theorem dX6_distinctOffers_2 : decode cX6_distinctOffers 2 = .ok (.iconst 2, 1) := by decide +kernel
theorem dX6_distinctOffers_3 : decode cX6_distinctOffers 3 = .ok (.invokestatic 37, 3) := by decide +kernel
theorem dX6_distinctOffers_6 : decode cX6_distinctOffers 6 = .ok (.aload_n 0, 1) := by decide +kernel
theorem dX6_distinctOffers_7 : decode cX6_distinctOffers 7 = .ok (.iload_n 1, 1) := by decide +kernel
theorem dX6_distinctOffers_8 : decode cX6_distinctOffers 8 = .ok (.invokevirtual 122, 3) := by decide +kernel
theorem dX6_distinctOffers_11 : decode cX6_distinctOffers 11 = .ok (.astore_n 3, 1) := by decide +kernel
theorem dX6_distinctOffers_12 : decode cX6_distinctOffers 12 = .ok (.iload_n 2, 1) := by decide +kernel
theorem dX6_distinctOffers_13 : decode cX6_distinctOffers 13 = .ok (.aload_n 3, 1) := by decide +kernel
theorem dX6_distinctOffers_14 : decode cX6_distinctOffers 14 = .ok (.getfield 126, 3) := by decide +kernel
theorem dX6_distinctOffers_17 : decode cX6_distinctOffers 17 = .ok (.invokestatic 81, 3) := by decide +kernel
theorem dX6_distinctOffers_20 : decode cX6_distinctOffers 20 = .ok (.aload_n 3, 1) := by decide +kernel
theorem dX6_distinctOffers_21 : decode cX6_distinctOffers 21 = .ok (.getfield 130, 3) := by decide +kernel
theorem dX6_distinctOffers_24 : decode cX6_distinctOffers 24 = .ok (.iload_n 2, 1) := by decide +kernel
theorem dX6_distinctOffers_25 : decode cX6_distinctOffers 25 = .ok (.invokestatic 88, 3) := by decide +kernel
theorem dX6_distinctOffers_28 : decode cX6_distinctOffers 28 = .ok (.ireturn, 1) := by decide +kernel
set_option maxRecDepth 20000 in
theorem ggX6_distinctEstimate_X6_checkArgument : GoodIn wsX6_distinctEstimate wsX6_checkArgument := goodIn_ca (goodIn_r _ [4, 5, 6] (by decide +kernel) (by decide +kernel)) (goodIn_sub (fun _ h => List.mem_cons_of_mem _ (List.mem_append_right _ h)) (by decide +kernel))
set_option maxRecDepth 20000 in
theorem gX6_distinctEstimate_X6_checkArgument : GoodIn wsX6_distinctEstimate (va_wsS RX6 37 yX6_checkArgument wsX6_checkArgument) := goodIn_app (goodIn_of _ (by decide +kernel)) ggX6_distinctEstimate_X6_checkArgument
set_option maxRecDepth 20000 in
theorem ggX6_distinctEstimate_X6_distinctOf : GoodIn wsX6_distinctEstimate wsX6_distinctOf := goodIn_r _ [10, 11, 12, 13, 14, 15, 16, 17, 3, 18, 19, 20, 21, 22, 23, 24, 25, 26, 27, 28, 29, 30, 31, 32, 33, 34, 35, 36, 37, 38, 39, 40, 41, 42, 43, 44, 45, 46, 47, 48, 49, 50, 51, 52, 53, 54, 55, 56, 63, 64, 65, 66, 67, 68, 69, 70, 71, 72, 73, 74, 75, 76, 77, 78, 79, 80, 81, 82] (by decide +kernel) (by decide +kernel)
set_option maxRecDepth 20000 in
theorem gX6_distinctEstimate_X6_distinctOf : GoodIn wsX6_distinctEstimate (wsV RX6 122 RX6 yX6_distinctOf wsX6_distinctOf) := goodIn_app (goodIn_of _ (by decide +kernel)) ggX6_distinctEstimate_X6_distinctOf
set_option maxRecDepth 20000 in
theorem ggX6_distinctEstimate_X1_estimatedCount : GoodIn wsX6_distinctEstimate wsX1_estimatedCount := goodIn_r _ [60, 25, 24, 50, 30, 32, 3, 33, 46, 47, 22, 48, 49, 61, 62, 79, 80, 81, 82] (by decide +kernel) (by decide +kernel)
set_option maxRecDepth 20000 in
theorem gX6_distinctEstimate_X1_estimatedCount : GoodIn wsX6_distinctEstimate (wsV RX6 133 RX1 yX1_estimatedCount wsX1_estimatedCount) := goodIn_app (goodIn_of _ (by decide +kernel)) ggX6_distinctEstimate_X1_estimatedCount
theorem dX6_distinctEstimate_0 : decode cX6_distinctEstimate 0 = .ok (.iload_n 1, 1) := by decide +kernel
theorem dX6_distinctEstimate_1 : decode cX6_distinctEstimate 1 = .ok (.iconst 0, 1) := by decide +kernel
theorem dX6_distinctEstimate_2 : decode cX6_distinctEstimate 2 = .ok (.iconst 2, 1) := by decide +kernel
theorem dX6_distinctEstimate_3 : decode cX6_distinctEstimate 3 = .ok (.invokestatic 37, 3) := by decide +kernel
theorem dX6_distinctEstimate_6 : decode cX6_distinctEstimate 6 = .ok (.aload_n 0, 1) := by decide +kernel
theorem dX6_distinctEstimate_7 : decode cX6_distinctEstimate 7 = .ok (.iload_n 1, 1) := by decide +kernel
theorem dX6_distinctEstimate_8 : decode cX6_distinctEstimate 8 = .ok (.invokevirtual 122, 3) := by decide +kernel
theorem dX6_distinctEstimate_11 : decode cX6_distinctEstimate 11 = .ok (.invokevirtual 133, 3) := by decide +kernel
theorem dX6_distinctEstimate_14 : decode cX6_distinctEstimate 14 = .ok (.lreturn, 1) := by decide +kernel
set_option maxRecDepth 20000 in
theorem ggX6_windowItem_X6_checkArgument : GoodIn wsX6_windowItem wsX6_checkArgument := goodIn_ca (goodIn_r _ [4, 5, 6] (by decide +kernel) (by decide +kernel)) (goodIn_sub (fun _ h => List.mem_cons_of_mem _ (List.mem_append_left _ (List.mem_append_right _ h))) (by decide +kernel))
set_option maxRecDepth 20000 in
theorem gX6_windowItem_X6_checkArgument : GoodIn wsX6_windowItem (va_wsS RX6 37 yX6_checkArgument wsX6_checkArgument) := goodIn_app (goodIn_of _ (by decide +kernel)) ggX6_windowItem_X6_checkArgument
set_option maxRecDepth 20000 in
theorem ggX6_windowItem_X6_streamOf : GoodIn wsX6_windowItem wsX6_streamOf := goodIn_r _ [10, 11, 12, 38, 39, 40, 41, 42] (by decide +kernel) (by decide +kernel)
set_option maxRecDepth 20000 in
theorem gX6_windowItem_X6_streamOf : GoodIn wsX6_windowItem (wsV RX6 43 RX6 yX6_streamOf wsX6_streamOf) := goodIn_app (goodIn_of _ (by decide +kernel)) ggX6_windowItem_X6_streamOf
set_option maxRecDepth 20000 in
theorem ggX6_windowItem_X6_checkState : GoodIn wsX6_windowItem wsX6_checkState := goodIn_ca (goodIn_r _ [15, 16, 17] (by decide +kernel) (by decide +kernel)) (goodIn_sub (fun _ h => List.mem_cons_of_mem _ (List.mem_append_right _ h)) (by decide +kernel))
set_option maxRecDepth 20000 in
theorem gX6_windowItem_X6_checkState : GoodIn wsX6_windowItem (va_wsS RX6 51 yX6_checkState wsX6_checkState) := goodIn_app (goodIn_of _ (by decide +kernel)) ggX6_windowItem_X6_checkState
set_option maxRecDepth 20000 in
theorem ggX6_windowItem_X6_at : GoodIn wsX6_windowItem wsX6_at := goodIn_r _ [20] (by decide +kernel) (by decide +kernel)
set_option maxRecDepth 20000 in
theorem gX6_windowItem_X6_at : GoodIn wsX6_windowItem (va_wsS RX6 88 yX6_at wsX6_at) := goodIn_app (goodIn_of _ (by decide +kernel)) ggX6_windowItem_X6_at
theorem dX6_windowItem_0 : decode cX6_windowItem 0 = .ok (.iload_n 1, 1) := by decide +kernel
theorem dX6_windowItem_1 : decode cX6_windowItem 1 = .ok (.iconst 0, 1) := by decide +kernel
theorem dX6_windowItem_2 : decode cX6_windowItem 2 = .ok (.iconst 1, 1) := by decide +kernel
theorem dX6_windowItem_3 : decode cX6_windowItem 3 = .ok (.invokestatic 37, 3) := by decide +kernel
theorem dX6_windowItem_6 : decode cX6_windowItem 6 = .ok (.aload_n 0, 1) := by decide +kernel
theorem dX6_windowItem_7 : decode cX6_windowItem 7 = .ok (.iload_n 1, 1) := by decide +kernel
theorem dX6_windowItem_8 : decode cX6_windowItem 8 = .ok (.invokevirtual 43, 3) := by decide +kernel
theorem dX6_windowItem_11 : decode cX6_windowItem 11 = .ok (.astore_n 2, 1) := by decide +kernel
theorem dX6_windowItem_12 : decode cX6_windowItem 12 = .ok (.aload_n 2, 1) := by decide +kernel
theorem dX6_windowItem_13 : decode cX6_windowItem 13 = .ok (.getfield 47, 3) := by decide +kernel
theorem dX6_windowItem_16 : decode cX6_windowItem 16 = .ok (.ifCond .le 7, 3) := by decide +kernel
theorem dX6_windowItem_19 : decode cX6_windowItem 19 = .ok (.iconst 1, 1) := by decide +kernel
theorem dX6_windowItem_20 : decode cX6_windowItem 20 = .ok (.goto 4, 3) := by decide +kernel
theorem dX6_windowItem_23 : decode cX6_windowItem 23 = .ok (.iconst 0, 1) := by decide +kernel
theorem dX6_windowItem_24 : decode cX6_windowItem 24 = .ok (.invokestatic 51, 3) := by decide +kernel
theorem dX6_windowItem_27 : decode cX6_windowItem 27 = .ok (.aload_n 2, 1) := by decide +kernel
theorem dX6_windowItem_28 : decode cX6_windowItem 28 = .ok (.getfield 136, 3) := by decide +kernel
theorem dX6_windowItem_31 : decode cX6_windowItem 31 = .ok (.getfield 140, 3) := by decide +kernel
theorem dX6_windowItem_34 : decode cX6_windowItem 34 = .ok (.aload_n 2, 1) := by decide +kernel
theorem dX6_windowItem_35 : decode cX6_windowItem 35 = .ok (.getfield 136, 3) := by decide +kernel
theorem dX6_windowItem_38 : decode cX6_windowItem 38 = .ok (.getfield 143, 3) := by decide +kernel
theorem dX6_windowItem_41 : decode cX6_windowItem 41 = .ok (.invokestatic 88, 3) := by decide +kernel
theorem dX6_windowItem_44 : decode cX6_windowItem 44 = .ok (.ireturn, 1) := by decide +kernel
set_option maxRecDepth 20000 in
theorem ggX6_windowPosition_X6_checkArgument : GoodIn wsX6_windowPosition wsX6_checkArgument := goodIn_ca (goodIn_r _ [4, 5, 6] (by decide +kernel) (by decide +kernel)) (goodIn_sub (fun _ h => List.mem_cons_of_mem _ (List.mem_append_left _ (List.mem_append_right _ h))) (by decide +kernel))
set_option maxRecDepth 20000 in
theorem gX6_windowPosition_X6_checkArgument : GoodIn wsX6_windowPosition (va_wsS RX6 37 yX6_checkArgument wsX6_checkArgument) := goodIn_app (goodIn_of _ (by decide +kernel)) ggX6_windowPosition_X6_checkArgument
set_option maxRecDepth 20000 in
theorem ggX6_windowPosition_X6_streamOf : GoodIn wsX6_windowPosition wsX6_streamOf := goodIn_r _ [10, 11, 12, 38, 39, 40, 41, 42] (by decide +kernel) (by decide +kernel)
set_option maxRecDepth 20000 in
theorem gX6_windowPosition_X6_streamOf : GoodIn wsX6_windowPosition (wsV RX6 43 RX6 yX6_streamOf wsX6_streamOf) := goodIn_app (goodIn_of _ (by decide +kernel)) ggX6_windowPosition_X6_streamOf
set_option maxRecDepth 20000 in
theorem ggX6_windowPosition_X6_checkState : GoodIn wsX6_windowPosition wsX6_checkState := goodIn_ca (goodIn_r _ [15, 16, 17] (by decide +kernel) (by decide +kernel)) (goodIn_sub (fun _ h => List.mem_cons_of_mem _ (List.mem_append_right _ h)) (by decide +kernel))
set_option maxRecDepth 20000 in
theorem gX6_windowPosition_X6_checkState : GoodIn wsX6_windowPosition (va_wsS RX6 51 yX6_checkState wsX6_checkState) := goodIn_app (goodIn_of _ (by decide +kernel)) ggX6_windowPosition_X6_checkState
set_option maxRecDepth 20000 in
theorem ggX6_windowPosition_X6_at : GoodIn wsX6_windowPosition wsX6_at := goodIn_r _ [20] (by decide +kernel) (by decide +kernel)
set_option maxRecDepth 20000 in
theorem gX6_windowPosition_X6_at : GoodIn wsX6_windowPosition (va_wsS RX6 88 yX6_at wsX6_at) := goodIn_app (goodIn_of _ (by decide +kernel)) ggX6_windowPosition_X6_at
theorem dX6_windowPosition_0 : decode cX6_windowPosition 0 = .ok (.iload_n 1, 1) := by decide +kernel
theorem dX6_windowPosition_1 : decode cX6_windowPosition 1 = .ok (.iconst 0, 1) := by decide +kernel
theorem dX6_windowPosition_2 : decode cX6_windowPosition 2 = .ok (.iconst 1, 1) := by decide +kernel
theorem dX6_windowPosition_3 : decode cX6_windowPosition 3 = .ok (.invokestatic 37, 3) := by decide +kernel
theorem dX6_windowPosition_6 : decode cX6_windowPosition 6 = .ok (.aload_n 0, 1) := by decide +kernel
theorem dX6_windowPosition_7 : decode cX6_windowPosition 7 = .ok (.iload_n 1, 1) := by decide +kernel
theorem dX6_windowPosition_8 : decode cX6_windowPosition 8 = .ok (.invokevirtual 43, 3) := by decide +kernel
theorem dX6_windowPosition_11 : decode cX6_windowPosition 11 = .ok (.astore_n 2, 1) := by decide +kernel
theorem dX6_windowPosition_12 : decode cX6_windowPosition 12 = .ok (.aload_n 2, 1) := by decide +kernel
theorem dX6_windowPosition_13 : decode cX6_windowPosition 13 = .ok (.getfield 47, 3) := by decide +kernel
theorem dX6_windowPosition_16 : decode cX6_windowPosition 16 = .ok (.ifCond .le 7, 3) := by decide +kernel
theorem dX6_windowPosition_19 : decode cX6_windowPosition 19 = .ok (.iconst 1, 1) := by decide +kernel
theorem dX6_windowPosition_20 : decode cX6_windowPosition 20 = .ok (.goto 4, 3) := by decide +kernel
theorem dX6_windowPosition_23 : decode cX6_windowPosition 23 = .ok (.iconst 0, 1) := by decide +kernel
theorem dX6_windowPosition_24 : decode cX6_windowPosition 24 = .ok (.invokestatic 51, 3) := by decide +kernel
theorem dX6_windowPosition_27 : decode cX6_windowPosition 27 = .ok (.aload_n 2, 1) := by decide +kernel
theorem dX6_windowPosition_28 : decode cX6_windowPosition 28 = .ok (.getfield 136, 3) := by decide +kernel
theorem dX6_windowPosition_31 : decode cX6_windowPosition 31 = .ok (.getfield 146, 3) := by decide +kernel
theorem dX6_windowPosition_34 : decode cX6_windowPosition 34 = .ok (.aload_n 2, 1) := by decide +kernel
theorem dX6_windowPosition_35 : decode cX6_windowPosition 35 = .ok (.getfield 136, 3) := by decide +kernel
theorem dX6_windowPosition_38 : decode cX6_windowPosition 38 = .ok (.getfield 143, 3) := by decide +kernel
theorem dX6_windowPosition_41 : decode cX6_windowPosition 41 = .ok (.invokestatic 88, 3) := by decide +kernel
theorem dX6_windowPosition_44 : decode cX6_windowPosition 44 = .ok (.ireturn, 1) := by decide +kernel
set_option maxRecDepth 20000 in
theorem ggX6_chainLength_X6_checkArgument : GoodIn wsX6_chainLength wsX6_checkArgument := goodIn_ca (goodIn_r _ [4, 5, 6] (by decide +kernel) (by decide +kernel)) (goodIn_sub (fun _ h => List.mem_cons_of_mem _ (List.mem_append_right _ h)) (by decide +kernel))
set_option maxRecDepth 20000 in
theorem gX6_chainLength_X6_checkArgument : GoodIn wsX6_chainLength (va_wsS RX6 37 yX6_checkArgument wsX6_checkArgument) := goodIn_app (goodIn_of _ (by decide +kernel)) ggX6_chainLength_X6_checkArgument
set_option maxRecDepth 20000 in
theorem ggX6_chainLength_X6_streamOf : GoodIn wsX6_chainLength wsX6_streamOf := goodIn_r _ [10, 11, 12, 31, 32, 33, 34, 35] (by decide +kernel) (by decide +kernel)
set_option maxRecDepth 20000 in
theorem gX6_chainLength_X6_streamOf : GoodIn wsX6_chainLength (wsV RX6 43 RX6 yX6_streamOf wsX6_streamOf) := goodIn_app (goodIn_of _ (by decide +kernel)) ggX6_chainLength_X6_streamOf
set_option maxRecDepth 20000 in
theorem ggX6_chainLength_X0_length : GoodIn wsX6_chainLength wsX0_length := goodIn_r _ [17, 18, 19, 36, 37, 38, 39, 40, 41] (by decide +kernel) (by decide +kernel)
set_option maxRecDepth 20000 in
theorem gX6_chainLength_X0_length : GoodIn wsX6_chainLength (wsV RX6 147 RX0 yX0_length wsX0_length) := goodIn_app (goodIn_of _ (by decide +kernel)) ggX6_chainLength_X0_length
theorem dX6_chainLength_0 : decode cX6_chainLength 0 = .ok (.iload_n 1, 1) := by decide +kernel
theorem dX6_chainLength_1 : decode cX6_chainLength 1 = .ok (.iconst 0, 1) := by decide +kernel
theorem dX6_chainLength_2 : decode cX6_chainLength 2 = .ok (.iconst 1, 1) := by decide +kernel
theorem dX6_chainLength_3 : decode cX6_chainLength 3 = .ok (.invokestatic 37, 3) := by decide +kernel
theorem dX6_chainLength_6 : decode cX6_chainLength 6 = .ok (.aload_n 0, 1) := by decide +kernel
theorem dX6_chainLength_7 : decode cX6_chainLength 7 = .ok (.iload_n 1, 1) := by decide +kernel
theorem dX6_chainLength_8 : decode cX6_chainLength 8 = .ok (.invokevirtual 43, 3) := by decide +kernel
theorem dX6_chainLength_11 : decode cX6_chainLength 11 = .ok (.getfield 136, 3) := by decide +kernel
theorem dX6_chainLength_14 : decode cX6_chainLength 14 = .ok (.invokevirtual 147, 3) := by decide +kernel
theorem dX6_chainLength_17 : decode cX6_chainLength 17 = .ok (.ireturn, 1) := by decide +kernel
set_option maxRecDepth 20000 in
theorem ggX6_successor_X6_checkArgument : GoodIn wsX6_successor wsX6_checkArgument := goodIn_ca (goodIn_r _ [4, 5, 6] (by decide +kernel) (by decide +kernel)) (goodIn_sub (fun _ h => List.mem_cons_of_mem _ (List.mem_append_left _ (List.mem_append_right _ h))) (by decide +kernel))
set_option maxRecDepth 20000 in
theorem gX6_successor_X6_checkArgument : GoodIn wsX6_successor (va_wsS RX6 37 yX6_checkArgument wsX6_checkArgument) := goodIn_app (goodIn_of _ (by decide +kernel)) ggX6_successor_X6_checkArgument
set_option maxRecDepth 20000 in
theorem ggX6_successor_X6_streamOf : GoodIn wsX6_successor wsX6_streamOf := goodIn_r _ [10, 11, 12, 35, 36, 37, 38, 39] (by decide +kernel) (by decide +kernel)
set_option maxRecDepth 20000 in
theorem gX6_successor_X6_streamOf : GoodIn wsX6_successor (wsV RX6 43 RX6 yX6_streamOf wsX6_streamOf) := goodIn_app (goodIn_of _ (by decide +kernel)) ggX6_successor_X6_streamOf
