set_option maxRecDepth 20000 in
theorem ggX6_successor_X6_checkState : GoodIn wsX6_successor wsX6_checkState := goodIn_ca (goodIn_r _ [15, 16, 17] (by decide +kernel) (by decide +kernel)) (goodIn_sub (fun _ h => List.mem_cons_of_mem _ (List.mem_append_right _ h)) (by decide +kernel))
set_option maxRecDepth 20000 in
theorem gX6_successor_X6_checkState : GoodIn wsX6_successor (va_wsS RX6 51 yX6_checkState wsX6_checkState) := goodIn_app (goodIn_of _ (by decide +kernel)) ggX6_successor_X6_checkState
theorem dX6_successor_0 : decode cX6_successor 0 = .ok (.iload_n 1, 1) := by decide +kernel
theorem dX6_successor_1 : decode cX6_successor 1 = .ok (.iconst 0, 1) := by decide +kernel
theorem dX6_successor_2 : decode cX6_successor 2 = .ok (.iconst 1, 1) := by decide +kernel
theorem dX6_successor_3 : decode cX6_successor 3 = .ok (.invokestatic 37, 3) := by decide +kernel
theorem dX6_successor_6 : decode cX6_successor 6 = .ok (.aload_n 0, 1) := by decide +kernel
theorem dX6_successor_7 : decode cX6_successor 7 = .ok (.iload_n 1, 1) := by decide +kernel
theorem dX6_successor_8 : decode cX6_successor 8 = .ok (.invokevirtual 43, 3) := by decide +kernel
theorem dX6_successor_11 : decode cX6_successor 11 = .ok (.astore_n 2, 1) := by decide +kernel
theorem dX6_successor_12 : decode cX6_successor 12 = .ok (.aload_n 2, 1) := by decide +kernel
theorem dX6_successor_13 : decode cX6_successor 13 = .ok (.getfield 47, 3) := by decide +kernel
theorem dX6_successor_16 : decode cX6_successor 16 = .ok (.ifCond .le 7, 3) := by decide +kernel
theorem dX6_successor_19 : decode cX6_successor 19 = .ok (.iconst 1, 1) := by decide +kernel
theorem dX6_successor_20 : decode cX6_successor 20 = .ok (.goto 4, 3) := by decide +kernel
theorem dX6_successor_23 : decode cX6_successor 23 = .ok (.iconst 0, 1) := by decide +kernel
theorem dX6_successor_24 : decode cX6_successor 24 = .ok (.invokestatic 51, 3) := by decide +kernel
theorem dX6_successor_27 : decode cX6_successor 27 = .ok (.aload_n 2, 1) := by decide +kernel
theorem dX6_successor_28 : decode cX6_successor 28 = .ok (.getfield 136, 3) := by decide +kernel
theorem dX6_successor_31 : decode cX6_successor 31 = .ok (.getfield 150, 3) := by decide +kernel
theorem dX6_successor_34 : decode cX6_successor 34 = .ok (.ireturn, 1) := by decide +kernel
set_option maxRecDepth 20000 in
theorem ggX6_startAgain_X5_startAgain : GoodIn wsX6_startAgain wsX5_startAgain := goodIn_r _ [8, 9, 10, 11, 12, 13, 7, 14, 15, 16, 17, 18, 19, 20, 21, 22, 23, 24, 25, 26, 27, 28, 29, 30, 31, 32, 33, 34, 35, 36, 37, 38, 39, 40, 41, 42, 43, 44, 45, 46, 47, 48, 49, 50, 51, 52, 53, 54, 55, 56, 57, 58, 59, 60, 61, 67, 68, 69, 70, 71, 72, 73, 74, 75, 76, 77, 78, 79, 80, 81, 82, 83, 84, 85, 86, 87, 88, 89, 90, 91, 92, 93, 94, 95, 96, 97, 98, 99] (by decide +kernel) (by decide +kernel)
set_option maxRecDepth 20000 in
theorem gX6_startAgain_X5_startAgain : GoodIn wsX6_startAgain (wsV RX6 156 RX5 yX5_startAgain wsX5_startAgain) := goodIn_app (goodIn_of _ (by decide +kernel)) ggX6_startAgain_X5_startAgain
theorem dX6_startAgain_0 : decode cX6_startAgain 0 = .ok (.aload_n 0, 1) := by decide +kernel
theorem dX6_startAgain_1 : decode cX6_startAgain 1 = .ok (.iload_n 1, 1) := by decide +kernel
theorem dX6_startAgain_2 : decode cX6_startAgain 2 = .ok (.putfield 153, 3) := by decide +kernel
theorem dX6_startAgain_5 : decode cX6_startAgain 5 = .ok (.aload_n 0, 1) := by decide +kernel
theorem dX6_startAgain_6 : decode cX6_startAgain 6 = .ok (.getfield 10, 3) := by decide +kernel
theorem dX6_startAgain_9 : decode cX6_startAgain 9 = .ok (.iload_n 1, 1) := by decide +kernel
theorem dX6_startAgain_10 : decode cX6_startAgain 10 = .ok (.iload_n 2, 1) := by decide +kernel
theorem dX6_startAgain_11 : decode cX6_startAgain 11 = .ok (.invokevirtual 156, 3) := by decide +kernel
theorem dX6_startAgain_14 : decode cX6_startAgain 14 = .ok (.aload_n 0, 1) := by decide +kernel
theorem dX6_startAgain_15 : decode cX6_startAgain 15 = .ok (.getfield 16, 3) := by decide +kernel
theorem dX6_startAgain_18 : decode cX6_startAgain 18 = .ok (.iload_n 1, 1) := by decide +kernel
theorem dX6_startAgain_19 : decode cX6_startAgain 19 = .ok (.iload_n 2, 1) := by decide +kernel
theorem dX6_startAgain_20 : decode cX6_startAgain 20 = .ok (.invokevirtual 156, 3) := by decide +kernel
theorem dX6_startAgain_23 : decode cX6_startAgain 23 = .ok (.return_, 1) := by decide +kernel
theorem dX6_streamOf_0 : decode cX6_streamOf 0 = .ok (.iload_n 1, 1) := by decide +kernel
theorem dX6_streamOf_1 : decode cX6_streamOf 1 = .ok (.ifCond .ne 10, 3) := by decide +kernel
theorem dX6_streamOf_4 : decode cX6_streamOf 4 = .ok (.aload_n 0, 1) := by decide +kernel
theorem dX6_streamOf_5 : decode cX6_streamOf 5 = .ok (.getfield 10, 3) := by decide +kernel
theorem dX6_streamOf_8 : decode cX6_streamOf 8 = .ok (.goto 7, 3) := by decide +kernel
theorem dX6_streamOf_11 : decode cX6_streamOf 11 = .ok (.aload_n 0, 1) := by decide +kernel
theorem dX6_streamOf_12 : decode cX6_streamOf 12 = .ok (.getfield 16, 3) := by decide +kernel
theorem dX6_streamOf_15 : decode cX6_streamOf 15 = .ok (.areturn, 1) := by decide +kernel
set_option maxRecDepth 20000 in
theorem ggX6_prioritiesOf_X6_streamOf : GoodIn wsX6_prioritiesOf wsX6_streamOf := goodIn_r _ [9, 3, 4, 60, 61, 62, 63, 64] (by decide +kernel) (by decide +kernel)
set_option maxRecDepth 20000 in
theorem gX6_prioritiesOf_X6_streamOf : GoodIn wsX6_prioritiesOf (wsV RX6 43 RX6 yX6_streamOf wsX6_streamOf) := goodIn_app (goodIn_of _ (by decide +kernel)) ggX6_prioritiesOf_X6_streamOf
set_option maxRecDepth 20000 in
theorem ggX6_prioritiesOf_X3_startAgain : GoodIn wsX6_prioritiesOf wsX3_startAgain := goodIn_r _ [14, 15, 16, 65, 66, 67, 68, 69, 70] (by decide +kernel) (by decide +kernel)
set_option maxRecDepth 20000 in
theorem gX6_prioritiesOf_X3_startAgain : GoodIn wsX6_prioritiesOf (wsV RX6 160 RX3 yX3_startAgain wsX3_startAgain) := goodIn_app (goodIn_of _ (by decide +kernel)) ggX6_prioritiesOf_X3_startAgain
set_option maxRecDepth 20000 in
theorem ggX6_prioritiesOf_X3_addAll : GoodIn wsX6_prioritiesOf wsX3_addAll := goodIn_r _ [20, 16, 21, 22, 23, 24, 25, 8, 26, 27, 28, 29, 13, 30, 15, 31, 32, 33, 34, 35, 36, 37, 38, 39, 40, 41, 42, 43, 44, 45, 46, 47, 48, 65, 66, 67, 68, 69, 70] (by decide +kernel) (by decide +kernel)
set_option maxRecDepth 20000 in
theorem gX6_prioritiesOf_X3_addAll : GoodIn wsX6_prioritiesOf (wsV RX6 163 RX3 yX3_addAll wsX3_addAll) := goodIn_app (goodIn_of _ (by decide +kernel)) ggX6_prioritiesOf_X3_addAll
theorem dX6_prioritiesOf_0 : decode cX6_prioritiesOf 0 = .ok (.iload_n 1, 1) := by decide +kernel
theorem dX6_prioritiesOf_1 : decode cX6_prioritiesOf 1 = .ok (.iconst 2, 1) := by decide +kernel
theorem dX6_prioritiesOf_2 : decode cX6_prioritiesOf 2 = .ok (.if_icmp .eq 12, 3) := by decide +kernel
theorem dX6_prioritiesOf_5 : decode cX6_prioritiesOf 5 = .ok (.aload_n 0, 1) := by decide +kernel
theorem dX6_prioritiesOf_6 : decode cX6_prioritiesOf 6 = .ok (.iload_n 1, 1) := by decide +kernel
theorem dX6_prioritiesOf_7 : decode cX6_prioritiesOf 7 = .ok (.invokevirtual 43, 3) := by decide +kernel
theorem dX6_prioritiesOf_10 : decode cX6_prioritiesOf 10 = .ok (.getfield 157, 3) := by decide +kernel
theorem dX6_prioritiesOf_13 : decode cX6_prioritiesOf 13 = .ok (.areturn, 1) := by decide +kernel
theorem dX6_prioritiesOf_14 : decode cX6_prioritiesOf 14 = .ok (.aload_n 0, 1) := by decide +kernel
theorem dX6_prioritiesOf_15 : decode cX6_prioritiesOf 15 = .ok (.getfield 22, 3) := by decide +kernel
theorem dX6_prioritiesOf_18 : decode cX6_prioritiesOf 18 = .ok (.aload_n 0, 1) := by decide +kernel
theorem dX6_prioritiesOf_19 : decode cX6_prioritiesOf 19 = .ok (.getfield 153, 3) := by decide +kernel
theorem dX6_prioritiesOf_22 : decode cX6_prioritiesOf 22 = .ok (.invokevirtual 160, 3) := by decide +kernel
theorem dX6_prioritiesOf_25 : decode cX6_prioritiesOf 25 = .ok (.aload_n 0, 1) := by decide +kernel
theorem dX6_prioritiesOf_26 : decode cX6_prioritiesOf 26 = .ok (.getfield 22, 3) := by decide +kernel
theorem dX6_prioritiesOf_29 : decode cX6_prioritiesOf 29 = .ok (.aload_n 0, 1) := by decide +kernel
theorem dX6_prioritiesOf_30 : decode cX6_prioritiesOf 30 = .ok (.getfield 10, 3) := by decide +kernel
theorem dX6_prioritiesOf_33 : decode cX6_prioritiesOf 33 = .ok (.getfield 157, 3) := by decide +kernel
theorem dX6_prioritiesOf_36 : decode cX6_prioritiesOf 36 = .ok (.invokevirtual 163, 3) := by decide +kernel
theorem dX6_prioritiesOf_39 : decode cX6_prioritiesOf 39 = .ok (.aload_n 0, 1) := by decide +kernel
theorem dX6_prioritiesOf_40 : decode cX6_prioritiesOf 40 = .ok (.getfield 22, 3) := by decide +kernel
theorem dX6_prioritiesOf_43 : decode cX6_prioritiesOf 43 = .ok (.aload_n 0, 1) := by decide +kernel
theorem dX6_prioritiesOf_44 : decode cX6_prioritiesOf 44 = .ok (.getfield 16, 3) := by decide +kernel
theorem dX6_prioritiesOf_47 : decode cX6_prioritiesOf 47 = .ok (.getfield 157, 3) := by decide +kernel
theorem dX6_prioritiesOf_50 : decode cX6_prioritiesOf 50 = .ok (.invokevirtual 163, 3) := by decide +kernel
theorem dX6_prioritiesOf_53 : decode cX6_prioritiesOf 53 = .ok (.aload_n 0, 1) := by decide +kernel
theorem dX6_prioritiesOf_54 : decode cX6_prioritiesOf 54 = .ok (.getfield 22, 3) := by decide +kernel
theorem dX6_prioritiesOf_57 : decode cX6_prioritiesOf 57 = .ok (.areturn, 1) := by decide +kernel
set_option maxRecDepth 20000 in
theorem ggX6_distinctOf_X6_streamOf : GoodIn wsX6_distinctOf wsX6_streamOf := goodIn_r _ [9, 3, 4, 59, 60, 61, 62, 63] (by decide +kernel) (by decide +kernel)
set_option maxRecDepth 20000 in
theorem gX6_distinctOf_X6_streamOf : GoodIn wsX6_distinctOf (wsV RX6 43 RX6 yX6_streamOf wsX6_streamOf) := goodIn_app (goodIn_of _ (by decide +kernel)) ggX6_distinctOf_X6_streamOf
set_option maxRecDepth 20000 in
theorem ggX6_distinctOf_X1_startAgain : GoodIn wsX6_distinctOf wsX1_startAgain := goodIn_r _ [14, 15, 16, 64, 65, 66, 67] (by decide +kernel) (by decide +kernel)
set_option maxRecDepth 20000 in
theorem gX6_distinctOf_X1_startAgain : GoodIn wsX6_distinctOf (wsV RX6 170 RX1 yX1_startAgain wsX1_startAgain) := goodIn_app (goodIn_of _ (by decide +kernel)) ggX6_distinctOf_X1_startAgain
set_option maxRecDepth 20000 in
theorem ggX6_distinctOf_X1_addAll : GoodIn wsX6_distinctOf wsX1_addAll := goodIn_r _ [20, 16, 21, 22, 23, 8, 24, 25, 26, 27, 13, 28, 15, 29, 30, 31, 32, 33, 34, 35, 36, 37, 38, 39, 40, 41, 42, 43, 44, 45, 46, 47, 64, 65, 66, 67] (by decide +kernel) (by decide +kernel)
set_option maxRecDepth 20000 in
theorem gX6_distinctOf_X1_addAll : GoodIn wsX6_distinctOf (wsV RX6 171 RX1 yX1_addAll wsX1_addAll) := goodIn_app (goodIn_of _ (by decide +kernel)) ggX6_distinctOf_X1_addAll
theorem dX6_distinctOf_0 : decode cX6_distinctOf 0 = .ok (.iload_n 1, 1) := by decide +kernel
theorem dX6_distinctOf_1 : decode cX6_distinctOf 1 = .ok (.iconst 2, 1) := by decide +kernel
theorem dX6_distinctOf_2 : decode cX6_distinctOf 2 = .ok (.if_icmp .eq 12, 3) := by decide +kernel
theorem dX6_distinctOf_5 : decode cX6_distinctOf 5 = .ok (.aload_n 0, 1) := by decide +kernel
theorem dX6_distinctOf_6 : decode cX6_distinctOf 6 = .ok (.iload_n 1, 1) := by decide +kernel
theorem dX6_distinctOf_7 : decode cX6_distinctOf 7 = .ok (.invokevirtual 43, 3) := by decide +kernel
theorem dX6_distinctOf_10 : decode cX6_distinctOf 10 = .ok (.getfield 167, 3) := by decide +kernel
theorem dX6_distinctOf_13 : decode cX6_distinctOf 13 = .ok (.areturn, 1) := by decide +kernel
theorem dX6_distinctOf_14 : decode cX6_distinctOf 14 = .ok (.aload_n 0, 1) := by decide +kernel
theorem dX6_distinctOf_15 : decode cX6_distinctOf 15 = .ok (.getfield 29, 3) := by decide +kernel
theorem dX6_distinctOf_18 : decode cX6_distinctOf 18 = .ok (.aload_n 0, 1) := by decide +kernel
theorem dX6_distinctOf_19 : decode cX6_distinctOf 19 = .ok (.getfield 153, 3) := by decide +kernel
theorem dX6_distinctOf_22 : decode cX6_distinctOf 22 = .ok (.invokevirtual 170, 3) := by decide +kernel
theorem dX6_distinctOf_25 : decode cX6_distinctOf 25 = .ok (.aload_n 0, 1) := by decide +kernel
theorem dX6_distinctOf_26 : decode cX6_distinctOf 26 = .ok (.getfield 29, 3) := by decide +kernel
theorem dX6_distinctOf_29 : decode cX6_distinctOf 29 = .ok (.aload_n 0, 1) := by decide +kernel
theorem dX6_distinctOf_30 : decode cX6_distinctOf 30 = .ok (.getfield 10, 3) := by decide +kernel
theorem dX6_distinctOf_33 : decode cX6_distinctOf 33 = .ok (.getfield 167, 3) := by decide +kernel
theorem dX6_distinctOf_36 : decode cX6_distinctOf 36 = .ok (.invokevirtual 171, 3) := by decide +kernel
theorem dX6_distinctOf_39 : decode cX6_distinctOf 39 = .ok (.aload_n 0, 1) := by decide +kernel
theorem dX6_distinctOf_40 : decode cX6_distinctOf 40 = .ok (.getfield 29, 3) := by decide +kernel
theorem dX6_distinctOf_43 : decode cX6_distinctOf 43 = .ok (.aload_n 0, 1) := by decide +kernel
theorem dX6_distinctOf_44 : decode cX6_distinctOf 44 = .ok (.getfield 16, 3) := by decide +kernel
theorem dX6_distinctOf_47 : decode cX6_distinctOf 47 = .ok (.getfield 167, 3) := by decide +kernel
theorem dX6_distinctOf_50 : decode cX6_distinctOf 50 = .ok (.invokevirtual 171, 3) := by decide +kernel
theorem dX6_distinctOf_53 : decode cX6_distinctOf 53 = .ok (.aload_n 0, 1) := by decide +kernel
theorem dX6_distinctOf_54 : decode cX6_distinctOf 54 = .ok (.getfield 29, 3) := by decide +kernel
theorem dX6_distinctOf_57 : decode cX6_distinctOf 57 = .ok (.areturn, 1) := by decide +kernel
theorem dX6_checkArgument_0 : decode cX6_checkArgument 0 = .ok (.iload_n 0, 1) := by decide +kernel
theorem dX6_checkArgument_1 : decode cX6_checkArgument 1 = .ok (.iload_n 1, 1) := by decide +kernel
theorem dX6_checkArgument_2 : decode cX6_checkArgument 2 = .ok (.if_icmp .lt 8, 3) := by decide +kernel
theorem dX6_checkArgument_5 : decode cX6_checkArgument 5 = .ok (.iload_n 0, 1) := by decide +kernel
theorem dX6_checkArgument_6 : decode cX6_checkArgument 6 = .ok (.iload_n 2, 1) := by decide +kernel
theorem dX6_checkArgument_7 : decode cX6_checkArgument 7 = .ok (.if_icmp .le 13, 3) := by decide +kernel
theorem dX6_checkArgument_10 : decode cX6_checkArgument 10 = .ok (.new 174, 3) := by decide +kernel
theorem dX6_checkArgument_13 : decode cX6_checkArgument 13 = .ok (.dup, 1) := by decide +kernel
theorem dX6_checkArgument_14 : decode cX6_checkArgument 14 = .ok (.ldc 176, 2) := by decide +kernel
theorem dX6_checkArgument_16 : decode cX6_checkArgument 16 = .ok (.invokespecial 178, 3) := by decide +kernel
theorem dX6_checkArgument_19 : decode cX6_checkArgument 19 = .ok (.athrow, 1) := by decide +kernel
theorem dX6_checkArgument_20 : decode cX6_checkArgument 20 = .ok (.return_, 1) := by decide +kernel
theorem dX6_checkState_0 : decode cX6_checkState 0 = .ok (.iload_n 0, 1) := by decide +kernel
theorem dX6_checkState_1 : decode cX6_checkState 1 = .ok (.ifCond .ne 13, 3) := by decide +kernel
theorem dX6_checkState_4 : decode cX6_checkState 4 = .ok (.new 181, 3) := by decide +kernel
theorem dX6_checkState_7 : decode cX6_checkState 7 = .ok (.dup, 1) := by decide +kernel
theorem dX6_checkState_8 : decode cX6_checkState 8 = .ok (.ldc 183, 2) := by decide +kernel
theorem dX6_checkState_10 : decode cX6_checkState 10 = .ok (.invokespecial 185, 3) := by decide +kernel
theorem dX6_checkState_13 : decode cX6_checkState 13 = .ok (.athrow, 1) := by decide +kernel
theorem dX6_checkState_14 : decode cX6_checkState 14 = .ok (.return_, 1) := by decide +kernel
theorem dX6_checkPlace_0 : decode cX6_checkPlace 0 = .ok (.iload_n 0, 1) := by decide +kernel
theorem dX6_checkPlace_1 : decode cX6_checkPlace 1 = .ok (.ifCond .lt 8, 3) := by decide +kernel
theorem dX6_checkPlace_4 : decode cX6_checkPlace 4 = .ok (.iload_n 0, 1) := by decide +kernel
theorem dX6_checkPlace_5 : decode cX6_checkPlace 5 = .ok (.iload_n 1, 1) := by decide +kernel
theorem dX6_checkPlace_6 : decode cX6_checkPlace 6 = .ok (.if_icmp .lt 13, 3) := by decide +kernel
theorem dX6_checkPlace_9 : decode cX6_checkPlace 9 = .ok (.new 186, 3) := by decide +kernel
theorem dX6_checkPlace_12 : decode cX6_checkPlace 12 = .ok (.dup, 1) := by decide +kernel
theorem dX6_checkPlace_13 : decode cX6_checkPlace 13 = .ok (.ldc 188, 2) := by decide +kernel
theorem dX6_checkPlace_15 : decode cX6_checkPlace 15 = .ok (.invokespecial 190, 3) := by decide +kernel
theorem dX6_checkPlace_18 : decode cX6_checkPlace 18 = .ok (.athrow, 1) := by decide +kernel
theorem dX6_checkPlace_19 : decode cX6_checkPlace 19 = .ok (.return_, 1) := by decide +kernel
theorem dX6_at_0 : decode cX6_at 0 = .ok (.iload_n 1, 1) := by decide +kernel
theorem dX6_at_1 : decode cX6_at 1 = .ok (.ifCond .lt 15, 3) := by decide +kernel
theorem dX6_at_4 : decode cX6_at 4 = .ok (.iload_n 1, 1) := by decide +kernel
theorem dX6_at_5 : decode cX6_at 5 = .ok (.aload_n 0, 1) := by decide +kernel
theorem dX6_at_6 : decode cX6_at 6 = .ok (.arraylength, 1) := by decide +kernel
theorem dX6_at_7 : decode cX6_at 7 = .ok (.if_icmp .ge 9, 3) := by decide +kernel
theorem dX6_at_10 : decode cX6_at 10 = .ok (.aload_n 0, 1) := by decide +kernel
theorem dX6_at_11 : decode cX6_at 11 = .ok (.iload_n 1, 1) := by decide +kernel
theorem dX6_at_12 : decode cX6_at 12 = .ok (.iaload, 1) := by decide +kernel
theorem dX6_at_13 : decode cX6_at 13 = .ok (.goto 4, 3) := by decide +kernel
theorem dX6_at_16 : decode cX6_at 16 = .ok (.iconst 0, 1) := by decide +kernel
theorem dX6_at_17 : decode cX6_at 17 = .ok (.ireturn, 1) := by decide +kernel
theorem dX6_put_0 : decode cX6_put 0 = .ok (.iload_n 1, 1) := by decide +kernel
theorem dX6_put_1 : decode cX6_put 1 = .ok (.ifCond .lt 13, 3) := by decide +kernel
theorem dX6_put_4 : decode cX6_put 4 = .ok (.iload_n 1, 1) := by decide +kernel
theorem dX6_put_5 : decode cX6_put 5 = .ok (.aload_n 0, 1) := by decide +kernel
theorem dX6_put_6 : decode cX6_put 6 = .ok (.arraylength, 1) := by decide +kernel
theorem dX6_put_7 : decode cX6_put 7 = .ok (.if_icmp .ge 7, 3) := by decide +kernel
theorem dX6_put_10 : decode cX6_put 10 = .ok (.aload_n 0, 1) := by decide +kernel
theorem dX6_put_11 : decode cX6_put 11 = .ok (.iload_n 1, 1) := by decide +kernel
theorem dX6_put_12 : decode cX6_put 12 = .ok (.iload_n 2, 1) := by decide +kernel
theorem dX6_put_13 : decode cX6_put 13 = .ok (.iastore, 1) := by decide +kernel
theorem dX6_put_14 : decode cX6_put 14 = .ok (.return_, 1) := by decide +kernel
theorem dX6_remainder_0 : decode cX6_remainder 0 = .ok (.iload_n 1, 1) := by decide +kernel
theorem dX6_remainder_1 : decode cX6_remainder 1 = .ok (.ifCond .le 9, 3) := by decide +kernel
theorem dX6_remainder_4 : decode cX6_remainder 4 = .ok (.iload_n 0, 1) := by decide +kernel
theorem dX6_remainder_5 : decode cX6_remainder 5 = .ok (.iload_n 1, 1) := by decide +kernel
theorem dX6_remainder_6 : decode cX6_remainder 6 = .ok (.irem, 1) := by decide +kernel
theorem dX6_remainder_7 : decode cX6_remainder 7 = .ok (.goto 4, 3) := by decide +kernel
theorem dX6_remainder_10 : decode cX6_remainder 10 = .ok (.iconst 0, 1) := by decide +kernel
theorem dX6_remainder_11 : decode cX6_remainder 11 = .ok (.ireturn, 1) := by decide +kernel
theorem dX6_quotient_0 : decode cX6_quotient 0 = .ok (.lload_n 2, 1) := by decide +kernel
theorem dX6_quotient_1 : decode cX6_quotient 1 = .ok (.lconst 0, 1) := by decide +kernel
theorem dX6_quotient_2 : decode cX6_quotient 2 = .ok (.lcmp, 1) := by decide +kernel
theorem dX6_quotient_3 : decode cX6_quotient 3 = .ok (.ifCond .le 9, 3) := by decide +kernel
theorem dX6_quotient_6 : decode cX6_quotient 6 = .ok (.lload_n 0, 1) := by decide +kernel
theorem dX6_quotient_7 : decode cX6_quotient 7 = .ok (.lload_n 2, 1) := by decide +kernel
theorem dX6_quotient_8 : decode cX6_quotient 8 = .ok (.ldiv, 1) := by decide +kernel
theorem dX6_quotient_9 : decode cX6_quotient 9 = .ok (.goto 4, 3) := by decide +kernel
theorem dX6_quotient_12 : decode cX6_quotient 12 = .ok (.lconst 0, 1) := by decide +kernel
theorem dX6_quotient_13 : decode cX6_quotient 13 = .ok (.lreturn, 1) := by decide +kernel
set_option maxRecDepth 20000 in
theorem ggX6_insert_X6_at : GoodIn wsX6_insert wsX6_at := goodIn_r _ [4] (by decide +kernel) (by decide +kernel)
set_option maxRecDepth 20000 in
theorem gX6_insert_X6_at : GoodIn wsX6_insert (va_wsS RX6 88 yX6_at wsX6_at) := goodIn_app (goodIn_of _ (by decide +kernel)) ggX6_insert_X6_at
set_option maxRecDepth 20000 in
theorem ggX6_insert_X6_put : GoodIn wsX6_insert wsX6_put := goodIn_r _ [7] (by decide +kernel) (by decide +kernel)
set_option maxRecDepth 20000 in
theorem gX6_insert_X6_put : GoodIn wsX6_insert (va_wsS RX6 191 yX6_put wsX6_put) := goodIn_app (goodIn_of _ (by decide +kernel)) ggX6_insert_X6_put
theorem dX6_insert_0 : decode cX6_insert 0 = .ok (.iload_n 2, 1) := by decide +kernel
theorem dX6_insert_1 : decode cX6_insert 1 = .ok (.iconst 1, 1) := by decide +kernel
theorem dX6_insert_2 : decode cX6_insert 2 = .ok (.isub, 1) := by decide +kernel
theorem dX6_insert_3 : decode cX6_insert 3 = .ok (.istore 4, 2) := by decide +kernel
theorem dX6_insert_5 : decode cX6_insert 5 = .ok (.iload 4, 2) := by decide +kernel
theorem dX6_insert_7 : decode cX6_insert 7 = .ok (.iload_n 1, 1) := by decide +kernel
theorem dX6_insert_8 : decode cX6_insert 8 = .ok (.if_icmp .le 23, 3) := by decide +kernel
theorem dX6_insert_11 : decode cX6_insert 11 = .ok (.aload_n 0, 1) := by decide +kernel
theorem dX6_insert_12 : decode cX6_insert 12 = .ok (.iload 4, 2) := by decide +kernel
theorem dX6_insert_14 : decode cX6_insert 14 = .ok (.aload_n 0, 1) := by decide +kernel
theorem dX6_insert_15 : decode cX6_insert 15 = .ok (.iload 4, 2) := by decide +kernel
theorem dX6_insert_17 : decode cX6_insert 17 = .ok (.iconst 1, 1) := by decide +kernel
theorem dX6_insert_18 : decode cX6_insert 18 = .ok (.isub, 1) := by decide +kernel
theorem dX6_insert_19 : decode cX6_insert 19 = .ok (.invokestatic 88, 3) := by decide +kernel
theorem dX6_insert_22 : decode cX6_insert 22 = .ok (.invokestatic 191, 3) := by decide +kernel
theorem dX6_insert_25 : decode cX6_insert 25 = .ok (.iinc 4 (-1), 3) := by decide +kernel
theorem dX6_insert_28 : decode cX6_insert 28 = .ok (.goto (-23), 3) := by decide +kernel
theorem dX6_insert_31 : decode cX6_insert 31 = .ok (.aload_n 0, 1) := by decide +kernel
theorem dX6_insert_32 : decode cX6_insert 32 = .ok (.iload_n 1, 1) := by decide +kernel
theorem dX6_insert_33 : decode cX6_insert 33 = .ok (.iload_n 3, 1) := by decide +kernel
theorem dX6_insert_34 : decode cX6_insert 34 = .ok (.invokestatic 191, 3) := by decide +kernel
theorem dX6_insert_37 : decode cX6_insert 37 = .ok (.return_, 1) := by decide +kernel
theorem dJ9_max_f86c9_0 : decode cJ9_max_f86c9 0 = .ok (.lload_n 0, 1) := by decide +kernel
theorem dJ9_max_f86c9_1 : decode cJ9_max_f86c9 1 = .ok (.lload_n 2, 1) := by decide +kernel
theorem dJ9_max_f86c9_2 : decode cJ9_max_f86c9 2 = .ok (.lcmp, 1) := by decide +kernel
theorem dJ9_max_f86c9_3 : decode cJ9_max_f86c9 3 = .ok (.ifCond .lt 7, 3) := by decide +kernel
theorem dJ9_max_f86c9_6 : decode cJ9_max_f86c9 6 = .ok (.lload_n 0, 1) := by decide +kernel
theorem dJ9_max_f86c9_7 : decode cJ9_max_f86c9 7 = .ok (.goto 4, 3) := by decide +kernel
theorem dJ9_max_f86c9_10 : decode cJ9_max_f86c9 10 = .ok (.lload_n 2, 1) := by decide +kernel
theorem dJ9_max_f86c9_11 : decode cJ9_max_f86c9 11 = .ok (.lreturn, 1) := by decide +kernel
theorem dJ9_min_7cf53_0 : decode cJ9_min_7cf53 0 = .ok (.iload_n 0, 1) := by decide +kernel
theorem dJ9_min_7cf53_1 : decode cJ9_min_7cf53 1 = .ok (.iload_n 1, 1) := by decide +kernel
theorem dJ9_min_7cf53_2 : decode cJ9_min_7cf53 2 = .ok (.if_icmp .gt 7, 3) := by decide +kernel
theorem dJ9_min_7cf53_5 : decode cJ9_min_7cf53 5 = .ok (.iload_n 0, 1) := by decide +kernel
theorem dJ9_min_7cf53_6 : decode cJ9_min_7cf53 6 = .ok (.goto 4, 3) := by decide +kernel
theorem dJ9_min_7cf53_9 : decode cJ9_min_7cf53 9 = .ok (.iload_n 1, 1) := by decide +kernel
theorem dJ9_min_7cf53_10 : decode cJ9_min_7cf53 10 = .ok (.ireturn, 1) := by decide +kernel
set_option maxRecDepth 20000 in
theorem ggL_begun_X6_begin : GoodIn wsL_begun wsX6_begin := goodIn_ca (goodIn_r _ [7, 8, 9, 6, 10, 11, 12, 13, 14, 15, 16, 17, 18, 19, 20, 21, 22, 23, 24, 25, 26, 27, 28, 29, 30, 31, 32, 33, 34, 35, 36, 37, 38, 39, 40, 41, 42, 43, 44, 45, 46, 47, 48, 49, 50, 51, 52, 53, 54, 55, 56, 57, 58, 59, 60, 61, 62, 63, 64, 65, 66, 67, 68, 69, 70, 71, 72, 73, 74, 75, 76, 77, 78, 79, 80, 81, 82, 83, 84, 85, 86, 87, 88, 89, 90, 91, 92, 93, 94, 95, 96, 97, 98, 99, 100, 101, 102, 103, 104, 105, 106, 107, 108, 109, 110, 111, 112, 113, 114, 115] (by decide +kernel) (by decide +kernel)) (goodIn_sub (fun _ h => List.mem_cons_of_mem _ (List.mem_append_right _ h)) (by decide +kernel))
set_option maxRecDepth 20000 in
theorem gL_begun_X6_begin : GoodIn wsL_begun (wsV RL 7 RX6 yX6_begin wsX6_begin) := goodIn_app (goodIn_of _ (by decide +kernel)) ggL_begun_X6_begin
theorem dL_begun_0 : decode cL_begun 0 = .ok (.aload_n 0, 1) := by decide +kernel
theorem dL_begun_1 : decode cL_begun 1 = .ok (.iload_n 1, 1) := by decide +kernel
theorem dL_begun_2 : decode cL_begun 2 = .ok (.iload_n 2, 1) := by decide +kernel
theorem dL_begun_3 : decode cL_begun 3 = .ok (.invokevirtual 7, 3) := by decide +kernel
theorem dL_begun_6 : decode cL_begun 6 = .ok (.goto 7, 3) := by decide +kernel
theorem dL_begun_9 : decode cL_begun 9 = .ok (.astore_n 3, 1) := by decide +kernel
theorem dL_begun_10 : decode cL_begun 10 = .ok (.ldc 15, 2) := by decide +kernel
theorem dL_begun_12 : decode cL_begun 12 = .ok (.ireturn, 1) := by decide +kernel
theorem dL_begun_13 : decode cL_begun 13 = .ok (.iconst 0, 1) := by decide +kernel
theorem dL_begun_14 : decode cL_begun 14 = .ok (.ireturn, 1) := by decide +kernel
set_option maxRecDepth 20000 in
theorem ggL_offered_X6_offer : GoodIn wsL_offered wsX6_offer := goodIn_ca (goodIn_ca (goodIn_r _ [9, 10, 11, 12, 13, 8, 14, 15, 16, 17, 18, 19, 20, 21, 22, 23, 24, 25, 26, 27, 28, 29, 30, 31, 32, 33, 34, 35, 36, 37, 38, 39, 40, 41, 42, 43, 44, 45, 46, 47, 48, 49, 50, 51, 52, 53, 54, 55, 56, 57, 58, 59, 60, 61, 62, 63, 64, 65, 66, 67, 68, 69, 70, 71, 72, 73, 74, 75, 76, 77, 78, 79, 80, 81, 82, 83, 84, 85, 86, 87, 88, 89, 90, 91, 92, 93, 94, 95, 96, 97, 98, 99, 100, 101, 102, 103, 104, 105, 106, 107, 108, 109, 110, 111, 112, 113, 114, 115, 116, 117, 118, 119, 120, 121, 122, 123, 124, 125, 126, 127, 128, 129, 130, 131, 132, 133, 134, 135, 136, 137, 138, 139, 140, 141, 142, 143, 144, 145, 146, 147, 148, 149, 150, 151, 152, 153, 154, 155, 156, 157, 158, 159, 160, 161, 162, 163, 164, 165, 166, 167, 168] (by decide +kernel) (by decide +kernel)) (goodIn_sub (fun _ h => List.mem_cons_of_mem _ (List.mem_append_left _ (List.mem_append_right _ h))) (by decide +kernel))) (goodIn_sub (fun _ h => List.mem_cons_of_mem _ (List.mem_append_right _ h)) (by decide +kernel))
set_option maxRecDepth 20000 in
theorem gL_offered_X6_offer : GoodIn wsL_offered (wsV RL 16 RX6 yX6_offer wsX6_offer) := goodIn_app (goodIn_of _ (by decide +kernel)) ggL_offered_X6_offer
theorem dL_offered_0 : decode cL_offered 0 = .ok (.aload_n 0, 1) := by decide +kernel
theorem dL_offered_1 : decode cL_offered 1 = .ok (.iload_n 1, 1) := by decide +kernel
theorem dL_offered_2 : decode cL_offered 2 = .ok (.iload_n 2, 1) := by decide +kernel
theorem dL_offered_3 : decode cL_offered 3 = .ok (.iload_n 3, 1) := by decide +kernel
theorem dL_offered_4 : decode cL_offered 4 = .ok (.iload 4, 2) := by decide +kernel
theorem dL_offered_6 : decode cL_offered 6 = .ok (.iload 5, 2) := by decide +kernel
theorem dL_offered_8 : decode cL_offered 8 = .ok (.iload 6, 2) := by decide +kernel
theorem dL_offered_10 : decode cL_offered 10 = .ok (.invokevirtual 16, 3) := by decide +kernel
theorem dL_offered_13 : decode cL_offered 13 = .ok (.ireturn, 1) := by decide +kernel
theorem dL_offered_14 : decode cL_offered 14 = .ok (.astore 7, 2) := by decide +kernel
theorem dL_offered_16 : decode cL_offered 16 = .ok (.ldc 15, 2) := by decide +kernel
theorem dL_offered_18 : decode cL_offered 18 = .ok (.ireturn, 1) := by decide +kernel
theorem dL_offered_19 : decode cL_offered 19 = .ok (.astore 7, 2) := by decide +kernel
theorem dL_offered_21 : decode cL_offered 21 = .ok (.ldc 22, 2) := by decide +kernel
theorem dL_offered_23 : decode cL_offered 23 = .ok (.ireturn, 1) := by decide +kernel
set_option maxRecDepth 20000 in
theorem ggL_cleared_X6_clear : GoodIn wsL_cleared wsX6_clear := goodIn_ca (goodIn_r _ [7, 8, 9, 6, 10, 11, 12, 13, 14, 15, 16, 17, 18, 19, 20, 21, 22, 23, 24, 25, 26, 27, 28, 29, 30, 31, 32, 33, 34, 35, 36, 37, 38, 39, 40, 41, 42, 43, 44, 45, 46, 47, 48, 49, 50, 51, 52, 53, 54, 55, 56, 57, 58, 59, 60, 61, 62, 63, 64, 65, 66, 67, 68, 69, 70, 71, 72, 73, 74, 75, 76, 77, 78, 79, 80, 81, 82, 83, 84, 85, 86, 87, 88, 89, 90, 91, 92, 93, 94, 95, 96, 97, 98, 99, 100, 101, 102, 103, 104, 105, 106, 107, 108, 109, 110] (by decide +kernel) (by decide +kernel)) (goodIn_sub (fun _ h => List.mem_cons_of_mem _ (List.mem_append_right _ h)) (by decide +kernel))
set_option maxRecDepth 20000 in
theorem gL_cleared_X6_clear : GoodIn wsL_cleared (wsV RL 23 RX6 yX6_clear wsX6_clear) := goodIn_app (goodIn_of _ (by decide +kernel)) ggL_cleared_X6_clear
theorem dL_cleared_0 : decode cL_cleared 0 = .ok (.aload_n 0, 1) := by decide +kernel
theorem dL_cleared_1 : decode cL_cleared 1 = .ok (.iload_n 1, 1) := by decide +kernel
theorem dL_cleared_2 : decode cL_cleared 2 = .ok (.invokevirtual 23, 3) := by decide +kernel
theorem dL_cleared_5 : decode cL_cleared 5 = .ok (.ireturn, 1) := by decide +kernel
theorem dL_cleared_6 : decode cL_cleared 6 = .ok (.astore_n 2, 1) := by decide +kernel
theorem dL_cleared_7 : decode cL_cleared 7 = .ok (.ldc 15, 2) := by decide +kernel
theorem dL_cleared_9 : decode cL_cleared 9 = .ok (.ireturn, 1) := by decide +kernel
set_option maxRecDepth 20000 in
theorem ggL_offers_X6_offers : GoodIn wsL_offers wsX6_offers := goodIn_ca (goodIn_r _ [7, 8, 9, 10, 11, 6, 12, 13, 14, 15, 16, 17, 18, 19, 20, 21, 22, 23, 24, 25, 26, 27, 28, 29, 30, 31, 32, 33, 34] (by decide +kernel) (by decide +kernel)) (goodIn_sub (fun _ h => List.mem_cons_of_mem _ (List.mem_append_right _ h)) (by decide +kernel))
set_option maxRecDepth 20000 in
theorem gL_offers_X6_offers : GoodIn wsL_offers (wsV RL 27 RX6 yX6_offers wsX6_offers) := goodIn_app (goodIn_of _ (by decide +kernel)) ggL_offers_X6_offers
theorem dL_offers_0 : decode cL_offers 0 = .ok (.aload_n 0, 1) := by decide +kernel
theorem dL_offers_1 : decode cL_offers 1 = .ok (.iload_n 1, 1) := by decide +kernel
theorem dL_offers_2 : decode cL_offers 2 = .ok (.invokevirtual 27, 3) := by decide +kernel
theorem dL_offers_5 : decode cL_offers 5 = .ok (.ireturn, 1) := by decide +kernel
theorem dL_offers_6 : decode cL_offers 6 = .ok (.astore_n 2, 1) := by decide +kernel
theorem dL_offers_7 : decode cL_offers 7 = .ok (.ldc 15, 2) := by decide +kernel
theorem dL_offers_9 : decode cL_offers 9 = .ok (.ireturn, 1) := by decide +kernel
set_option maxRecDepth 20000 in
theorem ggL_exact_X6_exactWeight : GoodIn wsL_exact wsX6_exactWeight := goodIn_ca (goodIn_r _ [7, 8, 9, 10, 11, 6, 12, 13, 14, 15, 16, 17, 18, 19, 20, 21, 22, 23, 24, 25, 26, 27, 28, 29, 30, 31, 32, 33, 34, 35, 36, 37, 38, 39, 40, 41, 42, 43, 44, 45] (by decide +kernel) (by decide +kernel)) (goodIn_sub (fun _ h => List.mem_cons_of_mem _ (List.mem_append_right _ h)) (by decide +kernel))
set_option maxRecDepth 20000 in
theorem gL_exact_X6_exactWeight : GoodIn wsL_exact (wsV RL 30 RX6 yX6_exactWeight wsX6_exactWeight) := goodIn_app (goodIn_of _ (by decide +kernel)) ggL_exact_X6_exactWeight
theorem dL_exact_0 : decode cL_exact 0 = .ok (.aload_n 0, 1) := by decide +kernel
theorem dL_exact_1 : decode cL_exact 1 = .ok (.iload_n 1, 1) := by decide +kernel
theorem dL_exact_2 : decode cL_exact 2 = .ok (.iload_n 2, 1) := by decide +kernel
theorem dL_exact_3 : decode cL_exact 3 = .ok (.invokevirtual 30, 3) := by decide +kernel
theorem dL_exact_6 : decode cL_exact 6 = .ok (.ireturn, 1) := by decide +kernel
theorem dL_exact_7 : decode cL_exact 7 = .ok (.astore_n 3, 1) := by decide +kernel
theorem dL_exact_8 : decode cL_exact 8 = .ok (.ldc 15, 2) := by decide +kernel
theorem dL_exact_10 : decode cL_exact 10 = .ok (.ireturn, 1) := by decide +kernel
set_option maxRecDepth 20000 in
theorem ggL_filled_X6_reservoirSize : GoodIn wsL_filled wsX6_reservoirSize := goodIn_ca (goodIn_r _ [7, 8, 9, 6, 10, 11, 12, 13, 14, 15, 16, 17, 18, 19, 20, 21, 22, 23, 24, 25, 26, 27, 28, 29, 30, 31, 32, 33, 34, 35, 36, 37, 38, 39, 40, 41, 42, 43, 44, 45, 46, 47, 48, 49] (by decide +kernel) (by decide +kernel)) (goodIn_sub (fun _ h => List.mem_cons_of_mem _ (List.mem_append_right _ h)) (by decide +kernel))
set_option maxRecDepth 20000 in
theorem gL_filled_X6_reservoirSize : GoodIn wsL_filled (wsV RL 34 RX6 yX6_reservoirSize wsX6_reservoirSize) := goodIn_app (goodIn_of _ (by decide +kernel)) ggL_filled_X6_reservoirSize
theorem dL_filled_0 : decode cL_filled 0 = .ok (.aload_n 0, 1) := by decide +kernel
theorem dL_filled_1 : decode cL_filled 1 = .ok (.iload_n 1, 1) := by decide +kernel
theorem dL_filled_2 : decode cL_filled 2 = .ok (.invokevirtual 34, 3) := by decide +kernel
theorem dL_filled_5 : decode cL_filled 5 = .ok (.ireturn, 1) := by decide +kernel
theorem dL_filled_6 : decode cL_filled 6 = .ok (.astore_n 2, 1) := by decide +kernel
theorem dL_filled_7 : decode cL_filled 7 = .ok (.ldc 15, 2) := by decide +kernel
theorem dL_filled_9 : decode cL_filled 9 = .ok (.ireturn, 1) := by decide +kernel
set_option maxRecDepth 20000 in
theorem ggL_slotItem_X6_reservoirItem : GoodIn wsL_slotItem wsX6_reservoirItem := goodIn_ca (goodIn_ca (goodIn_r _ [9, 10, 11, 8, 12, 13, 14, 15, 16, 17, 18, 19, 20, 21, 22, 23, 24, 25, 26, 27, 28, 29, 30, 31, 32, 33, 34, 35, 36, 37, 38, 39, 40, 41, 42, 43, 44, 45, 46, 47, 48, 49, 50, 51, 52, 53, 54, 55, 56, 57, 58, 59] (by decide +kernel) (by decide +kernel)) (goodIn_sub (fun _ h => List.mem_cons_of_mem _ (List.mem_append_left _ (List.mem_append_right _ h))) (by decide +kernel))) (goodIn_sub (fun _ h => List.mem_cons_of_mem _ (List.mem_append_right _ h)) (by decide +kernel))
set_option maxRecDepth 20000 in
theorem gL_slotItem_X6_reservoirItem : GoodIn wsL_slotItem (wsV RL 37 RX6 yX6_reservoirItem wsX6_reservoirItem) := goodIn_app (goodIn_of _ (by decide +kernel)) ggL_slotItem_X6_reservoirItem
theorem dL_slotItem_0 : decode cL_slotItem 0 = .ok (.aload_n 0, 1) := by decide +kernel
theorem dL_slotItem_1 : decode cL_slotItem 1 = .ok (.iload_n 1, 1) := by decide +kernel
theorem dL_slotItem_2 : decode cL_slotItem 2 = .ok (.iload_n 2, 1) := by decide +kernel
theorem dL_slotItem_3 : decode cL_slotItem 3 = .ok (.invokevirtual 37, 3) := by decide +kernel
theorem dL_slotItem_6 : decode cL_slotItem 6 = .ok (.ireturn, 1) := by decide +kernel
theorem dL_slotItem_7 : decode cL_slotItem 7 = .ok (.astore_n 3, 1) := by decide +kernel
theorem dL_slotItem_8 : decode cL_slotItem 8 = .ok (.ldc 15, 2) := by decide +kernel
theorem dL_slotItem_10 : decode cL_slotItem 10 = .ok (.ireturn, 1) := by decide +kernel
theorem dL_slotItem_11 : decode cL_slotItem 11 = .ok (.astore_n 3, 1) := by decide +kernel
theorem dL_slotItem_12 : decode cL_slotItem 12 = .ok (.ldc 42, 2) := by decide +kernel
theorem dL_slotItem_14 : decode cL_slotItem 14 = .ok (.ireturn, 1) := by decide +kernel
set_option maxRecDepth 20000 in
theorem ggL_slotPosition_X6_reservoirPosition : GoodIn wsL_slotPosition wsX6_reservoirPosition := goodIn_ca (goodIn_ca (goodIn_r _ [9, 10, 11, 8, 12, 13, 14, 15, 16, 17, 18, 19, 20, 21, 22, 23, 24, 25, 26, 27, 28, 29, 30, 31, 32, 33, 34, 35, 36, 37, 38, 39, 40, 41, 42, 43, 44, 45, 46, 47, 48, 49, 50, 51, 52, 53, 54, 55, 56, 57, 58, 59] (by decide +kernel) (by decide +kernel)) (goodIn_sub (fun _ h => List.mem_cons_of_mem _ (List.mem_append_left _ (List.mem_append_right _ h))) (by decide +kernel))) (goodIn_sub (fun _ h => List.mem_cons_of_mem _ (List.mem_append_right _ h)) (by decide +kernel))
set_option maxRecDepth 20000 in
theorem gL_slotPosition_X6_reservoirPosition : GoodIn wsL_slotPosition (wsV RL 43 RX6 yX6_reservoirPosition wsX6_reservoirPosition) := goodIn_app (goodIn_of _ (by decide +kernel)) ggL_slotPosition_X6_reservoirPosition
theorem dL_slotPosition_0 : decode cL_slotPosition 0 = .ok (.aload_n 0, 1) := by decide +kernel
theorem dL_slotPosition_1 : decode cL_slotPosition 1 = .ok (.iload_n 1, 1) := by decide +kernel
theorem dL_slotPosition_2 : decode cL_slotPosition 2 = .ok (.iload_n 2, 1) := by decide +kernel
theorem dL_slotPosition_3 : decode cL_slotPosition 3 = .ok (.invokevirtual 43, 3) := by decide +kernel
theorem dL_slotPosition_6 : decode cL_slotPosition 6 = .ok (.ireturn, 1) := by decide +kernel
theorem dL_slotPosition_7 : decode cL_slotPosition 7 = .ok (.astore_n 3, 1) := by decide +kernel
theorem dL_slotPosition_8 : decode cL_slotPosition 8 = .ok (.ldc 15, 2) := by decide +kernel
