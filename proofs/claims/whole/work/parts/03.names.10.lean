set_option maxRecDepth 20000 in
theorem ggX6_successor_X6_checkState : GoodIn wsX6_successor wsX6_checkState := goodIn_ca (goodIn_r _ [15, 16, 17] (by decide +kernel) (by decide +kernel)) (goodIn_sub (fun _ h => List.mem_cons_of_mem _ (List.mem_append_right _ h)) (by decide +kernel))
set_option maxRecDepth 20000 in
theorem gX6_successor_X6_checkState : GoodIn wsX6_successor (va_wsS RX6 51 yX6_checkState wsX6_checkState) := goodIn_app (goodIn_of _ (by decide +kernel)) ggX6_successor_X6_checkState
theorem dX6_successor_0 : decode cX6_successor 0 = .ok (.iload_n 1, 1) := by decide +kernel
theorem dX6_successor_1 : decode cX6_successor 1 = .ok (.iconst 0, 1) := by decide +kernel
theorem dX6_successor_2 : decode cX6_successor 2 = .ok (.iconst 1, 1) := by decide +kernel
theorem dX6_successor_3 : decode cX6_successor 3 = .ok (.invokestatic 37, 3) := by decide +kernel
theorem dX6_successor_6 : decode cX6_successor 6 = .ok (.aload_n 0, 1) := by decide +kernel
theorem dX6_successor_7 : decode cX6_successor 7 = .ok (.iload_n 1, 1) := by decide +kernel
theorem dX6_successor_8 : decode cX6_successor 8 = .ok (.invokevirtual 43, 3) := by decide +kernel
theorem dX6_successor_11 : decode cX6_successor 11 = .ok (.astore_n 2, 1) := by decide +kernel
theorem dX6_successor_12 : decode cX6_successor 12 = .ok (.aload_n 2, 1) := by decide +kernel
theorem dX6_successor_13 : decode cX6_successor 13 = .ok (.getfield 47, 3) := by decide +kernel
theorem dX6_successor_16 : decode cX6_successor 16 = .ok (.ifCond .le 7, 3) := by decide +kernel
theorem dX6_successor_19 : decode cX6_successor 19 = .ok (.iconst 1, 1) := by decide +kernel
theorem dX6_successor_20 : decode cX6_successor 20 = .ok (.goto 4, 3) := by decide +kernel
theorem dX6_successor_23 : decode cX6_successor 23 = .ok (.iconst 0, 1) := by decide +kernel
theorem dX6_successor_24 : decode cX6_successor 24 = .ok (.invokestatic 51, 3) := by decide +kernel
theorem dX6_successor_27 : decode cX6_successor 27 = .ok (.aload_n 2, 1) := by decide +kernel
theorem dX6_successor_28 : decode cX6_successor 28 = .ok (.getfield 136, 3) := by decide +kernel
theorem dX6_successor_31 : decode cX6_successor 31 = .ok (.getfield 150, 3) := by decide +kernel
theorem dX6_successor_34 : decode cX6_successor 34 = .ok (.ireturn, 1) := by decide +kernel
set_option maxRecDepth 20000 in
theorem ggX6_startAgain_X5_startAgain : GoodIn wsX6_startAgain wsX5_startAgain := goodIn_r _ [8, 9, 10, 11, 12, 13, 7, 14, 15, 16, 17, 18, 19, 20, 21, 22, 23, 24, 25, 26, 27, 28, 29, 30, 31, 32, 33, 34, 35, 36, 37, 38, 39, 40, 41, 42, 43, 44, 45, 46, 47, 48, 49, 50, 51, 52, 53, 54, 55, 56, 57, 58, 59, 60, 61, 67, 68, 69, 70, 71, 72, 73, 74, 75, 76, 77, 78, 79, 80, 81, 82, 83, 84, 85, 86, 87, 88, 89, 90, 91, 92, 93, 94, 95, 96, 97, 98, 99] (by decide +kernel) (by decide +kernel)
set_option maxRecDepth 20000 in
theorem gX6_startAgain_X5_startAgain : GoodIn wsX6_startAgain (wsV RX6 156 RX5 yX5_startAgain wsX5_startAgain) := goodIn_app (goodIn_of _ (by decide +kernel)) ggX6_startAgain_X5_startAgain
theorem dX6_startAgain_0 : decode cX6_startAgain 0 = .ok (.aload_n 0, 1) := by decide +kernel
theorem dX6_startAgain_1 : decode cX6_startAgain 1 = .ok (.iload_n 1, 1) := by decide +kernel
theorem dX6_startAgain_2 : decode cX6_startAgain 2 = .ok (.putfield 153, 3) := by decide +kernel
theorem dX6_startAgain_5 : decode cX6_startAgain 5 = .ok (.aload_n 0, 1) := by decide +kernel
theorem dX6_startAgain_6 : decode cX6_startAgain 6 = .ok (.getfield 10, 3) := by decide +kernel
theorem dX6_startAgain_9 : decode cX6_startAgain 9 = .ok (.iload_n 1, 1) := by decide +kernel
theorem dX6_startAgain_10 : decode cX6_startAgain 10 = .ok (.iload_n 2, 1) := by decide +kernel
theorem dX6_startAgain_11 : decode cX6_startAgain 11 = .ok (.invokevirtual 156, 3) := by decide +kernel
theorem dX6_startAgain_14 : decode cX6_startAgain 14 = .ok (.aload_n 0, 1) := by decide +kernel
theorem dX6_startAgain_15 : decode cX6_startAgain 15 = .ok (.getfield 16, 3) := by decide +kernel
theorem dX6_startAgain_18 : decode cX6_startAgain 18 = .ok (.iload_n 1, 1) := by decide +kernel
theorem dX6_startAgain_19 : decode cX6_startAgain 19 = .ok (.iload_n 2, 1) := by decide +kernel
theorem dX6_startAgain_20 : decode cX6_startAgain 20 = .ok (.invokevirtual 156, 3) := by decide +kernel
theorem dX6_startAgain_23 : decode cX6_startAgain 23 = .ok (.return_, 1) := by decide +kernel
theorem dX6_streamOf_0 : decode cX6_streamOf 0 = .ok (.iload_n 1, 1) := by decide +kernel
theorem dX6_streamOf_1 : decode cX6_streamOf 1 = .ok (.ifCond .ne 10, 3) := by decide +kernel
theorem dX6_streamOf_4 : decode cX6_streamOf 4 = .ok (.aload_n 0, 1) := by decide +kernel
theorem dX6_streamOf_5 : decode cX6_streamOf 5 = .ok (.getfield 10, 3) := by decide +kernel
theorem dX6_streamOf_8 : decode cX6_streamOf 8 = .ok (.goto 7, 3) := by decide +kernel
theorem dX6_streamOf_11 : decode cX6_streamOf 11 = .ok (.aload_n 0, 1) := by decide +kernel
theorem dX6_streamOf_12 : decode cX6_streamOf 12 = .ok (.getfield 16, 3) := by decide +kernel
theorem dX6_streamOf_15 : decode cX6_streamOf 15 = .ok (.areturn, 1) := by decide +kernel
set_option maxRecDepth 20000 in
theorem ggX6_prioritiesOf_X6_streamOf : GoodIn wsX6_prioritiesOf wsX6_streamOf := goodIn_r _ [9, 3, 4, 60, 61, 62, 63, 64] (by decide +kernel) (by decide +kernel)
set_option maxRecDepth 20000 in
theorem gX6_prioritiesOf_X6_streamOf : GoodIn wsX6_prioritiesOf (wsV RX6 43 RX6 yX6_streamOf wsX6_streamOf) := goodIn_app (goodIn_of _ (by decide +kernel)) ggX6_prioritiesOf_X6_streamOf
set_option maxRecDepth 20000 in
theorem ggX6_prioritiesOf_X3_startAgain : GoodIn wsX6_prioritiesOf wsX3_startAgain := goodIn_r _ [14, 15, 16, 65, 66, 67, 68, 69, 70] (by decide +kernel) (by decide +kernel)
set_option maxRecDepth 20000 in
theorem gX6_prioritiesOf_X3_startAgain : GoodIn wsX6_prioritiesOf (wsV RX6 160 RX3 yX3_startAgain wsX3_startAgain) := goodIn_app (goodIn_of _ (by decide +kernel)) ggX6_prioritiesOf_X3_startAgain
set_option maxRecDepth 20000 in
theorem ggX6_prioritiesOf_X3_addAll : GoodIn wsX6_prioritiesOf wsX3_addAll := goodIn_r _ [20, 16, 21, 22, 23, 24, 25, 8, 26, 27, 28, 29, 13, 30, 15, 31, 32, 33, 34, 35, 36, 37, 38, 39, 40, 41, 42, 43, 44, 45, 46, 47, 48, 65, 66, 67, 68, 69, 70] (by decide +kernel) (by decide +kernel)
set_option maxRecDepth 20000 in
theorem gX6_prioritiesOf_X3_addAll : GoodIn wsX6_prioritiesOf (wsV RX6 163 RX3 yX3_addAll wsX3_addAll) := goodIn_app (goodIn_of _ (by decide +kernel)) ggX6_prioritiesOf_X3_addAll
theorem dX6_prioritiesOf_0 : decode cX6_prioritiesOf 0 = .ok (.iload_n 1, 1) := by decide +kernel
theorem dX6_prioritiesOf_1 : decode cX6_prioritiesOf 1 = .ok (.iconst 2, 1) := by decide +kernel
theorem dX6_prioritiesOf_2 : decode cX6_prioritiesOf 2 = .ok (.if_icmp .eq 12, 3) := by decide +kernel
theorem dX6_prioritiesOf_5 : decode cX6_prioritiesOf 5 = .ok (.aload_n 0, 1) := by decide +kernel
theorem dX6_prioritiesOf_6 : decode cX6_prioritiesOf 6 = .ok (.iload_n 1, 1) := by decide +kernel
theorem dX6_prioritiesOf_7 : decode cX6_prioritiesOf 7 = .ok (.invokevirtual 43, 3) := by decide +kernel
theorem dX6_prioritiesOf_10 : decode cX6_prioritiesOf 10 = .ok (.getfield 157, 3) := by decide +kernel
theorem dX6_prioritiesOf_13 : decode cX6_prioritiesOf 13 = .ok (.areturn, 1) := by decide +kernel
theorem dX6_prioritiesOf_14 : decode cX6_prioritiesOf 14 = .ok (.aload_n 0, 1) := by decide +kernel
theorem dX6_prioritiesOf_15 : decode cX6_prioritiesOf 15 = .ok (.getfield 22, 3) := by decide +kernel
theorem dX6_prioritiesOf_18 : decode cX6_prioritiesOf 18 = .ok (.aload_n 0, 1) := by decide +kernel
theorem dX6_prioritiesOf_19 : decode cX6_prioritiesOf 19 = .ok (.getfield 153, 3) := by decide +kernel
theorem dX6_prioritiesOf_22 : decode cX6_prioritiesOf 22 = .ok (.invokevirtual 160, 3) := by decide +kernel
theorem dX6_prioritiesOf_25 : decode cX6_prioritiesOf 25 = .ok (.aload_n 0, 1) := by decide +kernel
theorem dX6_prioritiesOf_26 : decode cX6_prioritiesOf 26 = .ok (.getfield 22, 3) := by decide +kernel
theorem dX6_prioritiesOf_29 : decode cX6_prioritiesOf 29 = .ok (.aload_n 0, 1) := by decide +kernel
theorem dX6_prioritiesOf_30 : decode cX6_prioritiesOf 30 = .ok (.getfield 10, 3) := by decide +kernel
theorem dX6_prioritiesOf_33 : decode cX6_prioritiesOf 33 = .ok (.getfield 157, 3) := by decide +kernel
theorem dX6_prioritiesOf_36 : decode cX6_prioritiesOf 36 = .ok (.invokevirtual 163, 3) := by decide +kernel
theorem dX6_prioritiesOf_39 : decode cX6_prioritiesOf 39 = .ok (.aload_n 0, 1) := by decide +kernel
theorem dX6_prioritiesOf_40 : decode cX6_prioritiesOf 40 = .ok (.getfield 22, 3) := by decide +kernel
theorem dX6_prioritiesOf_43 : decode cX6_prioritiesOf 43 = .ok (.aload_n 0, 1) := by decide +kernel
theorem dX6_prioritiesOf_44 : decode cX6_prioritiesOf 44 = .ok (.getfield 16, 3) := by decide +kernel
theorem dX6_prioritiesOf_47 : decode cX6_prioritiesOf 47 = .ok (.getfield 157, 3) := by decide +kernel
theorem dX6_prioritiesOf_50 : decode cX6_prioritiesOf 50 = .ok (.invokevirtual 163, 3) := by decide +kernel
theorem dX6_prioritiesOf_53 : decode cX6_prioritiesOf 53 = .ok (.aload_n 0, 1) := by decide +kernel
theorem dX6_prioritiesOf_54 : decode cX6_prioritiesOf 54 = .ok (.getfield 22, 3) := by decide +kernel
theorem dX6_prioritiesOf_57 : decode cX6_prioritiesOf 57 = .ok (.areturn, 1) := by decide +kernel
set_option maxRecDepth 20000 in
theorem ggX6_distinctOf_X6_streamOf : GoodIn wsX6_distinctOf wsX6_streamOf := goodIn_r _ [9, 3, 4, 59, 60, 61, 62, 63] (by decide +kernel) (by decide +kernel)
set_option maxRecDepth 20000 in
theorem gX6_distinctOf_X6_streamOf : GoodIn wsX6_distinctOf (wsV RX6 43 RX6 yX6_streamOf wsX6_streamOf) := goodIn_app (goodIn_of _ (by decide +kernel)) ggX6_distinctOf_X6_streamOf
set_option maxRecDepth 20000 in
theorem ggX6_distinctOf_X1_startAgain : GoodIn wsX6_distinctOf wsX1_startAgain := goodIn_r _ [14, 15, 16, 64, 65, 66, 67] (by decide +kernel) (by decide +kernel)
set_option maxRecDepth 20000 in
theorem gX6_distinctOf_X1_startAgain : GoodIn wsX6_distinctOf (wsV RX6 170 RX1 yX1_startAgain wsX1_startAgain) := goodIn_app (goodIn_of _ (by decide +kernel)) ggX6_distinctOf_X1_startAgain
set_option maxRecDepth 20000 in
theorem ggX6_distinctOf_X1_addAll : GoodIn wsX6_distinctOf wsX1_addAll := goodIn_r _ [20, 16, 21, 22, 23, 8, 24, 25, 26, 27, 13, 28, 15, 29, 30, 31, 32, 33, 34, 35, 36, 37, 38, 39, 40, 41, 42, 43, 44, 45, 46, 47, 64, 65, 66, 67] (by decide +kernel) (by decide +kernel)
set_option maxRecDepth 20000 in
theorem gX6_distinctOf_X1_addAll : GoodIn wsX6_distinctOf (wsV RX6 171 RX1 yX1_addAll wsX1_addAll) := goodIn_app (goodIn_of _ (by decide +kernel)) ggX6_distinctOf_X1_addAll
theorem dX6_distinctOf_0 : decode cX6_distinctOf 0 = .ok (.iload_n 1, 1) := by decide +kernel
theorem dX6_distinctOf_1 : decode cX6_distinctOf 1 = .ok (.iconst 2, 1) := by decide +kernel
theorem dX6_distinctOf_2 : decode cX6_distinctOf 2 = .ok (.if_icmp .eq 12, 3) := by decide +kernel
theorem dX6_distinctOf_5 : decode cX6_distinctOf 5 = .ok (.aload_n 0, 1) := by decide +kernel
theorem dX6_distinctOf_6 : decode cX6_distinctOf 6 = .ok (.iload_n 1, 1) := by decide +kernel
theorem dX6_distinctOf_7 : decode cX6_distinctOf 7 = .ok (.invokevirtual 43, 3) := by decide +kernel
theorem dX6_distinctOf_10 : decode cX6_distinctOf 10 = .ok (.getfield 167, 3) := by decide +kernel
theorem dX6_distinctOf_13 : decode cX6_distinctOf 13 = .ok (.areturn, 1) := by decide +kernel
theorem dX6_distinctOf_14 : decode cX6_distinctOf 14 = .ok (.aload_n 0, 1) := by decide +kernel
theorem dX6_distinctOf_15 : decode cX6_distinctOf 15 = .ok (.getfield 29, 3) := by decide +kernel
theorem dX6_distinctOf_18 : decode cX6_distinctOf 18 = .ok (.aload_n 0, 1) := by decide +kernel
theorem dX6_distinctOf_19 : decode cX6_distinctOf 19 = .ok (.getfield 153, 3) := by decide +kernel
theorem dX6_distinctOf_22 : decode cX6_distinctOf 22 = .ok (.invokevirtual 170, 3) := by decide +kernel
theorem dX6_distinctOf_25 : decode cX6_distinctOf 25 = .ok (.aload_n 0, 1) := by decide +kernel
theorem dX6_distinctOf_26 : decode cX6_distinctOf 26 = .ok (.getfield 29, 3) := by decide +kernel
theorem dX6_distinctOf_29 : decode cX6_distinctOf 29 = .ok (.aload_n 0, 1) := by decide +kernel
theorem dX6_distinctOf_30 : decode cX6_distinctOf 30 = .ok (.getfield 10, 3) := by decide +kernel
theorem dX6_distinctOf_33 : decode cX6_distinctOf 33 = .ok (.getfield 167, 3) := by decide +kernel
theorem dX6_distinctOf_36 : decode cX6_distinctOf 36 = .ok (.invokevirtual 171, 3) := by decide +kernel
theorem dX6_distinctOf_39 : decode cX6_distinctOf 39 = .ok (.aload_n 0, 1) := by decide +kernel
theorem dX6_distinctOf_40 : decode cX6_distinctOf 40 = .ok (.getfield 29, 3) := by decide +kernel
theorem dX6_distinctOf_43 : decode cX6_distinctOf 43 = .ok (.aload_n 0, 1) := by decide +kernel
theorem dX6_distinctOf_44 : decode cX6_distinctOf 44 = .ok (.getfield 16, 3) := by decide +kernel
theorem dX6_distinctOf_47 : decode cX6_distinctOf 47 = .ok (.getfield 167, 3) := by decide +kernel
theorem dX6_distinctOf_50 : decode cX6_distinctOf 50 = .ok (.invokevirtual 171, 3) := by decide +kernel
theorem dX6_distinctOf_53 : decode cX6_distinctOf 53 = .ok (.aload_n 0, 1) := by decide +kernel
theorem dX6_distinctOf_54 : decode cX6_distinctOf 54 = .ok (.getfield 29, 3) := by decide +kernel
theorem dX6_distinctOf_57 : decode cX6_distinctOf 57 = .ok (.areturn, 1) := by decide +kernel
theorem dX6_checkArgument_0 : decode cX6_checkArgument 0 = .ok (.iload_n 0, 1) := by decide +kernel
theorem dX6_checkArgument_1 : decode cX6_checkArgument 1 = .ok (.iload_n 1, 1) := by decide +kernel
theorem dX6_checkArgument_2 : decode cX6_checkArgument 2 = .ok (.if_icmp .lt 8, 3) := by decide +kernel
theorem dX6_checkArgument_5 : decode cX6_checkArgument 5 = .ok (.iload_n 0, 1) := by decide +kernel
theorem dX6_checkArgument_6 : decode cX6_checkArgument 6 = .ok (.iload_n 2, 1) := by decide +kernel
theorem dX6_checkArgument_7 : decode cX6_checkArgument 7 = .ok (.if_icmp .le 13, 3) := by decide +kernel
theorem dX6_checkArgument_10 : decode cX6_checkArgument 10 = .ok (.new 174, 3) := by decide +kernel
theorem dX6_checkArgument_13 : decode cX6_checkArgument 13 = .ok (.dup, 1) := by decide +kernel
theorem dX6_checkArgument_14 : decode cX6_checkArgument 14 = .ok (.ldc 176, 2) := by decide +kernel
theorem dX6_checkArgument_16 : decode cX6_checkArgument 16 = .ok (.invokespecial 178, 3) := by decide +kernel
theorem dX6_checkArgument_19 : decode cX6_checkArgument 19 = .ok (.athrow, 1) := by decide +kernel
theorem dX6_checkArgument_20 : decode cX6_checkArgument 20 = .ok (.return_, 1) := by decide +kernel
theorem dX6_checkState_0 : decode cX6_checkState 0 = .ok (.iload_n 0, 1) := by decide +kernel
theorem dX6_checkState_1 : decode cX6_checkState 1 = .ok (.ifCond .ne 13, 3) := by decide +kernel
theorem dX6_checkState_4 : decode cX6_checkState 4 = .ok (.new 181, 3) := by decide +kernel
theorem dX6_checkState_7 : decode cX6_checkState 7 = .ok (.dup, 1) := by decide +kernel
theorem dX6_checkState_8 : decode cX6_checkState 8 = .ok (.ldc 183, 2) := by decide +kernel
theorem dX6_checkState_10 : decode cX6_checkState 10 = .ok (.invokespecial 185, 3) := by decide +kernel
theorem dX6_checkState_13 : decode cX6_checkState 13 = .ok (.athrow, 1) := by decide +kernel
theorem dX6_checkState_14 : decode cX6_checkState 14 = .ok (.return_, 1) := by decide +kernel
theorem dX6_checkPlace_0 : decode cX6_checkPlace 0 = .ok (.iload_n 0, 1) := by decide +kernel
theorem dX6_checkPlace_1 : decode cX6_checkPlace 1 = .ok (.ifCond .lt 8, 3) := by decide +kernel
theorem dX6_checkPlace_4 : decode cX6_checkPlace 4 = .ok (.iload_n 0, 1) := by decide +kernel
theorem dX6_checkPlace_5 : decode cX6_checkPlace 5 = .ok (.iload_n 1, 1) := by decide +kernel
theorem dX6_checkPlace_6 : decode cX6_checkPlace 6 = .ok (.if_icmp .lt 13, 3) := by decide +kernel
theorem dX6_checkPlace_9 : decode cX6_checkPlace 9 = .ok (.new 186, 3) := by decide +kernel
theorem dX6_checkPlace_12 : decode cX6_checkPlace 12 = .ok (.dup, 1) := by decide +kernel
theorem dX6_checkPlace_13 : decode cX6_checkPlace 13 = .ok (.ldc 188, 2) := by decide +kernel
theorem dX6_checkPlace_15 : decode cX6_checkPlace 15 = .ok (.invokespecial 190, 3) := by decide +kernel
theorem dX6_checkPlace_18 : decode cX6_checkPlace 18 = .ok (.athrow, 1) := by decide +kernel
theorem dX6_checkPlace_19 : decode cX6_checkPlace 19 = .ok (.return_, 1) := by decide +kernel
theorem dX6_at_0 : decode cX6_at 0 = .ok (.iload_n 1, 1) := by decide +kernel
theorem dX6_at_1 : decode cX6_at 1 = .ok (.ifCond .lt 15, 3) := by decide +kernel
theorem dX6_at_4 : decode cX6_at 4 = .ok (.iload_n 1, 1) := by decide +kernel
theorem dX6_at_5 : decode cX6_at 5 = .ok (.aload_n 0, 1) := by decide +kernel
theorem dX6_at_6 : decode cX6_at 6 = .ok (.arraylength, 1) := by decide +kernel
theorem dX6_at_7 : decode cX6_at 7 = .ok (.if_icmp .ge 9, 3) := by decide +kernel
theorem dX6_at_10 : decode cX6_at 10 = .ok (.aload_n 0, 1) := by decide +kernel
theorem dX6_at_11 : decode cX6_at 11 = .ok (.iload_n 1, 1) := by decide +kernel
theorem dX6_at_12 : decode cX6_at 12 = .ok (.iaload, 1) := by decide +kernel
theorem dX6_at_13 : decode cX6_at 13 = .ok (.goto 4, 3) := by decide +kernel
theorem dX6_at_16 : decode cX6_at 16 = .ok (.iconst 0, 1) := by decide +kernel
theorem dX6_at_17 : decode cX6_at 17 = .ok (.ireturn, 1) := by decide +kernel
theorem dX6_put_0 : decode cX6_put 0 = .ok (.iload_n 1, 1) := by decide +kernel
theorem dX6_put_1 : decode cX6_put 1 = .ok (.ifCond .lt 13, 3) := by decide +kernel
theorem dX6_put_4 : decode cX6_put 4 = .ok (.iload_n 1, 1) := by decide +kernel
theorem dX6_put_5 : decode cX6_put 5 = .ok (.aload_n 0, 1) := by decide +kernel
theorem dX6_put_6 : decode cX6_put 6 = .ok (.arraylength, 1) := by decide +kernel
theorem dX6_put_7 : decode cX6_put 7 = .ok (.if_icmp .ge 7, 3) := by decide +kernel
theorem dX6_put_10 : decode cX6_put 10 = .ok (.aload_n 0, 1) := by decide +kernel
theorem dX6_put_11 : decode cX6_put 11 = .ok (.iload_n 1, 1) := by decide +kernel
theorem dX6_put_12 : decode cX6_put 12 = .ok (.iload_n 2, 1) := by decide +kernel
theorem dX6_put_13 : decode cX6_put 13 = .ok (.iastore, 1) := by decide +kernel
theorem dX6_put_14 : decode cX6_put 14 = .ok (.return_, 1) := by decide +kernel
theorem dX6_remainder_0 : decode cX6_remainder 0 = .ok (.iload_n 1, 1) := by decide +kernel
theorem dX6_remainder_1 : decode cX6_remainder 1 = .ok (.ifCond .le 9, 3) := by decide +kernel
theorem dX6_remainder_4 : decode cX6_remainder 4 = .ok (.iload_n 0, 1) := by decide +kernel
theorem dX6_remainder_5 : decode cX6_remainder 5 = .ok (.iload_n 1, 1) := by decide +kernel
theorem dX6_remainder_6 : decode cX6_remainder 6 = .ok (.irem, 1) := by decide +kernel
theorem dX6_remainder_7 : decode cX6_remainder 7 = .ok (.goto 4, 3) := by decide +kernel
theorem dX6_remainder_10 : decode cX6_remainder 10 = .ok (.iconst 0, 1) := by decide +kernel
theorem dX6_remainder_11 : decode cX6_remainder 11 = .ok (.ireturn, 1) := by decide +kernel
theorem dX6_quotient_0 : decode cX6_quotient 0 = .ok (.lload_n 2, 1) := by decide +kernel
theorem dX6_quotient_1 : decode cX6_quotient 1 = .ok (.lconst 0, 1) := by decide +kernel
theorem dX6_quotient_2 : decode cX6_quotient 2 = .ok (.lcmp, 1) := by decide +kernel
theorem dX6_quotient_3 : decode cX6_quotient 3 = .ok (.ifCond .le 9, 3) := by decide +kernel
theorem dX6_quotient_6 : decode cX6_quotient 6 = .ok (.lload_n 0, 1) := by decide +kernel
theorem dX6_quotient_7 : decode cX6_quotient 7 = .ok (.lload_n 2, 1) := by decide +kernel
theorem dX6_quotient_8 : decode cX6_quotient 8 = .ok (.ldiv, 1) := by decide +kernel
theorem dX6_quotient_9 : decode cX6_quotient 9 = .ok (.goto 4, 3) := by decide +kernel
theorem dX6_quotient_12 : decode cX6_quotient 12 = .ok (.lconst 0, 1) := by decide +kernel
theorem dX6_quotient_13 : decode cX6_quotient 13 = .ok (.lreturn, 1) := by decide +kernel
set_option maxRecDepth 20000 in
theorem ggX6_insert_X6_at : GoodIn wsX6_insert wsX6_at := goodIn_r _ [4] (by decide +kernel) (by decide +kernel)
set_option maxRecDepth 20000 in
theorem gX6_insert_X6_at : GoodIn wsX6_insert (va_wsS RX6 88 yX6_at wsX6_at) := goodIn_app (goodIn_of _ (by decide +kernel)) ggX6_insert_X6_at
set_option maxRecDepth 20000 in
theorem ggX6_insert_X6_put : GoodIn wsX6_insert wsX6_put := goodIn_r _ [7] (by decide +kernel) (by decide +kernel)
set_option maxRecDepth 20000 in
theorem gX6_insert_X6_put : GoodIn wsX6_insert (va_wsS RX6 191 yX6_put wsX6_put) := goodIn_app (goodIn_of _ (by decide +kernel)) ggX6_insert_X6_put
theorem dX6_insert_0 : decode cX6_insert 0 = .ok (.iload_n 2, 1) := by decide +kernel
theorem dX6_insert_1 : decode cX6_insert 1 = .ok (.iconst 1, 1) := by decide +kernel
theorem dX6_insert_2 : decode cX6_insert 2 = .ok (.isub, 1) := by decide +kernel
theorem dX6_insert_3 : decode cX6_insert 3 = .ok (.istore 4, 2) := by decide +kernel
theorem dX6_insert_5 : decode cX6_insert 5 = .ok (.iload 4, 2) := by decide +kernel
theorem dX6_insert_7 : decode cX6_insert 7 = .ok (.iload_n 1, 1) := by decide +kernel
theorem dX6_insert_8 : decode cX6_insert 8 = .ok (.if_icmp .le 23, 3) := by decide +kernel
theorem dX6_insert_11 : decode cX6_insert 11 = .ok (.aload_n 0, 1) := by decide +kernel
theorem dX6_insert_12 : decode cX6_insert 12 = .ok (.iload 4, 2) := by decide +kernel
theorem dX6_insert_14 : decode cX6_insert 14 = .ok (.aload_n 0, 1) := by decide +kernel
theorem dX6_insert_15 : decode cX6_insert 15 = .ok (.iload 4, 2) := by decide +kernel
theorem dX6_insert_17 : decode cX6_insert 17 = .ok (.iconst 1, 1) := by decide +kernel
theorem dX6_insert_18 : decode cX6_insert 18 = .ok (.isub, 1) := by decide +kernel
theorem dX6_insert_19 : decode cX6_insert 19 = .ok (.invokestatic 88, 3) := by decide +kernel
theorem dX6_insert_22 : decode cX6_insert 22 = .ok (.invokestatic 191, 3) := by decide +kernel
theorem dX6_insert_25 : decode cX6_insert 25 = .ok (.iinc 4 (-1), 3) := by decide +kernel
theorem dX6_insert_28 : decode cX6_insert 28 = .ok (.goto (-23), 3) := by decide +kernel
theorem dX6_insert_31 : decode cX6_insert 31 = .ok (.aload_n 0, 1) := by decide +kernel
theorem dX6_insert_32 : decode cX6_insert 32 = .ok (.iload_n 1, 1) := by decide +kernel
theorem dX6_insert_33 : decode cX6_insert 33 = .ok (.iload_n 3, 1) := by decide +kernel
theorem dX6_insert_34 : decode cX6_insert 34 = .ok (.invokestatic 191, 3) := by decide +kernel
theorem dX6_insert_37 : decode cX6_insert 37 = .ok (.return_, 1) := by decide +kernel
theorem dX7_init_0 : decode cX7_init 0 = .ok (.aload_n 0, 1) := by decide +kernel
theorem dX7_init_1 : decode cX7_init 1 = .ok (.invokespecial 1, 3) := by decide +kernel
theorem dX7_init_4 : decode cX7_init 4 = .ok (.aload_n 0, 1) := by decide +kernel
theorem dX7_init_5 : decode cX7_init 5 = .ok (.iconst 4, 1) := by decide +kernel
theorem dX7_init_6 : decode cX7_init 6 = .ok (.putfield 7, 3) := by decide +kernel
theorem dX7_init_9 : decode cX7_init 9 = .ok (.aload_n 0, 1) := by decide +kernel
theorem dX7_init_10 : decode cX7_init 10 = .ok (.bipush 8, 2) := by decide +kernel
theorem dX7_init_12 : decode cX7_init 12 = .ok (.putfield 13, 3) := by decide +kernel
theorem dX7_init_15 : decode cX7_init 15 = .ok (.aload_n 0, 1) := by decide +kernel
theorem dX7_init_16 : decode cX7_init 16 = .ok (.iconst 2, 1) := by decide +kernel
theorem dX7_init_17 : decode cX7_init 17 = .ok (.newarray .int, 2) := by decide +kernel
theorem dX7_init_19 : decode cX7_init 19 = .ok (.putfield 16, 3) := by decide +kernel
theorem dX7_init_22 : decode cX7_init 22 = .ok (.aload_n 0, 1) := by decide +kernel
theorem dX7_init_23 : decode cX7_init 23 = .ok (.sipush 600, 3) := by decide +kernel
theorem dX7_init_26 : decode cX7_init 26 = .ok (.newarray .int, 2) := by decide +kernel
theorem dX7_init_28 : decode cX7_init 28 = .ok (.putfield 20, 3) := by decide +kernel
theorem dX7_init_31 : decode cX7_init 31 = .ok (.aload_n 0, 1) := by decide +kernel
theorem dX7_init_32 : decode cX7_init 32 = .ok (.sipush 600, 3) := by decide +kernel
theorem dX7_init_35 : decode cX7_init 35 = .ok (.newarray .int, 2) := by decide +kernel
theorem dX7_init_37 : decode cX7_init 37 = .ok (.putfield 23, 3) := by decide +kernel
theorem dX7_init_40 : decode cX7_init 40 = .ok (.aload_n 0, 1) := by decide +kernel
theorem dX7_init_41 : decode cX7_init 41 = .ok (.sipush 600, 3) := by decide +kernel
theorem dX7_init_44 : decode cX7_init 44 = .ok (.newarray .int, 2) := by decide +kernel
theorem dX7_init_46 : decode cX7_init 46 = .ok (.putfield 26, 3) := by decide +kernel
theorem dX7_init_49 : decode cX7_init 49 = .ok (.aload_n 0, 1) := by decide +kernel
theorem dX7_init_50 : decode cX7_init 50 = .ok (.sipush 600, 3) := by decide +kernel
theorem dX7_init_53 : decode cX7_init 53 = .ok (.newarray .int, 2) := by decide +kernel
theorem dX7_init_55 : decode cX7_init 55 = .ok (.putfield 29, 3) := by decide +kernel
theorem dX7_init_58 : decode cX7_init 58 = .ok (.aload_n 0, 1) := by decide +kernel
theorem dX7_init_59 : decode cX7_init 59 = .ok (.sipush 600, 3) := by decide +kernel
theorem dX7_init_62 : decode cX7_init 62 = .ok (.newarray .int, 2) := by decide +kernel
theorem dX7_init_64 : decode cX7_init 64 = .ok (.putfield 32, 3) := by decide +kernel
theorem dX7_init_67 : decode cX7_init 67 = .ok (.aload_n 0, 1) := by decide +kernel
theorem dX7_init_68 : decode cX7_init 68 = .ok (.sipush 600, 3) := by decide +kernel
theorem dX7_init_71 : decode cX7_init 71 = .ok (.newarray .boolean, 2) := by decide +kernel
theorem dX7_init_73 : decode cX7_init 73 = .ok (.putfield 35, 3) := by decide +kernel
theorem dX7_init_76 : decode cX7_init 76 = .ok (.aload_n 0, 1) := by decide +kernel
theorem dX7_init_77 : decode cX7_init 77 = .ok (.sipush 300, 3) := by decide +kernel
theorem dX7_init_80 : decode cX7_init 80 = .ok (.newarray .int, 2) := by decide +kernel
theorem dX7_init_82 : decode cX7_init 82 = .ok (.putfield 39, 3) := by decide +kernel
theorem dX7_init_85 : decode cX7_init 85 = .ok (.return_, 1) := by decide +kernel
theorem dX7_thrown_0 : decode cX7_thrown 0 = .ok (.aload_n 0, 1) := by decide +kernel
theorem dX7_thrown_1 : decode cX7_thrown 1 = .ok (.getfield 42, 3) := by decide +kernel
theorem dX7_thrown_4 : decode cX7_thrown 4 = .ok (.ireturn, 1) := by decide +kernel
theorem dX7_refused_0 : decode cX7_refused 0 = .ok (.aload_n 0, 1) := by decide +kernel
theorem dX7_refused_1 : decode cX7_refused 1 = .ok (.iload_n 1, 1) := by decide +kernel
theorem dX7_refused_2 : decode cX7_refused 2 = .ok (.putfield 42, 3) := by decide +kernel
theorem dX7_refused_5 : decode cX7_refused 5 = .ok (.iload_n 1, 1) := by decide +kernel
theorem dX7_refused_6 : decode cX7_refused 6 = .ok (.ifCond .eq 7, 3) := by decide +kernel
theorem dX7_refused_9 : decode cX7_refused 9 = .ok (.iconst 1, 1) := by decide +kernel
theorem dX7_refused_10 : decode cX7_refused 10 = .ok (.goto 4, 3) := by decide +kernel
theorem dX7_refused_13 : decode cX7_refused 13 = .ok (.iconst 0, 1) := by decide +kernel
theorem dX7_refused_14 : decode cX7_refused 14 = .ok (.ireturn, 1) := by decide +kernel
theorem dX7_in_0 : decode cX7_in 0 = .ok (.iload_n 0, 1) := by decide +kernel
theorem dX7_in_1 : decode cX7_in 1 = .ok (.iload_n 1, 1) := by decide +kernel
theorem dX7_in_2 : decode cX7_in 2 = .ok (.if_icmp .lt 12, 3) := by decide +kernel
theorem dX7_in_5 : decode cX7_in 5 = .ok (.iload_n 0, 1) := by decide +kernel
theorem dX7_in_6 : decode cX7_in 6 = .ok (.iload_n 2, 1) := by decide +kernel
theorem dX7_in_7 : decode cX7_in 7 = .ok (.if_icmp .gt 7, 3) := by decide +kernel
theorem dX7_in_10 : decode cX7_in 10 = .ok (.iconst 1, 1) := by decide +kernel
theorem dX7_in_11 : decode cX7_in 11 = .ok (.goto 4, 3) := by decide +kernel
theorem dX7_in_14 : decode cX7_in 14 = .ok (.iconst 0, 1) := by decide +kernel
theorem dX7_in_15 : decode cX7_in 15 = .ok (.ireturn, 1) := by decide +kernel
set_option maxRecDepth 20000 in
theorem ggX7_noStream_X7_in : GoodIn wsX7_noStream wsX7_in := goodIn_r _ [4] (by decide +kernel) (by decide +kernel)
set_option maxRecDepth 20000 in
theorem gX7_noStream_X7_in : GoodIn wsX7_noStream (va_wsS RX7 45 yX7_in wsX7_in) := goodIn_app (goodIn_of _ (by decide +kernel)) ggX7_noStream_X7_in
set_option maxRecDepth 20000 in
theorem ggX7_noStream_X7_refused : GoodIn wsX7_noStream wsX7_refused := goodIn_r _ [8, 9, 10, 11, 12, 13, 14, 15, 16, 17, 18, 19, 20, 21, 22] (by decide +kernel) (by decide +kernel)
set_option maxRecDepth 20000 in
theorem gX7_noStream_X7_refused : GoodIn wsX7_noStream (wsV RX7 49 RX7 yX7_refused wsX7_refused) := goodIn_app (goodIn_of _ (by decide +kernel)) ggX7_noStream_X7_refused
theorem dX7_noStream_0 : decode cX7_noStream 0 = .ok (.aload_n 0, 1) := by decide +kernel
theorem dX7_noStream_1 : decode cX7_noStream 1 = .ok (.iload_n 1, 1) := by decide +kernel
theorem dX7_noStream_2 : decode cX7_noStream 2 = .ok (.iconst 0, 1) := by decide +kernel
theorem dX7_noStream_3 : decode cX7_noStream 3 = .ok (.iload_n 2, 1) := by decide +kernel
theorem dX7_noStream_4 : decode cX7_noStream 4 = .ok (.invokestatic 45, 3) := by decide +kernel
theorem dX7_noStream_7 : decode cX7_noStream 7 = .ok (.ifCond .eq 7, 3) := by decide +kernel
theorem dX7_noStream_10 : decode cX7_noStream 10 = .ok (.iconst 0, 1) := by decide +kernel
theorem dX7_noStream_11 : decode cX7_noStream 11 = .ok (.goto 4, 3) := by decide +kernel
theorem dX7_noStream_14 : decode cX7_noStream 14 = .ok (.iconst 1, 1) := by decide +kernel
theorem dX7_noStream_15 : decode cX7_noStream 15 = .ok (.invokevirtual 49, 3) := by decide +kernel
theorem dX7_noStream_18 : decode cX7_noStream 18 = .ok (.ireturn, 1) := by decide +kernel
set_option maxRecDepth 20000 in
theorem ggX7_noGroup_X7_in : GoodIn wsX7_noGroup wsX7_in := goodIn_r _ [4] (by decide +kernel) (by decide +kernel)
set_option maxRecDepth 20000 in
theorem gX7_noGroup_X7_in : GoodIn wsX7_noGroup (va_wsS RX7 45 yX7_in wsX7_in) := goodIn_app (goodIn_of _ (by decide +kernel)) ggX7_noGroup_X7_in
set_option maxRecDepth 20000 in
theorem ggX7_noGroup_X7_refused : GoodIn wsX7_noGroup wsX7_refused := goodIn_r _ [8, 9, 10, 11, 12, 13, 14, 15, 16, 17, 18, 19, 20, 21, 22] (by decide +kernel) (by decide +kernel)
set_option maxRecDepth 20000 in
theorem gX7_noGroup_X7_refused : GoodIn wsX7_noGroup (wsV RX7 49 RX7 yX7_refused wsX7_refused) := goodIn_app (goodIn_of _ (by decide +kernel)) ggX7_noGroup_X7_refused
theorem dX7_noGroup_0 : decode cX7_noGroup 0 = .ok (.aload_n 0, 1) := by decide +kernel
theorem dX7_noGroup_1 : decode cX7_noGroup 1 = .ok (.iload_n 1, 1) := by decide +kernel
theorem dX7_noGroup_2 : decode cX7_noGroup 2 = .ok (.iconst 0, 1) := by decide +kernel
theorem dX7_noGroup_3 : decode cX7_noGroup 3 = .ok (.iload_n 2, 1) := by decide +kernel
theorem dX7_noGroup_4 : decode cX7_noGroup 4 = .ok (.invokestatic 45, 3) := by decide +kernel
theorem dX7_noGroup_7 : decode cX7_noGroup 7 = .ok (.ifCond .eq 16, 3) := by decide +kernel
theorem dX7_noGroup_10 : decode cX7_noGroup 10 = .ok (.iload_n 3, 1) := by decide +kernel
theorem dX7_noGroup_11 : decode cX7_noGroup 11 = .ok (.iconst 0, 1) := by decide +kernel
theorem dX7_noGroup_12 : decode cX7_noGroup 12 = .ok (.iconst 3, 1) := by decide +kernel
theorem dX7_noGroup_13 : decode cX7_noGroup 13 = .ok (.invokestatic 45, 3) := by decide +kernel
theorem dX7_noGroup_16 : decode cX7_noGroup 16 = .ok (.ifCond .eq 7, 3) := by decide +kernel
theorem dX7_noGroup_19 : decode cX7_noGroup 19 = .ok (.iconst 0, 1) := by decide +kernel
theorem dX7_noGroup_20 : decode cX7_noGroup 20 = .ok (.goto 4, 3) := by decide +kernel
theorem dX7_noGroup_23 : decode cX7_noGroup 23 = .ok (.iconst 1, 1) := by decide +kernel
theorem dX7_noGroup_24 : decode cX7_noGroup 24 = .ok (.invokevirtual 49, 3) := by decide +kernel
theorem dX7_noGroup_27 : decode cX7_noGroup 27 = .ok (.ireturn, 1) := by decide +kernel
set_option maxRecDepth 20000 in
theorem ggX7_begin_X7_in : GoodIn wsX7_begin wsX7_in := goodIn_r _ [7] (by decide +kernel) (by decide +kernel)
set_option maxRecDepth 20000 in
theorem gX7_begin_X7_in : GoodIn wsX7_begin (va_wsS RX7 45 yX7_in wsX7_in) := goodIn_app (goodIn_of _ (by decide +kernel)) ggX7_begin_X7_in
set_option maxRecDepth 20000 in
theorem ggX7_begin_X7_refused : GoodIn wsX7_begin wsX7_refused := goodIn_r _ [11, 12, 13, 14, 15, 16, 17, 18, 19, 20, 21, 22, 23, 24, 25] (by decide +kernel) (by decide +kernel)
set_option maxRecDepth 20000 in
theorem gX7_begin_X7_refused : GoodIn wsX7_begin (wsV RX7 49 RX7 yX7_refused wsX7_refused) := goodIn_app (goodIn_of _ (by decide +kernel)) ggX7_begin_X7_refused
theorem dX7_begin_0 : decode cX7_begin 0 = .ok (.aload_n 0, 1) := by decide +kernel
theorem dX7_begin_1 : decode cX7_begin 1 = .ok (.iload_n 1, 1) := by decide +kernel
theorem dX7_begin_2 : decode cX7_begin 2 = .ok (.iconst 2, 1) := by decide +kernel
theorem dX7_begin_3 : decode cX7_begin 3 = .ok (.bipush 16, 2) := by decide +kernel
theorem dX7_begin_5 : decode cX7_begin 5 = .ok (.invokestatic 45, 3) := by decide +kernel
