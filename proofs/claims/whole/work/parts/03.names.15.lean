set_option maxRecDepth 20000 in
theorem gX7_noWindow_X7_in : GoodIn wsX7_noWindow (va_wsS RX7 45 yX7_in wsX7_in) := goodIn_app (goodIn_of _ (by decide +kernel)) ggX7_noWindow_X7_in
set_option maxRecDepth 20000 in
theorem ggX7_noWindow_X7_refused : GoodIn wsX7_noWindow wsX7_refused := goodIn_r _ [9, 10, 21, 22, 23, 24, 25, 26, 27, 28, 29, 30, 31, 32, 33] (by decide +kernel) (by decide +kernel)
set_option maxRecDepth 20000 in
theorem gX7_noWindow_X7_refused : GoodIn wsX7_noWindow (wsV RX7 49 RX7 yX7_refused wsX7_refused) := goodIn_app (goodIn_of _ (by decide +kernel)) ggX7_noWindow_X7_refused
set_option maxRecDepth 20000 in
theorem ggX7_noWindow_X7_runChain : GoodIn wsX7_noWindow wsX7_runChain := goodIn_r _ [14, 15, 16, 1, 17, 18, 19, 20, 21, 22, 23, 24, 25, 26, 27, 28, 29, 30, 31, 32, 33] (by decide +kernel) (by decide +kernel)
set_option maxRecDepth 20000 in
theorem gX7_noWindow_X7_runChain : GoodIn wsX7_noWindow (wsV RX7 119 RX7 yX7_runChain wsX7_runChain) := goodIn_app (goodIn_of _ (by decide +kernel)) ggX7_noWindow_X7_runChain
theorem dX7_noWindow_0 : decode cX7_noWindow 0 = .ok (.aload_n 0, 1) := by decide +kernel
theorem dX7_noWindow_1 : decode cX7_noWindow 1 = .ok (.iload_n 1, 1) := by decide +kernel
theorem dX7_noWindow_2 : decode cX7_noWindow 2 = .ok (.iconst 0, 1) := by decide +kernel
theorem dX7_noWindow_3 : decode cX7_noWindow 3 = .ok (.iconst 1, 1) := by decide +kernel
theorem dX7_noWindow_4 : decode cX7_noWindow 4 = .ok (.invokestatic 45, 3) := by decide +kernel
theorem dX7_noWindow_7 : decode cX7_noWindow 7 = .ok (.ifCond .ne 7, 3) := by decide +kernel
theorem dX7_noWindow_10 : decode cX7_noWindow 10 = .ok (.iconst 1, 1) := by decide +kernel
theorem dX7_noWindow_11 : decode cX7_noWindow 11 = .ok (.goto 17, 3) := by decide +kernel
theorem dX7_noWindow_14 : decode cX7_noWindow 14 = .ok (.aload_n 0, 1) := by decide +kernel
theorem dX7_noWindow_15 : decode cX7_noWindow 15 = .ok (.getfield 16, 3) := by decide +kernel
theorem dX7_noWindow_18 : decode cX7_noWindow 18 = .ok (.iload_n 1, 1) := by decide +kernel
theorem dX7_noWindow_19 : decode cX7_noWindow 19 = .ok (.iaload, 1) := by decide +kernel
theorem dX7_noWindow_20 : decode cX7_noWindow 20 = .ok (.ifCond .ne 7, 3) := by decide +kernel
theorem dX7_noWindow_23 : decode cX7_noWindow 23 = .ok (.iconst 2, 1) := by decide +kernel
theorem dX7_noWindow_24 : decode cX7_noWindow 24 = .ok (.goto 4, 3) := by decide +kernel
theorem dX7_noWindow_27 : decode cX7_noWindow 27 = .ok (.iconst 0, 1) := by decide +kernel
theorem dX7_noWindow_28 : decode cX7_noWindow 28 = .ok (.invokevirtual 49, 3) := by decide +kernel
theorem dX7_noWindow_31 : decode cX7_noWindow 31 = .ok (.ifCond .eq 5, 3) := by decide +kernel
theorem dX7_noWindow_34 : decode cX7_noWindow 34 = .ok (.iconst 1, 1) := by decide +kernel
theorem dX7_noWindow_35 : decode cX7_noWindow 35 = .ok (.ireturn, 1) := by decide +kernel
theorem dX7_noWindow_36 : decode cX7_noWindow 36 = .ok (.aload_n 0, 1) := by decide +kernel
theorem dX7_noWindow_37 : decode cX7_noWindow 37 = .ok (.iload_n 1, 1) := by decide +kernel
theorem dX7_noWindow_38 : decode cX7_noWindow 38 = .ok (.invokevirtual 119, 3) := by decide +kernel
theorem dX7_noWindow_41 : decode cX7_noWindow 41 = .ok (.iconst 0, 1) := by decide +kernel
theorem dX7_noWindow_42 : decode cX7_noWindow 42 = .ok (.ireturn, 1) := by decide +kernel
set_option maxRecDepth 20000 in
theorem ggX7_windowItem_X7_noWindow : GoodIn wsX7_windowItem wsX7_noWindow := goodIn_r _ [7, 8, 9, 10, 6, 11, 12, 13, 14, 15, 16, 17, 18, 19, 20, 21, 22, 23, 24, 2, 25, 26, 27, 28, 29, 30, 31, 32, 33, 34, 35, 36, 37, 38] (by decide +kernel) (by decide +kernel)
set_option maxRecDepth 20000 in
theorem gX7_windowItem_X7_noWindow : GoodIn wsX7_windowItem (wsV RX7 123 RX7 yX7_noWindow wsX7_noWindow) := goodIn_app (goodIn_of _ (by decide +kernel)) ggX7_windowItem_X7_noWindow
theorem dX7_windowItem_0 : decode cX7_windowItem 0 = .ok (.aload_n 0, 1) := by decide +kernel
theorem dX7_windowItem_1 : decode cX7_windowItem 1 = .ok (.iload_n 1, 1) := by decide +kernel
theorem dX7_windowItem_2 : decode cX7_windowItem 2 = .ok (.invokevirtual 123, 3) := by decide +kernel
theorem dX7_windowItem_5 : decode cX7_windowItem 5 = .ok (.ifCond .eq 7, 3) := by decide +kernel
theorem dX7_windowItem_8 : decode cX7_windowItem 8 = .ok (.iconst 0, 1) := by decide +kernel
theorem dX7_windowItem_9 : decode cX7_windowItem 9 = .ok (.goto 22, 3) := by decide +kernel
theorem dX7_windowItem_12 : decode cX7_windowItem 12 = .ok (.aload_n 0, 1) := by decide +kernel
theorem dX7_windowItem_13 : decode cX7_windowItem 13 = .ok (.getfield 20, 3) := by decide +kernel
theorem dX7_windowItem_16 : decode cX7_windowItem 16 = .ok (.sipush 300, 3) := by decide +kernel
theorem dX7_windowItem_19 : decode cX7_windowItem 19 = .ok (.iload_n 1, 1) := by decide +kernel
theorem dX7_windowItem_20 : decode cX7_windowItem 20 = .ok (.imul, 1) := by decide +kernel
theorem dX7_windowItem_21 : decode cX7_windowItem 21 = .ok (.aload_n 0, 1) := by decide +kernel
theorem dX7_windowItem_22 : decode cX7_windowItem 22 = .ok (.getfield 39, 3) := by decide +kernel
theorem dX7_windowItem_25 : decode cX7_windowItem 25 = .ok (.iconst 0, 1) := by decide +kernel
theorem dX7_windowItem_26 : decode cX7_windowItem 26 = .ok (.iaload, 1) := by decide +kernel
theorem dX7_windowItem_27 : decode cX7_windowItem 27 = .ok (.iadd, 1) := by decide +kernel
theorem dX7_windowItem_28 : decode cX7_windowItem 28 = .ok (.iconst 1, 1) := by decide +kernel
theorem dX7_windowItem_29 : decode cX7_windowItem 29 = .ok (.isub, 1) := by decide +kernel
theorem dX7_windowItem_30 : decode cX7_windowItem 30 = .ok (.iaload, 1) := by decide +kernel
theorem dX7_windowItem_31 : decode cX7_windowItem 31 = .ok (.ireturn, 1) := by decide +kernel
set_option maxRecDepth 20000 in
theorem ggX7_windowPosition_X7_noWindow : GoodIn wsX7_windowPosition wsX7_noWindow := goodIn_r _ [6, 7, 8, 9, 5, 10, 11, 12, 13, 14, 15, 16, 17, 18, 19, 20, 21, 22, 23, 1, 24, 25, 26, 27, 28, 29, 30, 31, 32, 33, 34, 35, 36, 37] (by decide +kernel) (by decide +kernel)
set_option maxRecDepth 20000 in
theorem gX7_windowPosition_X7_noWindow : GoodIn wsX7_windowPosition (wsV RX7 123 RX7 yX7_noWindow wsX7_noWindow) := goodIn_app (goodIn_of _ (by decide +kernel)) ggX7_windowPosition_X7_noWindow
theorem dX7_windowPosition_0 : decode cX7_windowPosition 0 = .ok (.aload_n 0, 1) := by decide +kernel
theorem dX7_windowPosition_1 : decode cX7_windowPosition 1 = .ok (.iload_n 1, 1) := by decide +kernel
theorem dX7_windowPosition_2 : decode cX7_windowPosition 2 = .ok (.invokevirtual 123, 3) := by decide +kernel
theorem dX7_windowPosition_5 : decode cX7_windowPosition 5 = .ok (.ifCond .eq 7, 3) := by decide +kernel
theorem dX7_windowPosition_8 : decode cX7_windowPosition 8 = .ok (.iconst 0, 1) := by decide +kernel
theorem dX7_windowPosition_9 : decode cX7_windowPosition 9 = .ok (.goto 9, 3) := by decide +kernel
theorem dX7_windowPosition_12 : decode cX7_windowPosition 12 = .ok (.aload_n 0, 1) := by decide +kernel
theorem dX7_windowPosition_13 : decode cX7_windowPosition 13 = .ok (.getfield 39, 3) := by decide +kernel
theorem dX7_windowPosition_16 : decode cX7_windowPosition 16 = .ok (.iconst 0, 1) := by decide +kernel
theorem dX7_windowPosition_17 : decode cX7_windowPosition 17 = .ok (.iaload, 1) := by decide +kernel
theorem dX7_windowPosition_18 : decode cX7_windowPosition 18 = .ok (.ireturn, 1) := by decide +kernel
set_option maxRecDepth 20000 in
theorem ggX7_chainLength_X7_noStream : GoodIn wsX7_chainLength wsX7_noStream := goodIn_r _ [6, 7, 8, 5, 9, 10, 11, 12, 13, 14, 25, 26, 27, 28, 29, 30, 31, 32, 33, 34, 35, 36, 37] (by decide +kernel) (by decide +kernel)
set_option maxRecDepth 20000 in
theorem gX7_chainLength_X7_noStream : GoodIn wsX7_chainLength (wsV RX7 54 RX7 yX7_noStream wsX7_noStream) := goodIn_app (goodIn_of _ (by decide +kernel)) ggX7_chainLength_X7_noStream
set_option maxRecDepth 20000 in
theorem ggX7_chainLength_X7_runChain : GoodIn wsX7_chainLength wsX7_runChain := goodIn_r _ [18, 1, 19, 20, 21, 22, 23, 24, 25, 26, 27, 28, 29, 30, 31, 32, 33, 34, 35, 36, 37] (by decide +kernel) (by decide +kernel)
set_option maxRecDepth 20000 in
theorem gX7_chainLength_X7_runChain : GoodIn wsX7_chainLength (wsV RX7 119 RX7 yX7_runChain wsX7_runChain) := goodIn_app (goodIn_of _ (by decide +kernel)) ggX7_chainLength_X7_runChain
theorem dX7_chainLength_0 : decode cX7_chainLength 0 = .ok (.aload_n 0, 1) := by decide +kernel
theorem dX7_chainLength_1 : decode cX7_chainLength 1 = .ok (.iload_n 1, 1) := by decide +kernel
theorem dX7_chainLength_2 : decode cX7_chainLength 2 = .ok (.iconst 1, 1) := by decide +kernel
theorem dX7_chainLength_3 : decode cX7_chainLength 3 = .ok (.invokevirtual 54, 3) := by decide +kernel
theorem dX7_chainLength_6 : decode cX7_chainLength 6 = .ok (.ifCond .eq 5, 3) := by decide +kernel
theorem dX7_chainLength_9 : decode cX7_chainLength 9 = .ok (.iconst 0, 1) := by decide +kernel
theorem dX7_chainLength_10 : decode cX7_chainLength 10 = .ok (.ireturn, 1) := by decide +kernel
theorem dX7_chainLength_11 : decode cX7_chainLength 11 = .ok (.aload_n 0, 1) := by decide +kernel
theorem dX7_chainLength_12 : decode cX7_chainLength 12 = .ok (.iload_n 1, 1) := by decide +kernel
theorem dX7_chainLength_13 : decode cX7_chainLength 13 = .ok (.invokevirtual 119, 3) := by decide +kernel
theorem dX7_chainLength_16 : decode cX7_chainLength 16 = .ok (.aload_n 0, 1) := by decide +kernel
theorem dX7_chainLength_17 : decode cX7_chainLength 17 = .ok (.getfield 113, 3) := by decide +kernel
theorem dX7_chainLength_20 : decode cX7_chainLength 20 = .ok (.ireturn, 1) := by decide +kernel
set_option maxRecDepth 20000 in
theorem ggX7_successor_X7_noWindow : GoodIn wsX7_successor wsX7_noWindow := goodIn_r _ [6, 7, 8, 9, 5, 10, 11, 12, 13, 14, 15, 16, 17, 18, 19, 20, 1, 21, 22, 23, 24, 25, 26, 27, 28, 29, 30, 31, 32, 33, 34, 35, 36, 37] (by decide +kernel) (by decide +kernel)
set_option maxRecDepth 20000 in
theorem gX7_successor_X7_noWindow : GoodIn wsX7_successor (wsV RX7 123 RX7 yX7_noWindow wsX7_noWindow) := goodIn_app (goodIn_of _ (by decide +kernel)) ggX7_successor_X7_noWindow
theorem dX7_successor_0 : decode cX7_successor 0 = .ok (.aload_n 0, 1) := by decide +kernel
theorem dX7_successor_1 : decode cX7_successor 1 = .ok (.iload_n 1, 1) := by decide +kernel
theorem dX7_successor_2 : decode cX7_successor 2 = .ok (.invokevirtual 123, 3) := by decide +kernel
theorem dX7_successor_5 : decode cX7_successor 5 = .ok (.ifCond .eq 7, 3) := by decide +kernel
theorem dX7_successor_8 : decode cX7_successor 8 = .ok (.iconst 0, 1) := by decide +kernel
theorem dX7_successor_9 : decode cX7_successor 9 = .ok (.goto 7, 3) := by decide +kernel
theorem dX7_successor_12 : decode cX7_successor 12 = .ok (.aload_n 0, 1) := by decide +kernel
theorem dX7_successor_13 : decode cX7_successor 13 = .ok (.getfield 116, 3) := by decide +kernel
theorem dX7_successor_16 : decode cX7_successor 16 = .ok (.ireturn, 1) := by decide +kernel
theorem dJ9_max_f86c9_0 : decode cJ9_max_f86c9 0 = .ok (.lload_n 0, 1) := by decide +kernel
theorem dJ9_max_f86c9_1 : decode cJ9_max_f86c9 1 = .ok (.lload_n 2, 1) := by decide +kernel
theorem dJ9_max_f86c9_2 : decode cJ9_max_f86c9 2 = .ok (.lcmp, 1) := by decide +kernel
theorem dJ9_max_f86c9_3 : decode cJ9_max_f86c9 3 = .ok (.ifCond .lt 7, 3) := by decide +kernel
theorem dJ9_max_f86c9_6 : decode cJ9_max_f86c9 6 = .ok (.lload_n 0, 1) := by decide +kernel
theorem dJ9_max_f86c9_7 : decode cJ9_max_f86c9 7 = .ok (.goto 4, 3) := by decide +kernel
theorem dJ9_max_f86c9_10 : decode cJ9_max_f86c9 10 = .ok (.lload_n 2, 1) := by decide +kernel
theorem dJ9_max_f86c9_11 : decode cJ9_max_f86c9 11 = .ok (.lreturn, 1) := by decide +kernel
theorem dJ9_min_7cf53_0 : decode cJ9_min_7cf53 0 = .ok (.iload_n 0, 1) := by decide +kernel
theorem dJ9_min_7cf53_1 : decode cJ9_min_7cf53 1 = .ok (.iload_n 1, 1) := by decide +kernel
theorem dJ9_min_7cf53_2 : decode cJ9_min_7cf53 2 = .ok (.if_icmp .gt 7, 3) := by decide +kernel
theorem dJ9_min_7cf53_5 : decode cJ9_min_7cf53 5 = .ok (.iload_n 0, 1) := by decide +kernel
theorem dJ9_min_7cf53_6 : decode cJ9_min_7cf53 6 = .ok (.goto 4, 3) := by decide +kernel
theorem dJ9_min_7cf53_9 : decode cJ9_min_7cf53 9 = .ok (.iload_n 1, 1) := by decide +kernel
theorem dJ9_min_7cf53_10 : decode cJ9_min_7cf53 10 = .ok (.ireturn, 1) := by decide +kernel
set_option maxRecDepth 20000 in
theorem ggL_begin_X6_begin : GoodIn wsL_begin wsX6_begin := goodIn_ca (goodIn_r _ [6, 7, 8, 5, 9, 10, 11, 12, 13, 14, 15, 16, 17, 18, 19, 20, 21, 22, 23, 24, 25, 26, 27, 28, 29, 30, 31, 32, 33, 34, 35, 36, 37, 38, 39, 40, 41, 42, 43, 44, 45, 46, 47, 48, 49, 50, 51, 52, 53, 54, 55, 56, 57, 58, 59, 60, 61, 62, 63, 64, 65, 66, 67, 68, 69, 70, 71, 72, 73, 74, 75, 76, 77, 78, 79, 80, 81, 82, 83, 84, 85, 86, 87, 88, 89, 90, 91, 92, 93, 94, 95, 96, 97, 98, 99, 100, 101, 102, 103, 104, 105, 106, 107, 108, 109, 110, 111, 112, 113, 114] (by decide +kernel) (by decide +kernel)) (goodIn_sub (fun _ h => List.mem_cons_of_mem _ (List.mem_append_right _ h)) (by decide +kernel))
set_option maxRecDepth 20000 in
theorem gL_begin_X6_begin : GoodIn wsL_begin (wsV RL 7 RX6 yX6_begin wsX6_begin) := goodIn_app (goodIn_of _ (by decide +kernel)) ggL_begin_X6_begin
theorem dL_begin_0 : decode cL_begin 0 = .ok (.aload_n 0, 1) := by decide +kernel
theorem dL_begin_1 : decode cL_begin 1 = .ok (.iload_n 1, 1) := by decide +kernel
theorem dL_begin_2 : decode cL_begin 2 = .ok (.iload_n 2, 1) := by decide +kernel
theorem dL_begin_3 : decode cL_begin 3 = .ok (.invokevirtual 7, 3) := by decide +kernel
theorem dL_begin_6 : decode cL_begin 6 = .ok (.goto 6, 3) := by decide +kernel
theorem dL_begin_9 : decode cL_begin 9 = .ok (.astore_n 3, 1) := by decide +kernel
theorem dL_begin_10 : decode cL_begin 10 = .ok (.iconst 1, 1) := by decide +kernel
theorem dL_begin_11 : decode cL_begin 11 = .ok (.ireturn, 1) := by decide +kernel
theorem dL_begin_12 : decode cL_begin 12 = .ok (.iconst 0, 1) := by decide +kernel
theorem dL_begin_13 : decode cL_begin 13 = .ok (.ireturn, 1) := by decide +kernel
set_option maxRecDepth 20000 in
theorem ggL_offer_X6_offer : GoodIn wsL_offer wsX6_offer := goodIn_ca (goodIn_ca (goodIn_r _ [7, 8, 9, 10, 11, 6, 12, 13, 14, 15, 16, 17, 18, 19, 20, 21, 22, 23, 24, 25, 26, 27, 28, 29, 30, 31, 32, 33, 34, 35, 36, 37, 38, 39, 40, 41, 42, 43, 44, 45, 46, 47, 48, 49, 50, 51, 52, 53, 54, 55, 56, 57, 58, 59, 60, 61, 62, 63, 64, 65, 66, 67, 68, 69, 70, 71, 72, 73, 74, 75, 76, 77, 78, 79, 80, 81, 82, 83, 84, 85, 86, 87, 88, 89, 90, 91, 92, 93, 94, 95, 96, 97, 98, 99, 100, 101, 102, 103, 104, 105, 106, 107, 108, 109, 110, 111, 112, 113, 114, 115, 116, 117, 118, 119, 120, 121, 122, 123, 124, 125, 126, 127, 128, 129, 130, 131, 132, 133, 134, 135, 136, 137, 138, 139, 140, 141, 142, 143, 144, 145, 146, 147, 148, 149, 150, 151, 152, 153, 154, 155, 156, 157, 158, 159, 160, 161, 162, 163, 164, 165, 166] (by decide +kernel) (by decide +kernel)) (goodIn_sub (fun _ h => List.mem_cons_of_mem _ (List.mem_append_left _ (List.mem_append_right _ h))) (by decide +kernel))) (goodIn_sub (fun _ h => List.mem_cons_of_mem _ (List.mem_append_right _ h)) (by decide +kernel))
set_option maxRecDepth 20000 in
theorem gL_offer_X6_offer : GoodIn wsL_offer (wsV RL 15 RX6 yX6_offer wsX6_offer) := goodIn_app (goodIn_of _ (by decide +kernel)) ggL_offer_X6_offer
theorem dL_offer_0 : decode cL_offer 0 = .ok (.aload 7, 2) := by decide +kernel
theorem dL_offer_2 : decode cL_offer 2 = .ok (.iconst 0, 1) := by decide +kernel
theorem dL_offer_3 : decode cL_offer 3 = .ok (.aload_n 0, 1) := by decide +kernel
theorem dL_offer_4 : decode cL_offer 4 = .ok (.iload_n 1, 1) := by decide +kernel
theorem dL_offer_5 : decode cL_offer 5 = .ok (.iload_n 2, 1) := by decide +kernel
theorem dL_offer_6 : decode cL_offer 6 = .ok (.iload_n 3, 1) := by decide +kernel
theorem dL_offer_7 : decode cL_offer 7 = .ok (.iload 4, 2) := by decide +kernel
theorem dL_offer_9 : decode cL_offer 9 = .ok (.iload 5, 2) := by decide +kernel
theorem dL_offer_11 : decode cL_offer 11 = .ok (.iload 6, 2) := by decide +kernel
theorem dL_offer_13 : decode cL_offer 13 = .ok (.invokevirtual 15, 3) := by decide +kernel
theorem dL_offer_16 : decode cL_offer 16 = .ok (.i2l, 1) := by decide +kernel
theorem dL_offer_17 : decode cL_offer 17 = .ok (.lastore, 1) := by decide +kernel
theorem dL_offer_18 : decode cL_offer 18 = .ok (.goto 11, 3) := by decide +kernel
theorem dL_offer_21 : decode cL_offer 21 = .ok (.astore 8, 2) := by decide +kernel
theorem dL_offer_23 : decode cL_offer 23 = .ok (.iconst 1, 1) := by decide +kernel
theorem dL_offer_24 : decode cL_offer 24 = .ok (.ireturn, 1) := by decide +kernel
theorem dL_offer_25 : decode cL_offer 25 = .ok (.astore 8, 2) := by decide +kernel
theorem dL_offer_27 : decode cL_offer 27 = .ok (.iconst 2, 1) := by decide +kernel
theorem dL_offer_28 : decode cL_offer 28 = .ok (.ireturn, 1) := by decide +kernel
theorem dL_offer_29 : decode cL_offer 29 = .ok (.iconst 0, 1) := by decide +kernel
theorem dL_offer_30 : decode cL_offer 30 = .ok (.ireturn, 1) := by decide +kernel
set_option maxRecDepth 20000 in
theorem ggL_clear_X6_clear : GoodIn wsL_clear wsX6_clear := goodIn_ca (goodIn_r _ [6, 7, 8, 5, 9, 10, 11, 12, 13, 14, 15, 16, 17, 18, 19, 20, 21, 22, 23, 24, 25, 26, 27, 28, 29, 30, 31, 32, 33, 34, 35, 36, 37, 38, 39, 40, 41, 42, 43, 44, 45, 46, 47, 48, 49, 50, 51, 52, 53, 54, 55, 56, 57, 58, 59, 60, 61, 62, 63, 64, 65, 66, 67, 68, 69, 70, 71, 72, 73, 74, 75, 76, 77, 78, 79, 80, 81, 82, 83, 84, 85, 86, 87, 88, 89, 90, 91, 92, 93, 94, 95, 96, 97, 98, 99, 100, 101, 102, 103, 104, 105, 106, 107, 108, 109] (by decide +kernel) (by decide +kernel)) (goodIn_sub (fun _ h => List.mem_cons_of_mem _ (List.mem_append_right _ h)) (by decide +kernel))
set_option maxRecDepth 20000 in
theorem gL_clear_X6_clear : GoodIn wsL_clear (wsV RL 21 RX6 yX6_clear wsX6_clear) := goodIn_app (goodIn_of _ (by decide +kernel)) ggL_clear_X6_clear
theorem dL_clear_0 : decode cL_clear 0 = .ok (.aload_n 2, 1) := by decide +kernel
theorem dL_clear_1 : decode cL_clear 1 = .ok (.iconst 0, 1) := by decide +kernel
theorem dL_clear_2 : decode cL_clear 2 = .ok (.aload_n 0, 1) := by decide +kernel
theorem dL_clear_3 : decode cL_clear 3 = .ok (.iload_n 1, 1) := by decide +kernel
theorem dL_clear_4 : decode cL_clear 4 = .ok (.invokevirtual 21, 3) := by decide +kernel
theorem dL_clear_7 : decode cL_clear 7 = .ok (.i2l, 1) := by decide +kernel
theorem dL_clear_8 : decode cL_clear 8 = .ok (.lastore, 1) := by decide +kernel
theorem dL_clear_9 : decode cL_clear 9 = .ok (.goto 6, 3) := by decide +kernel
theorem dL_clear_12 : decode cL_clear 12 = .ok (.astore_n 3, 1) := by decide +kernel
theorem dL_clear_13 : decode cL_clear 13 = .ok (.iconst 1, 1) := by decide +kernel
theorem dL_clear_14 : decode cL_clear 14 = .ok (.ireturn, 1) := by decide +kernel
theorem dL_clear_15 : decode cL_clear 15 = .ok (.iconst 0, 1) := by decide +kernel
theorem dL_clear_16 : decode cL_clear 16 = .ok (.ireturn, 1) := by decide +kernel
set_option maxRecDepth 20000 in
theorem ggL_offers_X6_offers : GoodIn wsL_offers wsX6_offers := goodIn_ca (goodIn_r _ [6, 7, 8, 9, 10, 5, 11, 12, 13, 14, 15, 16, 17, 18, 19, 20, 21, 22, 23, 24, 25, 26, 27, 28, 29, 30, 31, 32, 33] (by decide +kernel) (by decide +kernel)) (goodIn_sub (fun _ h => List.mem_cons_of_mem _ (List.mem_append_right _ h)) (by decide +kernel))
set_option maxRecDepth 20000 in
theorem gL_offers_X6_offers : GoodIn wsL_offers (wsV RL 25 RX6 yX6_offers wsX6_offers) := goodIn_app (goodIn_of _ (by decide +kernel)) ggL_offers_X6_offers
theorem dL_offers_0 : decode cL_offers 0 = .ok (.aload_n 2, 1) := by decide +kernel
theorem dL_offers_1 : decode cL_offers 1 = .ok (.iconst 0, 1) := by decide +kernel
theorem dL_offers_2 : decode cL_offers 2 = .ok (.aload_n 0, 1) := by decide +kernel
theorem dL_offers_3 : decode cL_offers 3 = .ok (.iload_n 1, 1) := by decide +kernel
theorem dL_offers_4 : decode cL_offers 4 = .ok (.invokevirtual 25, 3) := by decide +kernel
theorem dL_offers_7 : decode cL_offers 7 = .ok (.i2l, 1) := by decide +kernel
theorem dL_offers_8 : decode cL_offers 8 = .ok (.lastore, 1) := by decide +kernel
theorem dL_offers_9 : decode cL_offers 9 = .ok (.goto 6, 3) := by decide +kernel
theorem dL_offers_12 : decode cL_offers 12 = .ok (.astore_n 3, 1) := by decide +kernel
theorem dL_offers_13 : decode cL_offers 13 = .ok (.iconst 1, 1) := by decide +kernel
theorem dL_offers_14 : decode cL_offers 14 = .ok (.ireturn, 1) := by decide +kernel
theorem dL_offers_15 : decode cL_offers 15 = .ok (.iconst 0, 1) := by decide +kernel
theorem dL_offers_16 : decode cL_offers 16 = .ok (.ireturn, 1) := by decide +kernel
set_option maxRecDepth 20000 in
theorem ggL_exactWeight_X6_exactWeight : GoodIn wsL_exactWeight wsX6_exactWeight := goodIn_ca (goodIn_r _ [6, 7, 8, 9, 10, 5, 11, 12, 13, 14, 15, 16, 17, 18, 19, 20, 21, 22, 23, 24, 25, 26, 27, 28, 29, 30, 31, 32, 33, 34, 35, 36, 37, 38, 39, 40, 41, 42, 43, 44] (by decide +kernel) (by decide +kernel)) (goodIn_sub (fun _ h => List.mem_cons_of_mem _ (List.mem_append_right _ h)) (by decide +kernel))
set_option maxRecDepth 20000 in
theorem gL_exactWeight_X6_exactWeight : GoodIn wsL_exactWeight (wsV RL 28 RX6 yX6_exactWeight wsX6_exactWeight) := goodIn_app (goodIn_of _ (by decide +kernel)) ggL_exactWeight_X6_exactWeight
theorem dL_exactWeight_0 : decode cL_exactWeight 0 = .ok (.aload_n 3, 1) := by decide +kernel
theorem dL_exactWeight_1 : decode cL_exactWeight 1 = .ok (.iconst 0, 1) := by decide +kernel
theorem dL_exactWeight_2 : decode cL_exactWeight 2 = .ok (.aload_n 0, 1) := by decide +kernel
theorem dL_exactWeight_3 : decode cL_exactWeight 3 = .ok (.iload_n 1, 1) := by decide +kernel
theorem dL_exactWeight_4 : decode cL_exactWeight 4 = .ok (.iload_n 2, 1) := by decide +kernel
theorem dL_exactWeight_5 : decode cL_exactWeight 5 = .ok (.invokevirtual 28, 3) := by decide +kernel
theorem dL_exactWeight_8 : decode cL_exactWeight 8 = .ok (.i2l, 1) := by decide +kernel
theorem dL_exactWeight_9 : decode cL_exactWeight 9 = .ok (.lastore, 1) := by decide +kernel
theorem dL_exactWeight_10 : decode cL_exactWeight 10 = .ok (.goto 7, 3) := by decide +kernel
theorem dL_exactWeight_13 : decode cL_exactWeight 13 = .ok (.astore 4, 2) := by decide +kernel
theorem dL_exactWeight_15 : decode cL_exactWeight 15 = .ok (.iconst 1, 1) := by decide +kernel
theorem dL_exactWeight_16 : decode cL_exactWeight 16 = .ok (.ireturn, 1) := by decide +kernel
theorem dL_exactWeight_17 : decode cL_exactWeight 17 = .ok (.iconst 0, 1) := by decide +kernel
theorem dL_exactWeight_18 : decode cL_exactWeight 18 = .ok (.ireturn, 1) := by decide +kernel
set_option maxRecDepth 20000 in
theorem ggL_reservoirSize_X6_reservoirSize : GoodIn wsL_reservoirSize wsX6_reservoirSize := goodIn_ca (goodIn_r _ [6, 7, 8, 5, 9, 10, 11, 12, 13, 14, 15, 16, 17, 18, 19, 20, 21, 22, 23, 24, 25, 26, 27, 28, 29, 30, 31, 32, 33, 34, 35, 36, 37, 38, 39, 40, 41, 42, 43, 44, 45, 46, 47, 48] (by decide +kernel) (by decide +kernel)) (goodIn_sub (fun _ h => List.mem_cons_of_mem _ (List.mem_append_right _ h)) (by decide +kernel))
set_option maxRecDepth 20000 in
theorem gL_reservoirSize_X6_reservoirSize : GoodIn wsL_reservoirSize (wsV RL 32 RX6 yX6_reservoirSize wsX6_reservoirSize) := goodIn_app (goodIn_of _ (by decide +kernel)) ggL_reservoirSize_X6_reservoirSize
theorem dL_reservoirSize_0 : decode cL_reservoirSize 0 = .ok (.aload_n 2, 1) := by decide +kernel
theorem dL_reservoirSize_1 : decode cL_reservoirSize 1 = .ok (.iconst 0, 1) := by decide +kernel
theorem dL_reservoirSize_2 : decode cL_reservoirSize 2 = .ok (.aload_n 0, 1) := by decide +kernel
theorem dL_reservoirSize_3 : decode cL_reservoirSize 3 = .ok (.iload_n 1, 1) := by decide +kernel
theorem dL_reservoirSize_4 : decode cL_reservoirSize 4 = .ok (.invokevirtual 32, 3) := by decide +kernel
theorem dL_reservoirSize_7 : decode cL_reservoirSize 7 = .ok (.i2l, 1) := by decide +kernel
theorem dL_reservoirSize_8 : decode cL_reservoirSize 8 = .ok (.lastore, 1) := by decide +kernel
theorem dL_reservoirSize_9 : decode cL_reservoirSize 9 = .ok (.goto 6, 3) := by decide +kernel
theorem dL_reservoirSize_12 : decode cL_reservoirSize 12 = .ok (.astore_n 3, 1) := by decide +kernel
theorem dL_reservoirSize_13 : decode cL_reservoirSize 13 = .ok (.iconst 1, 1) := by decide +kernel
theorem dL_reservoirSize_14 : decode cL_reservoirSize 14 = .ok (.ireturn, 1) := by decide +kernel
theorem dL_reservoirSize_15 : decode cL_reservoirSize 15 = .ok (.iconst 0, 1) := by decide +kernel
theorem dL_reservoirSize_16 : decode cL_reservoirSize 16 = .ok (.ireturn, 1) := by decide +kernel
set_option maxRecDepth 20000 in
theorem ggL_reservoirItem_X6_reservoirItem : GoodIn wsL_reservoirItem wsX6_reservoirItem := goodIn_ca (goodIn_ca (goodIn_r _ [7, 8, 9, 6, 10, 11, 12, 13, 14, 15, 16, 17, 18, 19, 20, 21, 22, 23, 24, 25, 26, 27, 28, 29, 30, 31, 32, 33, 34, 35, 36, 37, 38, 39, 40, 41, 42, 43, 44, 45, 46, 47, 48, 49, 50, 51, 52, 53, 54, 55, 56, 57] (by decide +kernel) (by decide +kernel)) (goodIn_sub (fun _ h => List.mem_cons_of_mem _ (List.mem_append_left _ (List.mem_append_right _ h))) (by decide +kernel))) (goodIn_sub (fun _ h => List.mem_cons_of_mem _ (List.mem_append_right _ h)) (by decide +kernel))
set_option maxRecDepth 20000 in
theorem gL_reservoirItem_X6_reservoirItem : GoodIn wsL_reservoirItem (wsV RL 35 RX6 yX6_reservoirItem wsX6_reservoirItem) := goodIn_app (goodIn_of _ (by decide +kernel)) ggL_reservoirItem_X6_reservoirItem
theorem dL_reservoirItem_0 : decode cL_reservoirItem 0 = .ok (.aload_n 3, 1) := by decide +kernel
theorem dL_reservoirItem_1 : decode cL_reservoirItem 1 = .ok (.iconst 0, 1) := by decide +kernel
theorem dL_reservoirItem_2 : decode cL_reservoirItem 2 = .ok (.aload_n 0, 1) := by decide +kernel
theorem dL_reservoirItem_3 : decode cL_reservoirItem 3 = .ok (.iload_n 1, 1) := by decide +kernel
theorem dL_reservoirItem_4 : decode cL_reservoirItem 4 = .ok (.iload_n 2, 1) := by decide +kernel
theorem dL_reservoirItem_5 : decode cL_reservoirItem 5 = .ok (.invokevirtual 35, 3) := by decide +kernel
theorem dL_reservoirItem_8 : decode cL_reservoirItem 8 = .ok (.i2l, 1) := by decide +kernel
theorem dL_reservoirItem_9 : decode cL_reservoirItem 9 = .ok (.lastore, 1) := by decide +kernel
theorem dL_reservoirItem_10 : decode cL_reservoirItem 10 = .ok (.goto 11, 3) := by decide +kernel
theorem dL_reservoirItem_13 : decode cL_reservoirItem 13 = .ok (.astore 4, 2) := by decide +kernel
theorem dL_reservoirItem_15 : decode cL_reservoirItem 15 = .ok (.iconst 1, 1) := by decide +kernel
theorem dL_reservoirItem_16 : decode cL_reservoirItem 16 = .ok (.ireturn, 1) := by decide +kernel
theorem dL_reservoirItem_17 : decode cL_reservoirItem 17 = .ok (.astore 4, 2) := by decide +kernel
theorem dL_reservoirItem_19 : decode cL_reservoirItem 19 = .ok (.iconst 2, 1) := by decide +kernel
theorem dL_reservoirItem_20 : decode cL_reservoirItem 20 = .ok (.ireturn, 1) := by decide +kernel
theorem dL_reservoirItem_21 : decode cL_reservoirItem 21 = .ok (.iconst 0, 1) := by decide +kernel
theorem dL_reservoirItem_22 : decode cL_reservoirItem 22 = .ok (.ireturn, 1) := by decide +kernel
set_option maxRecDepth 20000 in
theorem ggL_reservoirPosition_X6_reservoirPosition : GoodIn wsL_reservoirPosition wsX6_reservoirPosition := goodIn_ca (goodIn_ca (goodIn_r _ [7, 8, 9, 6, 10, 11, 12, 13, 14, 15, 16, 17, 18, 19, 20, 21, 22, 23, 24, 25, 26, 27, 28, 29, 30, 31, 32, 33, 34, 35, 36, 37, 38, 39, 40, 41, 42, 43, 44, 45, 46, 47, 48, 49, 50, 51, 52, 53, 54, 55, 56, 57] (by decide +kernel) (by decide +kernel)) (goodIn_sub (fun _ h => List.mem_cons_of_mem _ (List.mem_append_left _ (List.mem_append_right _ h))) (by decide +kernel))) (goodIn_sub (fun _ h => List.mem_cons_of_mem _ (List.mem_append_right _ h)) (by decide +kernel))
set_option maxRecDepth 20000 in
theorem gL_reservoirPosition_X6_reservoirPosition : GoodIn wsL_reservoirPosition (wsV RL 40 RX6 yX6_reservoirPosition wsX6_reservoirPosition) := goodIn_app (goodIn_of _ (by decide +kernel)) ggL_reservoirPosition_X6_reservoirPosition
theorem dL_reservoirPosition_0 : decode cL_reservoirPosition 0 = .ok (.aload_n 3, 1) := by decide +kernel
theorem dL_reservoirPosition_1 : decode cL_reservoirPosition 1 = .ok (.iconst 0, 1) := by decide +kernel
theorem dL_reservoirPosition_2 : decode cL_reservoirPosition 2 = .ok (.aload_n 0, 1) := by decide +kernel
theorem dL_reservoirPosition_3 : decode cL_reservoirPosition 3 = .ok (.iload_n 1, 1) := by decide +kernel
theorem dL_reservoirPosition_4 : decode cL_reservoirPosition 4 = .ok (.iload_n 2, 1) := by decide +kernel
theorem dL_reservoirPosition_5 : decode cL_reservoirPosition 5 = .ok (.invokevirtual 40, 3) := by decide +kernel
theorem dL_reservoirPosition_8 : decode cL_reservoirPosition 8 = .ok (.i2l, 1) := by decide +kernel
theorem dL_reservoirPosition_9 : decode cL_reservoirPosition 9 = .ok (.lastore, 1) := by decide +kernel
theorem dL_reservoirPosition_10 : decode cL_reservoirPosition 10 = .ok (.goto 11, 3) := by decide +kernel
theorem dL_reservoirPosition_13 : decode cL_reservoirPosition 13 = .ok (.astore 4, 2) := by decide +kernel
theorem dL_reservoirPosition_15 : decode cL_reservoirPosition 15 = .ok (.iconst 1, 1) := by decide +kernel
theorem dL_reservoirPosition_16 : decode cL_reservoirPosition 16 = .ok (.ireturn, 1) := by decide +kernel
theorem dL_reservoirPosition_17 : decode cL_reservoirPosition 17 = .ok (.astore 4, 2) := by decide +kernel
theorem dL_reservoirPosition_19 : decode cL_reservoirPosition 19 = .ok (.iconst 2, 1) := by decide +kernel
theorem dL_reservoirPosition_20 : decode cL_reservoirPosition 20 = .ok (.ireturn, 1) := by decide +kernel
theorem dL_reservoirPosition_21 : decode cL_reservoirPosition 21 = .ok (.iconst 0, 1) := by decide +kernel
theorem dL_reservoirPosition_22 : decode cL_reservoirPosition 22 = .ok (.ireturn, 1) := by decide +kernel
set_option maxRecDepth 20000 in
theorem ggL_groupOffers_X6_groupOffers : GoodIn wsL_groupOffers wsX6_groupOffers := goodIn_ca (goodIn_r _ [6, 7, 8, 5, 9, 10, 11, 12, 13, 14, 15, 16, 17, 18, 19, 20, 21, 22, 23, 24, 25, 26, 27, 28, 29, 30, 31, 32, 33, 34, 35, 36, 37, 38, 39, 40, 41, 42, 43, 44, 45, 46, 47, 48] (by decide +kernel) (by decide +kernel)) (goodIn_sub (fun _ h => List.mem_cons_of_mem _ (List.mem_append_right _ h)) (by decide +kernel))
set_option maxRecDepth 20000 in
theorem gL_groupOffers_X6_groupOffers : GoodIn wsL_groupOffers (wsV RL 43 RX6 yX6_groupOffers wsX6_groupOffers) := goodIn_app (goodIn_of _ (by decide +kernel)) ggL_groupOffers_X6_groupOffers
theorem dL_groupOffers_0 : decode cL_groupOffers 0 = .ok (.aload_n 3, 1) := by decide +kernel
theorem dL_groupOffers_1 : decode cL_groupOffers 1 = .ok (.iconst 0, 1) := by decide +kernel
theorem dL_groupOffers_2 : decode cL_groupOffers 2 = .ok (.aload_n 0, 1) := by decide +kernel
theorem dL_groupOffers_3 : decode cL_groupOffers 3 = .ok (.iload_n 1, 1) := by decide +kernel
theorem dL_groupOffers_4 : decode cL_groupOffers 4 = .ok (.iload_n 2, 1) := by decide +kernel
theorem dL_groupOffers_5 : decode cL_groupOffers 5 = .ok (.invokevirtual 43, 3) := by decide +kernel
theorem dL_groupOffers_8 : decode cL_groupOffers 8 = .ok (.i2l, 1) := by decide +kernel
theorem dL_groupOffers_9 : decode cL_groupOffers 9 = .ok (.lastore, 1) := by decide +kernel
theorem dL_groupOffers_10 : decode cL_groupOffers 10 = .ok (.goto 7, 3) := by decide +kernel
theorem dL_groupOffers_13 : decode cL_groupOffers 13 = .ok (.astore 4, 2) := by decide +kernel
theorem dL_groupOffers_15 : decode cL_groupOffers 15 = .ok (.iconst 1, 1) := by decide +kernel
theorem dL_groupOffers_16 : decode cL_groupOffers 16 = .ok (.ireturn, 1) := by decide +kernel
theorem dL_groupOffers_17 : decode cL_groupOffers 17 = .ok (.iconst 0, 1) := by decide +kernel
theorem dL_groupOffers_18 : decode cL_groupOffers 18 = .ok (.ireturn, 1) := by decide +kernel
set_option maxRecDepth 20000 in
theorem ggL_groupItem_X6_groupItem : GoodIn wsL_groupItem wsX6_groupItem := goodIn_ca (goodIn_ca (goodIn_r _ [7, 8, 9, 6, 10, 11, 12, 13, 14, 15, 16, 17, 18, 19, 20, 21, 22, 23, 24, 25, 26, 27, 28, 29, 30, 31, 32, 33, 34, 35, 36, 37, 38, 39, 40, 41, 42, 43, 44, 45, 46, 47, 48, 49, 50, 51, 52, 53, 54, 55, 56, 57, 58, 59, 60, 61, 62, 63, 64, 65, 66, 67, 68] (by decide +kernel) (by decide +kernel)) (goodIn_sub (fun _ h => List.mem_cons_of_mem _ (List.mem_append_left _ (List.mem_append_right _ h))) (by decide +kernel))) (goodIn_sub (fun _ h => List.mem_cons_of_mem _ (List.mem_append_right _ h)) (by decide +kernel))
set_option maxRecDepth 20000 in
theorem gL_groupItem_X6_groupItem : GoodIn wsL_groupItem (wsV RL 46 RX6 yX6_groupItem wsX6_groupItem) := goodIn_app (goodIn_of _ (by decide +kernel)) ggL_groupItem_X6_groupItem
theorem dL_groupItem_0 : decode cL_groupItem 0 = .ok (.aload 4, 2) := by decide +kernel
theorem dL_groupItem_2 : decode cL_groupItem 2 = .ok (.iconst 0, 1) := by decide +kernel
theorem dL_groupItem_3 : decode cL_groupItem 3 = .ok (.aload_n 0, 1) := by decide +kernel
theorem dL_groupItem_4 : decode cL_groupItem 4 = .ok (.iload_n 1, 1) := by decide +kernel
theorem dL_groupItem_5 : decode cL_groupItem 5 = .ok (.iload_n 2, 1) := by decide +kernel
theorem dL_groupItem_6 : decode cL_groupItem 6 = .ok (.iload_n 3, 1) := by decide +kernel
theorem dL_groupItem_7 : decode cL_groupItem 7 = .ok (.invokevirtual 46, 3) := by decide +kernel
theorem dL_groupItem_10 : decode cL_groupItem 10 = .ok (.i2l, 1) := by decide +kernel
theorem dL_groupItem_11 : decode cL_groupItem 11 = .ok (.lastore, 1) := by decide +kernel
theorem dL_groupItem_12 : decode cL_groupItem 12 = .ok (.goto 11, 3) := by decide +kernel
theorem dL_groupItem_15 : decode cL_groupItem 15 = .ok (.astore 5, 2) := by decide +kernel
theorem dL_groupItem_17 : decode cL_groupItem 17 = .ok (.iconst 1, 1) := by decide +kernel
theorem dL_groupItem_18 : decode cL_groupItem 18 = .ok (.ireturn, 1) := by decide +kernel
theorem dL_groupItem_19 : decode cL_groupItem 19 = .ok (.astore 5, 2) := by decide +kernel
theorem dL_groupItem_21 : decode cL_groupItem 21 = .ok (.iconst 2, 1) := by decide +kernel
theorem dL_groupItem_22 : decode cL_groupItem 22 = .ok (.ireturn, 1) := by decide +kernel
theorem dL_groupItem_23 : decode cL_groupItem 23 = .ok (.iconst 0, 1) := by decide +kernel
theorem dL_groupItem_24 : decode cL_groupItem 24 = .ok (.ireturn, 1) := by decide +kernel
set_option maxRecDepth 20000 in
theorem ggL_prioritySize_X6_prioritySize : GoodIn wsL_prioritySize wsX6_prioritySize := goodIn_ca (goodIn_r _ [6, 7, 8, 5, 9, 10, 11, 12, 13, 14, 15, 16, 17, 18, 19, 20, 21, 22, 23, 24, 25, 26, 27, 28, 29, 30, 31, 32, 33, 34, 35, 36, 37, 38, 39, 40, 41, 42, 43, 44, 45, 46, 47, 48, 49, 50, 51, 52, 53, 54, 55, 56, 57, 58, 59, 60, 61, 62, 63, 64, 65, 66, 67, 68, 69, 70, 71, 72, 73, 74, 75, 76, 77, 78, 79, 80, 81, 82, 83, 84, 85, 86, 87, 88] (by decide +kernel) (by decide +kernel)) (goodIn_sub (fun _ h => List.mem_cons_of_mem _ (List.mem_append_right _ h)) (by decide +kernel))
set_option maxRecDepth 20000 in
theorem gL_prioritySize_X6_prioritySize : GoodIn wsL_prioritySize (wsV RL 50 RX6 yX6_prioritySize wsX6_prioritySize) := goodIn_app (goodIn_of _ (by decide +kernel)) ggL_prioritySize_X6_prioritySize
theorem dL_prioritySize_0 : decode cL_prioritySize 0 = .ok (.aload_n 2, 1) := by decide +kernel
theorem dL_prioritySize_1 : decode cL_prioritySize 1 = .ok (.iconst 0, 1) := by decide +kernel
theorem dL_prioritySize_2 : decode cL_prioritySize 2 = .ok (.aload_n 0, 1) := by decide +kernel
theorem dL_prioritySize_3 : decode cL_prioritySize 3 = .ok (.iload_n 1, 1) := by decide +kernel
theorem dL_prioritySize_4 : decode cL_prioritySize 4 = .ok (.invokevirtual 50, 3) := by decide +kernel
theorem dL_prioritySize_7 : decode cL_prioritySize 7 = .ok (.i2l, 1) := by decide +kernel
theorem dL_prioritySize_8 : decode cL_prioritySize 8 = .ok (.lastore, 1) := by decide +kernel
theorem dL_prioritySize_9 : decode cL_prioritySize 9 = .ok (.goto 6, 3) := by decide +kernel
theorem dL_prioritySize_12 : decode cL_prioritySize 12 = .ok (.astore_n 3, 1) := by decide +kernel
theorem dL_prioritySize_13 : decode cL_prioritySize 13 = .ok (.iconst 1, 1) := by decide +kernel
theorem dL_prioritySize_14 : decode cL_prioritySize 14 = .ok (.ireturn, 1) := by decide +kernel
theorem dL_prioritySize_15 : decode cL_prioritySize 15 = .ok (.iconst 0, 1) := by decide +kernel
theorem dL_prioritySize_16 : decode cL_prioritySize 16 = .ok (.ireturn, 1) := by decide +kernel
set_option maxRecDepth 20000 in
theorem ggL_priorityItem_X6_priorityItem : GoodIn wsL_priorityItem wsX6_priorityItem := goodIn_ca (goodIn_ca (goodIn_r _ [7, 8, 9, 6, 10, 11, 12, 13, 14, 15, 16, 17, 18, 19, 20, 21, 22, 23, 24, 25, 26, 27, 28, 29, 30, 31, 32, 33, 34, 35, 36, 37, 38, 39, 40, 41, 42, 43, 44, 45, 46, 47, 48, 49, 50, 51, 52, 53, 54, 55, 56, 57, 58, 59, 60, 61, 62, 63, 64, 65, 66, 67, 68, 69, 70, 71, 72, 73, 74, 75, 76, 77, 78, 79, 80, 81, 82, 83, 84, 85, 86, 87, 88, 89, 90, 91, 92, 93, 94] (by decide +kernel) (by decide +kernel)) (goodIn_sub (fun _ h => List.mem_cons_of_mem _ (List.mem_append_left _ (List.mem_append_right _ h))) (by decide +kernel))) (goodIn_sub (fun _ h => List.mem_cons_of_mem _ (List.mem_append_right _ h)) (by decide +kernel))
set_option maxRecDepth 20000 in
theorem gL_priorityItem_X6_priorityItem : GoodIn wsL_priorityItem (wsV RL 53 RX6 yX6_priorityItem wsX6_priorityItem) := goodIn_app (goodIn_of _ (by decide +kernel)) ggL_priorityItem_X6_priorityItem
theorem dL_priorityItem_0 : decode cL_priorityItem 0 = .ok (.aload_n 3, 1) := by decide +kernel
theorem dL_priorityItem_1 : decode cL_priorityItem 1 = .ok (.iconst 0, 1) := by decide +kernel
theorem dL_priorityItem_2 : decode cL_priorityItem 2 = .ok (.aload_n 0, 1) := by decide +kernel
theorem dL_priorityItem_3 : decode cL_priorityItem 3 = .ok (.iload_n 1, 1) := by decide +kernel
theorem dL_priorityItem_4 : decode cL_priorityItem 4 = .ok (.iload_n 2, 1) := by decide +kernel
theorem dL_priorityItem_5 : decode cL_priorityItem 5 = .ok (.invokevirtual 53, 3) := by decide +kernel
theorem dL_priorityItem_8 : decode cL_priorityItem 8 = .ok (.i2l, 1) := by decide +kernel
theorem dL_priorityItem_9 : decode cL_priorityItem 9 = .ok (.lastore, 1) := by decide +kernel
theorem dL_priorityItem_10 : decode cL_priorityItem 10 = .ok (.goto 11, 3) := by decide +kernel
theorem dL_priorityItem_13 : decode cL_priorityItem 13 = .ok (.astore 4, 2) := by decide +kernel
theorem dL_priorityItem_15 : decode cL_priorityItem 15 = .ok (.iconst 1, 1) := by decide +kernel
theorem dL_priorityItem_16 : decode cL_priorityItem 16 = .ok (.ireturn, 1) := by decide +kernel
theorem dL_priorityItem_17 : decode cL_priorityItem 17 = .ok (.astore 4, 2) := by decide +kernel
theorem dL_priorityItem_19 : decode cL_priorityItem 19 = .ok (.iconst 2, 1) := by decide +kernel
theorem dL_priorityItem_20 : decode cL_priorityItem 20 = .ok (.ireturn, 1) := by decide +kernel
theorem dL_priorityItem_21 : decode cL_priorityItem 21 = .ok (.iconst 0, 1) := by decide +kernel
