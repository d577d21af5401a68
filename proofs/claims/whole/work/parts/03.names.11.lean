theorem dX7_begin_8 : decode cX7_begin 8 = .ok (.ifCond .eq 17, 3) := by decide +kernel
theorem dX7_begin_11 : decode cX7_begin 11 = .ok (.iload_n 2, 1) := by decide +kernel
theorem dX7_begin_12 : decode cX7_begin 12 = .ok (.iconst 1, 1) := by decide +kernel
theorem dX7_begin_13 : decode cX7_begin 13 = .ok (.bipush 64, 2) := by decide +kernel
theorem dX7_begin_15 : decode cX7_begin 15 = .ok (.invokestatic 45, 3) := by decide +kernel
theorem dX7_begin_18 : decode cX7_begin 18 = .ok (.ifCond .eq 7, 3) := by decide +kernel
theorem dX7_begin_21 : decode cX7_begin 21 = .ok (.iconst 0, 1) := by decide +kernel
theorem dX7_begin_22 : decode cX7_begin 22 = .ok (.goto 4, 3) := by decide +kernel
theorem dX7_begin_25 : decode cX7_begin 25 = .ok (.iconst 1, 1) := by decide +kernel
theorem dX7_begin_26 : decode cX7_begin 26 = .ok (.invokevirtual 49, 3) := by decide +kernel
theorem dX7_begin_29 : decode cX7_begin 29 = .ok (.ifCond .ne 27, 3) := by decide +kernel
theorem dX7_begin_32 : decode cX7_begin 32 = .ok (.aload_n 0, 1) := by decide +kernel
theorem dX7_begin_33 : decode cX7_begin 33 = .ok (.iload_n 1, 1) := by decide +kernel
theorem dX7_begin_34 : decode cX7_begin 34 = .ok (.putfield 7, 3) := by decide +kernel
theorem dX7_begin_37 : decode cX7_begin 37 = .ok (.aload_n 0, 1) := by decide +kernel
theorem dX7_begin_38 : decode cX7_begin 38 = .ok (.iload_n 2, 1) := by decide +kernel
theorem dX7_begin_39 : decode cX7_begin 39 = .ok (.putfield 13, 3) := by decide +kernel
theorem dX7_begin_42 : decode cX7_begin 42 = .ok (.aload_n 0, 1) := by decide +kernel
theorem dX7_begin_43 : decode cX7_begin 43 = .ok (.getfield 16, 3) := by decide +kernel
theorem dX7_begin_46 : decode cX7_begin 46 = .ok (.iconst 0, 1) := by decide +kernel
theorem dX7_begin_47 : decode cX7_begin 47 = .ok (.iconst 0, 1) := by decide +kernel
theorem dX7_begin_48 : decode cX7_begin 48 = .ok (.iastore, 1) := by decide +kernel
theorem dX7_begin_49 : decode cX7_begin 49 = .ok (.aload_n 0, 1) := by decide +kernel
theorem dX7_begin_50 : decode cX7_begin 50 = .ok (.getfield 16, 3) := by decide +kernel
theorem dX7_begin_53 : decode cX7_begin 53 = .ok (.iconst 1, 1) := by decide +kernel
theorem dX7_begin_54 : decode cX7_begin 54 = .ok (.iconst 0, 1) := by decide +kernel
theorem dX7_begin_55 : decode cX7_begin 55 = .ok (.iastore, 1) := by decide +kernel
theorem dX7_begin_56 : decode cX7_begin 56 = .ok (.return_, 1) := by decide +kernel
set_option maxRecDepth 20000 in
theorem ggX7_offer_X7_in : GoodIn wsX7_offer wsX7_in := goodIn_r _ [11] (by decide +kernel) (by decide +kernel)
set_option maxRecDepth 20000 in
theorem gX7_offer_X7_in : GoodIn wsX7_offer (va_wsS RX7 45 yX7_in wsX7_in) := goodIn_app (goodIn_of _ (by decide +kernel)) ggX7_offer_X7_in
set_option maxRecDepth 20000 in
theorem ggX7_offer_X7_refused : GoodIn wsX7_offer wsX7_refused := goodIn_r _ [15, 16, 17, 18, 19, 20, 21, 22, 23, 24, 25, 26, 27, 28, 29] (by decide +kernel) (by decide +kernel)
set_option maxRecDepth 20000 in
theorem gX7_offer_X7_refused : GoodIn wsX7_offer (wsV RX7 49 RX7 yX7_refused wsX7_refused) := goodIn_app (goodIn_of _ (by decide +kernel)) ggX7_offer_X7_refused
theorem dX7_offer_0 : decode cX7_offer 0 = .ok (.iload_n 1, 1) := by decide +kernel
theorem dX7_offer_1 : decode cX7_offer 1 = .ok (.iconst 0, 1) := by decide +kernel
theorem dX7_offer_2 : decode cX7_offer 2 = .ok (.iconst 1, 1) := by decide +kernel
theorem dX7_offer_3 : decode cX7_offer 3 = .ok (.invokestatic 45, 3) := by decide +kernel
theorem dX7_offer_6 : decode cX7_offer 6 = .ok (.ifCond .eq 47, 3) := by decide +kernel
theorem dX7_offer_9 : decode cX7_offer 9 = .ok (.iload_n 2, 1) := by decide +kernel
theorem dX7_offer_10 : decode cX7_offer 10 = .ok (.iconst 0, 1) := by decide +kernel
theorem dX7_offer_11 : decode cX7_offer 11 = .ok (.ldc 53, 2) := by decide +kernel
theorem dX7_offer_13 : decode cX7_offer 13 = .ok (.invokestatic 45, 3) := by decide +kernel
theorem dX7_offer_16 : decode cX7_offer 16 = .ok (.ifCond .eq 37, 3) := by decide +kernel
theorem dX7_offer_19 : decode cX7_offer 19 = .ok (.iload_n 3, 1) := by decide +kernel
theorem dX7_offer_20 : decode cX7_offer 20 = .ok (.iconst 1, 1) := by decide +kernel
theorem dX7_offer_21 : decode cX7_offer 21 = .ok (.ldc 53, 2) := by decide +kernel
theorem dX7_offer_23 : decode cX7_offer 23 = .ok (.invokestatic 45, 3) := by decide +kernel
theorem dX7_offer_26 : decode cX7_offer 26 = .ok (.ifCond .eq 27, 3) := by decide +kernel
theorem dX7_offer_29 : decode cX7_offer 29 = .ok (.iload 4, 2) := by decide +kernel
theorem dX7_offer_31 : decode cX7_offer 31 = .ok (.iconst 0, 1) := by decide +kernel
theorem dX7_offer_32 : decode cX7_offer 32 = .ok (.iconst 3, 1) := by decide +kernel
theorem dX7_offer_33 : decode cX7_offer 33 = .ok (.invokestatic 45, 3) := by decide +kernel
theorem dX7_offer_36 : decode cX7_offer 36 = .ok (.ifCond .eq 17, 3) := by decide +kernel
theorem dX7_offer_39 : decode cX7_offer 39 = .ok (.iload 5, 2) := by decide +kernel
theorem dX7_offer_41 : decode cX7_offer 41 = .ok (.ifCond .lt 12, 3) := by decide +kernel
theorem dX7_offer_44 : decode cX7_offer 44 = .ok (.iload 6, 2) := by decide +kernel
theorem dX7_offer_46 : decode cX7_offer 46 = .ok (.ifCond .lt 7, 3) := by decide +kernel
theorem dX7_offer_49 : decode cX7_offer 49 = .ok (.iconst 1, 1) := by decide +kernel
theorem dX7_offer_50 : decode cX7_offer 50 = .ok (.goto 4, 3) := by decide +kernel
theorem dX7_offer_53 : decode cX7_offer 53 = .ok (.iconst 0, 1) := by decide +kernel
theorem dX7_offer_54 : decode cX7_offer 54 = .ok (.istore 7, 2) := by decide +kernel
theorem dX7_offer_56 : decode cX7_offer 56 = .ok (.aload_n 0, 1) := by decide +kernel
theorem dX7_offer_57 : decode cX7_offer 57 = .ok (.iload 7, 2) := by decide +kernel
theorem dX7_offer_59 : decode cX7_offer 59 = .ok (.ifCond .ne 7, 3) := by decide +kernel
theorem dX7_offer_62 : decode cX7_offer 62 = .ok (.iconst 1, 1) := by decide +kernel
theorem dX7_offer_63 : decode cX7_offer 63 = .ok (.goto 20, 3) := by decide +kernel
theorem dX7_offer_66 : decode cX7_offer 66 = .ok (.aload_n 0, 1) := by decide +kernel
theorem dX7_offer_67 : decode cX7_offer 67 = .ok (.getfield 16, 3) := by decide +kernel
theorem dX7_offer_70 : decode cX7_offer 70 = .ok (.iload_n 1, 1) := by decide +kernel
theorem dX7_offer_71 : decode cX7_offer 71 = .ok (.iaload, 1) := by decide +kernel
theorem dX7_offer_72 : decode cX7_offer 72 = .ok (.sipush 300, 3) := by decide +kernel
theorem dX7_offer_75 : decode cX7_offer 75 = .ok (.if_icmp .ne 7, 3) := by decide +kernel
theorem dX7_offer_78 : decode cX7_offer 78 = .ok (.iconst 2, 1) := by decide +kernel
theorem dX7_offer_79 : decode cX7_offer 79 = .ok (.goto 4, 3) := by decide +kernel
theorem dX7_offer_82 : decode cX7_offer 82 = .ok (.iconst 0, 1) := by decide +kernel
theorem dX7_offer_83 : decode cX7_offer 83 = .ok (.invokevirtual 49, 3) := by decide +kernel
theorem dX7_offer_86 : decode cX7_offer 86 = .ok (.ifCond .eq 5, 3) := by decide +kernel
theorem dX7_offer_89 : decode cX7_offer 89 = .ok (.iconst 0, 1) := by decide +kernel
theorem dX7_offer_90 : decode cX7_offer 90 = .ok (.ireturn, 1) := by decide +kernel
theorem dX7_offer_91 : decode cX7_offer 91 = .ok (.sipush 300, 3) := by decide +kernel
theorem dX7_offer_94 : decode cX7_offer 94 = .ok (.iload_n 1, 1) := by decide +kernel
theorem dX7_offer_95 : decode cX7_offer 95 = .ok (.imul, 1) := by decide +kernel
theorem dX7_offer_96 : decode cX7_offer 96 = .ok (.aload_n 0, 1) := by decide +kernel
theorem dX7_offer_97 : decode cX7_offer 97 = .ok (.getfield 16, 3) := by decide +kernel
theorem dX7_offer_100 : decode cX7_offer 100 = .ok (.iload_n 1, 1) := by decide +kernel
theorem dX7_offer_101 : decode cX7_offer 101 = .ok (.iaload, 1) := by decide +kernel
theorem dX7_offer_102 : decode cX7_offer 102 = .ok (.iadd, 1) := by decide +kernel
theorem dX7_offer_103 : decode cX7_offer 103 = .ok (.istore 8, 2) := by decide +kernel
theorem dX7_offer_105 : decode cX7_offer 105 = .ok (.aload_n 0, 1) := by decide +kernel
theorem dX7_offer_106 : decode cX7_offer 106 = .ok (.getfield 20, 3) := by decide +kernel
theorem dX7_offer_109 : decode cX7_offer 109 = .ok (.iload 8, 2) := by decide +kernel
theorem dX7_offer_111 : decode cX7_offer 111 = .ok (.iload_n 2, 1) := by decide +kernel
theorem dX7_offer_112 : decode cX7_offer 112 = .ok (.iastore, 1) := by decide +kernel
theorem dX7_offer_113 : decode cX7_offer 113 = .ok (.aload_n 0, 1) := by decide +kernel
theorem dX7_offer_114 : decode cX7_offer 114 = .ok (.getfield 23, 3) := by decide +kernel
theorem dX7_offer_117 : decode cX7_offer 117 = .ok (.iload 8, 2) := by decide +kernel
theorem dX7_offer_119 : decode cX7_offer 119 = .ok (.iload_n 3, 1) := by decide +kernel
theorem dX7_offer_120 : decode cX7_offer 120 = .ok (.iastore, 1) := by decide +kernel
theorem dX7_offer_121 : decode cX7_offer 121 = .ok (.aload_n 0, 1) := by decide +kernel
theorem dX7_offer_122 : decode cX7_offer 122 = .ok (.getfield 26, 3) := by decide +kernel
theorem dX7_offer_125 : decode cX7_offer 125 = .ok (.iload 8, 2) := by decide +kernel
theorem dX7_offer_127 : decode cX7_offer 127 = .ok (.iload 4, 2) := by decide +kernel
theorem dX7_offer_129 : decode cX7_offer 129 = .ok (.iastore, 1) := by decide +kernel
theorem dX7_offer_130 : decode cX7_offer 130 = .ok (.aload_n 0, 1) := by decide +kernel
theorem dX7_offer_131 : decode cX7_offer 131 = .ok (.getfield 29, 3) := by decide +kernel
theorem dX7_offer_134 : decode cX7_offer 134 = .ok (.iload 8, 2) := by decide +kernel
theorem dX7_offer_136 : decode cX7_offer 136 = .ok (.iload 5, 2) := by decide +kernel
theorem dX7_offer_138 : decode cX7_offer 138 = .ok (.iastore, 1) := by decide +kernel
theorem dX7_offer_139 : decode cX7_offer 139 = .ok (.aload_n 0, 1) := by decide +kernel
theorem dX7_offer_140 : decode cX7_offer 140 = .ok (.getfield 32, 3) := by decide +kernel
theorem dX7_offer_143 : decode cX7_offer 143 = .ok (.iload 8, 2) := by decide +kernel
theorem dX7_offer_145 : decode cX7_offer 145 = .ok (.iload 6, 2) := by decide +kernel
theorem dX7_offer_147 : decode cX7_offer 147 = .ok (.iastore, 1) := by decide +kernel
theorem dX7_offer_148 : decode cX7_offer 148 = .ok (.aload_n 0, 1) := by decide +kernel
theorem dX7_offer_149 : decode cX7_offer 149 = .ok (.getfield 16, 3) := by decide +kernel
theorem dX7_offer_152 : decode cX7_offer 152 = .ok (.iload_n 1, 1) := by decide +kernel
theorem dX7_offer_153 : decode cX7_offer 153 = .ok (.dup2, 1) := by decide +kernel
theorem dX7_offer_154 : decode cX7_offer 154 = .ok (.iaload, 1) := by decide +kernel
theorem dX7_offer_155 : decode cX7_offer 155 = .ok (.iconst 1, 1) := by decide +kernel
theorem dX7_offer_156 : decode cX7_offer 156 = .ok (.iadd, 1) := by decide +kernel
theorem dX7_offer_157 : decode cX7_offer 157 = .ok (.iastore, 1) := by decide +kernel
theorem dX7_offer_158 : decode cX7_offer 158 = .ok (.aload_n 0, 1) := by decide +kernel
theorem dX7_offer_159 : decode cX7_offer 159 = .ok (.getfield 16, 3) := by decide +kernel
theorem dX7_offer_162 : decode cX7_offer 162 = .ok (.iload_n 1, 1) := by decide +kernel
theorem dX7_offer_163 : decode cX7_offer 163 = .ok (.iaload, 1) := by decide +kernel
theorem dX7_offer_164 : decode cX7_offer 164 = .ok (.ireturn, 1) := by decide +kernel
set_option maxRecDepth 20000 in
theorem ggX7_clear_X7_noStream : GoodIn wsX7_clear wsX7_noStream := goodIn_r _ [6, 7, 8, 5, 9, 10, 11, 12, 13, 14, 15, 16, 17, 18, 19, 20, 21, 22, 23, 24, 25, 26, 27] (by decide +kernel) (by decide +kernel)
set_option maxRecDepth 20000 in
theorem gX7_clear_X7_noStream : GoodIn wsX7_clear (wsV RX7 54 RX7 yX7_noStream wsX7_noStream) := goodIn_app (goodIn_of _ (by decide +kernel)) ggX7_clear_X7_noStream
theorem dX7_clear_0 : decode cX7_clear 0 = .ok (.aload_n 0, 1) := by decide +kernel
theorem dX7_clear_1 : decode cX7_clear 1 = .ok (.iload_n 1, 1) := by decide +kernel
theorem dX7_clear_2 : decode cX7_clear 2 = .ok (.iconst 1, 1) := by decide +kernel
theorem dX7_clear_3 : decode cX7_clear 3 = .ok (.invokevirtual 54, 3) := by decide +kernel
theorem dX7_clear_6 : decode cX7_clear 6 = .ok (.ifCond .eq 5, 3) := by decide +kernel
theorem dX7_clear_9 : decode cX7_clear 9 = .ok (.iconst 0, 1) := by decide +kernel
theorem dX7_clear_10 : decode cX7_clear 10 = .ok (.ireturn, 1) := by decide +kernel
theorem dX7_clear_11 : decode cX7_clear 11 = .ok (.aload_n 0, 1) := by decide +kernel
theorem dX7_clear_12 : decode cX7_clear 12 = .ok (.getfield 16, 3) := by decide +kernel
theorem dX7_clear_15 : decode cX7_clear 15 = .ok (.iload_n 1, 1) := by decide +kernel
theorem dX7_clear_16 : decode cX7_clear 16 = .ok (.iaload, 1) := by decide +kernel
theorem dX7_clear_17 : decode cX7_clear 17 = .ok (.istore_n 2, 1) := by decide +kernel
theorem dX7_clear_18 : decode cX7_clear 18 = .ok (.aload_n 0, 1) := by decide +kernel
theorem dX7_clear_19 : decode cX7_clear 19 = .ok (.getfield 16, 3) := by decide +kernel
theorem dX7_clear_22 : decode cX7_clear 22 = .ok (.iload_n 1, 1) := by decide +kernel
theorem dX7_clear_23 : decode cX7_clear 23 = .ok (.iconst 0, 1) := by decide +kernel
theorem dX7_clear_24 : decode cX7_clear 24 = .ok (.iastore, 1) := by decide +kernel
theorem dX7_clear_25 : decode cX7_clear 25 = .ok (.iload_n 2, 1) := by decide +kernel
theorem dX7_clear_26 : decode cX7_clear 26 = .ok (.ireturn, 1) := by decide +kernel
set_option maxRecDepth 20000 in
theorem ggX7_offers_X7_noStream : GoodIn wsX7_offers wsX7_noStream := goodIn_r _ [6, 7, 8, 5, 9, 10, 11, 12, 13, 14, 15, 16, 17, 18, 19, 20, 21, 22, 23, 24, 25, 26, 27] (by decide +kernel) (by decide +kernel)
set_option maxRecDepth 20000 in
theorem gX7_offers_X7_noStream : GoodIn wsX7_offers (wsV RX7 54 RX7 yX7_noStream wsX7_noStream) := goodIn_app (goodIn_of _ (by decide +kernel)) ggX7_offers_X7_noStream
theorem dX7_offers_0 : decode cX7_offers 0 = .ok (.aload_n 0, 1) := by decide +kernel
theorem dX7_offers_1 : decode cX7_offers 1 = .ok (.iload_n 1, 1) := by decide +kernel
theorem dX7_offers_2 : decode cX7_offers 2 = .ok (.iconst 2, 1) := by decide +kernel
theorem dX7_offers_3 : decode cX7_offers 3 = .ok (.invokevirtual 54, 3) := by decide +kernel
theorem dX7_offers_6 : decode cX7_offers 6 = .ok (.ifCond .eq 7, 3) := by decide +kernel
theorem dX7_offers_9 : decode cX7_offers 9 = .ok (.iconst 0, 1) := by decide +kernel
theorem dX7_offers_10 : decode cX7_offers 10 = .ok (.goto 30, 3) := by decide +kernel
theorem dX7_offers_13 : decode cX7_offers 13 = .ok (.iload_n 1, 1) := by decide +kernel
theorem dX7_offers_14 : decode cX7_offers 14 = .ok (.iconst 2, 1) := by decide +kernel
theorem dX7_offers_15 : decode cX7_offers 15 = .ok (.if_icmp .ne 19, 3) := by decide +kernel
theorem dX7_offers_18 : decode cX7_offers 18 = .ok (.aload_n 0, 1) := by decide +kernel
theorem dX7_offers_19 : decode cX7_offers 19 = .ok (.getfield 16, 3) := by decide +kernel
theorem dX7_offers_22 : decode cX7_offers 22 = .ok (.iconst 0, 1) := by decide +kernel
theorem dX7_offers_23 : decode cX7_offers 23 = .ok (.iaload, 1) := by decide +kernel
theorem dX7_offers_24 : decode cX7_offers 24 = .ok (.aload_n 0, 1) := by decide +kernel
theorem dX7_offers_25 : decode cX7_offers 25 = .ok (.getfield 16, 3) := by decide +kernel
theorem dX7_offers_28 : decode cX7_offers 28 = .ok (.iconst 1, 1) := by decide +kernel
theorem dX7_offers_29 : decode cX7_offers 29 = .ok (.iaload, 1) := by decide +kernel
theorem dX7_offers_30 : decode cX7_offers 30 = .ok (.iadd, 1) := by decide +kernel
theorem dX7_offers_31 : decode cX7_offers 31 = .ok (.goto 9, 3) := by decide +kernel
theorem dX7_offers_34 : decode cX7_offers 34 = .ok (.aload_n 0, 1) := by decide +kernel
theorem dX7_offers_35 : decode cX7_offers 35 = .ok (.getfield 16, 3) := by decide +kernel
theorem dX7_offers_38 : decode cX7_offers 38 = .ok (.iload_n 1, 1) := by decide +kernel
theorem dX7_offers_39 : decode cX7_offers 39 = .ok (.iaload, 1) := by decide +kernel
theorem dX7_offers_40 : decode cX7_offers 40 = .ok (.ireturn, 1) := by decide +kernel
theorem dX7_isOf_0 : decode cX7_isOf 0 = .ok (.iload_n 2, 1) := by decide +kernel
theorem dX7_isOf_1 : decode cX7_isOf 1 = .ok (.sipush 300, 3) := by decide +kernel
theorem dX7_isOf_4 : decode cX7_isOf 4 = .ok (.idiv, 1) := by decide +kernel
theorem dX7_isOf_5 : decode cX7_isOf 5 = .ok (.istore_n 3, 1) := by decide +kernel
theorem dX7_isOf_6 : decode cX7_isOf 6 = .ok (.iload_n 1, 1) := by decide +kernel
theorem dX7_isOf_7 : decode cX7_isOf 7 = .ok (.iconst 2, 1) := by decide +kernel
theorem dX7_isOf_8 : decode cX7_isOf 8 = .ok (.if_icmp .eq 8, 3) := by decide +kernel
theorem dX7_isOf_11 : decode cX7_isOf 11 = .ok (.iload_n 1, 1) := by decide +kernel
theorem dX7_isOf_12 : decode cX7_isOf 12 = .ok (.iload_n 3, 1) := by decide +kernel
theorem dX7_isOf_13 : decode cX7_isOf 13 = .ok (.if_icmp .ne 21, 3) := by decide +kernel
theorem dX7_isOf_16 : decode cX7_isOf 16 = .ok (.iload_n 2, 1) := by decide +kernel
theorem dX7_isOf_17 : decode cX7_isOf 17 = .ok (.sipush 300, 3) := by decide +kernel
theorem dX7_isOf_20 : decode cX7_isOf 20 = .ok (.irem, 1) := by decide +kernel
theorem dX7_isOf_21 : decode cX7_isOf 21 = .ok (.aload_n 0, 1) := by decide +kernel
theorem dX7_isOf_22 : decode cX7_isOf 22 = .ok (.getfield 16, 3) := by decide +kernel
theorem dX7_isOf_25 : decode cX7_isOf 25 = .ok (.iload_n 3, 1) := by decide +kernel
theorem dX7_isOf_26 : decode cX7_isOf 26 = .ok (.iaload, 1) := by decide +kernel
theorem dX7_isOf_27 : decode cX7_isOf 27 = .ok (.if_icmp .ge 7, 3) := by decide +kernel
theorem dX7_isOf_30 : decode cX7_isOf 30 = .ok (.iconst 1, 1) := by decide +kernel
theorem dX7_isOf_31 : decode cX7_isOf 31 = .ok (.goto 4, 3) := by decide +kernel
theorem dX7_isOf_34 : decode cX7_isOf 34 = .ok (.iconst 0, 1) := by decide +kernel
theorem dX7_isOf_35 : decode cX7_isOf 35 = .ok (.ireturn, 1) := by decide +kernel
set_option maxRecDepth 20000 in
theorem ggX7_exactWeight_X7_noGroup : GoodIn wsX7_exactWeight wsX7_noGroup := goodIn_r _ [7, 8, 9, 6, 10, 11, 12, 13, 14, 15, 21, 22, 23, 24, 25, 26, 27, 28, 29, 30, 31, 32, 33] (by decide +kernel) (by decide +kernel)
set_option maxRecDepth 20000 in
theorem gX7_exactWeight_X7_noGroup : GoodIn wsX7_exactWeight (wsV RX7 58 RX7 yX7_noGroup wsX7_noGroup) := goodIn_app (goodIn_of _ (by decide +kernel)) ggX7_exactWeight_X7_noGroup
set_option maxRecDepth 20000 in
theorem ggX7_exactWeight_X7_isOf : GoodIn wsX7_exactWeight wsX7_isOf := goodIn_r _ [19, 20, 21, 22, 23, 24, 25, 26, 27, 28, 29, 30, 31, 32, 33] (by decide +kernel) (by decide +kernel)
set_option maxRecDepth 20000 in
theorem gX7_exactWeight_X7_isOf : GoodIn wsX7_exactWeight (wsV RX7 61 RX7 yX7_isOf wsX7_isOf) := goodIn_app (goodIn_of _ (by decide +kernel)) ggX7_exactWeight_X7_isOf
theorem dX7_exactWeight_0 : decode cX7_exactWeight 0 = .ok (.aload_n 0, 1) := by decide +kernel
theorem dX7_exactWeight_1 : decode cX7_exactWeight 1 = .ok (.iload_n 1, 1) := by decide +kernel
theorem dX7_exactWeight_2 : decode cX7_exactWeight 2 = .ok (.iconst 2, 1) := by decide +kernel
theorem dX7_exactWeight_3 : decode cX7_exactWeight 3 = .ok (.iload_n 2, 1) := by decide +kernel
theorem dX7_exactWeight_4 : decode cX7_exactWeight 4 = .ok (.invokevirtual 58, 3) := by decide +kernel
theorem dX7_exactWeight_7 : decode cX7_exactWeight 7 = .ok (.ifCond .eq 5, 3) := by decide +kernel
theorem dX7_exactWeight_10 : decode cX7_exactWeight 10 = .ok (.iconst 0, 1) := by decide +kernel
theorem dX7_exactWeight_11 : decode cX7_exactWeight 11 = .ok (.ireturn, 1) := by decide +kernel
theorem dX7_exactWeight_12 : decode cX7_exactWeight 12 = .ok (.iconst 0, 1) := by decide +kernel
theorem dX7_exactWeight_13 : decode cX7_exactWeight 13 = .ok (.istore_n 3, 1) := by decide +kernel
theorem dX7_exactWeight_14 : decode cX7_exactWeight 14 = .ok (.iconst 0, 1) := by decide +kernel
theorem dX7_exactWeight_15 : decode cX7_exactWeight 15 = .ok (.istore 4, 2) := by decide +kernel
theorem dX7_exactWeight_17 : decode cX7_exactWeight 17 = .ok (.iload 4, 2) := by decide +kernel
theorem dX7_exactWeight_19 : decode cX7_exactWeight 19 = .ok (.sipush 600, 3) := by decide +kernel
theorem dX7_exactWeight_22 : decode cX7_exactWeight 22 = .ok (.if_icmp .ge 44, 3) := by decide +kernel
theorem dX7_exactWeight_25 : decode cX7_exactWeight 25 = .ok (.iload_n 3, 1) := by decide +kernel
theorem dX7_exactWeight_26 : decode cX7_exactWeight 26 = .ok (.aload_n 0, 1) := by decide +kernel
theorem dX7_exactWeight_27 : decode cX7_exactWeight 27 = .ok (.iload_n 1, 1) := by decide +kernel
theorem dX7_exactWeight_28 : decode cX7_exactWeight 28 = .ok (.iload 4, 2) := by decide +kernel
theorem dX7_exactWeight_30 : decode cX7_exactWeight 30 = .ok (.invokevirtual 61, 3) := by decide +kernel
theorem dX7_exactWeight_33 : decode cX7_exactWeight 33 = .ok (.ifCond .eq 24, 3) := by decide +kernel
theorem dX7_exactWeight_36 : decode cX7_exactWeight 36 = .ok (.aload_n 0, 1) := by decide +kernel
theorem dX7_exactWeight_37 : decode cX7_exactWeight 37 = .ok (.getfield 26, 3) := by decide +kernel
theorem dX7_exactWeight_40 : decode cX7_exactWeight 40 = .ok (.iload 4, 2) := by decide +kernel
theorem dX7_exactWeight_42 : decode cX7_exactWeight 42 = .ok (.iaload, 1) := by decide +kernel
theorem dX7_exactWeight_43 : decode cX7_exactWeight 43 = .ok (.iload_n 2, 1) := by decide +kernel
theorem dX7_exactWeight_44 : decode cX7_exactWeight 44 = .ok (.if_icmp .ne 13, 3) := by decide +kernel
theorem dX7_exactWeight_47 : decode cX7_exactWeight 47 = .ok (.aload_n 0, 1) := by decide +kernel
theorem dX7_exactWeight_48 : decode cX7_exactWeight 48 = .ok (.getfield 23, 3) := by decide +kernel
theorem dX7_exactWeight_51 : decode cX7_exactWeight 51 = .ok (.iload 4, 2) := by decide +kernel
theorem dX7_exactWeight_53 : decode cX7_exactWeight 53 = .ok (.iaload, 1) := by decide +kernel
theorem dX7_exactWeight_54 : decode cX7_exactWeight 54 = .ok (.goto 4, 3) := by decide +kernel
theorem dX7_exactWeight_57 : decode cX7_exactWeight 57 = .ok (.iconst 0, 1) := by decide +kernel
theorem dX7_exactWeight_58 : decode cX7_exactWeight 58 = .ok (.iadd, 1) := by decide +kernel
theorem dX7_exactWeight_59 : decode cX7_exactWeight 59 = .ok (.istore_n 3, 1) := by decide +kernel
theorem dX7_exactWeight_60 : decode cX7_exactWeight 60 = .ok (.iinc 4 1, 3) := by decide +kernel
theorem dX7_exactWeight_63 : decode cX7_exactWeight 63 = .ok (.goto (-46), 3) := by decide +kernel
theorem dX7_exactWeight_66 : decode cX7_exactWeight 66 = .ok (.iload_n 3, 1) := by decide +kernel
theorem dX7_exactWeight_67 : decode cX7_exactWeight 67 = .ok (.ireturn, 1) := by decide +kernel
theorem dX7_inSlot_0 : decode cX7_inSlot 0 = .ok (.iconst (-1), 1) := by decide +kernel
theorem dX7_inSlot_1 : decode cX7_inSlot 1 = .ok (.istore 4, 2) := by decide +kernel
theorem dX7_inSlot_3 : decode cX7_inSlot 3 = .ok (.iconst 0, 1) := by decide +kernel
theorem dX7_inSlot_4 : decode cX7_inSlot 4 = .ok (.istore 5, 2) := by decide +kernel
theorem dX7_inSlot_6 : decode cX7_inSlot 6 = .ok (.sipush 300, 3) := by decide +kernel
theorem dX7_inSlot_9 : decode cX7_inSlot 9 = .ok (.iload_n 1, 1) := by decide +kernel
theorem dX7_inSlot_10 : decode cX7_inSlot 10 = .ok (.imul, 1) := by decide +kernel
theorem dX7_inSlot_11 : decode cX7_inSlot 11 = .ok (.istore 6, 2) := by decide +kernel
theorem dX7_inSlot_13 : decode cX7_inSlot 13 = .ok (.iload 6, 2) := by decide +kernel
theorem dX7_inSlot_15 : decode cX7_inSlot 15 = .ok (.sipush 300, 3) := by decide +kernel
theorem dX7_inSlot_18 : decode cX7_inSlot 18 = .ok (.iload_n 1, 1) := by decide +kernel
theorem dX7_inSlot_19 : decode cX7_inSlot 19 = .ok (.imul, 1) := by decide +kernel
theorem dX7_inSlot_20 : decode cX7_inSlot 20 = .ok (.aload_n 0, 1) := by decide +kernel
theorem dX7_inSlot_21 : decode cX7_inSlot 21 = .ok (.getfield 16, 3) := by decide +kernel
theorem dX7_inSlot_24 : decode cX7_inSlot 24 = .ok (.iload_n 1, 1) := by decide +kernel
theorem dX7_inSlot_25 : decode cX7_inSlot 25 = .ok (.iaload, 1) := by decide +kernel
theorem dX7_inSlot_26 : decode cX7_inSlot 26 = .ok (.iadd, 1) := by decide +kernel
theorem dX7_inSlot_27 : decode cX7_inSlot 27 = .ok (.if_icmp .ge 80, 3) := by decide +kernel
theorem dX7_inSlot_30 : decode cX7_inSlot 30 = .ok (.iload_n 2, 1) := by decide +kernel
theorem dX7_inSlot_31 : decode cX7_inSlot 31 = .ok (.iconst (-1), 1) := by decide +kernel
theorem dX7_inSlot_32 : decode cX7_inSlot 32 = .ok (.if_icmp .eq 14, 3) := by decide +kernel
theorem dX7_inSlot_35 : decode cX7_inSlot 35 = .ok (.aload_n 0, 1) := by decide +kernel
theorem dX7_inSlot_36 : decode cX7_inSlot 36 = .ok (.getfield 26, 3) := by decide +kernel
theorem dX7_inSlot_39 : decode cX7_inSlot 39 = .ok (.iload 6, 2) := by decide +kernel
theorem dX7_inSlot_41 : decode cX7_inSlot 41 = .ok (.iaload, 1) := by decide +kernel
theorem dX7_inSlot_42 : decode cX7_inSlot 42 = .ok (.iload_n 2, 1) := by decide +kernel
theorem dX7_inSlot_43 : decode cX7_inSlot 43 = .ok (.if_icmp .ne 58, 3) := by decide +kernel
theorem dX7_inSlot_46 : decode cX7_inSlot 46 = .ok (.iinc 5 1, 3) := by decide +kernel
theorem dX7_inSlot_49 : decode cX7_inSlot 49 = .ok (.iload 5, 2) := by decide +kernel
theorem dX7_inSlot_51 : decode cX7_inSlot 51 = .ok (.aload_n 0, 1) := by decide +kernel
theorem dX7_inSlot_52 : decode cX7_inSlot 52 = .ok (.getfield 7, 3) := by decide +kernel
theorem dX7_inSlot_55 : decode cX7_inSlot 55 = .ok (.if_icmp .gt 10, 3) := by decide +kernel
theorem dX7_inSlot_58 : decode cX7_inSlot 58 = .ok (.iload 5, 2) := by decide +kernel
theorem dX7_inSlot_60 : decode cX7_inSlot 60 = .ok (.iconst 1, 1) := by decide +kernel
theorem dX7_inSlot_61 : decode cX7_inSlot 61 = .ok (.isub, 1) := by decide +kernel
theorem dX7_inSlot_62 : decode cX7_inSlot 62 = .ok (.goto 13, 3) := by decide +kernel
theorem dX7_inSlot_65 : decode cX7_inSlot 65 = .ok (.aload_n 0, 1) := by decide +kernel
theorem dX7_inSlot_66 : decode cX7_inSlot 66 = .ok (.getfield 29, 3) := by decide +kernel
theorem dX7_inSlot_69 : decode cX7_inSlot 69 = .ok (.iload 6, 2) := by decide +kernel
theorem dX7_inSlot_71 : decode cX7_inSlot 71 = .ok (.iaload, 1) := by decide +kernel
theorem dX7_inSlot_72 : decode cX7_inSlot 72 = .ok (.iload 5, 2) := by decide +kernel
theorem dX7_inSlot_74 : decode cX7_inSlot 74 = .ok (.irem, 1) := by decide +kernel
theorem dX7_inSlot_75 : decode cX7_inSlot 75 = .ok (.istore 7, 2) := by decide +kernel
theorem dX7_inSlot_77 : decode cX7_inSlot 77 = .ok (.iload 7, 2) := by decide +kernel
theorem dX7_inSlot_79 : decode cX7_inSlot 79 = .ok (.iload_n 3, 1) := by decide +kernel
theorem dX7_inSlot_80 : decode cX7_inSlot 80 = .ok (.if_icmp .ne 17, 3) := by decide +kernel
theorem dX7_inSlot_83 : decode cX7_inSlot 83 = .ok (.iload 7, 2) := by decide +kernel
theorem dX7_inSlot_85 : decode cX7_inSlot 85 = .ok (.aload_n 0, 1) := by decide +kernel
theorem dX7_inSlot_86 : decode cX7_inSlot 86 = .ok (.getfield 7, 3) := by decide +kernel
theorem dX7_inSlot_89 : decode cX7_inSlot 89 = .ok (.if_icmp .ge 8, 3) := by decide +kernel
theorem dX7_inSlot_92 : decode cX7_inSlot 92 = .ok (.iload 6, 2) := by decide +kernel
theorem dX7_inSlot_94 : decode cX7_inSlot 94 = .ok (.goto 5, 3) := by decide +kernel
theorem dX7_inSlot_97 : decode cX7_inSlot 97 = .ok (.iload 4, 2) := by decide +kernel
theorem dX7_inSlot_99 : decode cX7_inSlot 99 = .ok (.istore 4, 2) := by decide +kernel
theorem dX7_inSlot_101 : decode cX7_inSlot 101 = .ok (.iinc 6 1, 3) := by decide +kernel
theorem dX7_inSlot_104 : decode cX7_inSlot 104 = .ok (.goto (-91), 3) := by decide +kernel
theorem dX7_inSlot_107 : decode cX7_inSlot 107 = .ok (.iload 4, 2) := by decide +kernel
theorem dX7_inSlot_109 : decode cX7_inSlot 109 = .ok (.ireturn, 1) := by decide +kernel
set_option maxRecDepth 20000 in
theorem ggX7_reservoirSize_X7_noStream : GoodIn wsX7_reservoirSize wsX7_noStream := goodIn_r _ [7, 8, 9, 6, 10, 11, 12, 13, 14, 15, 16, 17, 18, 19, 20, 21, 22, 23, 24, 25, 26, 27, 28] (by decide +kernel) (by decide +kernel)
set_option maxRecDepth 20000 in
theorem gX7_reservoirSize_X7_noStream : GoodIn wsX7_reservoirSize (wsV RX7 54 RX7 yX7_noStream wsX7_noStream) := goodIn_app (goodIn_of _ (by decide +kernel)) ggX7_reservoirSize_X7_noStream
theorem dX7_reservoirSize_0 : decode cX7_reservoirSize 0 = .ok (.aload_n 0, 1) := by decide +kernel
theorem dX7_reservoirSize_1 : decode cX7_reservoirSize 1 = .ok (.iload_n 1, 1) := by decide +kernel
theorem dX7_reservoirSize_2 : decode cX7_reservoirSize 2 = .ok (.iconst 1, 1) := by decide +kernel
theorem dX7_reservoirSize_3 : decode cX7_reservoirSize 3 = .ok (.invokevirtual 54, 3) := by decide +kernel
theorem dX7_reservoirSize_6 : decode cX7_reservoirSize 6 = .ok (.ifCond .eq 7, 3) := by decide +kernel
theorem dX7_reservoirSize_9 : decode cX7_reservoirSize 9 = .ok (.iconst 0, 1) := by decide +kernel
theorem dX7_reservoirSize_10 : decode cX7_reservoirSize 10 = .ok (.goto 29, 3) := by decide +kernel
theorem dX7_reservoirSize_13 : decode cX7_reservoirSize 13 = .ok (.aload_n 0, 1) := by decide +kernel
theorem dX7_reservoirSize_14 : decode cX7_reservoirSize 14 = .ok (.getfield 16, 3) := by decide +kernel
theorem dX7_reservoirSize_17 : decode cX7_reservoirSize 17 = .ok (.iload_n 1, 1) := by decide +kernel
theorem dX7_reservoirSize_18 : decode cX7_reservoirSize 18 = .ok (.iaload, 1) := by decide +kernel
theorem dX7_reservoirSize_19 : decode cX7_reservoirSize 19 = .ok (.aload_n 0, 1) := by decide +kernel
theorem dX7_reservoirSize_20 : decode cX7_reservoirSize 20 = .ok (.getfield 7, 3) := by decide +kernel
theorem dX7_reservoirSize_23 : decode cX7_reservoirSize 23 = .ok (.if_icmp .ge 12, 3) := by decide +kernel
theorem dX7_reservoirSize_26 : decode cX7_reservoirSize 26 = .ok (.aload_n 0, 1) := by decide +kernel
theorem dX7_reservoirSize_27 : decode cX7_reservoirSize 27 = .ok (.getfield 16, 3) := by decide +kernel
theorem dX7_reservoirSize_30 : decode cX7_reservoirSize 30 = .ok (.iload_n 1, 1) := by decide +kernel
theorem dX7_reservoirSize_31 : decode cX7_reservoirSize 31 = .ok (.iaload, 1) := by decide +kernel
theorem dX7_reservoirSize_32 : decode cX7_reservoirSize 32 = .ok (.goto 7, 3) := by decide +kernel
theorem dX7_reservoirSize_35 : decode cX7_reservoirSize 35 = .ok (.aload_n 0, 1) := by decide +kernel
theorem dX7_reservoirSize_36 : decode cX7_reservoirSize 36 = .ok (.getfield 7, 3) := by decide +kernel
theorem dX7_reservoirSize_39 : decode cX7_reservoirSize 39 = .ok (.ireturn, 1) := by decide +kernel
set_option maxRecDepth 20000 in
theorem ggX7_slotOf_X7_in : GoodIn wsX7_slotOf wsX7_in := goodIn_r _ [4] (by decide +kernel) (by decide +kernel)
set_option maxRecDepth 20000 in
theorem gX7_slotOf_X7_in : GoodIn wsX7_slotOf (va_wsS RX7 45 yX7_in wsX7_in) := goodIn_app (goodIn_of _ (by decide +kernel)) ggX7_slotOf_X7_in
set_option maxRecDepth 20000 in
theorem ggX7_slotOf_X7_inSlot : GoodIn wsX7_slotOf wsX7_inSlot := goodIn_r _ [8, 9, 10, 11, 12, 18, 19, 20, 21, 22, 23, 24, 25, 26, 27, 28, 29, 30] (by decide +kernel) (by decide +kernel)
set_option maxRecDepth 20000 in
theorem gX7_slotOf_X7_inSlot : GoodIn wsX7_slotOf (wsV RX7 64 RX7 yX7_inSlot wsX7_inSlot) := goodIn_app (goodIn_of _ (by decide +kernel)) ggX7_slotOf_X7_inSlot
set_option maxRecDepth 20000 in
theorem ggX7_slotOf_X7_refused : GoodIn wsX7_slotOf wsX7_refused := goodIn_r _ [16, 17, 18, 19, 20, 21, 22, 23, 24, 25, 26, 27, 28, 29, 30] (by decide +kernel) (by decide +kernel)
set_option maxRecDepth 20000 in
theorem gX7_slotOf_X7_refused : GoodIn wsX7_slotOf (wsV RX7 49 RX7 yX7_refused wsX7_refused) := goodIn_app (goodIn_of _ (by decide +kernel)) ggX7_slotOf_X7_refused
theorem dX7_slotOf_0 : decode cX7_slotOf 0 = .ok (.iload_n 1, 1) := by decide +kernel
theorem dX7_slotOf_1 : decode cX7_slotOf 1 = .ok (.iconst 0, 1) := by decide +kernel
theorem dX7_slotOf_2 : decode cX7_slotOf 2 = .ok (.iconst 1, 1) := by decide +kernel
theorem dX7_slotOf_3 : decode cX7_slotOf 3 = .ok (.invokestatic 45, 3) := by decide +kernel
