set_option maxRecDepth 20000 in
theorem ggL_merged_L_exact : GoodIn wsL_merged wsL_exact := goodIn_ca (goodIn_r _ [189, 5, 6, 190, 191, 192, 10, 193, 23, 24, 12, 13, 14, 15, 16, 194, 195, 196, 197, 198, 199, 200, 201, 202, 25, 26, 27, 28, 238, 239, 240, 241, 242, 253, 254, 227, 228, 229, 230, 231, 232, 233, 234, 235, 236, 237] (by decide +kernel) (by decide +kernel)) (goodIn_sub (fun _ h => List.mem_cons_of_mem _ (List.mem_append_left _ (List.mem_append_right _ h))) (by decide +kernel))
set_option maxRecDepth 20000 in
theorem gL_merged_L_exact : GoodIn wsL_merged (va_wsS RL 120 yL_exact wsL_exact) := goodIn_app (goodIn_of _ (by decide +kernel)) ggL_merged_L_exact
set_option maxRecDepth 20000 in
theorem ggL_merged_L_estimate : GoodIn wsL_merged wsL_estimate := goodIn_ca (goodIn_r _ [205, 5, 82, 206, 207, 208, 10, 209, 12, 13, 14, 15, 16, 17, 18, 19, 20, 21, 22, 23, 24, 25, 26, 27, 28, 29, 30, 31, 32, 33, 34, 35, 36, 37, 38, 39, 40, 41, 42, 43, 44, 45, 46, 47, 48, 49, 50, 51, 52, 53, 54, 55, 56, 57, 58, 59, 60, 61, 62, 63, 64, 65, 66, 67, 210, 211, 212, 213, 214, 69, 70, 71, 215, 166, 167, 168, 169, 170, 171, 172, 88, 89, 90, 91, 92, 227, 228, 229, 230, 231, 232, 233, 234, 235, 236, 237, 238, 239, 240, 241, 242, 243, 244, 245, 246, 247, 248] (by decide +kernel) (by decide +kernel)) (goodIn_sub (fun _ h => List.mem_cons_of_mem _ (List.mem_append_left _ (List.mem_append_right _ h))) (by decide +kernel))
set_option maxRecDepth 20000 in
theorem gL_merged_L_estimate : GoodIn wsL_merged (va_wsS RL 148 yL_estimate wsL_estimate) := goodIn_app (goodIn_of _ (by decide +kernel)) ggL_merged_L_estimate
set_option maxRecDepth 20000 in
theorem ggL_merged_L_sampled : GoodIn wsL_merged wsL_sampled := goodIn_ca (goodIn_r _ [218, 5, 6, 219, 220, 221, 10, 222, 12, 13, 14, 15, 16, 17, 18, 19, 20, 21, 22, 23, 24, 25, 26, 27, 28, 29, 30, 31, 32, 33, 34, 35, 36, 37, 38, 39, 40, 41, 42, 43, 44, 45, 46, 47, 48, 49, 50, 51, 52, 53, 54, 55, 56, 57, 58, 59, 60, 61, 62, 63, 64, 65, 66, 67, 223, 224, 225, 226, 214, 69, 70, 71, 227, 228, 229, 230, 231, 232, 233, 234, 235, 236, 237, 238, 239, 240, 241, 242, 243, 244, 245, 246, 247, 248] (by decide +kernel) (by decide +kernel)) (goodIn_sub (fun _ h => List.mem_cons_of_mem _ (List.mem_append_left _ (List.mem_append_right _ h))) (by decide +kernel))
set_option maxRecDepth 20000 in
theorem gL_merged_L_sampled : GoodIn wsL_merged (va_wsS RL 150 yL_sampled wsL_sampled) := goodIn_app (goodIn_of _ (by decide +kernel)) ggL_merged_L_sampled
theorem dL_merged_0 : decode cL_merged 0 = .ok (.aload_n 0, 1) := by decide +kernel
theorem dL_merged_1 : decode cL_merged 1 = .ok (.iload_n 1, 1) := by decide +kernel
theorem dL_merged_2 : decode cL_merged 2 = .ok (.invokestatic 137, 3) := by decide +kernel
theorem dL_merged_5 : decode cL_merged 5 = .ok (.istore 4, 2) := by decide +kernel
theorem dL_merged_7 : decode cL_merged 7 = .ok (.aload_n 0, 1) := by decide +kernel
theorem dL_merged_8 : decode cL_merged 8 = .ok (.iload_n 1, 1) := by decide +kernel
theorem dL_merged_9 : decode cL_merged 9 = .ok (.invokestatic 118, 3) := by decide +kernel
theorem dL_merged_12 : decode cL_merged 12 = .ok (.aload_n 2, 1) := by decide +kernel
theorem dL_merged_13 : decode cL_merged 13 = .ok (.iload_n 3, 1) := by decide +kernel
theorem dL_merged_14 : decode cL_merged 14 = .ok (.invokestatic 118, 3) := by decide +kernel
theorem dL_merged_17 : decode cL_merged 17 = .ok (.if_icmp .ne 58, 3) := by decide +kernel
theorem dL_merged_20 : decode cL_merged 20 = .ok (.iload 4, 2) := by decide +kernel
theorem dL_merged_22 : decode cL_merged 22 = .ok (.aload_n 2, 1) := by decide +kernel
theorem dL_merged_23 : decode cL_merged 23 = .ok (.iload_n 3, 1) := by decide +kernel
theorem dL_merged_24 : decode cL_merged 24 = .ok (.invokestatic 137, 3) := by decide +kernel
theorem dL_merged_27 : decode cL_merged 27 = .ok (.if_icmp .ne 48, 3) := by decide +kernel
theorem dL_merged_30 : decode cL_merged 30 = .ok (.aload_n 0, 1) := by decide +kernel
theorem dL_merged_31 : decode cL_merged 31 = .ok (.iload_n 1, 1) := by decide +kernel
theorem dL_merged_32 : decode cL_merged 32 = .ok (.invokestatic 145, 3) := by decide +kernel
theorem dL_merged_35 : decode cL_merged 35 = .ok (.aload_n 2, 1) := by decide +kernel
theorem dL_merged_36 : decode cL_merged 36 = .ok (.iload_n 3, 1) := by decide +kernel
theorem dL_merged_37 : decode cL_merged 37 = .ok (.invokestatic 145, 3) := by decide +kernel
theorem dL_merged_40 : decode cL_merged 40 = .ok (.lcmp, 1) := by decide +kernel
theorem dL_merged_41 : decode cL_merged 41 = .ok (.ifCond .ne 34, 3) := by decide +kernel
theorem dL_merged_44 : decode cL_merged 44 = .ok (.aload_n 0, 1) := by decide +kernel
theorem dL_merged_45 : decode cL_merged 45 = .ok (.iload_n 1, 1) := by decide +kernel
theorem dL_merged_46 : decode cL_merged 46 = .ok (.invokestatic 153, 3) := by decide +kernel
theorem dL_merged_49 : decode cL_merged 49 = .ok (.aload_n 2, 1) := by decide +kernel
theorem dL_merged_50 : decode cL_merged 50 = .ok (.iload_n 3, 1) := by decide +kernel
theorem dL_merged_51 : decode cL_merged 51 = .ok (.invokestatic 153, 3) := by decide +kernel
theorem dL_merged_54 : decode cL_merged 54 = .ok (.if_icmp .ne 21, 3) := by decide +kernel
theorem dL_merged_57 : decode cL_merged 57 = .ok (.aload_n 0, 1) := by decide +kernel
theorem dL_merged_58 : decode cL_merged 58 = .ok (.iload_n 1, 1) := by decide +kernel
theorem dL_merged_59 : decode cL_merged 59 = .ok (.invokestatic 159, 3) := by decide +kernel
theorem dL_merged_62 : decode cL_merged 62 = .ok (.aload_n 2, 1) := by decide +kernel
theorem dL_merged_63 : decode cL_merged 63 = .ok (.iload_n 3, 1) := by decide +kernel
theorem dL_merged_64 : decode cL_merged 64 = .ok (.invokestatic 159, 3) := by decide +kernel
theorem dL_merged_67 : decode cL_merged 67 = .ok (.lcmp, 1) := by decide +kernel
theorem dL_merged_68 : decode cL_merged 68 = .ok (.ifCond .ne 7, 3) := by decide +kernel
theorem dL_merged_71 : decode cL_merged 71 = .ok (.iconst 1, 1) := by decide +kernel
theorem dL_merged_72 : decode cL_merged 72 = .ok (.goto 4, 3) := by decide +kernel
theorem dL_merged_75 : decode cL_merged 75 = .ok (.iconst 0, 1) := by decide +kernel
theorem dL_merged_76 : decode cL_merged 76 = .ok (.istore 5, 2) := by decide +kernel
theorem dL_merged_78 : decode cL_merged 78 = .ok (.iconst 0, 1) := by decide +kernel
theorem dL_merged_79 : decode cL_merged 79 = .ok (.istore 6, 2) := by decide +kernel
theorem dL_merged_81 : decode cL_merged 81 = .ok (.iload 6, 2) := by decide +kernel
theorem dL_merged_83 : decode cL_merged 83 = .ok (.iload 4, 2) := by decide +kernel
theorem dL_merged_85 : decode cL_merged 85 = .ok (.if_icmp .ge 56, 3) := by decide +kernel
theorem dL_merged_88 : decode cL_merged 88 = .ok (.iload 5, 2) := by decide +kernel
theorem dL_merged_90 : decode cL_merged 90 = .ok (.ifCond .eq 51, 3) := by decide +kernel
theorem dL_merged_93 : decode cL_merged 93 = .ok (.aload_n 0, 1) := by decide +kernel
theorem dL_merged_94 : decode cL_merged 94 = .ok (.iload_n 1, 1) := by decide +kernel
theorem dL_merged_95 : decode cL_merged 95 = .ok (.iload 6, 2) := by decide +kernel
theorem dL_merged_97 : decode cL_merged 97 = .ok (.invokestatic 139, 3) := by decide +kernel
theorem dL_merged_100 : decode cL_merged 100 = .ok (.aload_n 2, 1) := by decide +kernel
theorem dL_merged_101 : decode cL_merged 101 = .ok (.iload_n 3, 1) := by decide +kernel
theorem dL_merged_102 : decode cL_merged 102 = .ok (.iload 6, 2) := by decide +kernel
theorem dL_merged_104 : decode cL_merged 104 = .ok (.invokestatic 139, 3) := by decide +kernel
theorem dL_merged_107 : decode cL_merged 107 = .ok (.if_icmp .ne 25, 3) := by decide +kernel
theorem dL_merged_110 : decode cL_merged 110 = .ok (.aload_n 0, 1) := by decide +kernel
theorem dL_merged_111 : decode cL_merged 111 = .ok (.iload_n 1, 1) := by decide +kernel
theorem dL_merged_112 : decode cL_merged 112 = .ok (.iload 6, 2) := by decide +kernel
theorem dL_merged_114 : decode cL_merged 114 = .ok (.invokestatic 141, 3) := by decide +kernel
theorem dL_merged_117 : decode cL_merged 117 = .ok (.aload_n 2, 1) := by decide +kernel
theorem dL_merged_118 : decode cL_merged 118 = .ok (.iload_n 3, 1) := by decide +kernel
theorem dL_merged_119 : decode cL_merged 119 = .ok (.iload 6, 2) := by decide +kernel
theorem dL_merged_121 : decode cL_merged 121 = .ok (.invokestatic 141, 3) := by decide +kernel
theorem dL_merged_124 : decode cL_merged 124 = .ok (.lcmp, 1) := by decide +kernel
theorem dL_merged_125 : decode cL_merged 125 = .ok (.ifCond .ne 7, 3) := by decide +kernel
theorem dL_merged_128 : decode cL_merged 128 = .ok (.iconst 1, 1) := by decide +kernel
theorem dL_merged_129 : decode cL_merged 129 = .ok (.goto 4, 3) := by decide +kernel
theorem dL_merged_132 : decode cL_merged 132 = .ok (.iconst 0, 1) := by decide +kernel
theorem dL_merged_133 : decode cL_merged 133 = .ok (.istore 5, 2) := by decide +kernel
theorem dL_merged_135 : decode cL_merged 135 = .ok (.iinc 6 1, 3) := by decide +kernel
theorem dL_merged_138 : decode cL_merged 138 = .ok (.goto (-57), 3) := by decide +kernel
theorem dL_merged_141 : decode cL_merged 141 = .ok (.iconst 0, 1) := by decide +kernel
theorem dL_merged_142 : decode cL_merged 142 = .ok (.istore 6, 2) := by decide +kernel
theorem dL_merged_144 : decode cL_merged 144 = .ok (.iload 6, 2) := by decide +kernel
theorem dL_merged_146 : decode cL_merged 146 = .ok (.aload_n 0, 1) := by decide +kernel
theorem dL_merged_147 : decode cL_merged 147 = .ok (.iload_n 1, 1) := by decide +kernel
theorem dL_merged_148 : decode cL_merged 148 = .ok (.invokestatic 153, 3) := by decide +kernel
theorem dL_merged_151 : decode cL_merged 151 = .ok (.if_icmp .ge 55, 3) := by decide +kernel
theorem dL_merged_154 : decode cL_merged 154 = .ok (.iload 5, 2) := by decide +kernel
theorem dL_merged_156 : decode cL_merged 156 = .ok (.ifCond .eq 50, 3) := by decide +kernel
theorem dL_merged_159 : decode cL_merged 159 = .ok (.aload_n 0, 1) := by decide +kernel
theorem dL_merged_160 : decode cL_merged 160 = .ok (.iload_n 1, 1) := by decide +kernel
theorem dL_merged_161 : decode cL_merged 161 = .ok (.iload 6, 2) := by decide +kernel
theorem dL_merged_163 : decode cL_merged 163 = .ok (.invokestatic 155, 3) := by decide +kernel
theorem dL_merged_166 : decode cL_merged 166 = .ok (.aload_n 2, 1) := by decide +kernel
theorem dL_merged_167 : decode cL_merged 167 = .ok (.iload_n 3, 1) := by decide +kernel
theorem dL_merged_168 : decode cL_merged 168 = .ok (.iload 6, 2) := by decide +kernel
theorem dL_merged_170 : decode cL_merged 170 = .ok (.invokestatic 155, 3) := by decide +kernel
theorem dL_merged_173 : decode cL_merged 173 = .ok (.if_icmp .ne 24, 3) := by decide +kernel
theorem dL_merged_176 : decode cL_merged 176 = .ok (.aload_n 0, 1) := by decide +kernel
theorem dL_merged_177 : decode cL_merged 177 = .ok (.iload_n 1, 1) := by decide +kernel
theorem dL_merged_178 : decode cL_merged 178 = .ok (.iload 6, 2) := by decide +kernel
theorem dL_merged_180 : decode cL_merged 180 = .ok (.invokestatic 157, 3) := by decide +kernel
theorem dL_merged_183 : decode cL_merged 183 = .ok (.aload_n 2, 1) := by decide +kernel
theorem dL_merged_184 : decode cL_merged 184 = .ok (.iload_n 3, 1) := by decide +kernel
theorem dL_merged_185 : decode cL_merged 185 = .ok (.iload 6, 2) := by decide +kernel
theorem dL_merged_187 : decode cL_merged 187 = .ok (.invokestatic 157, 3) := by decide +kernel
theorem dL_merged_190 : decode cL_merged 190 = .ok (.if_icmp .ne 7, 3) := by decide +kernel
theorem dL_merged_193 : decode cL_merged 193 = .ok (.iconst 1, 1) := by decide +kernel
theorem dL_merged_194 : decode cL_merged 194 = .ok (.goto 4, 3) := by decide +kernel
theorem dL_merged_197 : decode cL_merged 197 = .ok (.iconst 0, 1) := by decide +kernel
theorem dL_merged_198 : decode cL_merged 198 = .ok (.istore 5, 2) := by decide +kernel
theorem dL_merged_200 : decode cL_merged 200 = .ok (.iinc 6 1, 3) := by decide +kernel
theorem dL_merged_203 : decode cL_merged 203 = .ok (.goto (-59), 3) := by decide +kernel
theorem dL_merged_206 : decode cL_merged 206 = .ok (.iconst 0, 1) := by decide +kernel
theorem dL_merged_207 : decode cL_merged 207 = .ok (.istore 6, 2) := by decide +kernel
theorem dL_merged_209 : decode cL_merged 209 = .ok (.iload 6, 2) := by decide +kernel
theorem dL_merged_211 : decode cL_merged 211 = .ok (.iconst 4, 1) := by decide +kernel
theorem dL_merged_212 : decode cL_merged 212 = .ok (.if_icmp .ge 73, 3) := by decide +kernel
theorem dL_merged_215 : decode cL_merged 215 = .ok (.iload 5, 2) := by decide +kernel
theorem dL_merged_217 : decode cL_merged 217 = .ok (.ifCond .eq 68, 3) := by decide +kernel
theorem dL_merged_220 : decode cL_merged 220 = .ok (.aload_n 0, 1) := by decide +kernel
theorem dL_merged_221 : decode cL_merged 221 = .ok (.iload_n 1, 1) := by decide +kernel
theorem dL_merged_222 : decode cL_merged 222 = .ok (.iload 6, 2) := by decide +kernel
theorem dL_merged_224 : decode cL_merged 224 = .ok (.invokestatic 120, 3) := by decide +kernel
theorem dL_merged_227 : decode cL_merged 227 = .ok (.aload_n 2, 1) := by decide +kernel
theorem dL_merged_228 : decode cL_merged 228 = .ok (.iload_n 3, 1) := by decide +kernel
theorem dL_merged_229 : decode cL_merged 229 = .ok (.iload 6, 2) := by decide +kernel
theorem dL_merged_231 : decode cL_merged 231 = .ok (.invokestatic 120, 3) := by decide +kernel
theorem dL_merged_234 : decode cL_merged 234 = .ok (.if_icmp .ne 42, 3) := by decide +kernel
theorem dL_merged_237 : decode cL_merged 237 = .ok (.aload_n 0, 1) := by decide +kernel
theorem dL_merged_238 : decode cL_merged 238 = .ok (.iload_n 1, 1) := by decide +kernel
theorem dL_merged_239 : decode cL_merged 239 = .ok (.iload 6, 2) := by decide +kernel
theorem dL_merged_241 : decode cL_merged 241 = .ok (.invokestatic 148, 3) := by decide +kernel
theorem dL_merged_244 : decode cL_merged 244 = .ok (.aload_n 2, 1) := by decide +kernel
theorem dL_merged_245 : decode cL_merged 245 = .ok (.iload_n 3, 1) := by decide +kernel
theorem dL_merged_246 : decode cL_merged 246 = .ok (.iload 6, 2) := by decide +kernel
theorem dL_merged_248 : decode cL_merged 248 = .ok (.invokestatic 148, 3) := by decide +kernel
theorem dL_merged_251 : decode cL_merged 251 = .ok (.lcmp, 1) := by decide +kernel
theorem dL_merged_252 : decode cL_merged 252 = .ok (.ifCond .ne 24, 3) := by decide +kernel
theorem dL_merged_255 : decode cL_merged 255 = .ok (.aload_n 0, 1) := by decide +kernel
theorem dL_merged_256 : decode cL_merged 256 = .ok (.iload_n 1, 1) := by decide +kernel
theorem dL_merged_257 : decode cL_merged 257 = .ok (.iload 6, 2) := by decide +kernel
theorem dL_merged_259 : decode cL_merged 259 = .ok (.invokestatic 150, 3) := by decide +kernel
theorem dL_merged_262 : decode cL_merged 262 = .ok (.aload_n 2, 1) := by decide +kernel
theorem dL_merged_263 : decode cL_merged 263 = .ok (.iload_n 3, 1) := by decide +kernel
theorem dL_merged_264 : decode cL_merged 264 = .ok (.iload 6, 2) := by decide +kernel
theorem dL_merged_266 : decode cL_merged 266 = .ok (.invokestatic 150, 3) := by decide +kernel
theorem dL_merged_269 : decode cL_merged 269 = .ok (.if_icmp .ne 7, 3) := by decide +kernel
theorem dL_merged_272 : decode cL_merged 272 = .ok (.iconst 1, 1) := by decide +kernel
theorem dL_merged_273 : decode cL_merged 273 = .ok (.goto 4, 3) := by decide +kernel
theorem dL_merged_276 : decode cL_merged 276 = .ok (.iconst 0, 1) := by decide +kernel
theorem dL_merged_277 : decode cL_merged 277 = .ok (.istore 5, 2) := by decide +kernel
theorem dL_merged_279 : decode cL_merged 279 = .ok (.iinc 6 1, 3) := by decide +kernel
theorem dL_merged_282 : decode cL_merged 282 = .ok (.goto (-73), 3) := by decide +kernel
theorem dL_merged_285 : decode cL_merged 285 = .ok (.iload 5, 2) := by decide +kernel
theorem dL_merged_287 : decode cL_merged 287 = .ok (.ireturn, 1) := by decide +kernel
set_option maxRecDepth 20000 in
theorem ggL_holds_L_offers : GoodIn wsL_holds wsL_offers := goodIn_ca (goodIn_r _ [4, 5, 6, 7, 8, 9, 10, 11, 12, 13, 14, 15, 16, 17, 18, 19, 20, 21, 22, 270, 271, 272, 273, 274, 275, 276, 277, 278, 279, 280, 281, 282, 283, 284, 285] (by decide +kernel) (by decide +kernel)) (goodIn_sub (fun _ h => List.mem_cons_of_mem _ (List.mem_append_left _ (List.mem_append_left _ (List.mem_append_right _ h)))) (by decide +kernel))
set_option maxRecDepth 20000 in
theorem gL_holds_L_offers : GoodIn wsL_holds (va_wsS RL 118 yL_offers wsL_offers) := goodIn_app (goodIn_of _ (by decide +kernel)) ggL_holds_L_offers
set_option maxRecDepth 20000 in
theorem ggL_holds_L_threshold : GoodIn wsL_holds wsL_threshold := goodIn_ca (goodIn_r _ [25, 5, 26, 27, 28, 29, 10, 30, 14, 15, 16, 17, 18, 31, 32, 33, 34, 35, 36, 12, 13, 19, 20, 21, 22, 37, 38, 39, 40, 41, 42, 43, 44, 45, 46, 47, 48, 49, 50, 51, 52, 53, 54, 55, 56, 57, 58, 59, 60, 61, 62, 63, 64, 65, 66, 67, 68, 69, 70, 71, 72, 73, 74, 75, 76, 77, 78, 79, 80, 81, 275, 276, 277, 278, 279, 280, 281, 282, 283, 284, 285, 270, 271, 272, 273, 274, 286, 287, 288, 289, 290, 291] (by decide +kernel) (by decide +kernel)) (goodIn_sub (fun _ h => List.mem_cons_of_mem _ (List.mem_append_left _ (List.mem_append_left _ (List.mem_append_right _ h)))) (by decide +kernel))
set_option maxRecDepth 20000 in
theorem gL_holds_L_threshold : GoodIn wsL_holds (va_wsS RL 145 yL_threshold wsL_threshold) := goodIn_app (goodIn_of _ (by decide +kernel)) ggL_holds_L_threshold
set_option maxRecDepth 20000 in
theorem ggL_holds_L_prioritySize : GoodIn wsL_holds wsL_prioritySize := goodIn_ca (goodIn_r _ [84, 5, 6, 85, 86, 87, 10, 88, 14, 15, 16, 17, 18, 31, 32, 33, 34, 35, 36, 12, 13, 19, 20, 21, 22, 37, 38, 39, 40, 41, 42, 43, 44, 45, 46, 47, 48, 49, 50, 51, 52, 53, 54, 55, 56, 57, 58, 59, 60, 61, 62, 63, 64, 65, 66, 67, 68, 69, 70, 71, 72, 73, 74, 75, 89, 90, 91, 92, 275, 276, 277, 278, 279, 280, 281, 282, 283, 284, 285, 270, 271, 272, 273, 274, 286, 287, 288, 289, 290, 291] (by decide +kernel) (by decide +kernel)) (goodIn_sub (fun _ h => List.mem_cons_of_mem _ (List.mem_append_left _ (List.mem_append_left _ (List.mem_append_right _ h)))) (by decide +kernel))
set_option maxRecDepth 20000 in
theorem gL_holds_L_prioritySize : GoodIn wsL_holds (va_wsS RL 137 yL_prioritySize wsL_prioritySize) := goodIn_app (goodIn_of _ (by decide +kernel)) ggL_holds_L_prioritySize
set_option maxRecDepth 20000 in
theorem ggL_holds_L_distinctSize : GoodIn wsL_holds wsL_distinctSize := goodIn_ca (goodIn_r _ [95, 5, 6, 96, 97, 98, 10, 99, 14, 15, 16, 17, 18, 100, 101, 102, 103, 104, 36, 12, 13, 19, 20, 21, 22, 105, 106, 107, 108, 109, 110, 111, 112, 113, 114, 115, 116, 117, 52, 53, 118, 119, 120, 121, 122, 59, 60, 61, 123, 124, 125, 126, 127, 128, 129, 130, 131, 74, 75, 70, 71, 72, 73, 292, 293, 294, 295, 275, 276, 277, 278, 279, 280, 281, 282, 283, 284, 285, 270, 271, 272, 273, 274] (by decide +kernel) (by decide +kernel)) (goodIn_sub (fun _ h => List.mem_cons_of_mem _ (List.mem_append_left _ (List.mem_append_left _ (List.mem_append_right _ h)))) (by decide +kernel))
set_option maxRecDepth 20000 in
theorem gL_holds_L_distinctSize : GoodIn wsL_holds (va_wsS RL 153 yL_distinctSize wsL_distinctSize) := goodIn_app (goodIn_of _ (by decide +kernel)) ggL_holds_L_distinctSize
set_option maxRecDepth 20000 in
theorem ggL_holds_L_distinctEstimate : GoodIn wsL_holds wsL_distinctEstimate := goodIn_ca (goodIn_r _ [134, 5, 26, 135, 136, 137, 10, 138, 14, 15, 16, 17, 18, 100, 101, 102, 103, 104, 36, 12, 13, 19, 20, 21, 22, 105, 106, 107, 108, 109, 110, 111, 112, 113, 114, 115, 116, 117, 52, 53, 118, 119, 120, 121, 122, 59, 60, 61, 123, 124, 125, 126, 127, 128, 129, 130, 131, 74, 75, 70, 71, 72, 73, 139, 140, 141, 142, 80, 81, 275, 276, 277, 278, 279, 280, 281, 282, 283, 284, 285, 270, 271, 272, 273, 274, 292, 293, 294, 295] (by decide +kernel) (by decide +kernel)) (goodIn_sub (fun _ h => List.mem_cons_of_mem _ (List.mem_append_left _ (List.mem_append_left _ (List.mem_append_right _ h)))) (by decide +kernel))
set_option maxRecDepth 20000 in
theorem gL_holds_L_distinctEstimate : GoodIn wsL_holds (va_wsS RL 159 yL_distinctEstimate wsL_distinctEstimate) := goodIn_app (goodIn_of _ (by decide +kernel)) ggL_holds_L_distinctEstimate
set_option maxRecDepth 20000 in
theorem ggL_holds_L_estimate : GoodIn wsL_holds wsL_estimate := goodIn_ca (goodIn_r _ [145, 5, 26, 146, 147, 148, 10, 149, 14, 15, 16, 17, 18, 31, 32, 33, 34, 35, 36, 12, 13, 19, 20, 21, 22, 37, 38, 39, 40, 41, 42, 43, 44, 45, 46, 47, 48, 49, 50, 51, 52, 53, 54, 55, 56, 57, 58, 59, 60, 61, 62, 63, 64, 65, 66, 67, 68, 69, 70, 71, 72, 73, 74, 75, 150, 151, 152, 153, 154, 90, 91, 92, 155, 156, 157, 158, 159, 160, 161, 162, 77, 78, 79, 80, 81, 275, 276, 277, 278, 279, 280, 281, 282, 283, 284, 285, 270, 271, 272, 273, 274, 286, 287, 288, 289, 290, 291] (by decide +kernel) (by decide +kernel)) (goodIn_sub (fun _ h => List.mem_cons_of_mem _ (List.mem_append_left _ (List.mem_append_left _ (List.mem_append_right _ h)))) (by decide +kernel))
set_option maxRecDepth 20000 in
theorem gL_holds_L_estimate : GoodIn wsL_holds (va_wsS RL 148 yL_estimate wsL_estimate) := goodIn_app (goodIn_of _ (by decide +kernel)) ggL_holds_L_estimate
set_option maxRecDepth 20000 in
theorem ggL_holds_L_sampled : GoodIn wsL_holds wsL_sampled := goodIn_ca (goodIn_r _ [165, 5, 6, 166, 167, 168, 10, 169, 14, 15, 16, 17, 18, 31, 32, 33, 34, 35, 36, 12, 13, 19, 20, 21, 22, 37, 38, 39, 40, 41, 42, 43, 44, 45, 46, 47, 48, 49, 50, 51, 52, 53, 54, 55, 56, 57, 58, 59, 60, 61, 62, 63, 64, 65, 66, 67, 68, 69, 70, 71, 72, 73, 74, 75, 170, 171, 172, 173, 154, 90, 91, 92, 275, 276, 277, 278, 279, 280, 281, 282, 283, 284, 285, 270, 271, 272, 273, 274, 286, 287, 288, 289, 290, 291] (by decide +kernel) (by decide +kernel)) (goodIn_sub (fun _ h => List.mem_cons_of_mem _ (List.mem_append_left _ (List.mem_append_left _ (List.mem_append_right _ h)))) (by decide +kernel))
set_option maxRecDepth 20000 in
theorem gL_holds_L_sampled : GoodIn wsL_holds (va_wsS RL 150 yL_sampled wsL_sampled) := goodIn_app (goodIn_of _ (by decide +kernel)) ggL_holds_L_sampled
set_option maxRecDepth 20000 in
theorem ggL_holds_L_exact : GoodIn wsL_holds wsL_exact := goodIn_ca (goodIn_r _ [176, 5, 6, 177, 178, 179, 10, 180, 12, 13, 14, 15, 16, 17, 18, 181, 182, 183, 184, 185, 186, 187, 188, 189, 19, 20, 21, 22, 270, 271, 272, 273, 274, 296, 297, 275, 276, 277, 278, 279, 280, 281, 282, 283, 284, 285] (by decide +kernel) (by decide +kernel)) (goodIn_sub (fun _ h => List.mem_cons_of_mem _ (List.mem_append_left _ (List.mem_append_left _ (List.mem_append_right _ h)))) (by decide +kernel))
set_option maxRecDepth 20000 in
theorem gL_holds_L_exact : GoodIn wsL_holds (va_wsS RL 120 yL_exact wsL_exact) := goodIn_app (goodIn_of _ (by decide +kernel)) ggL_holds_L_exact
set_option maxRecDepth 20000 in
theorem ggL_holds_L_estimated : GoodIn wsL_holds wsL_estimated := goodIn_ca (goodIn_ca (goodIn_r _ [192, 5, 193, 26, 194, 195, 196, 197, 10, 198, 14, 15, 16, 17, 18, 31, 32, 33, 34, 35, 36, 12, 13, 19, 20, 21, 22, 37, 38, 39, 40, 41, 42, 43, 44, 45, 46, 47, 48, 49, 50, 51, 52, 53, 54, 55, 56, 57, 58, 59, 60, 61, 62, 63, 64, 65, 66, 67, 68, 69, 70, 71, 72, 73, 74, 75, 89, 90, 91, 92, 199, 200, 201, 202, 203, 204, 156, 157, 158, 159, 160, 161, 162, 77, 78, 79, 80, 81, 275, 276, 277, 278, 279, 280, 281, 282, 283, 284, 285, 270, 271, 272, 273, 274, 286, 287, 288, 289, 290, 291] (by decide +kernel) (by decide +kernel)) (goodIn_sub (fun _ h => List.mem_cons_of_mem _ (List.mem_append_left _ (List.mem_append_left _ (List.mem_append_right _ h)))) (by decide +kernel))) (goodIn_sub (fun _ h => List.mem_cons_of_mem _ (List.mem_append_left _ (List.mem_append_right _ h))) (by decide +kernel))
set_option maxRecDepth 20000 in
theorem gL_holds_L_estimated : GoodIn wsL_holds (va_wsS RL 141 yL_estimated wsL_estimated) := goodIn_app (goodIn_of _ (by decide +kernel)) ggL_holds_L_estimated
set_option maxRecDepth 20000 in
theorem ggL_holds_L_windowPosition : GoodIn wsL_holds wsL_windowPosition := goodIn_ca (goodIn_ca (goodIn_r _ [207, 5, 208, 6, 209, 210, 211, 212, 10, 213, 14, 15, 16, 17, 18, 19, 20, 21, 22, 12, 13, 214, 215, 216, 217, 218, 72, 52, 53, 275, 276, 277, 278, 279, 280, 281, 282, 283, 284, 285, 298, 299, 300, 301, 302, 303, 270, 271, 272, 273, 274] (by decide +kernel) (by decide +kernel)) (goodIn_sub (fun _ h => List.mem_cons_of_mem _ (List.mem_append_left _ (List.mem_append_left _ (List.mem_append_right _ h)))) (by decide +kernel))) (goodIn_sub (fun _ h => List.mem_cons_of_mem _ (List.mem_append_right _ h)) (by decide +kernel))
set_option maxRecDepth 20000 in
theorem gL_holds_L_windowPosition : GoodIn wsL_holds (va_wsS RL 163 yL_windowPosition wsL_windowPosition) := goodIn_app (goodIn_of _ (by decide +kernel)) ggL_holds_L_windowPosition
set_option maxRecDepth 20000 in
theorem ggL_holds_L_successor : GoodIn wsL_holds wsL_successor := goodIn_ca (goodIn_ca (goodIn_r _ [221, 5, 208, 6, 209, 222, 223, 224, 10, 225, 14, 15, 16, 17, 18, 19, 20, 21, 22, 12, 13, 214, 215, 216, 217, 218, 275, 276, 277, 278, 279, 280, 281, 282, 283, 284, 285, 298, 299, 300, 301, 302, 303, 270, 271, 272, 273, 274] (by decide +kernel) (by decide +kernel)) (goodIn_sub (fun _ h => List.mem_cons_of_mem _ (List.mem_append_left _ (List.mem_append_left _ (List.mem_append_right _ h)))) (by decide +kernel))) (goodIn_sub (fun _ h => List.mem_cons_of_mem _ (List.mem_append_right _ h)) (by decide +kernel))
set_option maxRecDepth 20000 in
theorem gL_holds_L_successor : GoodIn wsL_holds (va_wsS RL 167 yL_successor wsL_successor) := goodIn_app (goodIn_of _ (by decide +kernel)) ggL_holds_L_successor
set_option maxRecDepth 20000 in
theorem ggL_holds_L_groupOffers : GoodIn wsL_holds wsL_groupOffers := goodIn_ca (goodIn_r _ [228, 5, 6, 229, 230, 231, 10, 232, 14, 15, 16, 17, 18, 19, 20, 21, 22, 12, 13, 181, 182, 183, 184, 185, 186, 187, 188, 189, 296, 297, 304, 305, 306, 307, 270, 271, 272, 273, 274, 275, 276, 277, 278, 279, 280, 281, 282, 283, 284, 285] (by decide +kernel) (by decide +kernel)) (goodIn_sub (fun _ h => List.mem_cons_of_mem _ (List.mem_append_left _ (List.mem_append_left _ (List.mem_append_right _ h)))) (by decide +kernel))
set_option maxRecDepth 20000 in
theorem gL_holds_L_groupOffers : GoodIn wsL_holds (va_wsS RL 132 yL_groupOffers wsL_groupOffers) := goodIn_app (goodIn_of _ (by decide +kernel)) ggL_holds_L_groupOffers
set_option maxRecDepth 20000 in
theorem ggL_holds_L_chainLength : GoodIn wsL_holds wsL_chainLength := goodIn_ca (goodIn_r _ [235, 5, 6, 236, 237, 238, 10, 239, 14, 15, 16, 17, 18, 19, 20, 21, 22, 12, 13, 240, 241, 242, 243, 244, 245, 246, 275, 276, 277, 278, 279, 280, 281, 282, 283, 284, 285, 270, 271, 272, 273, 274, 298, 299, 300, 301, 302, 303] (by decide +kernel) (by decide +kernel)) (goodIn_sub (fun _ h => List.mem_cons_of_mem _ (List.mem_append_left _ (List.mem_append_left _ (List.mem_append_right _ h)))) (by decide +kernel))
set_option maxRecDepth 20000 in
theorem gL_holds_L_chainLength : GoodIn wsL_holds (va_wsS RL 165 yL_chainLength wsL_chainLength) := goodIn_app (goodIn_of _ (by decide +kernel)) ggL_holds_L_chainLength
set_option maxRecDepth 20000 in
theorem ggL_holds_L_filled : GoodIn wsL_holds wsL_filled := goodIn_ca (goodIn_r _ [249, 5, 6, 250, 251, 252, 10, 253, 14, 15, 16, 17, 18, 19, 20, 21, 22, 12, 13, 254, 255, 256, 257, 258, 259, 260, 261, 59, 60, 61, 275, 276, 277, 278, 279, 280, 281, 282, 283, 284, 285, 270, 271, 272, 273, 274, 304, 305, 306, 307] (by decide +kernel) (by decide +kernel)) (goodIn_sub (fun _ h => List.mem_cons_of_mem _ (List.mem_append_left _ (List.mem_append_left _ (List.mem_append_right _ h)))) (by decide +kernel))
set_option maxRecDepth 20000 in
theorem gL_holds_L_filled : GoodIn wsL_holds (va_wsS RL 123 yL_filled wsL_filled) := goodIn_app (goodIn_of _ (by decide +kernel)) ggL_holds_L_filled
set_option maxRecDepth 20000 in
theorem ggL_holds_L_slotPosition : GoodIn wsL_holds wsL_slotPosition := goodIn_ca (goodIn_ca (goodIn_r _ [264, 5, 193, 6, 265, 266, 267, 268, 10, 269, 14, 15, 16, 17, 18, 19, 20, 21, 22, 12, 13, 254, 255, 256, 257, 258, 259, 260, 261, 59, 60, 61, 199, 200, 201, 202, 203, 72, 52, 53, 275, 276, 277, 278, 279, 280, 281, 282, 283, 284, 285, 304, 305, 306, 307, 270, 271, 272, 273, 274] (by decide +kernel) (by decide +kernel)) (goodIn_sub (fun _ h => List.mem_cons_of_mem _ (List.mem_append_left _ (List.mem_append_left _ (List.mem_append_right _ h)))) (by decide +kernel))) (goodIn_sub (fun _ h => List.mem_cons_of_mem _ (List.mem_append_left _ (List.mem_append_right _ h))) (by decide +kernel))
set_option maxRecDepth 20000 in
theorem gL_holds_L_slotPosition : GoodIn wsL_holds (va_wsS RL 129 yL_slotPosition wsL_slotPosition) := goodIn_app (goodIn_of _ (by decide +kernel)) ggL_holds_L_slotPosition
theorem dL_holds_0 : decode cL_holds 0 = .ok (.aload_n 0, 1) := by decide +kernel
theorem dL_holds_1 : decode cL_holds 1 = .ok (.iload_n 1, 1) := by decide +kernel
theorem dL_holds_2 : decode cL_holds 2 = .ok (.invokestatic 118, 3) := by decide +kernel
theorem dL_holds_5 : decode cL_holds 5 = .ok (.istore 4, 2) := by decide +kernel
theorem dL_holds_7 : decode cL_holds 7 = .ok (.aload_n 0, 1) := by decide +kernel
theorem dL_holds_8 : decode cL_holds 8 = .ok (.iload_n 1, 1) := by decide +kernel
theorem dL_holds_9 : decode cL_holds 9 = .ok (.invokestatic 145, 3) := by decide +kernel
theorem dL_holds_12 : decode cL_holds 12 = .ok (.lstore 5, 2) := by decide +kernel
theorem dL_holds_14 : decode cL_holds 14 = .ok (.lconst 0, 1) := by decide +kernel
theorem dL_holds_15 : decode cL_holds 15 = .ok (.lstore 7, 2) := by decide +kernel
theorem dL_holds_17 : decode cL_holds 17 = .ok (.lconst 0, 1) := by decide +kernel
theorem dL_holds_18 : decode cL_holds 18 = .ok (.lstore 9, 2) := by decide +kernel
theorem dL_holds_20 : decode cL_holds 20 = .ok (.lconst 0, 1) := by decide +kernel
theorem dL_holds_21 : decode cL_holds 21 = .ok (.lstore 11, 2) := by decide +kernel
theorem dL_holds_23 : decode cL_holds 23 = .ok (.aload_n 0, 1) := by decide +kernel
theorem dL_holds_24 : decode cL_holds 24 = .ok (.iload_n 1, 1) := by decide +kernel
theorem dL_holds_25 : decode cL_holds 25 = .ok (.invokestatic 137, 3) := by decide +kernel
theorem dL_holds_28 : decode cL_holds 28 = .ok (.iload 4, 2) := by decide +kernel
theorem dL_holds_30 : decode cL_holds 30 = .ok (.iload_n 2, 1) := by decide +kernel
theorem dL_holds_31 : decode cL_holds 31 = .ok (.if_icmp .ge 8, 3) := by decide +kernel
theorem dL_holds_34 : decode cL_holds 34 = .ok (.iload 4, 2) := by decide +kernel
theorem dL_holds_36 : decode cL_holds 36 = .ok (.goto 4, 3) := by decide +kernel
theorem dL_holds_39 : decode cL_holds 39 = .ok (.iload_n 2, 1) := by decide +kernel
theorem dL_holds_40 : decode cL_holds 40 = .ok (.if_icmp .ne 57, 3) := by decide +kernel
theorem dL_holds_43 : decode cL_holds 43 = .ok (.iload 4, 2) := by decide +kernel
theorem dL_holds_45 : decode cL_holds 45 = .ok (.iload_n 2, 1) := by decide +kernel
theorem dL_holds_46 : decode cL_holds 46 = .ok (.if_icmp .gt 10, 3) := by decide +kernel
theorem dL_holds_49 : decode cL_holds 49 = .ok (.lload 5, 2) := by decide +kernel
theorem dL_holds_51 : decode cL_holds 51 = .ok (.lconst 0, 1) := by decide +kernel
theorem dL_holds_52 : decode cL_holds 52 = .ok (.lcmp, 1) := by decide +kernel
theorem dL_holds_53 : decode cL_holds 53 = .ok (.ifCond .ne 44, 3) := by decide +kernel
theorem dL_holds_56 : decode cL_holds 56 = .ok (.aload_n 0, 1) := by decide +kernel
theorem dL_holds_57 : decode cL_holds 57 = .ok (.iload_n 1, 1) := by decide +kernel
theorem dL_holds_58 : decode cL_holds 58 = .ok (.invokestatic 153, 3) := by decide +kernel
theorem dL_holds_61 : decode cL_holds 61 = .ok (.iload 4, 2) := by decide +kernel
theorem dL_holds_63 : decode cL_holds 63 = .ok (.iload_n 2, 1) := by decide +kernel
theorem dL_holds_64 : decode cL_holds 64 = .ok (.if_icmp .ge 8, 3) := by decide +kernel
theorem dL_holds_67 : decode cL_holds 67 = .ok (.iload 4, 2) := by decide +kernel
theorem dL_holds_69 : decode cL_holds 69 = .ok (.goto 4, 3) := by decide +kernel
theorem dL_holds_72 : decode cL_holds 72 = .ok (.iload_n 2, 1) := by decide +kernel
theorem dL_holds_73 : decode cL_holds 73 = .ok (.if_icmp .gt 24, 3) := by decide +kernel
theorem dL_holds_76 : decode cL_holds 76 = .ok (.aload_n 0, 1) := by decide +kernel
theorem dL_holds_77 : decode cL_holds 77 = .ok (.iload_n 1, 1) := by decide +kernel
theorem dL_holds_78 : decode cL_holds 78 = .ok (.invokestatic 159, 3) := by decide +kernel
theorem dL_holds_81 : decode cL_holds 81 = .ok (.aload_n 0, 1) := by decide +kernel
theorem dL_holds_82 : decode cL_holds 82 = .ok (.iload_n 1, 1) := by decide +kernel
theorem dL_holds_83 : decode cL_holds 83 = .ok (.invokestatic 153, 3) := by decide +kernel
theorem dL_holds_86 : decode cL_holds 86 = .ok (.i2l, 1) := by decide +kernel
theorem dL_holds_87 : decode cL_holds 87 = .ok (.lconst 1, 1) := by decide +kernel
theorem dL_holds_88 : decode cL_holds 88 = .ok (.lsub, 1) := by decide +kernel
theorem dL_holds_89 : decode cL_holds 89 = .ok (.lcmp, 1) := by decide +kernel
theorem dL_holds_90 : decode cL_holds 90 = .ok (.ifCond .lt 7, 3) := by decide +kernel
theorem dL_holds_93 : decode cL_holds 93 = .ok (.iconst 1, 1) := by decide +kernel
theorem dL_holds_94 : decode cL_holds 94 = .ok (.goto 4, 3) := by decide +kernel
theorem dL_holds_97 : decode cL_holds 97 = .ok (.iconst 0, 1) := by decide +kernel
theorem dL_holds_98 : decode cL_holds 98 = .ok (.istore 13, 2) := by decide +kernel
theorem dL_holds_100 : decode cL_holds 100 = .ok (.iconst 0, 1) := by decide +kernel
theorem dL_holds_101 : decode cL_holds 101 = .ok (.istore 14, 2) := by decide +kernel
theorem dL_holds_103 : decode cL_holds 103 = .ok (.iload 14, 2) := by decide +kernel
theorem dL_holds_105 : decode cL_holds 105 = .ok (.iconst 4, 1) := by decide +kernel
theorem dL_holds_106 : decode cL_holds 106 = .ok (.if_icmp .ge 95, 3) := by decide +kernel
theorem dL_holds_109 : decode cL_holds 109 = .ok (.iload 13, 2) := by decide +kernel
theorem dL_holds_111 : decode cL_holds 111 = .ok (.ifCond .eq 90, 3) := by decide +kernel
theorem dL_holds_114 : decode cL_holds 114 = .ok (.aload_n 0, 1) := by decide +kernel
theorem dL_holds_115 : decode cL_holds 115 = .ok (.iload_n 1, 1) := by decide +kernel
theorem dL_holds_116 : decode cL_holds 116 = .ok (.iload 14, 2) := by decide +kernel
theorem dL_holds_118 : decode cL_holds 118 = .ok (.invokestatic 148, 3) := by decide +kernel
theorem dL_holds_121 : decode cL_holds 121 = .ok (.lstore 15, 2) := by decide +kernel
theorem dL_holds_123 : decode cL_holds 123 = .ok (.aload_n 0, 1) := by decide +kernel
theorem dL_holds_124 : decode cL_holds 124 = .ok (.iload_n 1, 1) := by decide +kernel
theorem dL_holds_125 : decode cL_holds 125 = .ok (.iload 14, 2) := by decide +kernel
theorem dL_holds_127 : decode cL_holds 127 = .ok (.invokestatic 150, 3) := by decide +kernel
theorem dL_holds_130 : decode cL_holds 130 = .ok (.istore 17, 2) := by decide +kernel
theorem dL_holds_132 : decode cL_holds 132 = .ok (.lload 7, 2) := by decide +kernel
theorem dL_holds_134 : decode cL_holds 134 = .ok (.lload 15, 2) := by decide +kernel
theorem dL_holds_136 : decode cL_holds 136 = .ok (.ladd, 1) := by decide +kernel
theorem dL_holds_137 : decode cL_holds 137 = .ok (.lstore 7, 2) := by decide +kernel
theorem dL_holds_139 : decode cL_holds 139 = .ok (.lload 9, 2) := by decide +kernel
theorem dL_holds_141 : decode cL_holds 141 = .ok (.iload 17, 2) := by decide +kernel
theorem dL_holds_143 : decode cL_holds 143 = .ok (.i2l, 1) := by decide +kernel
theorem dL_holds_144 : decode cL_holds 144 = .ok (.ladd, 1) := by decide +kernel
theorem dL_holds_145 : decode cL_holds 145 = .ok (.lstore 9, 2) := by decide +kernel
theorem dL_holds_147 : decode cL_holds 147 = .ok (.lload 15, 2) := by decide +kernel
theorem dL_holds_149 : decode cL_holds 149 = .ok (.iload 17, 2) := by decide +kernel
theorem dL_holds_151 : decode cL_holds 151 = .ok (.i2l, 1) := by decide +kernel
theorem dL_holds_152 : decode cL_holds 152 = .ok (.lcmp, 1) := by decide +kernel
theorem dL_holds_153 : decode cL_holds 153 = .ok (.ifCond .lt 39, 3) := by decide +kernel
theorem dL_holds_156 : decode cL_holds 156 = .ok (.iload 17, 2) := by decide +kernel
theorem dL_holds_158 : decode cL_holds 158 = .ok (.aload_n 0, 1) := by decide +kernel
theorem dL_holds_159 : decode cL_holds 159 = .ok (.iload_n 1, 1) := by decide +kernel
theorem dL_holds_160 : decode cL_holds 160 = .ok (.iload 14, 2) := by decide +kernel
theorem dL_holds_162 : decode cL_holds 162 = .ok (.invokestatic 120, 3) := by decide +kernel
theorem dL_holds_165 : decode cL_holds 165 = .ok (.if_icmp .gt 27, 3) := by decide +kernel
theorem dL_holds_168 : decode cL_holds 168 = .ok (.iload 4, 2) := by decide +kernel
theorem dL_holds_170 : decode cL_holds 170 = .ok (.iload_n 2, 1) := by decide +kernel
theorem dL_holds_171 : decode cL_holds 171 = .ok (.if_icmp .gt 17, 3) := by decide +kernel
theorem dL_holds_174 : decode cL_holds 174 = .ok (.lload 15, 2) := by decide +kernel
theorem dL_holds_176 : decode cL_holds 176 = .ok (.aload_n 0, 1) := by decide +kernel
theorem dL_holds_177 : decode cL_holds 177 = .ok (.iload_n 1, 1) := by decide +kernel
theorem dL_holds_178 : decode cL_holds 178 = .ok (.iload 14, 2) := by decide +kernel
theorem dL_holds_180 : decode cL_holds 180 = .ok (.invokestatic 120, 3) := by decide +kernel
theorem dL_holds_183 : decode cL_holds 183 = .ok (.i2l, 1) := by decide +kernel
theorem dL_holds_184 : decode cL_holds 184 = .ok (.lcmp, 1) := by decide +kernel
theorem dL_holds_185 : decode cL_holds 185 = .ok (.ifCond .ne 7, 3) := by decide +kernel
theorem dL_holds_188 : decode cL_holds 188 = .ok (.iconst 1, 1) := by decide +kernel
theorem dL_holds_189 : decode cL_holds 189 = .ok (.goto 4, 3) := by decide +kernel
theorem dL_holds_192 : decode cL_holds 192 = .ok (.iconst 0, 1) := by decide +kernel
theorem dL_holds_193 : decode cL_holds 193 = .ok (.istore 13, 2) := by decide +kernel
theorem dL_holds_195 : decode cL_holds 195 = .ok (.iinc 14 1, 3) := by decide +kernel
theorem dL_holds_198 : decode cL_holds 198 = .ok (.goto (-95), 3) := by decide +kernel
theorem dL_holds_201 : decode cL_holds 201 = .ok (.iconst 0, 1) := by decide +kernel
theorem dL_holds_202 : decode cL_holds 202 = .ok (.istore 14, 2) := by decide +kernel
theorem dL_holds_204 : decode cL_holds 204 = .ok (.iload 14, 2) := by decide +kernel
theorem dL_holds_206 : decode cL_holds 206 = .ok (.aload_n 0, 1) := by decide +kernel
theorem dL_holds_207 : decode cL_holds 207 = .ok (.iload_n 1, 1) := by decide +kernel
theorem dL_holds_208 : decode cL_holds 208 = .ok (.invokestatic 137, 3) := by decide +kernel
theorem dL_holds_211 : decode cL_holds 211 = .ok (.if_icmp .ge 58, 3) := by decide +kernel
theorem dL_holds_214 : decode cL_holds 214 = .ok (.iload 13, 2) := by decide +kernel
theorem dL_holds_216 : decode cL_holds 216 = .ok (.ifCond .eq 53, 3) := by decide +kernel
theorem dL_holds_219 : decode cL_holds 219 = .ok (.lload 11, 2) := by decide +kernel
theorem dL_holds_221 : decode cL_holds 221 = .ok (.aload_n 0, 1) := by decide +kernel
theorem dL_holds_222 : decode cL_holds 222 = .ok (.iload_n 1, 1) := by decide +kernel
theorem dL_holds_223 : decode cL_holds 223 = .ok (.iload 14, 2) := by decide +kernel
theorem dL_holds_225 : decode cL_holds 225 = .ok (.invokestatic 141, 3) := by decide +kernel
theorem dL_holds_228 : decode cL_holds 228 = .ok (.ladd, 1) := by decide +kernel
theorem dL_holds_229 : decode cL_holds 229 = .ok (.lstore 11, 2) := by decide +kernel
theorem dL_holds_231 : decode cL_holds 231 = .ok (.aload_n 0, 1) := by decide +kernel
