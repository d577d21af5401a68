theorem dL_holds_232 : decode cL_holds 232 = .ok (.iload_n 1, 1) := by decide +kernel
theorem dL_holds_233 : decode cL_holds 233 = .ok (.iload 14, 2) := by decide +kernel
theorem dL_holds_235 : decode cL_holds 235 = .ok (.invokestatic 141, 3) := by decide +kernel
theorem dL_holds_238 : decode cL_holds 238 = .ok (.lload 5, 2) := by decide +kernel
theorem dL_holds_240 : decode cL_holds 240 = .ok (.lcmp, 1) := by decide +kernel
theorem dL_holds_241 : decode cL_holds 241 = .ok (.ifCond .lt 19, 3) := by decide +kernel
theorem dL_holds_244 : decode cL_holds 244 = .ok (.aload_n 0, 1) := by decide +kernel
theorem dL_holds_245 : decode cL_holds 245 = .ok (.iload_n 1, 1) := by decide +kernel
theorem dL_holds_246 : decode cL_holds 246 = .ok (.iload 14, 2) := by decide +kernel
theorem dL_holds_248 : decode cL_holds 248 = .ok (.invokestatic 141, 3) := by decide +kernel
theorem dL_holds_251 : decode cL_holds 251 = .ok (.lconst 1, 1) := by decide +kernel
theorem dL_holds_252 : decode cL_holds 252 = .ok (.lcmp, 1) := by decide +kernel
theorem dL_holds_253 : decode cL_holds 253 = .ok (.ifCond .lt 7, 3) := by decide +kernel
theorem dL_holds_256 : decode cL_holds 256 = .ok (.iconst 1, 1) := by decide +kernel
theorem dL_holds_257 : decode cL_holds 257 = .ok (.goto 4, 3) := by decide +kernel
theorem dL_holds_260 : decode cL_holds 260 = .ok (.iconst 0, 1) := by decide +kernel
theorem dL_holds_261 : decode cL_holds 261 = .ok (.istore 13, 2) := by decide +kernel
theorem dL_holds_263 : decode cL_holds 263 = .ok (.iinc 14 1, 3) := by decide +kernel
theorem dL_holds_266 : decode cL_holds 266 = .ok (.goto (-62), 3) := by decide +kernel
theorem dL_holds_269 : decode cL_holds 269 = .ok (.iload 13, 2) := by decide +kernel
theorem dL_holds_271 : decode cL_holds 271 = .ok (.ifCond .eq 23, 3) := by decide +kernel
theorem dL_holds_274 : decode cL_holds 274 = .ok (.lload 11, 2) := by decide +kernel
theorem dL_holds_276 : decode cL_holds 276 = .ok (.lload 7, 2) := by decide +kernel
theorem dL_holds_278 : decode cL_holds 278 = .ok (.lcmp, 1) := by decide +kernel
theorem dL_holds_279 : decode cL_holds 279 = .ok (.ifCond .ne 15, 3) := by decide +kernel
theorem dL_holds_282 : decode cL_holds 282 = .ok (.lload 9, 2) := by decide +kernel
theorem dL_holds_284 : decode cL_holds 284 = .ok (.lload 11, 2) := by decide +kernel
theorem dL_holds_286 : decode cL_holds 286 = .ok (.lcmp, 1) := by decide +kernel
theorem dL_holds_287 : decode cL_holds 287 = .ok (.ifCond .gt 7, 3) := by decide +kernel
theorem dL_holds_290 : decode cL_holds 290 = .ok (.iconst 1, 1) := by decide +kernel
theorem dL_holds_291 : decode cL_holds 291 = .ok (.goto 4, 3) := by decide +kernel
theorem dL_holds_294 : decode cL_holds 294 = .ok (.iconst 0, 1) := by decide +kernel
theorem dL_holds_295 : decode cL_holds 295 = .ok (.istore 13, 2) := by decide +kernel
theorem dL_holds_297 : decode cL_holds 297 = .ok (.iload 13, 2) := by decide +kernel
theorem dL_holds_299 : decode cL_holds 299 = .ok (.ifCond .eq 13, 3) := by decide +kernel
theorem dL_holds_302 : decode cL_holds 302 = .ok (.iload_n 1, 1) := by decide +kernel
theorem dL_holds_303 : decode cL_holds 303 = .ok (.iconst 2, 1) := by decide +kernel
theorem dL_holds_304 : decode cL_holds 304 = .ok (.if_icmp .eq 8, 3) := by decide +kernel
theorem dL_holds_307 : decode cL_holds 307 = .ok (.iload 4, 2) := by decide +kernel
theorem dL_holds_309 : decode cL_holds 309 = .ok (.ifCond .ne 6, 3) := by decide +kernel
theorem dL_holds_312 : decode cL_holds 312 = .ok (.iload 13, 2) := by decide +kernel
theorem dL_holds_314 : decode cL_holds 314 = .ok (.ireturn, 1) := by decide +kernel
theorem dL_holds_315 : decode cL_holds 315 = .ok (.aload_n 0, 1) := by decide +kernel
theorem dL_holds_316 : decode cL_holds 316 = .ok (.iload_n 1, 1) := by decide +kernel
theorem dL_holds_317 : decode cL_holds 317 = .ok (.invokestatic 163, 3) := by decide +kernel
theorem dL_holds_320 : decode cL_holds 320 = .ok (.istore 14, 2) := by decide +kernel
theorem dL_holds_322 : decode cL_holds 322 = .ok (.aload_n 0, 1) := by decide +kernel
theorem dL_holds_323 : decode cL_holds 323 = .ok (.iload_n 1, 1) := by decide +kernel
theorem dL_holds_324 : decode cL_holds 324 = .ok (.invokestatic 167, 3) := by decide +kernel
theorem dL_holds_327 : decode cL_holds 327 = .ok (.istore 15, 2) := by decide +kernel
theorem dL_holds_329 : decode cL_holds 329 = .ok (.iconst 0, 1) := by decide +kernel
theorem dL_holds_330 : decode cL_holds 330 = .ok (.istore 16, 2) := by decide +kernel
theorem dL_holds_332 : decode cL_holds 332 = .ok (.iconst 0, 1) := by decide +kernel
theorem dL_holds_333 : decode cL_holds 333 = .ok (.istore 17, 2) := by decide +kernel
theorem dL_holds_335 : decode cL_holds 335 = .ok (.iload 17, 2) := by decide +kernel
theorem dL_holds_337 : decode cL_holds 337 = .ok (.iconst 4, 1) := by decide +kernel
theorem dL_holds_338 : decode cL_holds 338 = .ok (.if_icmp .ge 21, 3) := by decide +kernel
theorem dL_holds_341 : decode cL_holds 341 = .ok (.iload 16, 2) := by decide +kernel
theorem dL_holds_343 : decode cL_holds 343 = .ok (.aload_n 0, 1) := by decide +kernel
theorem dL_holds_344 : decode cL_holds 344 = .ok (.iload_n 1, 1) := by decide +kernel
theorem dL_holds_345 : decode cL_holds 345 = .ok (.iload 17, 2) := by decide +kernel
theorem dL_holds_347 : decode cL_holds 347 = .ok (.invokestatic 132, 3) := by decide +kernel
theorem dL_holds_350 : decode cL_holds 350 = .ok (.iadd, 1) := by decide +kernel
theorem dL_holds_351 : decode cL_holds 351 = .ok (.istore 16, 2) := by decide +kernel
theorem dL_holds_353 : decode cL_holds 353 = .ok (.iinc 17 1, 3) := by decide +kernel
theorem dL_holds_356 : decode cL_holds 356 = .ok (.goto (-21), 3) := by decide +kernel
theorem dL_holds_359 : decode cL_holds 359 = .ok (.iload 16, 2) := by decide +kernel
theorem dL_holds_361 : decode cL_holds 361 = .ok (.iload 4, 2) := by decide +kernel
theorem dL_holds_363 : decode cL_holds 363 = .ok (.if_icmp .ne 83, 3) := by decide +kernel
theorem dL_holds_366 : decode cL_holds 366 = .ok (.iload 14, 2) := by decide +kernel
theorem dL_holds_368 : decode cL_holds 368 = .ok (.iload 4, 2) := by decide +kernel
theorem dL_holds_370 : decode cL_holds 370 = .ok (.if_icmp .gt 76, 3) := by decide +kernel
theorem dL_holds_373 : decode cL_holds 373 = .ok (.iload 14, 2) := by decide +kernel
theorem dL_holds_375 : decode cL_holds 375 = .ok (.iload 4, 2) := by decide +kernel
theorem dL_holds_377 : decode cL_holds 377 = .ok (.iload_n 3, 1) := by decide +kernel
theorem dL_holds_378 : decode cL_holds 378 = .ok (.isub, 1) := by decide +kernel
theorem dL_holds_379 : decode cL_holds 379 = .ok (.if_icmp .le 67, 3) := by decide +kernel
theorem dL_holds_382 : decode cL_holds 382 = .ok (.iload 14, 2) := by decide +kernel
theorem dL_holds_384 : decode cL_holds 384 = .ok (.iconst 1, 1) := by decide +kernel
theorem dL_holds_385 : decode cL_holds 385 = .ok (.if_icmp .lt 61, 3) := by decide +kernel
theorem dL_holds_388 : decode cL_holds 388 = .ok (.iload 15, 2) := by decide +kernel
theorem dL_holds_390 : decode cL_holds 390 = .ok (.iload 4, 2) := by decide +kernel
theorem dL_holds_392 : decode cL_holds 392 = .ok (.if_icmp .le 54, 3) := by decide +kernel
theorem dL_holds_395 : decode cL_holds 395 = .ok (.iload 15, 2) := by decide +kernel
theorem dL_holds_397 : decode cL_holds 397 = .ok (.iload 4, 2) := by decide +kernel
theorem dL_holds_399 : decode cL_holds 399 = .ok (.iload_n 3, 1) := by decide +kernel
theorem dL_holds_400 : decode cL_holds 400 = .ok (.iadd, 1) := by decide +kernel
theorem dL_holds_401 : decode cL_holds 401 = .ok (.if_icmp .gt 45, 3) := by decide +kernel
theorem dL_holds_404 : decode cL_holds 404 = .ok (.aload_n 0, 1) := by decide +kernel
theorem dL_holds_405 : decode cL_holds 405 = .ok (.iload_n 1, 1) := by decide +kernel
theorem dL_holds_406 : decode cL_holds 406 = .ok (.invokestatic 165, 3) := by decide +kernel
theorem dL_holds_409 : decode cL_holds 409 = .ok (.iconst 1, 1) := by decide +kernel
theorem dL_holds_410 : decode cL_holds 410 = .ok (.if_icmp .lt 36, 3) := by decide +kernel
theorem dL_holds_413 : decode cL_holds 413 = .ok (.aload_n 0, 1) := by decide +kernel
theorem dL_holds_414 : decode cL_holds 414 = .ok (.iload_n 1, 1) := by decide +kernel
theorem dL_holds_415 : decode cL_holds 415 = .ok (.invokestatic 165, 3) := by decide +kernel
theorem dL_holds_418 : decode cL_holds 418 = .ok (.iload_n 3, 1) := by decide +kernel
theorem dL_holds_419 : decode cL_holds 419 = .ok (.if_icmp .gt 27, 3) := by decide +kernel
theorem dL_holds_422 : decode cL_holds 422 = .ok (.aload_n 0, 1) := by decide +kernel
theorem dL_holds_423 : decode cL_holds 423 = .ok (.iload_n 1, 1) := by decide +kernel
theorem dL_holds_424 : decode cL_holds 424 = .ok (.invokestatic 123, 3) := by decide +kernel
theorem dL_holds_427 : decode cL_holds 427 = .ok (.iload 4, 2) := by decide +kernel
theorem dL_holds_429 : decode cL_holds 429 = .ok (.iload_n 2, 1) := by decide +kernel
theorem dL_holds_430 : decode cL_holds 430 = .ok (.if_icmp .ge 8, 3) := by decide +kernel
theorem dL_holds_433 : decode cL_holds 433 = .ok (.iload 4, 2) := by decide +kernel
theorem dL_holds_435 : decode cL_holds 435 = .ok (.goto 4, 3) := by decide +kernel
theorem dL_holds_438 : decode cL_holds 438 = .ok (.iload_n 2, 1) := by decide +kernel
theorem dL_holds_439 : decode cL_holds 439 = .ok (.if_icmp .ne 7, 3) := by decide +kernel
theorem dL_holds_442 : decode cL_holds 442 = .ok (.iconst 1, 1) := by decide +kernel
theorem dL_holds_443 : decode cL_holds 443 = .ok (.goto 4, 3) := by decide +kernel
theorem dL_holds_446 : decode cL_holds 446 = .ok (.iconst 0, 1) := by decide +kernel
theorem dL_holds_447 : decode cL_holds 447 = .ok (.istore 13, 2) := by decide +kernel
theorem dL_holds_449 : decode cL_holds 449 = .ok (.iconst 0, 1) := by decide +kernel
theorem dL_holds_450 : decode cL_holds 450 = .ok (.istore 17, 2) := by decide +kernel
theorem dL_holds_452 : decode cL_holds 452 = .ok (.iload 17, 2) := by decide +kernel
theorem dL_holds_454 : decode cL_holds 454 = .ok (.aload_n 0, 1) := by decide +kernel
theorem dL_holds_455 : decode cL_holds 455 = .ok (.iload_n 1, 1) := by decide +kernel
theorem dL_holds_456 : decode cL_holds 456 = .ok (.invokestatic 123, 3) := by decide +kernel
theorem dL_holds_459 : decode cL_holds 459 = .ok (.if_icmp .ge 58, 3) := by decide +kernel
theorem dL_holds_462 : decode cL_holds 462 = .ok (.iload 13, 2) := by decide +kernel
theorem dL_holds_464 : decode cL_holds 464 = .ok (.ifCond .eq 53, 3) := by decide +kernel
theorem dL_holds_467 : decode cL_holds 467 = .ok (.aload_n 0, 1) := by decide +kernel
theorem dL_holds_468 : decode cL_holds 468 = .ok (.iload_n 1, 1) := by decide +kernel
theorem dL_holds_469 : decode cL_holds 469 = .ok (.iload 17, 2) := by decide +kernel
theorem dL_holds_471 : decode cL_holds 471 = .ok (.invokestatic 129, 3) := by decide +kernel
theorem dL_holds_474 : decode cL_holds 474 = .ok (.istore 18, 2) := by decide +kernel
theorem dL_holds_476 : decode cL_holds 476 = .ok (.iload 18, 2) := by decide +kernel
theorem dL_holds_478 : decode cL_holds 478 = .ok (.iconst 1, 1) := by decide +kernel
theorem dL_holds_479 : decode cL_holds 479 = .ok (.if_icmp .lt 29, 3) := by decide +kernel
theorem dL_holds_482 : decode cL_holds 482 = .ok (.iload 18, 2) := by decide +kernel
theorem dL_holds_484 : decode cL_holds 484 = .ok (.iload 4, 2) := by decide +kernel
theorem dL_holds_486 : decode cL_holds 486 = .ok (.if_icmp .gt 22, 3) := by decide +kernel
theorem dL_holds_489 : decode cL_holds 489 = .ok (.iload 18, 2) := by decide +kernel
theorem dL_holds_491 : decode cL_holds 491 = .ok (.iload 17, 2) := by decide +kernel
theorem dL_holds_493 : decode cL_holds 493 = .ok (.iconst 1, 1) := by decide +kernel
theorem dL_holds_494 : decode cL_holds 494 = .ok (.iadd, 1) := by decide +kernel
theorem dL_holds_495 : decode cL_holds 495 = .ok (.if_icmp .eq 9, 3) := by decide +kernel
theorem dL_holds_498 : decode cL_holds 498 = .ok (.iload 18, 2) := by decide +kernel
theorem dL_holds_500 : decode cL_holds 500 = .ok (.iload_n 2, 1) := by decide +kernel
theorem dL_holds_501 : decode cL_holds 501 = .ok (.if_icmp .le 7, 3) := by decide +kernel
theorem dL_holds_504 : decode cL_holds 504 = .ok (.iconst 1, 1) := by decide +kernel
theorem dL_holds_505 : decode cL_holds 505 = .ok (.goto 4, 3) := by decide +kernel
theorem dL_holds_508 : decode cL_holds 508 = .ok (.iconst 0, 1) := by decide +kernel
theorem dL_holds_509 : decode cL_holds 509 = .ok (.istore 13, 2) := by decide +kernel
theorem dL_holds_511 : decode cL_holds 511 = .ok (.iinc 17 1, 3) := by decide +kernel
theorem dL_holds_514 : decode cL_holds 514 = .ok (.goto (-62), 3) := by decide +kernel
theorem dL_holds_517 : decode cL_holds 517 = .ok (.iload 13, 2) := by decide +kernel
theorem dL_holds_519 : decode cL_holds 519 = .ok (.ireturn, 1) := by decide +kernel
set_option maxRecDepth 20000 in
theorem ggL_law_X6_init : GoodIn wsL_law wsX6_init := goodIn_r _ [8, 9, 10, 11, 12, 13, 14, 15, 16, 17, 18, 19, 20, 21, 22, 23, 24, 25, 26, 27, 28, 29, 30, 31, 32, 33, 34, 35, 36, 37, 38, 39, 40, 41, 42, 43, 44, 45, 46, 47, 48, 49, 50, 51, 52, 53, 54, 55, 56, 57, 58, 59, 60, 61, 62, 63, 64, 65, 66, 67, 68, 69, 70, 71, 72, 73, 74, 75, 76, 77, 2, 78, 79, 80, 81, 82, 83, 84, 85, 86, 87, 88, 89, 90, 91, 92, 93, 94, 95, 96, 97, 98, 99, 100, 101, 102, 103, 104, 105, 106, 107, 108, 109, 110, 111, 112, 113, 114, 115, 116, 117, 118, 119, 120, 121, 122, 468, 469, 470, 471, 472, 473, 474, 475, 476, 477, 478, 463, 464, 465, 466, 467, 479, 480, 481, 482, 483, 484, 485, 486, 487, 488, 489, 490, 491, 492, 493, 494, 495, 496, 497, 498, 499, 500] (by decide +kernel) (by decide +kernel)
set_option maxRecDepth 20000 in
theorem gL_law_X6_init : GoodIn wsL_law (wsX6_init) := ggL_law_X6_init
set_option maxRecDepth 20000 in
theorem ggL_law_L_drawn : GoodIn wsL_law wsL_drawn := goodIn_r _ [126, 127, 128] (by decide +kernel) (by decide +kernel)
set_option maxRecDepth 20000 in
theorem gL_law_L_drawn : GoodIn wsL_law (va_wsS RL 170 yL_drawn wsL_drawn) := goodIn_app (goodIn_of _ (by decide +kernel)) ggL_law_L_drawn
set_option maxRecDepth 20000 in
theorem ggL_law_L_begun : GoodIn wsL_law wsL_begun := goodIn_ca (goodIn_r _ [131, 132, 133, 134, 135, 136, 2, 137, 138, 139, 140, 141, 142, 75, 76, 77, 78, 79, 15, 16, 80, 81, 82, 14, 83, 84, 85, 86, 87, 88, 89, 90, 31, 35, 36, 37, 38, 40, 42, 46, 91, 92, 93, 30, 94, 95, 96, 97, 98, 99, 34, 100, 101, 57, 102, 103, 104, 105, 19, 106, 107, 108, 109, 110, 111, 23, 112, 113, 114, 115, 116, 117, 45, 118, 119, 120, 121, 122, 463, 464, 465, 466, 467, 468, 469, 470, 471, 472, 473, 474, 475, 476, 477, 478, 489, 490, 491, 492, 493, 494, 479, 480, 481, 482, 483, 484, 485, 486, 487, 488, 495, 496, 497, 498, 499, 500] (by decide +kernel) (by decide +kernel)) (goodIn_sub (fun _ h => List.mem_append_left _ (List.mem_append_left _ (List.mem_append_right _ h))) (by decide +kernel))
set_option maxRecDepth 20000 in
theorem gL_law_L_begun : GoodIn wsL_law (va_wsS RL 103 yL_begun wsL_begun) := goodIn_app (goodIn_of _ (by decide +kernel)) ggL_law_L_begun
set_option maxRecDepth 20000 in
theorem ggL_law_L_offers : GoodIn wsL_law wsL_offers := goodIn_ca (goodIn_r _ [145, 132, 133, 146, 147, 148, 2, 149, 15, 16, 138, 139, 140, 141, 142, 150, 151, 152, 153, 463, 464, 465, 466, 467, 468, 469, 470, 471, 472, 473, 474, 475, 476, 477, 478] (by decide +kernel) (by decide +kernel)) (goodIn_sub (fun _ h => List.mem_append_left _ (List.mem_append_left _ (List.mem_append_right _ h))) (by decide +kernel))
set_option maxRecDepth 20000 in
theorem gL_law_L_offers : GoodIn wsL_law (va_wsS RL 118 yL_offers wsL_offers) := goodIn_app (goodIn_of _ (by decide +kernel)) ggL_law_L_offers
set_option maxRecDepth 20000 in
theorem g_wsL_refuses_r1 : GoodIn wsL_law wsL_refuses_r1 := goodIn_r _ [133, 3, 157, 158, 159, 129, 130, 125, 131, 132, 134, 135, 136, 2, 137, 138, 139, 140, 141, 142, 75, 76, 77, 78] (by decide +kernel) (by decide +kernel)
set_option maxRecDepth 20000 in
theorem g_wsL_refuses_r2 : GoodIn wsL_law wsL_refuses_r2 := goodIn_r _ [79, 15, 16, 80, 81, 82, 14, 83, 84, 85, 86, 87, 88, 89, 90, 31, 35, 36, 37, 38, 40, 42, 46, 91] (by decide +kernel) (by decide +kernel)
set_option maxRecDepth 20000 in
theorem g_wsL_refuses_r3 : GoodIn wsL_law wsL_refuses_r3 := goodIn_r _ [92, 93, 30, 94, 95, 96, 97, 98, 99, 34, 100, 101, 57, 102, 103, 104, 105, 19, 106, 107, 108, 109, 110, 111] (by decide +kernel) (by decide +kernel)
set_option maxRecDepth 20000 in
theorem g_wsL_refuses_r4 : GoodIn wsL_law wsL_refuses_r4 := goodIn_r _ [23, 112, 113, 114, 115, 116, 117, 45, 118, 119, 120, 121, 122, 160, 161, 162, 163, 5, 164, 165, 166, 167, 168, 169] (by decide +kernel) (by decide +kernel)
set_option maxRecDepth 20000 in
theorem g_wsL_refuses_r5 : GoodIn wsL_law wsL_refuses_r5 := goodIn_r _ [150, 151, 152, 153, 170, 171, 172, 173, 174, 175, 176, 177, 178, 179, 180, 181, 182, 51, 52, 183, 184, 185, 186, 187] (by decide +kernel) (by decide +kernel)
set_option maxRecDepth 20000 in
theorem g_wsL_refuses_r6 : GoodIn wsL_law wsL_refuses_r6 := goodIn_r _ [188, 189, 190, 191, 192, 193, 194, 195, 196, 197, 198, 199, 200, 201, 202, 203, 61, 62, 63, 64, 204, 205, 206, 207] (by decide +kernel) (by decide +kernel)
set_option maxRecDepth 20000 in
theorem g_wsL_refuses_r7 : GoodIn wsL_law wsL_refuses_r7 := goodIn_r _ [208, 209, 210, 211, 212, 213, 214, 215, 216, 217, 218, 219, 220, 221, 68, 69, 222, 223, 224, 225, 226, 227, 228, 229] (by decide +kernel) (by decide +kernel)
set_option maxRecDepth 20000 in
theorem g_wsL_refuses_r8 : GoodIn wsL_law wsL_refuses_r8 := goodIn_r _ [230, 231, 232, 233, 234, 235, 236, 74, 237, 238, 239, 240, 73, 241, 242, 243, 244, 245, 246, 247, 248, 143, 144, 145] (by decide +kernel) (by decide +kernel)
set_option maxRecDepth 20000 in
theorem g_wsL_refuses_r9 : GoodIn wsL_law wsL_refuses_r9 := goodIn_r _ [146, 147, 148, 149, 249, 250, 251, 252, 253, 254, 255, 256, 257, 258, 259, 260, 261, 262, 263, 264, 265, 266, 267, 268] (by decide +kernel) (by decide +kernel)
set_option maxRecDepth 20000 in
theorem g_wsL_refuses_r10 : GoodIn wsL_law wsL_refuses_r10 := goodIn_r _ [269, 270, 271, 272, 273, 274, 275, 276, 277, 278, 279, 280, 281, 282, 283, 284, 285, 286, 287, 288, 289, 290, 291, 292] (by decide +kernel) (by decide +kernel)
set_option maxRecDepth 20000 in
theorem g_wsL_refuses_r11 : GoodIn wsL_law wsL_refuses_r11 := goodIn_r _ [293, 294, 295, 296, 297, 298, 299, 300, 301, 302, 303, 304, 305, 306, 307, 308, 309, 310, 311, 312, 313, 20, 314, 315] (by decide +kernel) (by decide +kernel)
set_option maxRecDepth 20000 in
theorem g_wsL_refuses_r12 : GoodIn wsL_law wsL_refuses_r12 := goodIn_r _ [316, 317, 318, 319, 320, 321, 322, 323, 324, 325, 326, 327, 328, 329, 330, 331, 332, 333, 334, 335, 336, 337, 338, 339] (by decide +kernel) (by decide +kernel)
set_option maxRecDepth 20000 in
theorem g_wsL_refuses_r13 : GoodIn wsL_law wsL_refuses_r13 := goodIn_r _ [340, 341, 342, 343, 344, 345, 346, 347, 348, 349, 350, 351, 352, 353, 354, 355, 356, 357, 358, 359, 360, 361, 362, 363] (by decide +kernel) (by decide +kernel)
set_option maxRecDepth 20000 in
theorem g_wsL_refuses_r14 : GoodIn wsL_law wsL_refuses_r14 := goodIn_r _ [364, 365, 366, 367, 368, 369, 370, 371, 372, 373, 374, 375, 376, 377, 378, 379, 380, 381, 382, 383, 384, 385, 386, 387] (by decide +kernel) (by decide +kernel)
set_option maxRecDepth 20000 in
theorem g_wsL_refuses_r15 : GoodIn wsL_law wsL_refuses_r15 := goodIn_r _ [388, 389, 390, 391, 392, 393, 24, 394, 395, 396, 397, 398, 399, 400, 401, 402, 403, 404, 405, 406, 407, 408, 409, 410] (by decide +kernel) (by decide +kernel)
set_option maxRecDepth 20000 in
theorem g_wsL_refuses_r16 : GoodIn wsL_law wsL_refuses_r16 := goodIn_r _ [411, 412, 413, 414, 415, 416, 417, 418, 419, 420, 421, 422, 423, 424, 425, 426, 427, 428, 429, 430, 431, 432, 433, 434] (by decide +kernel) (by decide +kernel)
set_option maxRecDepth 20000 in
theorem g_wsL_refuses_r17 : GoodIn wsL_law wsL_refuses_r17 := goodIn_r _ [435, 436, 437, 438, 439, 440, 441, 442, 443, 444, 445, 446, 447, 448, 449, 450, 451, 452, 453, 454, 455, 456] (by decide +kernel) (by decide +kernel)
set_option maxRecDepth 20000 in
theorem g_wsL_refuses_c : GoodIn wsL_law [.code yL_refuses cL_refuses 6 (some .boolean)] := goodIn_r _ [156] (by decide +kernel) (by decide +kernel)
theorem g_wsL_refuses_R : GoodIn wsL_law (.code yL_refuses cL_refuses 6 (some .boolean) :: (wsL_refuses_r1 ++ (wsL_refuses_r2 ++ (wsL_refuses_r3 ++ (wsL_refuses_r4 ++ (wsL_refuses_r5 ++ (wsL_refuses_r6 ++ (wsL_refuses_r7 ++ (wsL_refuses_r8 ++ (wsL_refuses_r9 ++ (wsL_refuses_r10 ++ (wsL_refuses_r11 ++ (wsL_refuses_r12 ++ (wsL_refuses_r13 ++ (wsL_refuses_r14 ++ (wsL_refuses_r15 ++ (wsL_refuses_r16 ++ wsL_refuses_r17))))))))))))))))) := fun w h => (List.mem_cons.mp h).elim (fun e => g_wsL_refuses_c w (List.mem_cons.mpr (Or.inl e))) ((goodIn_app g_wsL_refuses_r1 (goodIn_app g_wsL_refuses_r2 (goodIn_app g_wsL_refuses_r3 (goodIn_app g_wsL_refuses_r4 (goodIn_app g_wsL_refuses_r5 (goodIn_app g_wsL_refuses_r6 (goodIn_app g_wsL_refuses_r7 (goodIn_app g_wsL_refuses_r8 (goodIn_app g_wsL_refuses_r9 (goodIn_app g_wsL_refuses_r10 (goodIn_app g_wsL_refuses_r11 (goodIn_app g_wsL_refuses_r12 (goodIn_app g_wsL_refuses_r13 (goodIn_app g_wsL_refuses_r14 (goodIn_app g_wsL_refuses_r15 (goodIn_app g_wsL_refuses_r16 g_wsL_refuses_r17)))))))))))))))) w)
set_option maxRecDepth 20000 in
theorem ggL_law_L_refuses : GoodIn wsL_law wsL_refuses := (goodIn_ca (goodIn_ca (goodIn_ca (goodIn_ca (goodIn_ca (goodIn_ca (goodIn_ca (goodIn_ca (goodIn_ca (goodIn_ca g_wsL_refuses_R (goodIn_sub inlX6 (by decide +kernel))) (goodIn_sub inlX5 (by decide +kernel))) (goodIn_sub inlX4 (by decide +kernel))) (goodIn_sub inlX2 (by decide +kernel))) (goodIn_sub inlX3 (by decide +kernel))) (goodIn_sub inlX1 (by decide +kernel))) (goodIn_sub inlX0 (by decide +kernel))) (goodIn_sub (fun _ h => List.mem_append_left _ (List.mem_append_left _ (List.mem_append_right _ h))) (by decide +kernel))) (goodIn_sub (fun _ h => List.mem_append_left _ (List.mem_append_right _ h)) (by decide +kernel))) (goodIn_sub (fun _ h => List.mem_append_right _ h) (by decide +kernel)))
set_option maxRecDepth 20000 in
theorem gL_law_L_refuses : GoodIn wsL_law (va_wsS RL 175 yL_refuses wsL_refuses) := goodIn_app (goodIn_of _ (by decide +kernel)) ggL_law_L_refuses
set_option maxRecDepth 20000 in
theorem ggL_law_L_offered : GoodIn wsL_law wsL_offered := goodIn_ca (goodIn_ca (goodIn_r _ [162, 132, 163, 133, 5, 164, 165, 166, 2, 167, 168, 169, 138, 139, 140, 141, 142, 150, 151, 152, 153, 15, 16, 170, 171, 172, 173, 174, 175, 176, 177, 14, 178, 90, 31, 40, 42, 46, 179, 180, 181, 30, 182, 96, 95, 51, 52, 183, 184, 185, 186, 187, 188, 189, 190, 35, 36, 37, 38, 191, 192, 193, 34, 194, 101, 57, 195, 196, 197, 198, 19, 199, 107, 108, 200, 201, 202, 203, 61, 62, 63, 64, 204, 205, 206, 207, 208, 209, 210, 211, 212, 213, 214, 215, 216, 217, 218, 219, 220, 23, 221, 114, 68, 69, 113, 222, 223, 224, 225, 226, 227, 228, 229, 230, 231, 232, 233, 234, 45, 235, 119, 236, 120, 121, 122, 74, 237, 238, 239, 240, 73, 468, 469, 470, 471, 472, 473, 474, 475, 476, 477, 478, 463, 464, 465, 466, 467, 489, 490, 491, 492, 493, 494, 479, 480, 481, 482, 483, 484, 485, 486, 487, 488, 495, 496, 497, 498, 499, 500] (by decide +kernel) (by decide +kernel)) (goodIn_sub (fun _ h => List.mem_append_left _ (List.mem_append_left _ (List.mem_append_right _ h))) (by decide +kernel))) (goodIn_sub (fun _ h => List.mem_append_left _ (List.mem_append_right _ h)) (by decide +kernel))
set_option maxRecDepth 20000 in
theorem gL_law_L_offered : GoodIn wsL_law (va_wsS RL 109 yL_offered wsL_offered) := goodIn_app (goodIn_of _ (by decide +kernel)) ggL_law_L_offered
set_option maxRecDepth 20000 in
theorem ggL_law_L_merged : GoodIn wsL_law wsL_merged := goodIn_ca (goodIn_ca (goodIn_r _ [462, 303, 304, 125, 305, 132, 133, 306, 307, 308, 2, 309, 138, 139, 140, 141, 142, 310, 311, 312, 313, 20, 79, 15, 16, 150, 151, 152, 153, 314, 104, 105, 19, 106, 107, 108, 315, 316, 317, 318, 61, 62, 63, 64, 212, 213, 319, 197, 198, 199, 200, 201, 202, 203, 204, 205, 206, 207, 208, 209, 210, 211, 214, 215, 216, 217, 185, 186, 320, 321, 322, 323, 143, 144, 145, 146, 147, 148, 149, 351, 352, 353, 159, 354, 355, 356, 357, 358, 346, 347, 348, 349, 350, 383, 384, 385, 386, 387, 388, 389, 390, 391, 392, 393, 24, 394, 110, 111, 23, 112, 113, 114, 395, 396, 397, 398, 68, 69, 399, 219, 220, 221, 222, 223, 224, 225, 226, 227, 228, 229, 230, 231, 414, 415, 416, 417, 418, 419, 420, 421, 422, 423, 424, 324, 325, 326, 272, 157, 327, 328, 329, 330, 277, 278, 279, 280, 281, 331, 332, 333, 158, 334, 335, 336, 337, 338, 339, 340, 341, 342, 343, 344, 345, 400, 401, 402, 403, 404, 405, 406, 407, 408, 409, 410, 411, 412, 413, 249, 250, 251, 252, 253, 254, 255, 256, 188, 189, 14, 190, 35, 36, 37, 38, 359, 360, 361, 362, 363, 364, 365, 366, 367, 368, 369, 370, 371, 372, 373, 374, 375, 376, 377, 378, 379, 380, 381, 382, 468, 469, 470, 471, 472, 473, 474, 475, 476, 477, 478, 463, 464, 465, 466, 467, 479, 480, 481, 482, 483, 484, 485, 486, 487, 488, 493, 494] (by decide +kernel) (by decide +kernel)) (goodIn_sub (fun _ h => List.mem_append_left _ (List.mem_append_left _ (List.mem_append_right _ h))) (by decide +kernel))) (goodIn_sub (fun _ h => List.mem_append_right _ h) (by decide +kernel))
set_option maxRecDepth 20000 in
theorem gL_law_L_merged : GoodIn wsL_law (va_wsS RL 183 yL_merged wsL_merged) := goodIn_app (goodIn_of _ (by decide +kernel)) ggL_law_L_merged
set_option maxRecDepth 20000 in
theorem ggL_law_L_windowPosition : GoodIn wsL_law wsL_windowPosition := goodIn_ca (goodIn_ca (goodIn_r _ [434, 132, 163, 133, 5, 435, 436, 437, 2, 438, 138, 139, 140, 141, 142, 150, 151, 152, 153, 15, 16, 170, 171, 172, 173, 174, 216, 212, 213, 468, 469, 470, 471, 472, 473, 474, 475, 476, 477, 478, 495, 496, 497, 498, 499, 500, 463, 464, 465, 466, 467] (by decide +kernel) (by decide +kernel)) (goodIn_sub (fun _ h => List.mem_append_left _ (List.mem_append_left _ (List.mem_append_right _ h))) (by decide +kernel))) (goodIn_sub (fun _ h => List.mem_append_left _ (List.mem_append_right _ h)) (by decide +kernel))
set_option maxRecDepth 20000 in
theorem gL_law_L_windowPosition : GoodIn wsL_law (va_wsS RL 163 yL_windowPosition wsL_windowPosition) := goodIn_app (goodIn_of _ (by decide +kernel)) ggL_law_L_windowPosition
set_option maxRecDepth 20000 in
theorem ggL_law_L_successor : GoodIn wsL_law wsL_successor := goodIn_ca (goodIn_ca (goodIn_r _ [452, 132, 163, 133, 5, 453, 454, 455, 2, 456, 138, 139, 140, 141, 142, 150, 151, 152, 153, 15, 16, 170, 171, 172, 173, 174, 468, 469, 470, 471, 472, 473, 474, 475, 476, 477, 478, 495, 496, 497, 498, 499, 500, 463, 464, 465, 466, 467] (by decide +kernel) (by decide +kernel)) (goodIn_sub (fun _ h => List.mem_append_left _ (List.mem_append_left _ (List.mem_append_right _ h))) (by decide +kernel))) (goodIn_sub (fun _ h => List.mem_append_left _ (List.mem_append_right _ h)) (by decide +kernel))
set_option maxRecDepth 20000 in
theorem gL_law_L_successor : GoodIn wsL_law (va_wsS RL 167 yL_successor wsL_successor) := goodIn_app (goodIn_of _ (by decide +kernel)) ggL_law_L_successor
set_option maxRecDepth 20000 in
theorem ggL_law_L_slotPosition : GoodIn wsL_law wsL_slotPosition := goodIn_ca (goodIn_ca (goodIn_r _ [284, 132, 272, 133, 157, 285, 286, 287, 2, 288, 138, 139, 140, 141, 142, 150, 151, 152, 153, 15, 16, 264, 265, 266, 30, 267, 96, 95, 268, 201, 202, 203, 277, 278, 279, 280, 281, 216, 212, 213, 468, 469, 470, 471, 472, 473, 474, 475, 476, 477, 478, 489, 490, 491, 492, 463, 464, 465, 466, 467] (by decide +kernel) (by decide +kernel)) (goodIn_sub (fun _ h => List.mem_append_left _ (List.mem_append_left _ (List.mem_append_right _ h))) (by decide +kernel))) (goodIn_sub (fun _ h => List.mem_append_right _ h) (by decide +kernel))
set_option maxRecDepth 20000 in
theorem gL_law_L_slotPosition : GoodIn wsL_law (va_wsS RL 129 yL_slotPosition wsL_slotPosition) := goodIn_app (goodIn_of _ (by decide +kernel)) ggL_law_L_slotPosition
set_option maxRecDepth 20000 in
theorem ggL_law_L_slotItem : GoodIn wsL_law wsL_slotItem := goodIn_ca (goodIn_ca (goodIn_r _ [271, 132, 272, 133, 157, 273, 274, 275, 2, 276, 138, 139, 140, 141, 142, 150, 151, 152, 153, 15, 16, 264, 265, 266, 30, 267, 96, 95, 268, 201, 202, 203, 277, 278, 279, 280, 281, 216, 212, 213, 468, 469, 470, 471, 472, 473, 474, 475, 476, 477, 478, 489, 490, 491, 492, 463, 464, 465, 466, 467] (by decide +kernel) (by decide +kernel)) (goodIn_sub (fun _ h => List.mem_append_left _ (List.mem_append_left _ (List.mem_append_right _ h))) (by decide +kernel))) (goodIn_sub (fun _ h => List.mem_append_right _ h) (by decide +kernel))
set_option maxRecDepth 20000 in
theorem gL_law_L_slotItem : GoodIn wsL_law (va_wsS RL 126 yL_slotItem wsL_slotItem) := goodIn_app (goodIn_of _ (by decide +kernel)) ggL_law_L_slotItem
set_option maxRecDepth 20000 in
theorem ggL_law_L_groupItem : GoodIn wsL_law wsL_groupItem := goodIn_ca (goodIn_ca (goodIn_r _ [298, 132, 272, 133, 157, 299, 300, 301, 2, 302, 138, 139, 140, 141, 142, 150, 151, 152, 153, 15, 16, 256, 188, 189, 14, 190, 35, 36, 37, 38, 264, 265, 266, 30, 267, 96, 95, 268, 201, 202, 203, 277, 278, 279, 280, 281, 216, 212, 213, 493, 494, 489, 490, 491, 492, 463, 464, 465, 466, 467, 468, 469, 470, 471, 472, 473, 474, 475, 476, 477, 478] (by decide +kernel) (by decide +kernel)) (goodIn_sub (fun _ h => List.mem_append_left _ (List.mem_append_left _ (List.mem_append_right _ h))) (by decide +kernel))) (goodIn_sub (fun _ h => List.mem_append_right _ h) (by decide +kernel))
set_option maxRecDepth 20000 in
theorem gL_law_L_groupItem : GoodIn wsL_law (va_wsS RL 134 yL_groupItem wsL_groupItem) := goodIn_app (goodIn_of _ (by decide +kernel)) ggL_law_L_groupItem
set_option maxRecDepth 20000 in
theorem ggL_law_L_cleared : GoodIn wsL_law wsL_cleared := goodIn_ca (goodIn_r _ [243, 132, 133, 244, 245, 246, 2, 247, 138, 139, 140, 141, 142, 150, 151, 152, 153, 15, 16, 248, 87, 88, 14, 89, 90, 31, 84, 35, 36, 37, 38, 40, 42, 46, 85, 91, 92, 93, 30, 94, 95, 96, 97, 98, 99, 34, 100, 101, 57, 102, 103, 104, 105, 19, 106, 107, 108, 109, 110, 111, 23, 112, 113, 114, 115, 116, 117, 45, 118, 119, 120, 121, 122, 468, 469, 470, 471, 472, 473, 474, 475, 476, 477, 478, 463, 464, 465, 466, 467, 489, 490, 491, 492, 493, 494, 479, 480, 481, 482, 483, 484, 485, 486, 487, 488, 495, 496, 497, 498, 499, 500] (by decide +kernel) (by decide +kernel)) (goodIn_sub (fun _ h => List.mem_append_left _ (List.mem_append_left _ (List.mem_append_right _ h))) (by decide +kernel))
set_option maxRecDepth 20000 in
theorem gL_law_L_cleared : GoodIn wsL_law (va_wsS RL 114 yL_cleared wsL_cleared) := goodIn_app (goodIn_of _ (by decide +kernel)) ggL_law_L_cleared
set_option maxRecDepth 20000 in
theorem ggL_law_L_windowItem : GoodIn wsL_law wsL_windowItem := goodIn_ca (goodIn_ca (goodIn_r _ [427, 132, 163, 133, 5, 428, 429, 430, 2, 431, 138, 139, 140, 141, 142, 150, 151, 152, 153, 15, 16, 170, 171, 172, 173, 174, 216, 212, 213, 468, 469, 470, 471, 472, 473, 474, 475, 476, 477, 478, 495, 496, 497, 498, 499, 500, 463, 464, 465, 466, 467] (by decide +kernel) (by decide +kernel)) (goodIn_sub (fun _ h => List.mem_append_left _ (List.mem_append_left _ (List.mem_append_right _ h))) (by decide +kernel))) (goodIn_sub (fun _ h => List.mem_append_left _ (List.mem_append_right _ h)) (by decide +kernel))
set_option maxRecDepth 20000 in
theorem gL_law_L_windowItem : GoodIn wsL_law (va_wsS RL 161 yL_windowItem wsL_windowItem) := goodIn_app (goodIn_of _ (by decide +kernel)) ggL_law_L_windowItem
set_option maxRecDepth 20000 in
theorem ggL_law_L_chainLength : GoodIn wsL_law wsL_chainLength := goodIn_ca (goodIn_r _ [441, 132, 133, 442, 443, 444, 2, 445, 138, 139, 140, 141, 142, 150, 151, 152, 153, 15, 16, 446, 447, 448, 45, 449, 121, 120, 468, 469, 470, 471, 472, 473, 474, 475, 476, 477, 478, 463, 464, 465, 466, 467, 495, 496, 497, 498, 499, 500] (by decide +kernel) (by decide +kernel)) (goodIn_sub (fun _ h => List.mem_append_left _ (List.mem_append_left _ (List.mem_append_right _ h))) (by decide +kernel))
set_option maxRecDepth 20000 in
theorem gL_law_L_chainLength : GoodIn wsL_law (va_wsS RL 165 yL_chainLength wsL_chainLength) := goodIn_app (goodIn_of _ (by decide +kernel)) ggL_law_L_chainLength
