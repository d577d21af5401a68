theorem dL_law_211 : decode cL_law 211 = .ok (.ldc 174, 2) := by decide +kernel
theorem dL_law_213 : decode cL_law 213 = .ok (.irem, 1) := by decide +kernel
theorem dL_law_214 : decode cL_law 214 = .ok (.iadd, 1) := by decide +kernel
theorem dL_law_215 : decode cL_law 215 = .ok (.istore 14, 2) := by decide +kernel
theorem dL_law_217 : decode cL_law 217 = .ok (.iload 11, 2) := by decide +kernel
theorem dL_law_219 : decode cL_law 219 = .ok (.iconst 5, 1) := by decide +kernel
theorem dL_law_220 : decode cL_law 220 = .ok (.irem, 1) := by decide +kernel
theorem dL_law_221 : decode cL_law 221 = .ok (.ifCond .ne 13, 3) := by decide +kernel
theorem dL_law_224 : decode cL_law 224 = .ok (.iload 11, 2) := by decide +kernel
theorem dL_law_226 : decode cL_law 226 = .ok (.iconst 5, 1) := by decide +kernel
theorem dL_law_227 : decode cL_law 227 = .ok (.idiv, 1) := by decide +kernel
theorem dL_law_228 : decode cL_law 228 = .ok (.bipush 7, 2) := by decide +kernel
theorem dL_law_230 : decode cL_law 230 = .ok (.irem, 1) := by decide +kernel
theorem dL_law_231 : decode cL_law 231 = .ok (.goto 5, 3) := by decide +kernel
theorem dL_law_234 : decode cL_law 234 = .ok (.iload 11, 2) := by decide +kernel
theorem dL_law_236 : decode cL_law 236 = .ok (.istore 15, 2) := by decide +kernel
theorem dL_law_238 : decode cL_law 238 = .ok (.aload_n 1, 1) := by decide +kernel
theorem dL_law_239 : decode cL_law 239 = .ok (.iload 9, 2) := by decide +kernel
theorem dL_law_241 : decode cL_law 241 = .ok (.invokestatic 118, 3) := by decide +kernel
theorem dL_law_244 : decode cL_law 244 = .ok (.iconst 1, 1) := by decide +kernel
theorem dL_law_245 : decode cL_law 245 = .ok (.iadd, 1) := by decide +kernel
theorem dL_law_246 : decode cL_law 246 = .ok (.istore 16, 2) := by decide +kernel
theorem dL_law_248 : decode cL_law 248 = .ok (.aload_n 2, 1) := by decide +kernel
theorem dL_law_249 : decode cL_law 249 = .ok (.iload 5, 2) := by decide +kernel
theorem dL_law_251 : decode cL_law 251 = .ok (.iload 11, 2) := by decide +kernel
theorem dL_law_253 : decode cL_law 253 = .ok (.sipush 997, 3) := by decide +kernel
theorem dL_law_256 : decode cL_law 256 = .ok (.irem, 1) := by decide +kernel
theorem dL_law_257 : decode cL_law 257 = .ok (.invokestatic 175, 3) := by decide +kernel
theorem dL_law_260 : decode cL_law 260 = .ok (.ifCond .eq 170, 3) := by decide +kernel
theorem dL_law_263 : decode cL_law 263 = .ok (.aload_n 1, 1) := by decide +kernel
theorem dL_law_264 : decode cL_law 264 = .ok (.iload 9, 2) := by decide +kernel
theorem dL_law_266 : decode cL_law 266 = .ok (.iload 13, 2) := by decide +kernel
theorem dL_law_268 : decode cL_law 268 = .ok (.iload 14, 2) := by decide +kernel
theorem dL_law_270 : decode cL_law 270 = .ok (.iload 11, 2) := by decide +kernel
theorem dL_law_272 : decode cL_law 272 = .ok (.iconst 3, 1) := by decide +kernel
theorem dL_law_273 : decode cL_law 273 = .ok (.idiv, 1) := by decide +kernel
theorem dL_law_274 : decode cL_law 274 = .ok (.iconst 4, 1) := by decide +kernel
theorem dL_law_275 : decode cL_law 275 = .ok (.irem, 1) := by decide +kernel
theorem dL_law_276 : decode cL_law 276 = .ok (.iload 15, 2) := by decide +kernel
theorem dL_law_278 : decode cL_law 278 = .ok (.iload 12, 2) := by decide +kernel
theorem dL_law_280 : decode cL_law 280 = .ok (.iconst 5, 1) := by decide +kernel
theorem dL_law_281 : decode cL_law 281 = .ok (.idiv, 1) := by decide +kernel
theorem dL_law_282 : decode cL_law 282 = .ok (.invokestatic 109, 3) := by decide +kernel
theorem dL_law_285 : decode cL_law 285 = .ok (.iload 16, 2) := by decide +kernel
theorem dL_law_287 : decode cL_law 287 = .ok (.if_icmp .ne 143, 3) := by decide +kernel
theorem dL_law_290 : decode cL_law 290 = .ok (.aload_n 2, 1) := by decide +kernel
theorem dL_law_291 : decode cL_law 291 = .ok (.iload 9, 2) := by decide +kernel
theorem dL_law_293 : decode cL_law 293 = .ok (.iload 13, 2) := by decide +kernel
theorem dL_law_295 : decode cL_law 295 = .ok (.iload 14, 2) := by decide +kernel
theorem dL_law_297 : decode cL_law 297 = .ok (.iload 11, 2) := by decide +kernel
theorem dL_law_299 : decode cL_law 299 = .ok (.iconst 3, 1) := by decide +kernel
theorem dL_law_300 : decode cL_law 300 = .ok (.idiv, 1) := by decide +kernel
theorem dL_law_301 : decode cL_law 301 = .ok (.iconst 4, 1) := by decide +kernel
theorem dL_law_302 : decode cL_law 302 = .ok (.irem, 1) := by decide +kernel
theorem dL_law_303 : decode cL_law 303 = .ok (.iload 15, 2) := by decide +kernel
theorem dL_law_305 : decode cL_law 305 = .ok (.iload 12, 2) := by decide +kernel
theorem dL_law_307 : decode cL_law 307 = .ok (.iconst 5, 1) := by decide +kernel
theorem dL_law_308 : decode cL_law 308 = .ok (.idiv, 1) := by decide +kernel
theorem dL_law_309 : decode cL_law 309 = .ok (.invokestatic 109, 3) := by decide +kernel
theorem dL_law_312 : decode cL_law 312 = .ok (.iload 16, 2) := by decide +kernel
theorem dL_law_314 : decode cL_law 314 = .ok (.if_icmp .ne 116, 3) := by decide +kernel
theorem dL_law_317 : decode cL_law 317 = .ok (.aload_n 3, 1) := by decide +kernel
theorem dL_law_318 : decode cL_law 318 = .ok (.iconst 0, 1) := by decide +kernel
theorem dL_law_319 : decode cL_law 319 = .ok (.iload 13, 2) := by decide +kernel
theorem dL_law_321 : decode cL_law 321 = .ok (.iload 14, 2) := by decide +kernel
theorem dL_law_323 : decode cL_law 323 = .ok (.iload 11, 2) := by decide +kernel
theorem dL_law_325 : decode cL_law 325 = .ok (.iconst 3, 1) := by decide +kernel
theorem dL_law_326 : decode cL_law 326 = .ok (.idiv, 1) := by decide +kernel
theorem dL_law_327 : decode cL_law 327 = .ok (.iconst 4, 1) := by decide +kernel
theorem dL_law_328 : decode cL_law 328 = .ok (.irem, 1) := by decide +kernel
theorem dL_law_329 : decode cL_law 329 = .ok (.iload 15, 2) := by decide +kernel
theorem dL_law_331 : decode cL_law 331 = .ok (.iload 12, 2) := by decide +kernel
theorem dL_law_333 : decode cL_law 333 = .ok (.iconst 5, 1) := by decide +kernel
theorem dL_law_334 : decode cL_law 334 = .ok (.idiv, 1) := by decide +kernel
theorem dL_law_335 : decode cL_law 335 = .ok (.invokestatic 109, 3) := by decide +kernel
theorem dL_law_338 : decode cL_law 338 = .ok (.aload_n 1, 1) := by decide +kernel
theorem dL_law_339 : decode cL_law 339 = .ok (.iconst 2, 1) := by decide +kernel
theorem dL_law_340 : decode cL_law 340 = .ok (.invokestatic 118, 3) := by decide +kernel
theorem dL_law_343 : decode cL_law 343 = .ok (.if_icmp .ne 87, 3) := by decide +kernel
theorem dL_law_346 : decode cL_law 346 = .ok (.aload_n 2, 1) := by decide +kernel
theorem dL_law_347 : decode cL_law 347 = .ok (.iload 5, 2) := by decide +kernel
theorem dL_law_349 : decode cL_law 349 = .ok (.iload 12, 2) := by decide +kernel
theorem dL_law_351 : decode cL_law 351 = .ok (.sipush 499, 3) := by decide +kernel
theorem dL_law_354 : decode cL_law 354 = .ok (.irem, 1) := by decide +kernel
theorem dL_law_355 : decode cL_law 355 = .ok (.invokestatic 175, 3) := by decide +kernel
theorem dL_law_358 : decode cL_law 358 = .ok (.ifCond .eq 72, 3) := by decide +kernel
theorem dL_law_361 : decode cL_law 361 = .ok (.aload_n 1, 1) := by decide +kernel
theorem dL_law_362 : decode cL_law 362 = .ok (.iload 9, 2) := by decide +kernel
theorem dL_law_364 : decode cL_law 364 = .ok (.iload 5, 2) := by decide +kernel
theorem dL_law_366 : decode cL_law 366 = .ok (.iload 6, 2) := by decide +kernel
theorem dL_law_368 : decode cL_law 368 = .ok (.invokestatic 179, 3) := by decide +kernel
theorem dL_law_371 : decode cL_law 371 = .ok (.ifCond .eq 59, 3) := by decide +kernel
theorem dL_law_374 : decode cL_law 374 = .ok (.aload_n 1, 1) := by decide +kernel
theorem dL_law_375 : decode cL_law 375 = .ok (.iconst 2, 1) := by decide +kernel
theorem dL_law_376 : decode cL_law 376 = .ok (.aload_n 3, 1) := by decide +kernel
theorem dL_law_377 : decode cL_law 377 = .ok (.iconst 0, 1) := by decide +kernel
theorem dL_law_378 : decode cL_law 378 = .ok (.invokestatic 183, 3) := by decide +kernel
theorem dL_law_381 : decode cL_law 381 = .ok (.ifCond .eq 49, 3) := by decide +kernel
theorem dL_law_384 : decode cL_law 384 = .ok (.aload_n 1, 1) := by decide +kernel
theorem dL_law_385 : decode cL_law 385 = .ok (.iload 9, 2) := by decide +kernel
theorem dL_law_387 : decode cL_law 387 = .ok (.aload_n 2, 1) := by decide +kernel
theorem dL_law_388 : decode cL_law 388 = .ok (.iload 9, 2) := by decide +kernel
theorem dL_law_390 : decode cL_law 390 = .ok (.invokestatic 183, 3) := by decide +kernel
theorem dL_law_393 : decode cL_law 393 = .ok (.ifCond .eq 37, 3) := by decide +kernel
theorem dL_law_396 : decode cL_law 396 = .ok (.aload_n 1, 1) := by decide +kernel
theorem dL_law_397 : decode cL_law 397 = .ok (.iload 9, 2) := by decide +kernel
theorem dL_law_399 : decode cL_law 399 = .ok (.invokestatic 163, 3) := by decide +kernel
theorem dL_law_402 : decode cL_law 402 = .ok (.aload_n 2, 1) := by decide +kernel
theorem dL_law_403 : decode cL_law 403 = .ok (.iload 9, 2) := by decide +kernel
theorem dL_law_405 : decode cL_law 405 = .ok (.invokestatic 163, 3) := by decide +kernel
theorem dL_law_408 : decode cL_law 408 = .ok (.if_icmp .ne 22, 3) := by decide +kernel
theorem dL_law_411 : decode cL_law 411 = .ok (.aload_n 1, 1) := by decide +kernel
theorem dL_law_412 : decode cL_law 412 = .ok (.iload 9, 2) := by decide +kernel
theorem dL_law_414 : decode cL_law 414 = .ok (.invokestatic 167, 3) := by decide +kernel
theorem dL_law_417 : decode cL_law 417 = .ok (.aload_n 2, 1) := by decide +kernel
theorem dL_law_418 : decode cL_law 418 = .ok (.iload 9, 2) := by decide +kernel
theorem dL_law_420 : decode cL_law 420 = .ok (.invokestatic 167, 3) := by decide +kernel
theorem dL_law_423 : decode cL_law 423 = .ok (.if_icmp .ne 7, 3) := by decide +kernel
theorem dL_law_426 : decode cL_law 426 = .ok (.iconst 1, 1) := by decide +kernel
theorem dL_law_427 : decode cL_law 427 = .ok (.goto 4, 3) := by decide +kernel
