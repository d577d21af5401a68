theorem dL_refuses_32 : decode cL_refuses 32 = .ok (.irem, 1) := by decide +kernel
theorem dL_refuses_33 : decode cL_refuses 33 = .ok (.isub, 1) := by decide +kernel
theorem dL_refuses_34 : decode cL_refuses 34 = .ok (.goto 9, 3) := by decide +kernel
theorem dL_refuses_37 : decode cL_refuses 37 = .ok (.iload_n 1, 1) := by decide +kernel
theorem dL_refuses_38 : decode cL_refuses 38 = .ok (.iload_n 2, 1) := by decide +kernel
theorem dL_refuses_39 : decode cL_refuses 39 = .ok (.bipush 60, 2) := by decide +kernel
theorem dL_refuses_41 : decode cL_refuses 41 = .ok (.irem, 1) := by decide +kernel
theorem dL_refuses_42 : decode cL_refuses 42 = .ok (.iadd, 1) := by decide +kernel
theorem dL_refuses_43 : decode cL_refuses 43 = .ok (.istore 4, 2) := by decide +kernel
theorem dL_refuses_45 : decode cL_refuses 45 = .ok (.aload_n 0, 1) := by decide +kernel
theorem dL_refuses_46 : decode cL_refuses 46 = .ok (.iconst 1, 1) := by decide +kernel
theorem dL_refuses_47 : decode cL_refuses 47 = .ok (.bipush 8, 2) := by decide +kernel
theorem dL_refuses_49 : decode cL_refuses 49 = .ok (.invokestatic 103, 3) := by decide +kernel
theorem dL_refuses_52 : decode cL_refuses 52 = .ok (.ldc 15, 2) := by decide +kernel
theorem dL_refuses_54 : decode cL_refuses 54 = .ok (.if_icmp .ne 202, 3) := by decide +kernel
theorem dL_refuses_57 : decode cL_refuses 57 = .ok (.aload_n 0, 1) := by decide +kernel
theorem dL_refuses_58 : decode cL_refuses 58 = .ok (.bipush 17, 2) := by decide +kernel
theorem dL_refuses_60 : decode cL_refuses 60 = .ok (.iconst 1, 1) := by decide +kernel
theorem dL_refuses_61 : decode cL_refuses 61 = .ok (.invokestatic 103, 3) := by decide +kernel
theorem dL_refuses_64 : decode cL_refuses 64 = .ok (.ldc 15, 2) := by decide +kernel
theorem dL_refuses_66 : decode cL_refuses 66 = .ok (.if_icmp .ne 190, 3) := by decide +kernel
theorem dL_refuses_69 : decode cL_refuses 69 = .ok (.aload_n 0, 1) := by decide +kernel
theorem dL_refuses_70 : decode cL_refuses 70 = .ok (.iconst 2, 1) := by decide +kernel
theorem dL_refuses_71 : decode cL_refuses 71 = .ok (.iconst 0, 1) := by decide +kernel
theorem dL_refuses_72 : decode cL_refuses 72 = .ok (.invokestatic 103, 3) := by decide +kernel
theorem dL_refuses_75 : decode cL_refuses 75 = .ok (.ldc 15, 2) := by decide +kernel
theorem dL_refuses_77 : decode cL_refuses 77 = .ok (.if_icmp .ne 179, 3) := by decide +kernel
theorem dL_refuses_80 : decode cL_refuses 80 = .ok (.aload_n 0, 1) := by decide +kernel
theorem dL_refuses_81 : decode cL_refuses 81 = .ok (.iconst 2, 1) := by decide +kernel
theorem dL_refuses_82 : decode cL_refuses 82 = .ok (.bipush 65, 2) := by decide +kernel
theorem dL_refuses_84 : decode cL_refuses 84 = .ok (.invokestatic 103, 3) := by decide +kernel
theorem dL_refuses_87 : decode cL_refuses 87 = .ok (.ldc 15, 2) := by decide +kernel
theorem dL_refuses_89 : decode cL_refuses 89 = .ok (.if_icmp .ne 167, 3) := by decide +kernel
theorem dL_refuses_92 : decode cL_refuses 92 = .ok (.aload_n 0, 1) := by decide +kernel
theorem dL_refuses_93 : decode cL_refuses 93 = .ok (.iconst 2, 1) := by decide +kernel
theorem dL_refuses_94 : decode cL_refuses 94 = .ok (.iconst 1, 1) := by decide +kernel
theorem dL_refuses_95 : decode cL_refuses 95 = .ok (.iconst 1, 1) := by decide +kernel
theorem dL_refuses_96 : decode cL_refuses 96 = .ok (.iconst 0, 1) := by decide +kernel
theorem dL_refuses_97 : decode cL_refuses 97 = .ok (.iconst 0, 1) := by decide +kernel
theorem dL_refuses_98 : decode cL_refuses 98 = .ok (.iconst 0, 1) := by decide +kernel
theorem dL_refuses_99 : decode cL_refuses 99 = .ok (.invokestatic 109, 3) := by decide +kernel
theorem dL_refuses_102 : decode cL_refuses 102 = .ok (.ldc 15, 2) := by decide +kernel
theorem dL_refuses_104 : decode cL_refuses 104 = .ok (.if_icmp .ne 152, 3) := by decide +kernel
theorem dL_refuses_107 : decode cL_refuses 107 = .ok (.aload_n 0, 1) := by decide +kernel
theorem dL_refuses_108 : decode cL_refuses 108 = .ok (.iload_n 3, 1) := by decide +kernel
theorem dL_refuses_109 : decode cL_refuses 109 = .ok (.iconst 1, 1) := by decide +kernel
theorem dL_refuses_110 : decode cL_refuses 110 = .ok (.iconst 1, 1) := by decide +kernel
theorem dL_refuses_111 : decode cL_refuses 111 = .ok (.iconst 0, 1) := by decide +kernel
theorem dL_refuses_112 : decode cL_refuses 112 = .ok (.iconst 0, 1) := by decide +kernel
theorem dL_refuses_113 : decode cL_refuses 113 = .ok (.iconst 0, 1) := by decide +kernel
theorem dL_refuses_114 : decode cL_refuses 114 = .ok (.invokestatic 109, 3) := by decide +kernel
theorem dL_refuses_117 : decode cL_refuses 117 = .ok (.ldc 15, 2) := by decide +kernel
theorem dL_refuses_119 : decode cL_refuses 119 = .ok (.if_icmp .ne 137, 3) := by decide +kernel
theorem dL_refuses_122 : decode cL_refuses 122 = .ok (.aload_n 0, 1) := by decide +kernel
theorem dL_refuses_123 : decode cL_refuses 123 = .ok (.iconst 0, 1) := by decide +kernel
theorem dL_refuses_124 : decode cL_refuses 124 = .ok (.iconst (-1), 1) := by decide +kernel
theorem dL_refuses_125 : decode cL_refuses 125 = .ok (.iload_n 2, 1) := by decide +kernel
theorem dL_refuses_126 : decode cL_refuses 126 = .ok (.isub, 1) := by decide +kernel
theorem dL_refuses_127 : decode cL_refuses 127 = .ok (.iconst 1, 1) := by decide +kernel
theorem dL_refuses_128 : decode cL_refuses 128 = .ok (.iconst 0, 1) := by decide +kernel
theorem dL_refuses_129 : decode cL_refuses 129 = .ok (.iconst 0, 1) := by decide +kernel
theorem dL_refuses_130 : decode cL_refuses 130 = .ok (.iconst 0, 1) := by decide +kernel
theorem dL_refuses_131 : decode cL_refuses 131 = .ok (.invokestatic 109, 3) := by decide +kernel
theorem dL_refuses_134 : decode cL_refuses 134 = .ok (.ldc 15, 2) := by decide +kernel
theorem dL_refuses_136 : decode cL_refuses 136 = .ok (.if_icmp .ne 120, 3) := by decide +kernel
theorem dL_refuses_139 : decode cL_refuses 139 = .ok (.aload_n 0, 1) := by decide +kernel
theorem dL_refuses_140 : decode cL_refuses 140 = .ok (.iconst 1, 1) := by decide +kernel
theorem dL_refuses_141 : decode cL_refuses 141 = .ok (.ldc 113, 2) := by decide +kernel
theorem dL_refuses_143 : decode cL_refuses 143 = .ok (.iconst 1, 1) := by decide +kernel
theorem dL_refuses_144 : decode cL_refuses 144 = .ok (.iconst 0, 1) := by decide +kernel
theorem dL_refuses_145 : decode cL_refuses 145 = .ok (.iconst 0, 1) := by decide +kernel
theorem dL_refuses_146 : decode cL_refuses 146 = .ok (.iconst 0, 1) := by decide +kernel
theorem dL_refuses_147 : decode cL_refuses 147 = .ok (.invokestatic 109, 3) := by decide +kernel
theorem dL_refuses_150 : decode cL_refuses 150 = .ok (.ldc 15, 2) := by decide +kernel
theorem dL_refuses_152 : decode cL_refuses 152 = .ok (.if_icmp .ne 104, 3) := by decide +kernel
theorem dL_refuses_155 : decode cL_refuses 155 = .ok (.aload_n 0, 1) := by decide +kernel
theorem dL_refuses_156 : decode cL_refuses 156 = .ok (.iconst 0, 1) := by decide +kernel
theorem dL_refuses_157 : decode cL_refuses 157 = .ok (.iconst 1, 1) := by decide +kernel
theorem dL_refuses_158 : decode cL_refuses 158 = .ok (.iconst 0, 1) := by decide +kernel
theorem dL_refuses_159 : decode cL_refuses 159 = .ok (.iconst 0, 1) := by decide +kernel
theorem dL_refuses_160 : decode cL_refuses 160 = .ok (.iconst 0, 1) := by decide +kernel
theorem dL_refuses_161 : decode cL_refuses 161 = .ok (.iconst 0, 1) := by decide +kernel
theorem dL_refuses_162 : decode cL_refuses 162 = .ok (.invokestatic 109, 3) := by decide +kernel
theorem dL_refuses_165 : decode cL_refuses 165 = .ok (.ldc 15, 2) := by decide +kernel
theorem dL_refuses_167 : decode cL_refuses 167 = .ok (.if_icmp .ne 89, 3) := by decide +kernel
theorem dL_refuses_170 : decode cL_refuses 170 = .ok (.aload_n 0, 1) := by decide +kernel
theorem dL_refuses_171 : decode cL_refuses 171 = .ok (.iconst 0, 1) := by decide +kernel
theorem dL_refuses_172 : decode cL_refuses 172 = .ok (.iconst 1, 1) := by decide +kernel
theorem dL_refuses_173 : decode cL_refuses 173 = .ok (.ldc 113, 2) := by decide +kernel
theorem dL_refuses_175 : decode cL_refuses 175 = .ok (.iload_n 2, 1) := by decide +kernel
theorem dL_refuses_176 : decode cL_refuses 176 = .ok (.iadd, 1) := by decide +kernel
theorem dL_refuses_177 : decode cL_refuses 177 = .ok (.iconst 0, 1) := by decide +kernel
theorem dL_refuses_178 : decode cL_refuses 178 = .ok (.iconst 0, 1) := by decide +kernel
theorem dL_refuses_179 : decode cL_refuses 179 = .ok (.iconst 0, 1) := by decide +kernel
theorem dL_refuses_180 : decode cL_refuses 180 = .ok (.invokestatic 109, 3) := by decide +kernel
theorem dL_refuses_183 : decode cL_refuses 183 = .ok (.ldc 15, 2) := by decide +kernel
theorem dL_refuses_185 : decode cL_refuses 185 = .ok (.if_icmp .ne 71, 3) := by decide +kernel
theorem dL_refuses_188 : decode cL_refuses 188 = .ok (.aload_n 0, 1) := by decide +kernel
theorem dL_refuses_189 : decode cL_refuses 189 = .ok (.iconst 1, 1) := by decide +kernel
theorem dL_refuses_190 : decode cL_refuses 190 = .ok (.iconst 1, 1) := by decide +kernel
theorem dL_refuses_191 : decode cL_refuses 191 = .ok (.iconst 1, 1) := by decide +kernel
theorem dL_refuses_192 : decode cL_refuses 192 = .ok (.iconst 4, 1) := by decide +kernel
theorem dL_refuses_193 : decode cL_refuses 193 = .ok (.iload_n 2, 1) := by decide +kernel
theorem dL_refuses_194 : decode cL_refuses 194 = .ok (.iadd, 1) := by decide +kernel
theorem dL_refuses_195 : decode cL_refuses 195 = .ok (.iconst 0, 1) := by decide +kernel
theorem dL_refuses_196 : decode cL_refuses 196 = .ok (.iconst 0, 1) := by decide +kernel
theorem dL_refuses_197 : decode cL_refuses 197 = .ok (.invokestatic 109, 3) := by decide +kernel
theorem dL_refuses_200 : decode cL_refuses 200 = .ok (.ldc 15, 2) := by decide +kernel
theorem dL_refuses_202 : decode cL_refuses 202 = .ok (.if_icmp .ne 54, 3) := by decide +kernel
theorem dL_refuses_205 : decode cL_refuses 205 = .ok (.aload_n 0, 1) := by decide +kernel
theorem dL_refuses_206 : decode cL_refuses 206 = .ok (.iconst 1, 1) := by decide +kernel
theorem dL_refuses_207 : decode cL_refuses 207 = .ok (.iconst 1, 1) := by decide +kernel
theorem dL_refuses_208 : decode cL_refuses 208 = .ok (.iconst 1, 1) := by decide +kernel
theorem dL_refuses_209 : decode cL_refuses 209 = .ok (.iconst (-1), 1) := by decide +kernel
theorem dL_refuses_210 : decode cL_refuses 210 = .ok (.iconst 0, 1) := by decide +kernel
theorem dL_refuses_211 : decode cL_refuses 211 = .ok (.iconst 0, 1) := by decide +kernel
theorem dL_refuses_212 : decode cL_refuses 212 = .ok (.invokestatic 109, 3) := by decide +kernel
theorem dL_refuses_215 : decode cL_refuses 215 = .ok (.ldc 15, 2) := by decide +kernel
theorem dL_refuses_217 : decode cL_refuses 217 = .ok (.if_icmp .ne 39, 3) := by decide +kernel
theorem dL_refuses_220 : decode cL_refuses 220 = .ok (.aload_n 0, 1) := by decide +kernel
theorem dL_refuses_221 : decode cL_refuses 221 = .ok (.iconst 0, 1) := by decide +kernel
theorem dL_refuses_222 : decode cL_refuses 222 = .ok (.iconst 1, 1) := by decide +kernel
theorem dL_refuses_223 : decode cL_refuses 223 = .ok (.iconst 1, 1) := by decide +kernel
theorem dL_refuses_224 : decode cL_refuses 224 = .ok (.iconst 0, 1) := by decide +kernel
theorem dL_refuses_225 : decode cL_refuses 225 = .ok (.iconst (-1), 1) := by decide +kernel
theorem dL_refuses_226 : decode cL_refuses 226 = .ok (.iload_n 2, 1) := by decide +kernel
theorem dL_refuses_227 : decode cL_refuses 227 = .ok (.isub, 1) := by decide +kernel
theorem dL_refuses_228 : decode cL_refuses 228 = .ok (.iconst 0, 1) := by decide +kernel
theorem dL_refuses_229 : decode cL_refuses 229 = .ok (.invokestatic 109, 3) := by decide +kernel
theorem dL_refuses_232 : decode cL_refuses 232 = .ok (.ldc 15, 2) := by decide +kernel
theorem dL_refuses_234 : decode cL_refuses 234 = .ok (.if_icmp .ne 22, 3) := by decide +kernel
theorem dL_refuses_237 : decode cL_refuses 237 = .ok (.aload_n 0, 1) := by decide +kernel
theorem dL_refuses_238 : decode cL_refuses 238 = .ok (.iconst 0, 1) := by decide +kernel
theorem dL_refuses_239 : decode cL_refuses 239 = .ok (.iconst 1, 1) := by decide +kernel
theorem dL_refuses_240 : decode cL_refuses 240 = .ok (.iconst 1, 1) := by decide +kernel
theorem dL_refuses_241 : decode cL_refuses 241 = .ok (.iconst 0, 1) := by decide +kernel
theorem dL_refuses_242 : decode cL_refuses 242 = .ok (.iconst 0, 1) := by decide +kernel
theorem dL_refuses_243 : decode cL_refuses 243 = .ok (.iconst (-1), 1) := by decide +kernel
theorem dL_refuses_244 : decode cL_refuses 244 = .ok (.invokestatic 109, 3) := by decide +kernel
theorem dL_refuses_247 : decode cL_refuses 247 = .ok (.ldc 15, 2) := by decide +kernel
theorem dL_refuses_249 : decode cL_refuses 249 = .ok (.if_icmp .ne 7, 3) := by decide +kernel
theorem dL_refuses_252 : decode cL_refuses 252 = .ok (.iconst 1, 1) := by decide +kernel
theorem dL_refuses_253 : decode cL_refuses 253 = .ok (.goto 4, 3) := by decide +kernel
theorem dL_refuses_256 : decode cL_refuses 256 = .ok (.iconst 0, 1) := by decide +kernel
theorem dL_refuses_257 : decode cL_refuses 257 = .ok (.istore 5, 2) := by decide +kernel
theorem dL_refuses_259 : decode cL_refuses 259 = .ok (.iload 5, 2) := by decide +kernel
theorem dL_refuses_261 : decode cL_refuses 261 = .ok (.ifCond .eq 216, 3) := by decide +kernel
theorem dL_refuses_264 : decode cL_refuses 264 = .ok (.aload_n 0, 1) := by decide +kernel
theorem dL_refuses_265 : decode cL_refuses 265 = .ok (.iconst 2, 1) := by decide +kernel
theorem dL_refuses_266 : decode cL_refuses 266 = .ok (.invokestatic 114, 3) := by decide +kernel
theorem dL_refuses_269 : decode cL_refuses 269 = .ok (.ldc 15, 2) := by decide +kernel
theorem dL_refuses_271 : decode cL_refuses 271 = .ok (.if_icmp .ne 206, 3) := by decide +kernel
theorem dL_refuses_274 : decode cL_refuses 274 = .ok (.aload_n 0, 1) := by decide +kernel
theorem dL_refuses_275 : decode cL_refuses 275 = .ok (.iload_n 3, 1) := by decide +kernel
theorem dL_refuses_276 : decode cL_refuses 276 = .ok (.invokestatic 118, 3) := by decide +kernel
theorem dL_refuses_279 : decode cL_refuses 279 = .ok (.ldc 15, 2) := by decide +kernel
theorem dL_refuses_281 : decode cL_refuses 281 = .ok (.if_icmp .ne 196, 3) := by decide +kernel
theorem dL_refuses_284 : decode cL_refuses 284 = .ok (.aload_n 0, 1) := by decide +kernel
theorem dL_refuses_285 : decode cL_refuses 285 = .ok (.iload_n 3, 1) := by decide +kernel
theorem dL_refuses_286 : decode cL_refuses 286 = .ok (.iconst 0, 1) := by decide +kernel
theorem dL_refuses_287 : decode cL_refuses 287 = .ok (.invokestatic 120, 3) := by decide +kernel
theorem dL_refuses_290 : decode cL_refuses 290 = .ok (.ldc 15, 2) := by decide +kernel
theorem dL_refuses_292 : decode cL_refuses 292 = .ok (.if_icmp .ne 185, 3) := by decide +kernel
theorem dL_refuses_295 : decode cL_refuses 295 = .ok (.aload_n 0, 1) := by decide +kernel
theorem dL_refuses_296 : decode cL_refuses 296 = .ok (.iconst 2, 1) := by decide +kernel
theorem dL_refuses_297 : decode cL_refuses 297 = .ok (.iconst 4, 1) := by decide +kernel
theorem dL_refuses_298 : decode cL_refuses 298 = .ok (.invokestatic 120, 3) := by decide +kernel
theorem dL_refuses_301 : decode cL_refuses 301 = .ok (.ldc 15, 2) := by decide +kernel
theorem dL_refuses_303 : decode cL_refuses 303 = .ok (.if_icmp .ne 174, 3) := by decide +kernel
theorem dL_refuses_306 : decode cL_refuses 306 = .ok (.aload_n 0, 1) := by decide +kernel
theorem dL_refuses_307 : decode cL_refuses 307 = .ok (.iconst 2, 1) := by decide +kernel
theorem dL_refuses_308 : decode cL_refuses 308 = .ok (.invokestatic 123, 3) := by decide +kernel
theorem dL_refuses_311 : decode cL_refuses 311 = .ok (.ldc 15, 2) := by decide +kernel
theorem dL_refuses_313 : decode cL_refuses 313 = .ok (.if_icmp .ne 164, 3) := by decide +kernel
theorem dL_refuses_316 : decode cL_refuses 316 = .ok (.aload_n 0, 1) := by decide +kernel
theorem dL_refuses_317 : decode cL_refuses 317 = .ok (.iconst 2, 1) := by decide +kernel
theorem dL_refuses_318 : decode cL_refuses 318 = .ok (.iload 4, 2) := by decide +kernel
theorem dL_refuses_320 : decode cL_refuses 320 = .ok (.invokestatic 126, 3) := by decide +kernel
theorem dL_refuses_323 : decode cL_refuses 323 = .ok (.ldc 15, 2) := by decide +kernel
theorem dL_refuses_325 : decode cL_refuses 325 = .ok (.if_icmp .ne 152, 3) := by decide +kernel
theorem dL_refuses_328 : decode cL_refuses 328 = .ok (.aload_n 0, 1) := by decide +kernel
theorem dL_refuses_329 : decode cL_refuses 329 = .ok (.iconst 0, 1) := by decide +kernel
theorem dL_refuses_330 : decode cL_refuses 330 = .ok (.iload 4, 2) := by decide +kernel
theorem dL_refuses_332 : decode cL_refuses 332 = .ok (.invokestatic 126, 3) := by decide +kernel
theorem dL_refuses_335 : decode cL_refuses 335 = .ok (.ldc 42, 2) := by decide +kernel
theorem dL_refuses_337 : decode cL_refuses 337 = .ok (.if_icmp .ne 140, 3) := by decide +kernel
theorem dL_refuses_340 : decode cL_refuses 340 = .ok (.aload_n 0, 1) := by decide +kernel
theorem dL_refuses_341 : decode cL_refuses 341 = .ok (.iconst 1, 1) := by decide +kernel
theorem dL_refuses_342 : decode cL_refuses 342 = .ok (.iload 4, 2) := by decide +kernel
theorem dL_refuses_344 : decode cL_refuses 344 = .ok (.invokestatic 129, 3) := by decide +kernel
theorem dL_refuses_347 : decode cL_refuses 347 = .ok (.ldc 42, 2) := by decide +kernel
theorem dL_refuses_349 : decode cL_refuses 349 = .ok (.if_icmp .ne 128, 3) := by decide +kernel
theorem dL_refuses_352 : decode cL_refuses 352 = .ok (.aload_n 0, 1) := by decide +kernel
theorem dL_refuses_353 : decode cL_refuses 353 = .ok (.iconst 2, 1) := by decide +kernel
theorem dL_refuses_354 : decode cL_refuses 354 = .ok (.iconst 0, 1) := by decide +kernel
theorem dL_refuses_355 : decode cL_refuses 355 = .ok (.invokestatic 132, 3) := by decide +kernel
theorem dL_refuses_358 : decode cL_refuses 358 = .ok (.ldc 15, 2) := by decide +kernel
theorem dL_refuses_360 : decode cL_refuses 360 = .ok (.if_icmp .ne 117, 3) := by decide +kernel
theorem dL_refuses_363 : decode cL_refuses 363 = .ok (.aload_n 0, 1) := by decide +kernel
theorem dL_refuses_364 : decode cL_refuses 364 = .ok (.iconst 0, 1) := by decide +kernel
theorem dL_refuses_365 : decode cL_refuses 365 = .ok (.iconst (-1), 1) := by decide +kernel
theorem dL_refuses_366 : decode cL_refuses 366 = .ok (.iload 4, 2) := by decide +kernel
theorem dL_refuses_368 : decode cL_refuses 368 = .ok (.invokestatic 134, 3) := by decide +kernel
theorem dL_refuses_371 : decode cL_refuses 371 = .ok (.ldc 15, 2) := by decide +kernel
theorem dL_refuses_373 : decode cL_refuses 373 = .ok (.if_icmp .ne 104, 3) := by decide +kernel
theorem dL_refuses_376 : decode cL_refuses 376 = .ok (.aload_n 0, 1) := by decide +kernel
theorem dL_refuses_377 : decode cL_refuses 377 = .ok (.iconst 1, 1) := by decide +kernel
theorem dL_refuses_378 : decode cL_refuses 378 = .ok (.iconst 3, 1) := by decide +kernel
theorem dL_refuses_379 : decode cL_refuses 379 = .ok (.iload 4, 2) := by decide +kernel
theorem dL_refuses_381 : decode cL_refuses 381 = .ok (.invokestatic 134, 3) := by decide +kernel
theorem dL_refuses_384 : decode cL_refuses 384 = .ok (.ldc 42, 2) := by decide +kernel
theorem dL_refuses_386 : decode cL_refuses 386 = .ok (.if_icmp .ne 91, 3) := by decide +kernel
theorem dL_refuses_389 : decode cL_refuses 389 = .ok (.aload_n 0, 1) := by decide +kernel
theorem dL_refuses_390 : decode cL_refuses 390 = .ok (.iload_n 3, 1) := by decide +kernel
theorem dL_refuses_391 : decode cL_refuses 391 = .ok (.invokestatic 137, 3) := by decide +kernel
theorem dL_refuses_394 : decode cL_refuses 394 = .ok (.ldc 15, 2) := by decide +kernel
theorem dL_refuses_396 : decode cL_refuses 396 = .ok (.if_icmp .ne 81, 3) := by decide +kernel
theorem dL_refuses_399 : decode cL_refuses 399 = .ok (.aload_n 0, 1) := by decide +kernel
theorem dL_refuses_400 : decode cL_refuses 400 = .ok (.iload_n 3, 1) := by decide +kernel
theorem dL_refuses_401 : decode cL_refuses 401 = .ok (.iload 4, 2) := by decide +kernel
theorem dL_refuses_403 : decode cL_refuses 403 = .ok (.invokestatic 139, 3) := by decide +kernel
theorem dL_refuses_406 : decode cL_refuses 406 = .ok (.ldc 15, 2) := by decide +kernel
theorem dL_refuses_408 : decode cL_refuses 408 = .ok (.if_icmp .ne 69, 3) := by decide +kernel
theorem dL_refuses_411 : decode cL_refuses 411 = .ok (.aload_n 0, 1) := by decide +kernel
theorem dL_refuses_412 : decode cL_refuses 412 = .ok (.iconst 2, 1) := by decide +kernel
theorem dL_refuses_413 : decode cL_refuses 413 = .ok (.iload 4, 2) := by decide +kernel
theorem dL_refuses_415 : decode cL_refuses 415 = .ok (.invokestatic 139, 3) := by decide +kernel
theorem dL_refuses_418 : decode cL_refuses 418 = .ok (.ldc 42, 2) := by decide +kernel
theorem dL_refuses_420 : decode cL_refuses 420 = .ok (.if_icmp .ne 57, 3) := by decide +kernel
theorem dL_refuses_423 : decode cL_refuses 423 = .ok (.aload_n 0, 1) := by decide +kernel
theorem dL_refuses_424 : decode cL_refuses 424 = .ok (.iconst 0, 1) := by decide +kernel
theorem dL_refuses_425 : decode cL_refuses 425 = .ok (.iload 4, 2) := by decide +kernel
theorem dL_refuses_427 : decode cL_refuses 427 = .ok (.invokestatic 141, 3) := by decide +kernel
theorem dL_refuses_430 : decode cL_refuses 430 = .ok (.ldc2_w 65, 3) := by decide +kernel
theorem dL_refuses_433 : decode cL_refuses 433 = .ok (.lcmp, 1) := by decide +kernel
theorem dL_refuses_434 : decode cL_refuses 434 = .ok (.ifCond .ne 43, 3) := by decide +kernel
theorem dL_refuses_437 : decode cL_refuses 437 = .ok (.aload_n 0, 1) := by decide +kernel
theorem dL_refuses_438 : decode cL_refuses 438 = .ok (.iload_n 3, 1) := by decide +kernel
theorem dL_refuses_439 : decode cL_refuses 439 = .ok (.invokestatic 145, 3) := by decide +kernel
theorem dL_refuses_442 : decode cL_refuses 442 = .ok (.ldc2_w 63, 3) := by decide +kernel
theorem dL_refuses_445 : decode cL_refuses 445 = .ok (.lcmp, 1) := by decide +kernel
theorem dL_refuses_446 : decode cL_refuses 446 = .ok (.ifCond .ne 31, 3) := by decide +kernel
theorem dL_refuses_449 : decode cL_refuses 449 = .ok (.aload_n 0, 1) := by decide +kernel
theorem dL_refuses_450 : decode cL_refuses 450 = .ok (.iconst 1, 1) := by decide +kernel
theorem dL_refuses_451 : decode cL_refuses 451 = .ok (.iconst 4, 1) := by decide +kernel
theorem dL_refuses_452 : decode cL_refuses 452 = .ok (.invokestatic 148, 3) := by decide +kernel
theorem dL_refuses_455 : decode cL_refuses 455 = .ok (.ldc2_w 63, 3) := by decide +kernel
theorem dL_refuses_458 : decode cL_refuses 458 = .ok (.lcmp, 1) := by decide +kernel
theorem dL_refuses_459 : decode cL_refuses 459 = .ok (.ifCond .ne 18, 3) := by decide +kernel
theorem dL_refuses_462 : decode cL_refuses 462 = .ok (.aload_n 0, 1) := by decide +kernel
theorem dL_refuses_463 : decode cL_refuses 463 = .ok (.iload_n 3, 1) := by decide +kernel
theorem dL_refuses_464 : decode cL_refuses 464 = .ok (.iconst 0, 1) := by decide +kernel
theorem dL_refuses_465 : decode cL_refuses 465 = .ok (.invokestatic 150, 3) := by decide +kernel
theorem dL_refuses_468 : decode cL_refuses 468 = .ok (.ldc 15, 2) := by decide +kernel
theorem dL_refuses_470 : decode cL_refuses 470 = .ok (.if_icmp .ne 7, 3) := by decide +kernel
theorem dL_refuses_473 : decode cL_refuses 473 = .ok (.iconst 1, 1) := by decide +kernel
theorem dL_refuses_474 : decode cL_refuses 474 = .ok (.goto 4, 3) := by decide +kernel
theorem dL_refuses_477 : decode cL_refuses 477 = .ok (.iconst 0, 1) := by decide +kernel
theorem dL_refuses_478 : decode cL_refuses 478 = .ok (.istore 5, 2) := by decide +kernel
theorem dL_refuses_480 : decode cL_refuses 480 = .ok (.iload 5, 2) := by decide +kernel
theorem dL_refuses_482 : decode cL_refuses 482 = .ok (.ifCond .eq 105, 3) := by decide +kernel
theorem dL_refuses_485 : decode cL_refuses 485 = .ok (.aload_n 0, 1) := by decide +kernel
theorem dL_refuses_486 : decode cL_refuses 486 = .ok (.iload_n 3, 1) := by decide +kernel
theorem dL_refuses_487 : decode cL_refuses 487 = .ok (.invokestatic 153, 3) := by decide +kernel
theorem dL_refuses_490 : decode cL_refuses 490 = .ok (.ldc 15, 2) := by decide +kernel
theorem dL_refuses_492 : decode cL_refuses 492 = .ok (.if_icmp .ne 95, 3) := by decide +kernel
theorem dL_refuses_495 : decode cL_refuses 495 = .ok (.aload_n 0, 1) := by decide +kernel
theorem dL_refuses_496 : decode cL_refuses 496 = .ok (.iload_n 3, 1) := by decide +kernel
theorem dL_refuses_497 : decode cL_refuses 497 = .ok (.iload 4, 2) := by decide +kernel
theorem dL_refuses_499 : decode cL_refuses 499 = .ok (.invokestatic 155, 3) := by decide +kernel
theorem dL_refuses_502 : decode cL_refuses 502 = .ok (.ldc 15, 2) := by decide +kernel
theorem dL_refuses_504 : decode cL_refuses 504 = .ok (.if_icmp .ne 83, 3) := by decide +kernel
theorem dL_refuses_507 : decode cL_refuses 507 = .ok (.aload_n 0, 1) := by decide +kernel
theorem dL_refuses_508 : decode cL_refuses 508 = .ok (.iconst 2, 1) := by decide +kernel
theorem dL_refuses_509 : decode cL_refuses 509 = .ok (.iload 4, 2) := by decide +kernel
theorem dL_refuses_511 : decode cL_refuses 511 = .ok (.invokestatic 155, 3) := by decide +kernel
theorem dL_refuses_514 : decode cL_refuses 514 = .ok (.ldc 42, 2) := by decide +kernel
theorem dL_refuses_516 : decode cL_refuses 516 = .ok (.if_icmp .ne 71, 3) := by decide +kernel
theorem dL_refuses_519 : decode cL_refuses 519 = .ok (.aload_n 0, 1) := by decide +kernel
theorem dL_refuses_520 : decode cL_refuses 520 = .ok (.iconst 1, 1) := by decide +kernel
theorem dL_refuses_521 : decode cL_refuses 521 = .ok (.iload 4, 2) := by decide +kernel
theorem dL_refuses_523 : decode cL_refuses 523 = .ok (.invokestatic 157, 3) := by decide +kernel
theorem dL_refuses_526 : decode cL_refuses 526 = .ok (.ldc 42, 2) := by decide +kernel
theorem dL_refuses_528 : decode cL_refuses 528 = .ok (.if_icmp .ne 59, 3) := by decide +kernel
theorem dL_refuses_531 : decode cL_refuses 531 = .ok (.aload_n 0, 1) := by decide +kernel
theorem dL_refuses_532 : decode cL_refuses 532 = .ok (.iload_n 3, 1) := by decide +kernel
theorem dL_refuses_533 : decode cL_refuses 533 = .ok (.invokestatic 159, 3) := by decide +kernel
theorem dL_refuses_536 : decode cL_refuses 536 = .ok (.ldc2_w 63, 3) := by decide +kernel
theorem dL_refuses_539 : decode cL_refuses 539 = .ok (.lcmp, 1) := by decide +kernel
theorem dL_refuses_540 : decode cL_refuses 540 = .ok (.ifCond .ne 47, 3) := by decide +kernel
theorem dL_refuses_543 : decode cL_refuses 543 = .ok (.aload_n 0, 1) := by decide +kernel
theorem dL_refuses_544 : decode cL_refuses 544 = .ok (.iconst 2, 1) := by decide +kernel
theorem dL_refuses_545 : decode cL_refuses 545 = .ok (.invokestatic 161, 3) := by decide +kernel
theorem dL_refuses_548 : decode cL_refuses 548 = .ok (.ldc 15, 2) := by decide +kernel
theorem dL_refuses_550 : decode cL_refuses 550 = .ok (.if_icmp .ne 37, 3) := by decide +kernel
theorem dL_refuses_553 : decode cL_refuses 553 = .ok (.aload_n 0, 1) := by decide +kernel
theorem dL_refuses_554 : decode cL_refuses 554 = .ok (.iload_n 3, 1) := by decide +kernel
theorem dL_refuses_555 : decode cL_refuses 555 = .ok (.invokestatic 163, 3) := by decide +kernel
theorem dL_refuses_558 : decode cL_refuses 558 = .ok (.ldc 15, 2) := by decide +kernel
theorem dL_refuses_560 : decode cL_refuses 560 = .ok (.if_icmp .ne 27, 3) := by decide +kernel
theorem dL_refuses_563 : decode cL_refuses 563 = .ok (.aload_n 0, 1) := by decide +kernel
theorem dL_refuses_564 : decode cL_refuses 564 = .ok (.iconst 2, 1) := by decide +kernel
theorem dL_refuses_565 : decode cL_refuses 565 = .ok (.invokestatic 165, 3) := by decide +kernel
theorem dL_refuses_568 : decode cL_refuses 568 = .ok (.ldc 15, 2) := by decide +kernel
theorem dL_refuses_570 : decode cL_refuses 570 = .ok (.if_icmp .ne 17, 3) := by decide +kernel
theorem dL_refuses_573 : decode cL_refuses 573 = .ok (.aload_n 0, 1) := by decide +kernel
theorem dL_refuses_574 : decode cL_refuses 574 = .ok (.iload_n 3, 1) := by decide +kernel
theorem dL_refuses_575 : decode cL_refuses 575 = .ok (.invokestatic 167, 3) := by decide +kernel
theorem dL_refuses_578 : decode cL_refuses 578 = .ok (.ldc 15, 2) := by decide +kernel
theorem dL_refuses_580 : decode cL_refuses 580 = .ok (.if_icmp .ne 7, 3) := by decide +kernel
theorem dL_refuses_583 : decode cL_refuses 583 = .ok (.iconst 1, 1) := by decide +kernel
theorem dL_refuses_584 : decode cL_refuses 584 = .ok (.goto 4, 3) := by decide +kernel
theorem dL_refuses_587 : decode cL_refuses 587 = .ok (.iconst 0, 1) := by decide +kernel
theorem dL_refuses_588 : decode cL_refuses 588 = .ok (.ireturn, 1) := by decide +kernel
set_option maxRecDepth 20000 in
theorem ggL_merged_L_prioritySize : GoodIn wsL_merged wsL_prioritySize := goodIn_ca (goodIn_r _ [4, 5, 6, 7, 8, 9, 10, 11, 12, 13, 14, 15, 16, 17, 18, 19, 20, 21, 22, 23, 24, 25, 26, 27, 28, 29, 30, 31, 32, 33, 34, 35, 36, 37, 38, 39, 40, 41, 42, 43, 44, 45, 46, 47, 48, 49, 50, 51, 52, 53, 54, 55, 56, 57, 58, 59, 60, 61, 62, 63, 64, 65, 66, 67, 68, 69, 70, 71, 227, 228, 229, 230, 231, 232, 233, 234, 235, 236, 237, 238, 239, 240, 241, 242, 243, 244, 245, 246, 247, 248] (by decide +kernel) (by decide +kernel)) (goodIn_sub (fun _ h => List.mem_cons_of_mem _ (List.mem_append_left _ (List.mem_append_right _ h))) (by decide +kernel))
set_option maxRecDepth 20000 in
theorem gL_merged_L_prioritySize : GoodIn wsL_merged (va_wsS RL 137 yL_prioritySize wsL_prioritySize) := goodIn_app (goodIn_of _ (by decide +kernel)) ggL_merged_L_prioritySize
set_option maxRecDepth 20000 in
theorem ggL_merged_L_offers : GoodIn wsL_merged wsL_offers := goodIn_ca (goodIn_r _ [74, 5, 6, 75, 76, 77, 10, 78, 23, 24, 12, 13, 14, 15, 16, 25, 26, 27, 28, 238, 239, 240, 241, 242, 227, 228, 229, 230, 231, 232, 233, 234, 235, 236, 237] (by decide +kernel) (by decide +kernel)) (goodIn_sub (fun _ h => List.mem_cons_of_mem _ (List.mem_append_left _ (List.mem_append_right _ h))) (by decide +kernel))
set_option maxRecDepth 20000 in
theorem gL_merged_L_offers : GoodIn wsL_merged (va_wsS RL 118 yL_offers wsL_offers) := goodIn_app (goodIn_of _ (by decide +kernel)) ggL_merged_L_offers
set_option maxRecDepth 20000 in
theorem ggL_merged_L_threshold : GoodIn wsL_merged wsL_threshold := goodIn_ca (goodIn_r _ [81, 5, 82, 83, 84, 85, 10, 86, 12, 13, 14, 15, 16, 17, 18, 19, 20, 21, 22, 23, 24, 25, 26, 27, 28, 29, 30, 31, 32, 33, 34, 35, 36, 37, 38, 39, 40, 41, 42, 43, 44, 45, 46, 47, 48, 49, 50, 51, 52, 53, 54, 55, 56, 57, 58, 59, 60, 61, 62, 63, 64, 65, 66, 67, 87, 88, 89, 90, 91, 92, 227, 228, 229, 230, 231, 232, 233, 234, 235, 236, 237, 238, 239, 240, 241, 242, 243, 244, 245, 246, 247, 248] (by decide +kernel) (by decide +kernel)) (goodIn_sub (fun _ h => List.mem_cons_of_mem _ (List.mem_append_left _ (List.mem_append_right _ h))) (by decide +kernel))
set_option maxRecDepth 20000 in
theorem gL_merged_L_threshold : GoodIn wsL_merged (va_wsS RL 145 yL_threshold wsL_threshold) := goodIn_app (goodIn_of _ (by decide +kernel)) ggL_merged_L_threshold
set_option maxRecDepth 20000 in
theorem ggL_merged_L_distinctSize : GoodIn wsL_merged wsL_distinctSize := goodIn_ca (goodIn_r _ [95, 5, 6, 96, 97, 98, 10, 99, 12, 13, 14, 15, 16, 100, 101, 102, 103, 104, 22, 23, 24, 25, 26, 27, 28, 105, 106, 107, 108, 109, 110, 111, 112, 113, 114, 115, 116, 117, 44, 45, 118, 119, 120, 121, 122, 51, 52, 53, 123, 124, 125, 126, 127, 128, 129, 130, 131, 66, 67, 62, 63, 64, 65, 249, 250, 251, 252, 227, 228, 229, 230, 231, 232, 233, 234, 235, 236, 237, 238, 239, 240, 241, 242] (by decide +kernel) (by decide +kernel)) (goodIn_sub (fun _ h => List.mem_cons_of_mem _ (List.mem_append_left _ (List.mem_append_right _ h))) (by decide +kernel))
set_option maxRecDepth 20000 in
theorem gL_merged_L_distinctSize : GoodIn wsL_merged (va_wsS RL 153 yL_distinctSize wsL_distinctSize) := goodIn_app (goodIn_of _ (by decide +kernel)) ggL_merged_L_distinctSize
set_option maxRecDepth 20000 in
theorem ggL_merged_L_distinctEstimate : GoodIn wsL_merged wsL_distinctEstimate := goodIn_ca (goodIn_r _ [134, 5, 82, 135, 136, 137, 10, 138, 12, 13, 14, 15, 16, 100, 101, 102, 103, 104, 22, 23, 24, 25, 26, 27, 28, 105, 106, 107, 108, 109, 110, 111, 112, 113, 114, 115, 116, 117, 44, 45, 118, 119, 120, 121, 122, 51, 52, 53, 123, 124, 125, 126, 127, 128, 129, 130, 131, 66, 67, 62, 63, 64, 65, 139, 140, 141, 142, 91, 92, 227, 228, 229, 230, 231, 232, 233, 234, 235, 236, 237, 238, 239, 240, 241, 242, 249, 250, 251, 252] (by decide +kernel) (by decide +kernel)) (goodIn_sub (fun _ h => List.mem_cons_of_mem _ (List.mem_append_left _ (List.mem_append_right _ h))) (by decide +kernel))
set_option maxRecDepth 20000 in
theorem gL_merged_L_distinctEstimate : GoodIn wsL_merged (va_wsS RL 159 yL_distinctEstimate wsL_distinctEstimate) := goodIn_app (goodIn_of _ (by decide +kernel)) ggL_merged_L_distinctEstimate
set_option maxRecDepth 20000 in
theorem ggL_merged_L_priorityItem : GoodIn wsL_merged wsL_priorityItem := goodIn_ca (goodIn_ca (goodIn_r _ [145, 5, 146, 6, 147, 148, 149, 150, 10, 151, 12, 13, 14, 15, 16, 17, 18, 19, 20, 21, 22, 23, 24, 25, 26, 27, 28, 29, 30, 31, 32, 33, 34, 35, 36, 37, 38, 39, 40, 41, 42, 43, 44, 45, 46, 47, 48, 49, 50, 51, 52, 53, 54, 55, 56, 57, 58, 59, 60, 61, 62, 63, 64, 65, 66, 67, 68, 69, 70, 71, 152, 153, 154, 155, 156, 243, 244, 245, 246, 247, 248, 227, 228, 229, 230, 231, 232, 233, 234, 235, 236, 237, 238, 239, 240, 241, 242] (by decide +kernel) (by decide +kernel)) (goodIn_sub (fun _ h => List.mem_cons_of_mem _ (List.mem_append_left _ (List.mem_append_right _ h))) (by decide +kernel))) (goodIn_sub (fun _ h => List.mem_cons_of_mem _ (List.mem_append_right _ h)) (by decide +kernel))
set_option maxRecDepth 20000 in
theorem gL_merged_L_priorityItem : GoodIn wsL_merged (va_wsS RL 139 yL_priorityItem wsL_priorityItem) := goodIn_app (goodIn_of _ (by decide +kernel)) ggL_merged_L_priorityItem
set_option maxRecDepth 20000 in
theorem ggL_merged_L_estimated : GoodIn wsL_merged wsL_estimated := goodIn_ca (goodIn_ca (goodIn_r _ [159, 5, 146, 82, 160, 161, 162, 163, 10, 164, 12, 13, 14, 15, 16, 17, 18, 19, 20, 21, 22, 23, 24, 25, 26, 27, 28, 29, 30, 31, 32, 33, 34, 35, 36, 37, 38, 39, 40, 41, 42, 43, 44, 45, 46, 47, 48, 49, 50, 51, 52, 53, 54, 55, 56, 57, 58, 59, 60, 61, 62, 63, 64, 65, 66, 67, 68, 69, 70, 71, 152, 153, 154, 155, 156, 165, 166, 167, 168, 169, 170, 171, 172, 88, 89, 90, 91, 92, 227, 228, 229, 230, 231, 232, 233, 234, 235, 236, 237, 238, 239, 240, 241, 242, 243, 244, 245, 246, 247, 248] (by decide +kernel) (by decide +kernel)) (goodIn_sub (fun _ h => List.mem_cons_of_mem _ (List.mem_append_left _ (List.mem_append_right _ h))) (by decide +kernel))) (goodIn_sub (fun _ h => List.mem_cons_of_mem _ (List.mem_append_right _ h)) (by decide +kernel))
set_option maxRecDepth 20000 in
theorem gL_merged_L_estimated : GoodIn wsL_merged (va_wsS RL 141 yL_estimated wsL_estimated) := goodIn_app (goodIn_of _ (by decide +kernel)) ggL_merged_L_estimated
set_option maxRecDepth 20000 in
theorem ggL_merged_L_distinctItem : GoodIn wsL_merged wsL_distinctItem := goodIn_ca (goodIn_ca (goodIn_r _ [175, 5, 146, 6, 147, 176, 177, 178, 10, 179, 12, 13, 14, 15, 16, 100, 101, 102, 103, 104, 22, 23, 24, 25, 26, 27, 28, 105, 106, 107, 108, 109, 110, 111, 112, 113, 114, 115, 116, 117, 44, 45, 118, 119, 120, 121, 122, 51, 52, 53, 123, 124, 125, 126, 127, 128, 129, 130, 131, 66, 67, 62, 63, 64, 65, 152, 153, 154, 155, 156, 249, 250, 251, 252, 227, 228, 229, 230, 231, 232, 233, 234, 235, 236, 237, 238, 239, 240, 241, 242] (by decide +kernel) (by decide +kernel)) (goodIn_sub (fun _ h => List.mem_cons_of_mem _ (List.mem_append_left _ (List.mem_append_right _ h))) (by decide +kernel))) (goodIn_sub (fun _ h => List.mem_cons_of_mem _ (List.mem_append_right _ h)) (by decide +kernel))
set_option maxRecDepth 20000 in
theorem gL_merged_L_distinctItem : GoodIn wsL_merged (va_wsS RL 155 yL_distinctItem wsL_distinctItem) := goodIn_app (goodIn_of _ (by decide +kernel)) ggL_merged_L_distinctItem
set_option maxRecDepth 20000 in
theorem ggL_merged_L_distinctOffers : GoodIn wsL_merged wsL_distinctOffers := goodIn_ca (goodIn_ca (goodIn_r _ [182, 5, 146, 6, 147, 183, 184, 185, 10, 186, 12, 13, 14, 15, 16, 100, 101, 102, 103, 104, 22, 23, 24, 25, 26, 27, 28, 105, 106, 107, 108, 109, 110, 111, 112, 113, 114, 115, 116, 117, 44, 45, 118, 119, 120, 121, 122, 51, 52, 53, 123, 124, 125, 126, 127, 128, 129, 130, 131, 66, 67, 62, 63, 64, 65, 152, 153, 154, 155, 156, 249, 250, 251, 252, 227, 228, 229, 230, 231, 232, 233, 234, 235, 236, 237, 238, 239, 240, 241, 242] (by decide +kernel) (by decide +kernel)) (goodIn_sub (fun _ h => List.mem_cons_of_mem _ (List.mem_append_left _ (List.mem_append_right _ h))) (by decide +kernel))) (goodIn_sub (fun _ h => List.mem_cons_of_mem _ (List.mem_append_right _ h)) (by decide +kernel))
set_option maxRecDepth 20000 in
theorem gL_merged_L_distinctOffers : GoodIn wsL_merged (va_wsS RL 157 yL_distinctOffers wsL_distinctOffers) := goodIn_app (goodIn_of _ (by decide +kernel)) ggL_merged_L_distinctOffers
