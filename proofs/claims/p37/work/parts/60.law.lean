theorem dL_law_0 : decode cL_law 0 = .ok (.new 25, 3) := by decide +kernel
theorem dL_law_3 : decode cL_law 3 = .ok (.dup, 1) := by decide +kernel
theorem dL_law_4 : decode cL_law 4 = .ok (.invokespecial 50, 3) := by decide +kernel
theorem dL_law_7 : decode cL_law 7 = .ok (.astore_n 1, 1) := by decide +kernel
theorem dL_law_8 : decode cL_law 8 = .ok (.aload_n 1, 1) := by decide +kernel
theorem dL_law_9 : decode cL_law 9 = .ok (.aload_n 0, 1) := by decide +kernel
theorem dL_law_10 : decode cL_law 10 = .ok (.invokestatic 51, 3) := by decide +kernel
theorem dL_law_13 : decode cL_law 13 = .ok (.astore_n 2, 1) := by decide +kernel
theorem dL_law_14 : decode cL_law 14 = .ok (.aload_n 1, 1) := by decide +kernel
theorem dL_law_15 : decode cL_law 15 = .ok (.aload_n 0, 1) := by decide +kernel
theorem dL_law_16 : decode cL_law 16 = .ok (.iconst 5, 1) := by decide +kernel
theorem dL_law_17 : decode cL_law 17 = .ok (.aload_n 2, 1) := by decide +kernel
theorem dL_law_18 : decode cL_law 18 = .ok (.getfield 55, 3) := by decide +kernel
theorem dL_law_21 : decode cL_law 21 = .ok (.invokestatic 34, 3) := by decide +kernel
theorem dL_law_24 : decode cL_law 24 = .ok (.astore_n 3, 1) := by decide +kernel
theorem dL_law_25 : decode cL_law 25 = .ok (.iconst 0, 1) := by decide +kernel
theorem dL_law_26 : decode cL_law 26 = .ok (.istore 4, 2) := by decide +kernel
theorem dL_law_28 : decode cL_law 28 = .ok (.iload 4, 2) := by decide +kernel
theorem dL_law_30 : decode cL_law 30 = .ok (.iconst 5, 1) := by decide +kernel
theorem dL_law_31 : decode cL_law 31 = .ok (.if_icmp .ge 248, 3) := by decide +kernel
theorem dL_law_34 : decode cL_law 34 = .ok (.iconst 1, 1) := by decide +kernel
theorem dL_law_35 : decode cL_law 35 = .ok (.aload_n 0, 1) := by decide +kernel
theorem dL_law_36 : decode cL_law 36 = .ok (.bipush 6, 2) := by decide +kernel
theorem dL_law_38 : decode cL_law 38 = .ok (.iload 4, 2) := by decide +kernel
theorem dL_law_40 : decode cL_law 40 = .ok (.iadd, 1) := by decide +kernel
theorem dL_law_41 : decode cL_law 41 = .ok (.invokestatic 9, 3) := by decide +kernel
theorem dL_law_44 : decode cL_law 44 = .ok (.sipush 1000, 3) := by decide +kernel
theorem dL_law_47 : decode cL_law 47 = .ok (.invokestatic 15, 3) := by decide +kernel
theorem dL_law_50 : decode cL_law 50 = .ok (.iadd, 1) := by decide +kernel
theorem dL_law_51 : decode cL_law 51 = .ok (.istore 5, 2) := by decide +kernel
theorem dL_law_53 : decode cL_law 53 = .ok (.aload_n 1, 1) := by decide +kernel
theorem dL_law_54 : decode cL_law 54 = .ok (.iload 4, 2) := by decide +kernel
theorem dL_law_56 : decode cL_law 56 = .ok (.iload 5, 2) := by decide +kernel
theorem dL_law_58 : decode cL_law 58 = .ok (.invokevirtual 59, 3) := by decide +kernel
theorem dL_law_61 : decode cL_law 61 = .ok (.pop, 1) := by decide +kernel
theorem dL_law_62 : decode cL_law 62 = .ok (.aload_n 1, 1) := by decide +kernel
theorem dL_law_63 : decode cL_law 63 = .ok (.invokevirtual 62, 3) := by decide +kernel
theorem dL_law_66 : decode cL_law 66 = .ok (.lstore 6, 2) := by decide +kernel
theorem dL_law_68 : decode cL_law 68 = .ok (.iconst 0, 1) := by decide +kernel
theorem dL_law_69 : decode cL_law 69 = .ok (.istore 8, 2) := by decide +kernel
theorem dL_law_71 : decode cL_law 71 = .ok (.ldc 66, 2) := by decide +kernel
theorem dL_law_73 : decode cL_law 73 = .ok (.istore 9, 2) := by decide +kernel
theorem dL_law_75 : decode cL_law 75 = .ok (.iconst 0, 1) := by decide +kernel
theorem dL_law_76 : decode cL_law 76 = .ok (.istore 10, 2) := by decide +kernel
theorem dL_law_78 : decode cL_law 78 = .ok (.iload 10, 2) := by decide +kernel
theorem dL_law_80 : decode cL_law 80 = .ok (.aload_n 2, 1) := by decide +kernel
theorem dL_law_81 : decode cL_law 81 = .ok (.getfield 55, 3) := by decide +kernel
theorem dL_law_84 : decode cL_law 84 = .ok (.if_icmp .gt 57, 3) := by decide +kernel
theorem dL_law_87 : decode cL_law 87 = .ok (.aload_n 1, 1) := by decide +kernel
theorem dL_law_88 : decode cL_law 88 = .ok (.iload 10, 2) := by decide +kernel
theorem dL_law_90 : decode cL_law 90 = .ok (.invokevirtual 67, 3) := by decide +kernel
theorem dL_law_93 : decode cL_law 93 = .ok (.istore 11, 2) := by decide +kernel
theorem dL_law_95 : decode cL_law 95 = .ok (.aload_n 1, 1) := by decide +kernel
theorem dL_law_96 : decode cL_law 96 = .ok (.iload 11, 2) := by decide +kernel
theorem dL_law_98 : decode cL_law 98 = .ok (.invokevirtual 70, 3) := by decide +kernel
theorem dL_law_101 : decode cL_law 101 = .ok (.istore 12, 2) := by decide +kernel
theorem dL_law_103 : decode cL_law 103 = .ok (.iload 12, 2) := by decide +kernel
theorem dL_law_105 : decode cL_law 105 = .ok (.ifCond .lt 17, 3) := by decide +kernel
theorem dL_law_108 : decode cL_law 108 = .ok (.iload 12, 2) := by decide +kernel
theorem dL_law_110 : decode cL_law 110 = .ok (.ldc 73, 2) := by decide +kernel
theorem dL_law_112 : decode cL_law 112 = .ok (.if_icmp .gt 10, 3) := by decide +kernel
theorem dL_law_115 : decode cL_law 115 = .ok (.iload 12, 2) := by decide +kernel
theorem dL_law_117 : decode cL_law 117 = .ok (.iload 9, 2) := by decide +kernel
theorem dL_law_119 : decode cL_law 119 = .ok (.if_icmp .le 5, 3) := by decide +kernel
theorem dL_law_124 : decode cL_law 124 = .ok (.iload 12, 2) := by decide +kernel
theorem dL_law_126 : decode cL_law 126 = .ok (.istore 9, 2) := by decide +kernel
theorem dL_law_128 : decode cL_law 128 = .ok (.iload 8, 2) := by decide +kernel
theorem dL_law_130 : decode cL_law 130 = .ok (.iload 12, 2) := by decide +kernel
theorem dL_law_132 : decode cL_law 132 = .ok (.iadd, 1) := by decide +kernel
theorem dL_law_133 : decode cL_law 133 = .ok (.istore 8, 2) := by decide +kernel
theorem dL_law_135 : decode cL_law 135 = .ok (.iinc 10 1, 3) := by decide +kernel
theorem dL_law_138 : decode cL_law 138 = .ok (.goto (-60), 3) := by decide +kernel
theorem dL_law_141 : decode cL_law 141 = .ok (.iload 8, 2) := by decide +kernel
theorem dL_law_143 : decode cL_law 143 = .ok (.ldc 73, 2) := by decide +kernel
theorem dL_law_145 : decode cL_law 145 = .ok (.if_icmp .gt 32, 3) := by decide +kernel
theorem dL_law_148 : decode cL_law 148 = .ok (.iload 8, 2) := by decide +kernel
theorem dL_law_150 : decode cL_law 150 = .ok (.ldc 73, 2) := by decide +kernel
theorem dL_law_152 : decode cL_law 152 = .ok (.bipush 8, 2) := by decide +kernel
theorem dL_law_154 : decode cL_law 154 = .ok (.aload_n 2, 1) := by decide +kernel
theorem dL_law_155 : decode cL_law 155 = .ok (.getfield 74, 3) := by decide +kernel
theorem dL_law_158 : decode cL_law 158 = .ok (.imul, 1) := by decide +kernel
theorem dL_law_159 : decode cL_law 159 = .ok (.aload_n 2, 1) := by decide +kernel
theorem dL_law_160 : decode cL_law 160 = .ok (.getfield 55, 3) := by decide +kernel
theorem dL_law_163 : decode cL_law 163 = .ok (.iconst 2, 1) := by decide +kernel
theorem dL_law_164 : decode cL_law 164 = .ok (.iadd, 1) := by decide +kernel
theorem dL_law_165 : decode cL_law 165 = .ok (.imul, 1) := by decide +kernel
theorem dL_law_166 : decode cL_law 166 = .ok (.aload_n 2, 1) := by decide +kernel
theorem dL_law_167 : decode cL_law 167 = .ok (.getfield 55, 3) := by decide +kernel
theorem dL_law_170 : decode cL_law 170 = .ok (.iconst 2, 1) := by decide +kernel
theorem dL_law_171 : decode cL_law 171 = .ok (.iadd, 1) := by decide +kernel
theorem dL_law_172 : decode cL_law 172 = .ok (.imul, 1) := by decide +kernel
theorem dL_law_173 : decode cL_law 173 = .ok (.isub, 1) := by decide +kernel
theorem dL_law_174 : decode cL_law 174 = .ok (.if_icmp .ge 5, 3) := by decide +kernel
theorem dL_law_179 : decode cL_law 179 = .ok (.aload_n 1, 1) := by decide +kernel
theorem dL_law_180 : decode cL_law 180 = .ok (.invokevirtual 77, 3) := by decide +kernel
theorem dL_law_183 : decode cL_law 183 = .ok (.istore 10, 2) := by decide +kernel
theorem dL_law_185 : decode cL_law 185 = .ok (.iload 10, 2) := by decide +kernel
theorem dL_law_187 : decode cL_law 187 = .ok (.ifCond .lt 84, 3) := by decide +kernel
theorem dL_law_190 : decode cL_law 190 = .ok (.iload 10, 2) := by decide +kernel
theorem dL_law_192 : decode cL_law 192 = .ok (.aload_n 2, 1) := by decide +kernel
theorem dL_law_193 : decode cL_law 193 = .ok (.getfield 55, 3) := by decide +kernel
theorem dL_law_196 : decode cL_law 196 = .ok (.if_icmp .gt 75, 3) := by decide +kernel
theorem dL_law_199 : decode cL_law 199 = .ok (.aload_n 1, 1) := by decide +kernel
theorem dL_law_200 : decode cL_law 200 = .ok (.iload 10, 2) := by decide +kernel
theorem dL_law_202 : decode cL_law 202 = .ok (.invokevirtual 70, 3) := by decide +kernel
theorem dL_law_205 : decode cL_law 205 = .ok (.ifCond .ne 8, 3) := by decide +kernel
theorem dL_law_213 : decode cL_law 213 = .ok (.aload_n 1, 1) := by decide +kernel
theorem dL_law_214 : decode cL_law 214 = .ok (.iload 4, 2) := by decide +kernel
theorem dL_law_216 : decode cL_law 216 = .ok (.iload 5, 2) := by decide +kernel
theorem dL_law_218 : decode cL_law 218 = .ok (.invokevirtual 80, 3) := by decide +kernel
theorem dL_law_221 : decode cL_law 221 = .ok (.aload_n 1, 1) := by decide +kernel
theorem dL_law_222 : decode cL_law 222 = .ok (.invokevirtual 83, 3) := by decide +kernel
theorem dL_law_225 : decode cL_law 225 = .ok (.if_icmp .ne 46, 3) := by decide +kernel
theorem dL_law_228 : decode cL_law 228 = .ok (.aload_n 1, 1) := by decide +kernel
theorem dL_law_229 : decode cL_law 229 = .ok (.iload 8, 2) := by decide +kernel
theorem dL_law_231 : decode cL_law 231 = .ok (.invokevirtual 86, 3) := by decide +kernel
theorem dL_law_234 : decode cL_law 234 = .ok (.sipush 1024, 3) := by decide +kernel
theorem dL_law_237 : decode cL_law 237 = .ok (.if_icmp .gt 34, 3) := by decide +kernel
theorem dL_law_240 : decode cL_law 240 = .ok (.aload_n 1, 1) := by decide +kernel
theorem dL_law_241 : decode cL_law 241 = .ok (.invokevirtual 89, 3) := by decide +kernel
theorem dL_law_244 : decode cL_law 244 = .ok (.aload_n 3, 1) := by decide +kernel
theorem dL_law_245 : decode cL_law 245 = .ok (.arraylength, 1) := by decide +kernel
theorem dL_law_246 : decode cL_law 246 = .ok (.iconst 1, 1) := by decide +kernel
theorem dL_law_247 : decode cL_law 247 = .ok (.iadd, 1) := by decide +kernel
theorem dL_law_248 : decode cL_law 248 = .ok (.i2d, 1) := by decide +kernel
theorem dL_law_249 : decode cL_law 249 = .ok (.dmul, 1) := by decide +kernel
theorem dL_law_250 : decode cL_law 250 = .ok (.aload_n 1, 1) := by decide +kernel
theorem dL_law_251 : decode cL_law 251 = .ok (.invokevirtual 83, 3) := by decide +kernel
theorem dL_law_254 : decode cL_law 254 = .ok (.iconst 1, 1) := by decide +kernel
theorem dL_law_255 : decode cL_law 255 = .ok (.iadd, 1) := by decide +kernel
theorem dL_law_256 : decode cL_law 256 = .ok (.i2d, 1) := by decide +kernel
theorem dL_law_257 : decode cL_law 257 = .ok (.dcmp .l, 1) := by decide +kernel
theorem dL_law_258 : decode cL_law 258 = .ok (.ifCond .gt 13, 3) := by decide +kernel
theorem dL_law_261 : decode cL_law 261 = .ok (.aload_n 1, 1) := by decide +kernel
theorem dL_law_262 : decode cL_law 262 = .ok (.invokevirtual 62, 3) := by decide +kernel
theorem dL_law_265 : decode cL_law 265 = .ok (.lload 6, 2) := by decide +kernel
theorem dL_law_267 : decode cL_law 267 = .ok (.lcmp, 1) := by decide +kernel
theorem dL_law_268 : decode cL_law 268 = .ok (.ifCond .eq 5, 3) := by decide +kernel
theorem dL_law_273 : decode cL_law 273 = .ok (.iinc 4 1, 3) := by decide +kernel
theorem dL_law_276 : decode cL_law 276 = .ok (.goto (-248), 3) := by decide +kernel
theorem dL_law_279 : decode cL_law 279 = .ok (.aload_n 1, 1) := by decide +kernel
theorem dL_law_280 : decode cL_law 280 = .ok (.iconst 1, 1) := by decide +kernel
theorem dL_law_281 : decode cL_law 281 = .ok (.iconst 1, 1) := by decide +kernel
theorem dL_law_282 : decode cL_law 282 = .ok (.aload_n 0, 1) := by decide +kernel
theorem dL_law_283 : decode cL_law 283 = .ok (.bipush 11, 2) := by decide +kernel
theorem dL_law_285 : decode cL_law 285 = .ok (.invokestatic 9, 3) := by decide +kernel
theorem dL_law_288 : decode cL_law 288 = .ok (.sipush 1000, 3) := by decide +kernel
theorem dL_law_291 : decode cL_law 291 = .ok (.invokestatic 15, 3) := by decide +kernel
theorem dL_law_294 : decode cL_law 294 = .ok (.iadd, 1) := by decide +kernel
theorem dL_law_295 : decode cL_law 295 = .ok (.invokevirtual 59, 3) := by decide +kernel
theorem dL_law_298 : decode cL_law 298 = .ok (.pop, 1) := by decide +kernel
theorem dL_law_299 : decode cL_law 299 = .ok (.aload_n 1, 1) := by decide +kernel
theorem dL_law_300 : decode cL_law 300 = .ok (.invokevirtual 83, 3) := by decide +kernel
theorem dL_law_303 : decode cL_law 303 = .ok (.istore 4, 2) := by decide +kernel
theorem dL_law_305 : decode cL_law 305 = .ok (.aload_n 1, 1) := by decide +kernel
theorem dL_law_306 : decode cL_law 306 = .ok (.invokevirtual 62, 3) := by decide +kernel
theorem dL_law_309 : decode cL_law 309 = .ok (.lstore 5, 2) := by decide +kernel
theorem dL_law_311 : decode cL_law 311 = .ok (.aload_n 1, 1) := by decide +kernel
theorem dL_law_312 : decode cL_law 312 = .ok (.iconst 1, 1) := by decide +kernel
theorem dL_law_313 : decode cL_law 313 = .ok (.invokevirtual 38, 3) := by decide +kernel
theorem dL_law_316 : decode cL_law 316 = .ok (.istore 7, 2) := by decide +kernel
theorem dL_law_318 : decode cL_law 318 = .ok (.aload_n 1, 1) := by decide +kernel
theorem dL_law_319 : decode cL_law 319 = .ok (.invokevirtual 83, 3) := by decide +kernel
theorem dL_law_322 : decode cL_law 322 = .ok (.istore 8, 2) := by decide +kernel
theorem dL_law_324 : decode cL_law 324 = .ok (.iload 8, 2) := by decide +kernel
theorem dL_law_326 : decode cL_law 326 = .ok (.ifCond .lt 45, 3) := by decide +kernel
theorem dL_law_329 : decode cL_law 329 = .ok (.aload_n 1, 1) := by decide +kernel
theorem dL_law_330 : decode cL_law 330 = .ok (.invokevirtual 93, 3) := by decide +kernel
theorem dL_law_333 : decode cL_law 333 = .ok (.ifCond .lt 38, 3) := by decide +kernel
theorem dL_law_336 : decode cL_law 336 = .ok (.aload_n 1, 1) := by decide +kernel
theorem dL_law_337 : decode cL_law 337 = .ok (.invokevirtual 62, 3) := by decide +kernel
theorem dL_law_340 : decode cL_law 340 = .ok (.lload 5, 2) := by decide +kernel
theorem dL_law_342 : decode cL_law 342 = .ok (.lcmp, 1) := by decide +kernel
theorem dL_law_343 : decode cL_law 343 = .ok (.ifCond .ne 28, 3) := by decide +kernel
theorem dL_law_346 : decode cL_law 346 = .ok (.aload_n 1, 1) := by decide +kernel
theorem dL_law_347 : decode cL_law 347 = .ok (.invokevirtual 83, 3) := by decide +kernel
theorem dL_law_350 : decode cL_law 350 = .ok (.iload 4, 2) := by decide +kernel
theorem dL_law_352 : decode cL_law 352 = .ok (.if_icmp .ne 19, 3) := by decide +kernel
theorem dL_law_355 : decode cL_law 355 = .ok (.aload_n 1, 1) := by decide +kernel
theorem dL_law_356 : decode cL_law 356 = .ok (.iconst 1, 1) := by decide +kernel
theorem dL_law_357 : decode cL_law 357 = .ok (.invokevirtual 96, 3) := by decide +kernel
theorem dL_law_360 : decode cL_law 360 = .ok (.iload 8, 2) := by decide +kernel
theorem dL_law_362 : decode cL_law 362 = .ok (.if_icmp .ne 9, 3) := by decide +kernel
theorem dL_law_365 : decode cL_law 365 = .ok (.iload 7, 2) := by decide +kernel
theorem dL_law_367 : decode cL_law 367 = .ok (.iconst 1, 1) := by decide +kernel
theorem dL_law_368 : decode cL_law 368 = .ok (.if_icmp .ge 5, 3) := by decide +kernel
theorem dL_law_373 : decode cL_law 373 = .ok (.aload_n 3, 1) := by decide +kernel
theorem dL_law_374 : decode cL_law 374 = .ok (.arraylength, 1) := by decide +kernel
theorem dL_law_375 : decode cL_law 375 = .ok (.aload_n 0, 1) := by decide +kernel
theorem dL_law_376 : decode cL_law 376 = .ok (.bipush 12, 2) := by decide +kernel
theorem dL_law_378 : decode cL_law 378 = .ok (.invokestatic 9, 3) := by decide +kernel
theorem dL_law_381 : decode cL_law 381 = .ok (.iconst 3, 1) := by decide +kernel
theorem dL_law_382 : decode cL_law 382 = .ok (.invokestatic 15, 3) := by decide +kernel
theorem dL_law_385 : decode cL_law 385 = .ok (.iadd, 1) := by decide +kernel
theorem dL_law_386 : decode cL_law 386 = .ok (.istore 9, 2) := by decide +kernel
theorem dL_law_388 : decode cL_law 388 = .ok (.aload_n 1, 1) := by decide +kernel
theorem dL_law_389 : decode cL_law 389 = .ok (.iload 9, 2) := by decide +kernel
theorem dL_law_391 : decode cL_law 391 = .ok (.invokevirtual 99, 3) := by decide +kernel
theorem dL_law_394 : decode cL_law 394 = .ok (.istore 10, 2) := by decide +kernel
theorem dL_law_396 : decode cL_law 396 = .ok (.aload_n 1, 1) := by decide +kernel
theorem dL_law_397 : decode cL_law 397 = .ok (.invokevirtual 83, 3) := by decide +kernel
theorem dL_law_400 : decode cL_law 400 = .ok (.iload 10, 2) := by decide +kernel
theorem dL_law_402 : decode cL_law 402 = .ok (.if_icmp .ne 12, 3) := by decide +kernel
theorem dL_law_405 : decode cL_law 405 = .ok (.aload_n 1, 1) := by decide +kernel
theorem dL_law_406 : decode cL_law 406 = .ok (.invokevirtual 102, 3) := by decide +kernel
theorem dL_law_409 : decode cL_law 409 = .ok (.iload 9, 2) := by decide +kernel
theorem dL_law_411 : decode cL_law 411 = .ok (.if_icmp .eq 5, 3) := by decide +kernel
theorem dL_law_416 : decode cL_law 416 = .ok (.iconst 0, 1) := by decide +kernel
theorem dL_law_417 : decode cL_law 417 = .ok (.istore 11, 2) := by decide +kernel
theorem dL_law_419 : decode cL_law 419 = .ok (.iload 11, 2) := by decide +kernel
theorem dL_law_421 : decode cL_law 421 = .ok (.aload_n 3, 1) := by decide +kernel
theorem dL_law_422 : decode cL_law 422 = .ok (.arraylength, 1) := by decide +kernel
theorem dL_law_423 : decode cL_law 423 = .ok (.if_icmp .ge 24, 3) := by decide +kernel
theorem dL_law_426 : decode cL_law 426 = .ok (.aload_n 1, 1) := by decide +kernel
theorem dL_law_427 : decode cL_law 427 = .ok (.iload 11, 2) := by decide +kernel
theorem dL_law_429 : decode cL_law 429 = .ok (.invokevirtual 105, 3) := by decide +kernel
theorem dL_law_432 : decode cL_law 432 = .ok (.aload_n 3, 1) := by decide +kernel
theorem dL_law_433 : decode cL_law 433 = .ok (.iload 11, 2) := by decide +kernel
theorem dL_law_435 : decode cL_law 435 = .ok (.iaload, 1) := by decide +kernel
theorem dL_law_436 : decode cL_law 436 = .ok (.if_icmp .eq 5, 3) := by decide +kernel
theorem dL_law_441 : decode cL_law 441 = .ok (.iinc 11 1, 3) := by decide +kernel
theorem dL_law_444 : decode cL_law 444 = .ok (.goto (-25), 3) := by decide +kernel
theorem dL_law_447 : decode cL_law 447 = .ok (.aload_n 1, 1) := by decide +kernel
theorem dL_law_448 : decode cL_law 448 = .ok (.invokevirtual 44, 3) := by decide +kernel
theorem dL_law_451 : decode cL_law 451 = .ok (.pop, 1) := by decide +kernel
theorem dL_law_452 : decode cL_law 452 = .ok (.iconst 0, 1) := by decide +kernel
theorem dL_law_453 : decode cL_law 453 = .ok (.istore 11, 2) := by decide +kernel
theorem dL_law_455 : decode cL_law 455 = .ok (.iload 11, 2) := by decide +kernel
theorem dL_law_457 : decode cL_law 457 = .ok (.iload 9, 2) := by decide +kernel
theorem dL_law_459 : decode cL_law 459 = .ok (.if_icmp .ge 44, 3) := by decide +kernel
theorem dL_law_462 : decode cL_law 462 = .ok (.aload_n 1, 1) := by decide +kernel
theorem dL_law_463 : decode cL_law 463 = .ok (.iload 11, 2) := by decide +kernel
theorem dL_law_465 : decode cL_law 465 = .ok (.aload_n 3, 1) := by decide +kernel
theorem dL_law_466 : decode cL_law 466 = .ok (.arraylength, 1) := by decide +kernel
theorem dL_law_467 : decode cL_law 467 = .ok (.if_icmp .ge 10, 3) := by decide +kernel
theorem dL_law_470 : decode cL_law 470 = .ok (.aload_n 3, 1) := by decide +kernel
theorem dL_law_471 : decode cL_law 471 = .ok (.iload 11, 2) := by decide +kernel
theorem dL_law_473 : decode cL_law 473 = .ok (.iaload, 1) := by decide +kernel
theorem dL_law_474 : decode cL_law 474 = .ok (.goto 19, 3) := by decide +kernel
theorem dL_law_477 : decode cL_law 477 = .ok (.aload_n 0, 1) := by decide +kernel
theorem dL_law_478 : decode cL_law 478 = .ok (.bipush 13, 2) := by decide +kernel
theorem dL_law_480 : decode cL_law 480 = .ok (.invokestatic 9, 3) := by decide +kernel
theorem dL_law_483 : decode cL_law 483 = .ok (.iload 11, 2) := by decide +kernel
theorem dL_law_485 : decode cL_law 485 = .ok (.ishr, 1) := by decide +kernel
theorem dL_law_486 : decode cL_law 486 = .ok (.aload_n 2, 1) := by decide +kernel
theorem dL_law_487 : decode cL_law 487 = .ok (.getfield 55, 3) := by decide +kernel
theorem dL_law_490 : decode cL_law 490 = .ok (.invokestatic 15, 3) := by decide +kernel
theorem dL_law_493 : decode cL_law 493 = .ok (.invokevirtual 47, 3) := by decide +kernel
theorem dL_law_496 : decode cL_law 496 = .ok (.pop, 1) := by decide +kernel
theorem dL_law_497 : decode cL_law 497 = .ok (.iinc 11 1, 3) := by decide +kernel
theorem dL_law_500 : decode cL_law 500 = .ok (.goto (-45), 3) := by decide +kernel
theorem dL_law_503 : decode cL_law 503 = .ok (.aload_n 1, 1) := by decide +kernel
theorem dL_law_504 : decode cL_law 504 = .ok (.invokevirtual 83, 3) := by decide +kernel
theorem dL_law_507 : decode cL_law 507 = .ok (.iload 10, 2) := by decide +kernel
theorem dL_law_509 : decode cL_law 509 = .ok (.if_icmp .ge 5, 3) := by decide +kernel
theorem dL_law_514 : decode cL_law 514 = .ok (.aload_n 2, 1) := by decide +kernel
theorem dL_law_515 : decode cL_law 515 = .ok (.getfield 74, 3) := by decide +kernel
theorem dL_law_518 : decode cL_law 518 = .ok (.iconst 1, 1) := by decide +kernel
theorem dL_law_519 : decode cL_law 519 = .ok (.if_icmp .ne 5, 3) := by decide +kernel
theorem dL_law_522 : decode cL_law 522 = .ok (.iconst 1, 1) := by decide +kernel
theorem dL_law_523 : decode cL_law 523 = .ok (.ireturn, 1) := by decide +kernel
theorem dL_law_524 : decode cL_law 524 = .ok (.aload_n 1, 1) := by decide +kernel
theorem dL_law_525 : decode cL_law 525 = .ok (.iconst 2, 1) := by decide +kernel
theorem dL_law_526 : decode cL_law 526 = .ok (.iconst 1, 1) := by decide +kernel
theorem dL_law_527 : decode cL_law 527 = .ok (.invokevirtual 59, 3) := by decide +kernel
theorem dL_law_530 : decode cL_law 530 = .ok (.pop, 1) := by decide +kernel
theorem dL_law_531 : decode cL_law 531 = .ok (.aload_n 1, 1) := by decide +kernel
theorem dL_law_532 : decode cL_law 532 = .ok (.aload_n 2, 1) := by decide +kernel
theorem dL_law_533 : decode cL_law 533 = .ok (.getfield 74, 3) := by decide +kernel
theorem dL_law_536 : decode cL_law 536 = .ok (.invokevirtual 108, 3) := by decide +kernel
theorem dL_law_539 : decode cL_law 539 = .ok (.istore 11, 2) := by decide +kernel
theorem dL_law_541 : decode cL_law 541 = .ok (.aload_n 1, 1) := by decide +kernel
theorem dL_law_542 : decode cL_law 542 = .ok (.aload_n 2, 1) := by decide +kernel
theorem dL_law_543 : decode cL_law 543 = .ok (.getfield 74, 3) := by decide +kernel
theorem dL_law_546 : decode cL_law 546 = .ok (.iconst 1, 1) := by decide +kernel
theorem dL_law_547 : decode cL_law 547 = .ok (.invokevirtual 111, 3) := by decide +kernel
theorem dL_law_550 : decode cL_law 550 = .ok (.ifCond .ne 42, 3) := by decide +kernel
theorem dL_law_553 : decode cL_law 553 = .ok (.aload_n 1, 1) := by decide +kernel
theorem dL_law_554 : decode cL_law 554 = .ok (.aload_n 2, 1) := by decide +kernel
theorem dL_law_555 : decode cL_law 555 = .ok (.getfield 74, 3) := by decide +kernel
theorem dL_law_558 : decode cL_law 558 = .ok (.sipush 1000, 3) := by decide +kernel
theorem dL_law_561 : decode cL_law 561 = .ok (.invokevirtual 111, 3) := by decide +kernel
theorem dL_law_564 : decode cL_law 564 = .ok (.iload 11, 2) := by decide +kernel
theorem dL_law_566 : decode cL_law 566 = .ok (.if_icmp .ne 26, 3) := by decide +kernel
theorem dL_law_569 : decode cL_law 569 = .ok (.aload_n 1, 1) := by decide +kernel
theorem dL_law_570 : decode cL_law 570 = .ok (.aload_n 2, 1) := by decide +kernel
theorem dL_law_571 : decode cL_law 571 = .ok (.getfield 74, 3) := by decide +kernel
theorem dL_law_574 : decode cL_law 574 = .ok (.invokevirtual 108, 3) := by decide +kernel
theorem dL_law_577 : decode cL_law 577 = .ok (.ifCond .ne 15, 3) := by decide +kernel
theorem dL_law_580 : decode cL_law 580 = .ok (.aload_n 1, 1) := by decide +kernel
theorem dL_law_581 : decode cL_law 581 = .ok (.aload_n 2, 1) := by decide +kernel
theorem dL_law_582 : decode cL_law 582 = .ok (.getfield 74, 3) := by decide +kernel
theorem dL_law_585 : decode cL_law 585 = .ok (.iconst 0, 1) := by decide +kernel
theorem dL_law_586 : decode cL_law 586 = .ok (.invokevirtual 114, 3) := by decide +kernel
theorem dL_law_589 : decode cL_law 589 = .ok (.ifCond .eq 5, 3) := by decide +kernel
theorem dL_law_594 : decode cL_law 594 = .ok (.aload_n 1, 1) := by decide +kernel
theorem dL_law_595 : decode cL_law 595 = .ok (.iconst 3, 1) := by decide +kernel
theorem dL_law_596 : decode cL_law 596 = .ok (.iconst 1, 1) := by decide +kernel
theorem dL_law_597 : decode cL_law 597 = .ok (.invokevirtual 117, 3) := by decide +kernel
theorem dL_law_600 : decode cL_law 600 = .ok (.pop, 1) := by decide +kernel
theorem dL_law_601 : decode cL_law 601 = .ok (.aload_n 1, 1) := by decide +kernel
theorem dL_law_602 : decode cL_law 602 = .ok (.iconst 0, 1) := by decide +kernel
theorem dL_law_603 : decode cL_law 603 = .ok (.invokevirtual 67, 3) := by decide +kernel
theorem dL_law_606 : decode cL_law 606 = .ok (.istore 12, 2) := by decide +kernel
theorem dL_law_608 : decode cL_law 608 = .ok (.aload_n 1, 1) := by decide +kernel
theorem dL_law_609 : decode cL_law 609 = .ok (.invokevirtual 102, 3) := by decide +kernel
theorem dL_law_612 : decode cL_law 612 = .ok (.istore 13, 2) := by decide +kernel
theorem dL_law_614 : decode cL_law 614 = .ok (.aload_n 1, 1) := by decide +kernel
theorem dL_law_615 : decode cL_law 615 = .ok (.invokevirtual 120, 3) := by decide +kernel
theorem dL_law_618 : decode cL_law 618 = .ok (.istore 14, 2) := by decide +kernel
theorem dL_law_620 : decode cL_law 620 = .ok (.iload 13, 2) := by decide +kernel
theorem dL_law_622 : decode cL_law 622 = .ok (.bipush 12, 2) := by decide +kernel
theorem dL_law_624 : decode cL_law 624 = .ok (.if_icmp .eq 49, 3) := by decide +kernel
theorem dL_law_627 : decode cL_law 627 = .ok (.iload 12, 2) := by decide +kernel
theorem dL_law_629 : decode cL_law 629 = .ok (.aload_n 2, 1) := by decide +kernel
theorem dL_law_630 : decode cL_law 630 = .ok (.getfield 55, 3) := by decide +kernel
theorem dL_law_633 : decode cL_law 633 = .ok (.if_icmp .ne 20, 3) := by decide +kernel
theorem dL_law_636 : decode cL_law 636 = .ok (.iload 14, 2) := by decide +kernel
theorem dL_law_638 : decode cL_law 638 = .ok (.iload 13, 2) := by decide +kernel
theorem dL_law_640 : decode cL_law 640 = .ok (.if_icmp .ne 37, 3) := by decide +kernel
theorem dL_law_643 : decode cL_law 643 = .ok (.aload_n 1, 1) := by decide +kernel
theorem dL_law_644 : decode cL_law 644 = .ok (.invokevirtual 123, 3) := by decide +kernel
theorem dL_law_647 : decode cL_law 647 = .ok (.ifCond .eq 30, 3) := by decide +kernel
theorem dL_law_650 : decode cL_law 650 = .ok (.goto 23, 3) := by decide +kernel
theorem dL_law_653 : decode cL_law 653 = .ok (.iload 14, 2) := by decide +kernel
theorem dL_law_655 : decode cL_law 655 = .ok (.iload 13, 2) := by decide +kernel
theorem dL_law_657 : decode cL_law 657 = .ok (.iconst 1, 1) := by decide +kernel
theorem dL_law_658 : decode cL_law 658 = .ok (.iadd, 1) := by decide +kernel
theorem dL_law_659 : decode cL_law 659 = .ok (.if_icmp .ne 18, 3) := by decide +kernel
theorem dL_law_662 : decode cL_law 662 = .ok (.aload_n 1, 1) := by decide +kernel
theorem dL_law_663 : decode cL_law 663 = .ok (.iload 13, 2) := by decide +kernel
theorem dL_law_665 : decode cL_law 665 = .ok (.invokevirtual 105, 3) := by decide +kernel
theorem dL_law_668 : decode cL_law 668 = .ok (.iload 12, 2) := by decide +kernel
theorem dL_law_670 : decode cL_law 670 = .ok (.if_icmp .ne 7, 3) := by decide +kernel
theorem dL_law_673 : decode cL_law 673 = .ok (.iconst 1, 1) := by decide +kernel
theorem dL_law_674 : decode cL_law 674 = .ok (.goto 4, 3) := by decide +kernel
theorem dL_law_678 : decode cL_law 678 = .ok (.ireturn, 1) := by decide +kernel
theorem lg_self (x : Int64) : lg_cmp x x = iI 0 := (lg_cmp_eq x x).mpr rfl
theorem md_4 {S k : Nat} (hk : 1 ≤ k) (hk2 : k ≤ 13) (hS : S ≤ 1000000) : ∃ z : Int, Op.cmpValue (FP.dcmp (FP.dmul (FP.ddiv (FP.i2d (iI (S : Int))) (FP.i2d (iI (k : Int)))) (FP.i2d (iI (k : Int)))) (FP.i2d (iI ((S + 1 : Nat) : Int)))) .l = iI z ∧ -2 ≤ z ∧ z ≤ 0 := by
  rcases md_3 hk hk2 hS with e | e
  · rw [e]; exact ⟨-1, rfl, by omega, by omega⟩
  · rw [e]; exact ⟨0, rfl, by omega, by omega⟩
/-- the numbers that stay -/
def K6 (u : US) : Prop := u.1 1 = ((0 : Nat) : Int) ∧ u.1 2 = ((0 : Nat) : Int) ∧ u.1 3 = ((0 : Nat) : Int) ∧ u.1 11 = 0 ∧ u.1 10 = 0 ∧ u.1 20 = 1
theorem K6.of {u : US} (h : KE U00 u) : K6 u := ⟨h 1 (by simp), h 2 (by simp), h 3 (by simp), h 11 (by simp), h 10 (by simp), h 20 (by simp)⟩
theorem K6.fr {u v : US} {ls gs : List Nat} (hF : Fr ls gs u v) (h : K6 u) (h1 : ∀ k, k ∈ [1, 2, 3, 10, 11, 20] → k ∉ ls) : K6 v :=
  ⟨(hF.1 1 (h1 1 (by simp))).trans h.1, (hF.1 2 (h1 2 (by simp))).trans h.2.1, (hF.1 3 (h1 3 (by simp))).trans h.2.2.1, (hF.1 11 (h1 11 (by simp))).trans h.2.2.2.1, (hF.1 10 (h1 10 (by simp))).trans h.2.2.2.2.1, (hF.1 20 (h1 20 (by simp))).trans h.2.2.2.2.2⟩
def K3 (u : US) : Prop := u.1 1 = ((0 : Nat) : Int) ∧ u.1 2 = ((0 : Nat) : Int) ∧ u.1 11 = 0
theorem K3.fr {u v : US} {ls gs : List Nat} (h : K3 u) (hF : Fr ls gs u v) (h1 : ∀ k, k ∈ [1, 2, 11] → k ∉ ls) : K3 v := ⟨(hF.1 1 (h1 1 (by simp))).trans h.1, (hF.1 2 (h1 2 (by simp))).trans h.2.1, (hF.1 11 (h1 11 (by simp))).trans h.2.2⟩
theorem sayOk {V j w9 : Nat} {S SS : List Nat} (h : ∃ wt : List Nat, wt.length = j - S.length ∧ (∀ w ∈ wt, w < V) ∧ SS = S.take j ++ wt) (hw : w9 < V) (hb : j < S.length → S[j]? = some w9) : ∃ wt : List Nat, wt.length = j + 1 - S.length ∧ (∀ w ∈ wt, w < V) ∧ SS ++ [w9] = S.take (j + 1) ++ wt := by
  obtain ⟨wt, h1, h2, h3⟩ := h
  by_cases hj : j < S.length
  · have hz : wt = [] := List.eq_nil_of_length_eq_zero (by omega)
    refine ⟨[], by simp; omega, by simp, ?_⟩
    rw [h3, hz, List.append_nil, List.append_nil, List.take_succ, hb hj]
    rfl
  · refine ⟨wt ++ [w9], by rw [List.length_append, h1]; simp; omega, fun w hw9 => ?_, ?_⟩
    · rcases List.mem_append.mp hw9 with q | q
      · exact h2 w q
      · rw [List.mem_singleton.mp q]; exact hw
    · rw [h3, List.take_of_length_le (by omega), List.take_of_length_le (by omega), List.append_assoc]
set_option maxHeartbeats 16000000 in
set_option maxRecDepth 100000 in
theorem mL_law {l : Launch} {D : va_G} {κ : Nat → Nat} {ε : EE} {Γ : DS → Nat → Array Slot → List Value → Prop} (hL : ε.2.2.1 ≤ 260) (h : Cx Wd l D κ ε RL code 15 (some .boolean) room_1 (fun v _ => v = some (.int (iI 1))) Γ) : WW Γ 15 (([] : va_W), 0, 0) 0 [(0, .ref ε.2.1)] [] := by
  refine w_new h (pc := 0) wi_X5 tyX5 tyX5_ok wm_0 wm_1 wm_2 (ci := 5) rfl (fs := [.null, .null, .null, .null, .null, .null, .int 0, .int 0, .int 0, .int 0]) (fun j hj => by rcases (show j = 0 ∨ j = 1 ∨ j = 2 ∨ j = 3 ∨ j = 4 ∨ j = 5 ∨ j = 6 ∨ j = 7 ∨ j = 8 ∨ j = 9 by omega) with rfl | rfl | rfl | rfl | rfl | rfl | rfl | rfl | rfl | rfl <;> rfl) (Nat.le_of_ble_eq_true rfl) (Nat.le_of_ble_eq_true rfl) dL_law_0 (fun o => ?_)
  refine w_dup h (pc := 3) dL_law_3 rfl ?_
  refine w_fI0 h (pc := 4) (mX5_init l D κ ε o) (wr := []) (List.Perm.refl _) (gdN wm_9) wm_2 wm_7 wm_8 rfl (by decide +kernel) ⟨(Nat.le_of_ble_eq_true rfl), (Nat.le_of_ble_eq_true rfl)⟩ ⟨(Nat.le_of_ble_eq_true rfl), (Nat.le_of_ble_eq_true rfl)⟩ (Nat.le_of_ble_eq_true rfl) dL_law_4 (fun v4 u4 hp4 => ?_)
  obtain ⟨rfl, a, rfl, rfl⟩ := hp4
  refine WW.equ (u' := (WS κ a U00, _, _)) rfl ?_
  refine w_cnt h (c8 := 1000) (s8 := 100000) (Nat.le_of_ble_eq_true rfl) (Nat.le_of_ble_eq_true rfl) ?_
  simp only [Option.toList_none, List.nil_append]
  refine w_astore_n h (pc := 7) dL_law_7 (by decide) ?_
  refine w_aload_n h (pc := 8) dL_law_8 rfl ?_
  refine w_aload_n h (pc := 9) dL_law_9 rfl ?_
  refine w_fS2 h (pc := 10) (mL_build l D κ ε hL a U00 (fresh_AB rfl rfl rfl rfl rfl (fun i hi => by
    show (if 12 + i = 5 then _ else _) = _
    rw [if_neg (by omega), if_neg (by omega), if_neg (by omega)]))) (wr := []) (List.Perm.refl _) (gdS wm_83 wm_84 wm_85 wm_86) (by decide +kernel) ⟨(Nat.le_of_ble_eq_true rfl), (Nat.le_of_ble_eq_true rfl)⟩ ⟨(Nat.le_of_ble_eq_true rfl), (Nat.le_of_ble_eq_true rfl)⟩ (Nat.le_of_ble_eq_true rfl) dL_law_10 (fun v10 u10 hp10 => ?_)
  obtain ⟨b, V, N, W, S1, T, u1, n2, rfl, hV, hN, hO, hA1, hK1, rfl⟩ := hp10
  refine WW.equ (u' := (W ++ WS κ a u1, _, _)) rfl ?_
  refine w_cnt h (c8 := 2000) (s8 := 200000) (Nat.le_of_ble_eq_true rfl) (Nat.le_of_ble_eq_true rfl) ?_
  obtain ⟨q0, p3, p4, hq0⟩ := Own_at hO
  simp only [Option.toList_some, List.cons_append, List.nil_append]
  refine w_astore_n h (pc := 13) dL_law_13 (by decide) ?_
  refine w_aload_n h (pc := 14) dL_law_14 rfl ?_
  refine w_aload_n h (pc := 15) dL_law_15 rfl ?_
  refine w_iconst h (pc := 16) dL_law_16 ?_
  refine w_aload_n h (pc := 17) dL_law_17 rfl ?_
  refine w_get h (pc := 18) wi_X6 q0 (gl hq0) rfl 0 (by decide) wm_3 rfl (v := .int (iI (V : Int))) rfl dL_law_18 ?_
  refine w_fS4 h (pc := 21) (mL_sentence l D κ ε hL a V N 0 500 84 S1 T u1 hA1 5 (by omega) hV.1) (wr := W) (List.Perm.refl _) (gdS wm_141 wm_142 wm_85 wm_143) (by decide +kernel) ⟨(Nat.le_of_ble_eq_true rfl), (Nat.le_of_ble_eq_true rfl)⟩ ⟨(Nat.le_of_ble_eq_true rfl), (Nat.le_of_ble_eq_true rfl)⟩ (Nat.le_of_ble_eq_true rfl) dL_law_21 (fun v21 u21 hp21 => ?_)
  obtain ⟨S, x, g, u2, n3, rfl, hS6, hA2, hF2, hg, rfl⟩ := hp21
  obtain ⟨Wx, hWx⟩ : ∃ Wx : va_W, Wx = W ++ [(x, .inl (κ 0, S.length, .inl g))] := ⟨_, rfl⟩
  refine WW.equ (u' := (Wx ++ WS κ a u2, _, _)) (by rw [hWx, List.append_assoc]) ?_
  refine w_cnt h (c8 := 3000) (s8 := 300000) (Nat.le_of_ble_eq_true rfl) (Nat.le_of_ble_eq_true rfl) ?_
  have hqx : Wx[W.length]? = some (x, .inl (κ 0, S.length, .inl g)) := by rw [hWx]; exact gx
  have hq : Wx[q0]? = some (b, .inr (6, [.int (iI (V : Int)), .int (iI (N : Int)), p3, p4])) := by rw [hWx]; exact gl hq0
  have hK2 : K6 u2 := K6.fr hF2 (K6.of hK1) (by simp)
  have hSV := hA2.1.2.2.2.2.2.2
  simp only [Option.toList_some, List.cons_append, List.nil_append]
  refine w_astore_n h (pc := 24) dL_law_24 (by decide) ?_
  refine w_iconst h (pc := 25) dL_law_25 ?_
  refine w_istore h (pc := 26) dL_law_26 (by decide) ?_
  have lp28 : ∀ (n9 i way0 num0 : Nat) (u : US), 5 < i + n9 → i ≤ 5 → AB V N way0 num0 84 S T u → K6 u → WW Γ 15 (Wx ++ WS κ a u, 3000, 300000) 28 [(0, .ref ε.2.1), (1, .ref (a 0)), (2, .ref b), (3, .ref x), (4, .int (iI (i : Int)))] [] := by
    intro n9
    induction n9 with
    | zero => intro i way0 num0 u hn9 hi hA hK9; exfalso; omega
    | succ n9 ih =>
      intro i way0 num0 u hn9 hi hA hK9
      have ihA := ih
      refine w_iload h (pc := 28) dL_law_28 rfl ?_
      refine w_iconst h (pc := 30) dL_law_30 ?_
      refine w_icmp_ge h (pc := 31) (tgt := 279) dL_law_31 (by decide) (by omega) (by omega) (fun c31 => ?_) (fun c31 => ?_)
      · refine w_aload_n h (pc := 279) dL_law_279 rfl ?_
        refine w_iconst h (pc := 280) dL_law_280 ?_
        refine w_iconst h (pc := 281) dL_law_281 ?_
        refine w_aload_n h (pc := 282) dL_law_282 rfl ?_
        refine w_bipush h (pc := 283) dL_law_283 (by decide) ?_
        refine w_fS2 h (pc := 285) (mL_cell l D κ ε hL (Wx ++ WS κ a u) 11 (by omega)) (wr := []) (List.Perm.refl _) (gdS wm_90 wm_91 wm_85 wm_92) (by decide +kernel) ⟨(Nat.le_of_ble_eq_true rfl), (Nat.le_of_ble_eq_true rfl)⟩ ⟨(Nat.le_of_ble_eq_true rfl), (Nat.le_of_ble_eq_true rfl)⟩ (Nat.le_of_ble_eq_true rfl) dL_law_285 (fun v285 u285 hp285 => ?_)
        obtain ⟨⟨z1, hz11, hz12, rfl⟩, rfl⟩ := hp285
        refine WW.equ (u' := (Wx ++ WS κ a u, _, _)) rfl ?_
        simp only [Option.toList_some, List.cons_append, List.nil_append]
        refine w_sipush h (pc := 288) dL_law_288 (by decide) ?_
        refine w_fS2 h (pc := 291) (mL_below l D κ ε (Wx ++ WS κ a u) _ _ (by omega)) (wr := []) (List.Perm.refl _) (gdS wm_94 wm_95 wm_85 wm_96) (by decide +kernel) ⟨(Nat.le_of_ble_eq_true rfl), (Nat.le_of_ble_eq_true rfl)⟩ ⟨(Nat.le_of_ble_eq_true rfl), (Nat.le_of_ble_eq_true rfl)⟩ (Nat.le_of_ble_eq_true rfl) dL_law_291 (fun v291 u291 hp291 => ?_)
        obtain ⟨⟨r1, hr1, rfl⟩, rfl⟩ := hp291
        refine WW.equ (u' := (Wx ++ WS κ a u, _, _)) rfl ?_
        simp only [Option.toList_some, List.cons_append, List.nil_append]
        refine w_iadd h (pc := 294) dL_law_294 ?_
        obtain ⟨num, hne⟩ : ∃ num : Nat, num = 1 + r1 := ⟨_, rfl⟩
        rw [show (1 : Int) + (r1 : Int) = (num : Int) by omega]
        have hnum : 1 ≤ num ∧ num ≤ 1000 := by omega
        refine w_fV2 h (pc := 295) (mX5_setWay l D κ a ε V N way0 num0 84 S T u hA 1 num (by omega) hnum) (wr := Wx) (List.Perm.refl _) 0 rfl rfl (gdV wm_244 wm_245 wm_246 wm_2 wm_247) (by decide +kernel) ⟨(Nat.le_of_ble_eq_true rfl), (Nat.le_of_ble_eq_true rfl)⟩ ⟨(Nat.le_of_ble_eq_true rfl), (Nat.le_of_ble_eq_true rfl)⟩ (Nat.le_of_ble_eq_true rfl) dL_law_295 (fun v295 v295u hp295 => ?_)
        obtain ⟨rfl, hF295, hA295⟩ := hp295
        have hK295 := K6.fr hF295 hK9 (by simp)
        refine WW.equ (u' := (Wx ++ WS κ a v295u, _, _)) rfl ?_
        simp only [Option.toList_some, List.cons_append, List.nil_append]
        refine w_pop h (pc := 298) dL_law_298 rfl ?_
        refine w_aload_n h (pc := 299) dL_law_299 rfl ?_
        refine w_fV0 h (pc := 300) (mX5_score l D κ a ε V N 1 num 84 S T v295u hA295) (wr := Wx) (List.Perm.refl _) 0 rfl rfl (gdV wm_374 wm_375 wm_376 wm_2 wm_377) (by decide +kernel) ⟨(Nat.le_of_ble_eq_true rfl), (Nat.le_of_ble_eq_true rfl)⟩ ⟨(Nat.le_of_ble_eq_true rfl), (Nat.le_of_ble_eq_true rfl)⟩ (Nat.le_of_ble_eq_true rfl) dL_law_300 (fun v300 v300u hp300 => ?_)
        obtain ⟨rfl, hF300⟩ := hp300
        have hA300 := hA295.of hF300 (by simp [tS]) (by simp [tG]) (by simp) (by simp)
        have hK300 := K6.fr hF300 hK295 (by simp)
        refine WW.equ (u' := (Wx ++ WS κ a v300u, _, _)) rfl ?_
        simp only [Option.toList_some, List.cons_append, List.nil_append]
        refine w_istore h (pc := 303) dL_law_303 (by decide) ?_
        refine w_aload_n h (pc := 305) dL_law_305 rfl ?_
        refine w_fV0 h (pc := 306) (mX5_digest l D κ a ε V N 1 num 84 S T v300u hA300 0 0 0 (by omega) (by omega) (by omega) hK300.1 hK300.2.1 hK300.2.2.1) (wr := Wx) (List.Perm.refl _) 0 rfl rfl (gdV wm_253 wm_254 wm_255 wm_2 wm_256) (by decide +kernel) ⟨(Nat.le_of_ble_eq_true rfl), (Nat.le_of_ble_eq_true rfl)⟩ ⟨(Nat.le_of_ble_eq_true rfl), (Nat.le_of_ble_eq_true rfl)⟩ (Nat.le_of_ble_eq_true rfl) dL_law_306 (fun v306 v306u hp306 => ?_)
        obtain ⟨rfl, hF306⟩ := hp306
        have hA306 := hA300.of hF306 (by simp [tS]) (by simp [tG]) (by simp) (by simp)
        have hK306 := K6.fr hF306 hK300 (by simp)
        refine WW.equ (u' := (Wx ++ WS κ a v306u, _, _)) rfl ?_
        simp only [Option.toList_some, List.cons_append, List.nil_append]
        refine w_lstore h (pc := 309) dL_law_309 (by decide) ?_
        refine w_aload_n h (pc := 311) dL_law_311 rfl ?_
        refine w_iconst h (pc := 312) dL_law_312 ?_
        refine w_fV1 h (pc := 313) (mX5_learn l D κ a ε V N 1 num 84 S T v306u hA306 1 (by omega) (by omega) hS6 hV.1) (wr := Wx) (List.Perm.refl _) 0 rfl rfl (gdV wm_162 wm_163 wm_164 wm_2 wm_165) (by decide +kernel) ⟨(Nat.le_of_ble_eq_true rfl), (Nat.le_of_ble_eq_true rfl)⟩ ⟨(Nat.le_of_ble_eq_true rfl), (Nat.le_of_ble_eq_true rfl)⟩ (Nat.le_of_ble_eq_true rfl) dL_law_313 (fun v313 v313u hp313 => ?_)
        obtain ⟨hF313, T2, hA313, hT2, rfl⟩ := hp313
        have hK313 := K6.fr hF313 hK306 (by simp [tS])
        have hsome := lp_some hA306.2.2.2.2.2.2 (by omega) hS6 hN.1 hT2
        obtain ⟨w7, hw7⟩ : ∃ w7, w7 = sm (fun i => (T2 i).length) N := ⟨_, rfl⟩
        have hw8 : w7 ≤ N * 112 := by rw [hw7]; exact sm_bound N fun i hi => (hA313.2.2.2.2.2.2 i (by omega)).2.2.2.1
        rw [← hw7] at hsome ⊢
        refine WW.equ (u' := (Wx ++ WS κ a v313u, _, _)) rfl ?_
        simp only [Option.toList_some, List.cons_append, List.nil_append]
        refine w_istore h (pc := 316) dL_law_316 (by decide) ?_
        refine w_aload_n h (pc := 318) dL_law_318 rfl ?_
        refine w_fV0 h (pc := 319) (mX5_score l D κ a ε V N 1 num (84 + 28) S T2 v313u hA313) (wr := Wx) (List.Perm.refl _) 0 rfl rfl (gdV wm_374 wm_375 wm_376 wm_2 wm_377) (by decide +kernel) ⟨(Nat.le_of_ble_eq_true rfl), (Nat.le_of_ble_eq_true rfl)⟩ ⟨(Nat.le_of_ble_eq_true rfl), (Nat.le_of_ble_eq_true rfl)⟩ (Nat.le_of_ble_eq_true rfl) dL_law_319 (fun v319 v319u hp319 => ?_)
        obtain ⟨rfl, hF319⟩ := hp319
        have hA319 := hA313.of hF319 (by simp [tS]) (by simp [tG]) (by simp) (by simp)
        have hK319 := K6.fr hF319 hK313 (by simp)
        have hsl := scr_le (V := V) (N := N) (way := 1) (num := num) (S := S) (T := T2) (S.length + 1)
        have hsc2 : scr V N 1 num S T2 ≤ 1000000 := by unfold scr; omega
        have hsl3 := scr_le (V := V) (N := N) (way := 1) (num := num) (S := S) (T := T) (S.length + 1)
        have hsc3 : scr V N 1 num S T ≤ 1000000 := by unfold scr; omega
        refine WW.equ (u' := (Wx ++ WS κ a v319u, _, _)) rfl ?_
        simp only [Option.toList_some, List.cons_append, List.nil_append]
        refine w_istore h (pc := 322) dL_law_322 (by decide) ?_
        refine w_iload h (pc := 324) dL_law_324 rfl ?_
        refine w_if_lt h (pc := 326) (tgt := 371) dL_law_326 (by decide) (by omega) (fun c326 => by exfalso; omega) (fun c326 => ?_)
        refine w_aload_n h (pc := 329) dL_law_329 rfl ?_
        refine w_fV0 h (pc := 330) (mX5_unlearn l D κ a ε V N 1 num (84 + 28) S T2 v319u hA319 (lp_can hA306.2.2.2.2.2.2 (by omega) hS6 hN.2 hT2)) (wr := Wx) (List.Perm.refl _) 0 rfl rfl (gdV wm_386 wm_387 wm_388 wm_2 wm_389) (by decide +kernel) ⟨(Nat.le_of_ble_eq_true rfl), (Nat.le_of_ble_eq_true rfl)⟩ ⟨(Nat.le_of_ble_eq_true rfl), (Nat.le_of_ble_eq_true rfl)⟩ (Nat.le_of_ble_eq_true rfl) dL_law_330 (fun v330 v330u hp330 => ?_)
        obtain ⟨⟨g9, rfl, hg9⟩, hF330, T3, hA330, hT3⟩ := hp330
        have hK330 := K6.fr hF330 hK319 (by simp [tS])
        have hT4 := lp_back hA306.2.2.2.2.2.2 (by omega) hS6 hT2 hT3
        refine WW.equ (u' := (Wx ++ WS κ a v330u, _, _)) rfl ?_
        simp only [Option.toList_some, List.cons_append, List.nil_append]
        refine w_if_lt h (pc := 333) (tgt := 371) dL_law_333 (by decide) (by omega) (fun c333 => by exfalso; omega) (fun c333 => ?_)
        refine w_aload_n h (pc := 336) dL_law_336 rfl ?_
        refine w_fV0 h (pc := 337) (mX5_digest l D κ a ε V N 1 num (84 + 28) S T3 v330u hA330 0 0 0 (by omega) (by omega) (by omega) hK330.1 hK330.2.1 hK330.2.2.1) (wr := Wx) (List.Perm.refl _) 0 rfl rfl (gdV wm_253 wm_254 wm_255 wm_2 wm_256) (by decide +kernel) ⟨(Nat.le_of_ble_eq_true rfl), (Nat.le_of_ble_eq_true rfl)⟩ ⟨(Nat.le_of_ble_eq_true rfl), (Nat.le_of_ble_eq_true rfl)⟩ (Nat.le_of_ble_eq_true rfl) dL_law_337 (fun v337 v337u hp337 => ?_)
        obtain ⟨rfl, hF337⟩ := hp337
        have hA337 := hA330.of hF337 (by simp [tS]) (by simp [tG]) (by simp) (by simp)
        have hK337 := K6.fr hF337 hK330 (by simp)
        rw [dgs_cg (by omega) hN hT4]
        refine WW.equ (u' := (Wx ++ WS κ a v337u, _, _)) rfl ?_
        simp only [Option.toList_some, List.cons_append, List.nil_append]
        refine w_lload h (pc := 340) dL_law_340 rfl ?_
        refine w_lcmp h (pc := 342) dL_law_342 ?_
        rw [lg_self]
        refine w_if_ne h (pc := 343) (tgt := 371) dL_law_343 (by decide) (by omega) (fun c343 => by exfalso; omega) (fun c343 => ?_)
        refine w_aload_n h (pc := 346) dL_law_346 rfl ?_
        refine w_fV0 h (pc := 347) (mX5_score l D κ a ε V N 1 num (84 + 28) S T3 v337u hA337) (wr := Wx) (List.Perm.refl _) 0 rfl rfl (gdV wm_374 wm_375 wm_376 wm_2 wm_377) (by decide +kernel) ⟨(Nat.le_of_ble_eq_true rfl), (Nat.le_of_ble_eq_true rfl)⟩ ⟨(Nat.le_of_ble_eq_true rfl), (Nat.le_of_ble_eq_true rfl)⟩ (Nat.le_of_ble_eq_true rfl) dL_law_347 (fun v347 v347u hp347 => ?_)
        obtain ⟨rfl, hF347⟩ := hp347
        have hA347 := hA337.of hF347 (by simp [tS]) (by simp [tG]) (by simp) (by simp)
        have hK347 := K6.fr hF347 hK337 (by simp)
        rw [scr_cg (by omega) hN hT4]
        refine WW.equ (u' := (Wx ++ WS κ a v347u, _, _)) rfl ?_
        simp only [Option.toList_some, List.cons_append, List.nil_append]
        refine w_iload h (pc := 350) dL_law_350 rfl ?_
        refine w_icmp_ne h (pc := 352) (tgt := 371) dL_law_352 (by decide) (by omega) (by omega) (fun c352 => by exfalso; omega) (fun c352 => ?_)
        refine w_aload_n h (pc := 355) dL_law_355 rfl ?_
        refine w_iconst h (pc := 356) dL_law_356 ?_
        refine w_fV1 h (pc := 357) (mX5_scoreLearned l D κ a ε V N 1 num (84 + 28) S T3 v347u hA347 1 (by omega) (by omega) hS6 hV.1) (wr := Wx) (List.Perm.refl _) 0 rfl rfl (gdV wm_402 wm_403 wm_404 wm_2 wm_405) (by decide +kernel) ⟨(Nat.le_of_ble_eq_true rfl), (Nat.le_of_ble_eq_true rfl)⟩ ⟨(Nat.le_of_ble_eq_true rfl), (Nat.le_of_ble_eq_true rfl)⟩ (Nat.le_of_ble_eq_true rfl) dL_law_357 (fun v357 v357u hp357 => ?_)
        obtain ⟨hF357, T4, rfl, hT5, T5, hA357, hT6⟩ := hp357
        have hK357 := K6.fr hF357 hK347 (by simp [tS])
        rw [scr_cg (A := T4) (B := T2) (by omega) hN (fun i hi => by rw [hT5 i hi, hT2 i hi]; exact lp_adT hT4 i hi)]
        refine WW.equ (u' := (Wx ++ WS κ a v357u, _, _)) rfl ?_
        simp only [Option.toList_some, List.cons_append, List.nil_append]
        refine w_iload h (pc := 360) dL_law_360 rfl ?_
        refine w_icmp_ne h (pc := 362) (tgt := 371) dL_law_362 (by decide) (by omega) (by omega) (fun c362 => by exfalso; omega) (fun c362 => ?_)
        refine w_iload h (pc := 365) dL_law_365 rfl ?_
        refine w_iconst h (pc := 367) dL_law_367 ?_
        refine w_icmp_ge h (pc := 368) (tgt := 373) dL_law_368 (by decide) (by omega) (by omega) (fun c368 => ?_) (fun c368 => by exfalso; omega)
        refine w_aload_n h (pc := 373) dL_law_373 rfl ?_
        refine w_alen h (pc := 374) W.length 0 (gl hqx) rfl dL_law_374 ?_
        refine WW.eqs (st' := .int (iI (S.length : Int)) :: _) rfl ?_
        refine w_aload_n h (pc := 375) dL_law_375 rfl ?_
        refine w_bipush h (pc := 376) dL_law_376 (by decide) ?_
        refine w_fS2 h (pc := 378) (mL_cell l D κ ε hL (Wx ++ WS κ a v357u) 12 (by omega)) (wr := []) (List.Perm.refl _) (gdS wm_90 wm_91 wm_85 wm_92) (by decide +kernel) ⟨(Nat.le_of_ble_eq_true rfl), (Nat.le_of_ble_eq_true rfl)⟩ ⟨(Nat.le_of_ble_eq_true rfl), (Nat.le_of_ble_eq_true rfl)⟩ (Nat.le_of_ble_eq_true rfl) dL_law_378 (fun v378 u378 hp378 => ?_)
        obtain ⟨⟨z2, hz21, hz22, rfl⟩, rfl⟩ := hp378
        refine WW.equ (u' := (Wx ++ WS κ a v357u, _, _)) rfl ?_
        simp only [Option.toList_some, List.cons_append, List.nil_append]
        refine w_iconst h (pc := 381) dL_law_381 ?_
        refine w_fS2 h (pc := 382) (mL_below l D κ ε (Wx ++ WS κ a v357u) _ _ (by omega)) (wr := []) (List.Perm.refl _) (gdS wm_94 wm_95 wm_85 wm_96) (by decide +kernel) ⟨(Nat.le_of_ble_eq_true rfl), (Nat.le_of_ble_eq_true rfl)⟩ ⟨(Nat.le_of_ble_eq_true rfl), (Nat.le_of_ble_eq_true rfl)⟩ (Nat.le_of_ble_eq_true rfl) dL_law_382 (fun v382 u382 hp382 => ?_)
        obtain ⟨⟨more, hmore, rfl⟩, rfl⟩ := hp382
        refine WW.equ (u' := (Wx ++ WS κ a v357u, _, _)) rfl ?_
        simp only [Option.toList_some, List.cons_append, List.nil_append]
        refine w_iadd h (pc := 385) dL_law_385 ?_
        refine w_istore h (pc := 386) dL_law_386 (by decide) ?_
        refine w_aload_n h (pc := 388) dL_law_388 rfl ?_
        refine w_iload h (pc := 389) dL_law_389 rfl ?_
        rw [show (S.length : Int) + (more : Int) = ((S.length + more : Nat) : Int) from rfl]
        refine w_fV1 h (pc := 391) (mX5_complete l D κ a ε V N 1 num (84 + 28 + 28) S T5 v357u hA357 hV.1 more (by omega) (by omega) (Or.inl ⟨hK357.2.2.2.2.1, hK357.2.2.2.2.2⟩)) (wr := Wx) (List.Perm.refl _) 0 rfl rfl (gdV wm_406 wm_407 wm_408 wm_2 wm_409) (by decide +kernel) ⟨(Nat.le_of_ble_eq_true rfl), (Nat.le_of_ble_eq_true rfl)⟩ ⟨(Nat.le_of_ble_eq_true rfl), (Nat.le_of_ble_eq_true rfl)⟩ (Nat.le_of_ble_eq_true rfl) dL_law_391 (fun v391 v391u hp391 => ?_)
        obtain ⟨ws, hws, hwsV, rfl, hA391, hbest, hk391⟩ := hp391
        have hsl4 := scr_le (V := V) (N := N) (way := 1) (num := num) (S := S ++ ws) (T := T5) ((S ++ ws).length + 1)
        have hln : (S ++ ws).length = S.length + more := by rw [List.length_append, hws]
        have hsc4 : scr V N 1 num (S ++ ws) T5 ≤ 1000000 := by unfold scr; omega
        have hK391 : K3 v391u := ⟨(hk391 1 (by simp)).trans hK357.1, (hk391 2 (by simp)).trans hK357.2.1, (hk391 11 (by simp)).trans hK357.2.2.2.1⟩
        refine WW.equ (u' := (Wx ++ WS κ a v391u, _, _)) rfl ?_
        simp only [Option.toList_some, List.cons_append, List.nil_append]
        refine w_istore h (pc := 394) dL_law_394 (by decide) ?_
        refine w_aload_n h (pc := 396) dL_law_396 rfl ?_
        refine w_fV0 h (pc := 397) (mX5_score l D κ a ε V N 1 num (84 + 28 + 28) (S ++ ws) T5 v391u hA391) (wr := Wx) (List.Perm.refl _) 0 rfl rfl (gdV wm_374 wm_375 wm_376 wm_2 wm_377) (by decide +kernel) ⟨(Nat.le_of_ble_eq_true rfl), (Nat.le_of_ble_eq_true rfl)⟩ ⟨(Nat.le_of_ble_eq_true rfl), (Nat.le_of_ble_eq_true rfl)⟩ (Nat.le_of_ble_eq_true rfl) dL_law_397 (fun v397 v397u hp397 => ?_)
        obtain ⟨rfl, hF397⟩ := hp397
        have hA397 := hA391.of hF397 (by simp [tS]) (by simp [tG]) (by simp) (by simp)
        have hK397 := hK391.fr hF397 (by simp)
        refine WW.equ (u' := (Wx ++ WS κ a v397u, _, _)) rfl ?_
        simp only [Option.toList_some, List.cons_append, List.nil_append]
        refine w_iload h (pc := 400) dL_law_400 rfl ?_
        refine w_icmp_ne h (pc := 402) (tgt := 414) dL_law_402 (by decide) (by omega) (by omega) (fun c402 => by exfalso; omega) (fun c402 => ?_)
        refine w_aload_n h (pc := 405) dL_law_405 rfl ?_
        refine w_fV0 h (pc := 406) (mX5_length l D κ a ε V N 1 num (84 + 28 + 28) (S ++ ws) T5 v397u hA397) (wr := Wx) (List.Perm.refl _) 0 rfl rfl (gdV wm_448 wm_449 wm_450 wm_2 wm_451) (by decide +kernel) ⟨(Nat.le_of_ble_eq_true rfl), (Nat.le_of_ble_eq_true rfl)⟩ ⟨(Nat.le_of_ble_eq_true rfl), (Nat.le_of_ble_eq_true rfl)⟩ (Nat.le_of_ble_eq_true rfl) dL_law_406 (fun v406 v406u hp406 => ?_)
        obtain ⟨rfl, e406⟩ := hp406
        obtain rfl := e406.symm
        rw [hln]
        refine WW.equ (u' := (Wx ++ WS κ a v397u, _, _)) rfl ?_
        simp only [Option.toList_some, List.cons_append, List.nil_append]
        refine w_iload h (pc := 409) dL_law_409 rfl ?_
        refine w_icmp_eq h (pc := 411) (tgt := 416) dL_law_411 (by decide) (by omega) (by omega) (fun c411 => ?_) (fun c411 => by exfalso; omega)
        refine w_iconst h (pc := 416) dL_law_416 ?_
        refine w_istore h (pc := 417) dL_law_417 (by decide) ?_
        have lp419 : ∀ (n9 j : Nat), S.length < j + n9 → j ≤ S.length → WW Γ 15 (Wx ++ WS κ a v397u, 3000, 300000) 419 [(0, .ref ε.2.1), (1, .ref (a 0)), (2, .ref b), (3, .ref x), (9, .int (iI ((S.length + more : Nat) : Int))), (10, .int (iI (scr V N 1 num (S ++ ws) T5 : Int))), (11, .int (iI (j : Int)))] [] := by
          intro n9
          induction n9 with
          | zero => intro j hn9 hj; exfalso; omega
          | succ n9 ih =>
            intro j hn9 hj
            refine w_iload h (pc := 419) dL_law_419 rfl ?_
            refine w_aload_n h (pc := 421) dL_law_421 rfl ?_
            refine w_alen h (pc := 422) W.length 0 (gl hqx) rfl dL_law_422 ?_
            refine WW.eqs (st' := .int (iI (S.length : Int)) :: _) rfl ?_
            refine w_icmp_ge h (pc := 423) (tgt := 447) dL_law_423 (by decide) (by omega) (by omega) (fun c423 => ?_) (fun c423 => ?_)
            · refine w_aload_n h (pc := 447) dL_law_447 rfl ?_
              refine w_fV0 h (pc := 448) (mX5_hush l D κ a ε V N 1 num (84 + 28 + 28) (S ++ ws) T5 v397u hA397) (wr := Wx) (List.Perm.refl _) 0 rfl rfl (gdV wm_144 wm_145 wm_146 wm_2 wm_147) (by decide +kernel) ⟨(Nat.le_of_ble_eq_true rfl), (Nat.le_of_ble_eq_true rfl)⟩ ⟨(Nat.le_of_ble_eq_true rfl), (Nat.le_of_ble_eq_true rfl)⟩ (Nat.le_of_ble_eq_true rfl) dL_law_448 (fun v448 v448u hp448 => ?_)
              obtain ⟨rfl, hF448, hA448⟩ := hp448
              have hK448 := hK397.fr hF448 (by simp)
              refine WW.equ (u' := (Wx ++ WS κ a v448u, _, _)) rfl ?_
              simp only [Option.toList_some, List.cons_append, List.nil_append]
              refine w_pop h (pc := 451) dL_law_451 rfl ?_
              refine w_iconst h (pc := 452) dL_law_452 ?_
              refine w_istore h (pc := 453) dL_law_453 (by decide) ?_
              have lp455 : ∀ (n8 j : Nat) (SS : List Nat) (uD : US), S.length + more < j + n8 → j ≤ S.length + more → SS.length = j → AB V N 1 num (84 + 28 + 28) SS T5 uD → K3 uD → (∃ wt : List Nat, wt.length = j - S.length ∧ (∀ w ∈ wt, w < V) ∧ SS = S.take j ++ wt) → WW Γ 15 (Wx ++ WS κ a uD, 3000, 300000) 455 [(0, .ref ε.2.1), (1, .ref (a 0)), (2, .ref b), (3, .ref x), (9, .int (iI ((S.length + more : Nat) : Int))), (10, .int (iI (scr V N 1 num (S ++ ws) T5 : Int))), (11, .int (iI (j : Int)))] [] := by
                intro n8
                induction n8 with
                | zero => intro j SS uD hn8 hj hSl hAD hKD hSS; exfalso; omega
                | succ n9 ih =>
                  intro j SS uD hn8 hj hSl hAD hKD hSS
                  refine w_iload h (pc := 455) dL_law_455 rfl ?_
                  refine w_iload h (pc := 457) dL_law_457 rfl ?_
                  refine w_icmp_ge h (pc := 459) (tgt := 503) dL_law_459 (by decide) (by omega) (by omega) (fun c459 => ?_) (fun c459 => ?_)
                  · obtain ⟨wt, hwt, hwtV, hSSe⟩ := hSS
                    rw [List.take_of_length_le (by omega)] at hSSe
                    refine w_aload_n h (pc := 503) dL_law_503 rfl ?_
                    refine w_fV0 h (pc := 504) (mX5_score l D κ a ε V N 1 num (84 + 28 + 28) SS T5 uD hAD) (wr := Wx) (List.Perm.refl _) 0 rfl rfl (gdV wm_374 wm_375 wm_376 wm_2 wm_377) (by decide +kernel) ⟨(Nat.le_of_ble_eq_true rfl), (Nat.le_of_ble_eq_true rfl)⟩ ⟨(Nat.le_of_ble_eq_true rfl), (Nat.le_of_ble_eq_true rfl)⟩ (Nat.le_of_ble_eq_true rfl) dL_law_504 (fun v504 v504u hp504 => ?_)
                    obtain ⟨rfl, hF504⟩ := hp504
                    have hA504 := hAD.of hF504 (by simp [tS]) (by simp [tG]) (by simp) (by simp)
                    have hK504 := hKD.fr hF504 (by simp)
                    have hsl5 := scr_le (V := V) (N := N) (way := 1) (num := num) (S := SS) (T := T5) (SS.length + 1)
                    have hsc5 : scr V N 1 num SS T5 ≤ 1000000 := by unfold scr; omega
                    have hbst := hbest wt (by omega) hwtV
                    rw [← hSSe] at hbst
                    refine WW.equ (u' := (Wx ++ WS κ a v504u, _, _)) rfl ?_
                    simp only [Option.toList_some, List.cons_append, List.nil_append]
                    refine w_iload h (pc := 507) dL_law_507 rfl ?_
                    refine w_icmp_ge h (pc := 509) (tgt := 514) dL_law_509 (by decide) (by omega) (by omega) (fun c509 => ?_) (fun c509 => by exfalso; omega)
                    refine w_aload_n h (pc := 514) dL_law_514 rfl ?_
                    refine w_get h (pc := 515) wi_X6 q0 (gl hq) rfl 1 (by decide) wm_6 rfl (v := .int (iI (N : Int))) rfl dL_law_515 ?_
                    refine w_iconst h (pc := 518) dL_law_518 ?_
                    refine w_icmp_ne h (pc := 519) (tgt := 524) dL_law_519 (by decide) (by omega) (by omega) (fun c519 => ?_) (fun c519 => ?_)
                    · refine w_aload_n h (pc := 524) dL_law_524 rfl ?_
                      refine w_iconst h (pc := 525) dL_law_525 ?_
                      refine w_iconst h (pc := 526) dL_law_526 ?_
                      refine w_fV2 h (pc := 527) (mX5_setWay l D κ a ε V N 1 num (84 + 28 + 28) SS T5 v504u hA504 2 1 (by omega) (by omega)) (wr := Wx) (List.Perm.refl _) 0 rfl rfl (gdV wm_244 wm_245 wm_246 wm_2 wm_247) (by decide +kernel) ⟨(Nat.le_of_ble_eq_true rfl), (Nat.le_of_ble_eq_true rfl)⟩ ⟨(Nat.le_of_ble_eq_true rfl), (Nat.le_of_ble_eq_true rfl)⟩ (Nat.le_of_ble_eq_true rfl) dL_law_527 (fun v527 v527u hp527 => ?_)
                      obtain ⟨rfl, hF527, hA527⟩ := hp527
                      have hK527 := hK504.fr hF527 (by simp)
                      refine WW.equ (u' := (Wx ++ WS κ a v527u, _, _)) rfl ?_
                      simp only [Option.toList_some, List.cons_append, List.nil_append]
                      refine w_pop h (pc := 530) dL_law_530 rfl ?_
                      refine w_aload_n h (pc := 531) dL_law_531 rfl ?_
                      refine w_aload_n h (pc := 532) dL_law_532 rfl ?_
                      refine w_get h (pc := 533) wi_X6 q0 (gl hq) rfl 1 (by decide) wm_6 rfl (v := .int (iI (N : Int))) rfl dL_law_533 ?_
                      refine w_fV1 h (pc := 536) (mX5_entries l D κ a ε V N 2 1 (84 + 28 + 28) SS T5 v527u hA527 N (by omega)) (wr := Wx) (List.Perm.refl _) 0 rfl rfl (gdV wm_456 wm_457 wm_458 wm_2 wm_459) (by decide +kernel) ⟨(Nat.le_of_ble_eq_true rfl), (Nat.le_of_ble_eq_true rfl)⟩ ⟨(Nat.le_of_ble_eq_true rfl), (Nat.le_of_ble_eq_true rfl)⟩ (Nat.le_of_ble_eq_true rfl) dL_law_536 (fun v536 v536u hp536 => ?_)
                      obtain ⟨rfl, e536⟩ := hp536
                      obtain rfl := e536.symm
                      have hTN := (hA527.2.2.2.2.2.2 (N - 1) (by omega)).2
                      have hTl := hTN.2.2.1
                      refine WW.equ (u' := (Wx ++ WS κ a v527u, _, _)) rfl ?_
                      simp only [Option.toList_some, List.cons_append, List.nil_append]
                      refine w_istore h (pc := 539) dL_law_539 (by decide) ?_
                      refine w_aload_n h (pc := 541) dL_law_541 rfl ?_
                      refine w_aload_n h (pc := 542) dL_law_542 rfl ?_
                      refine w_get h (pc := 543) wi_X6 q0 (gl hq) rfl 1 (by decide) wm_6 rfl (v := .int (iI (N : Int))) rfl dL_law_543 ?_
                      refine w_iconst h (pc := 546) dL_law_546 ?_
                      refine w_fV2 h (pc := 547) (mX5_prune l D κ a ε V N 2 1 (84 + 28 + 28) SS T5 v527u hA527 N (by omega) 1 0 (by omega) (lp_one hTN) (Or.inl rfl)) (wr := Wx) (List.Perm.refl _) 0 rfl rfl (gdV wm_464 wm_465 wm_466 wm_2 wm_467) (by decide +kernel) ⟨(Nat.le_of_ble_eq_true rfl), (Nat.le_of_ble_eq_true rfl)⟩ ⟨(Nat.le_of_ble_eq_true rfl), (Nat.le_of_ble_eq_true rfl)⟩ (Nat.le_of_ble_eq_true rfl) dL_law_547 (fun v547 v547u hp547 => ?_)
                      obtain ⟨rfl, hF547, T6, hA547, hT6a, -⟩ := hp547
                      have hT6b := hT6a rfl
                      have hK547 := hK527.fr hF547 (by simp [tS])
                      rw [Nat.zero_mul]
                      refine WW.equ (u' := (Wx ++ WS κ a v547u, _, _)) rfl ?_
                      simp only [Option.toList_some, List.cons_append, List.nil_append]
                      refine w_if_ne h (pc := 550) (tgt := 592) dL_law_550 (by decide) (by omega) (fun c550 => by exfalso; omega) (fun c550 => ?_)
                      refine w_aload_n h (pc := 553) dL_law_553 rfl ?_
                      refine w_aload_n h (pc := 554) dL_law_554 rfl ?_
                      refine w_get h (pc := 555) wi_X6 q0 (gl hq) rfl 1 (by decide) wm_6 rfl (v := .int (iI (N : Int))) rfl dL_law_555 ?_
                      refine w_sipush h (pc := 558) dL_law_558 (by decide) ?_
                      refine w_fV2 h (pc := 561) (mX5_prune l D κ a ε V N 2 1 (84 + 28 + 28) SS T6 v547u hA547 N (by omega) 1000 1 (by omega) (lp_most (hA547.2.2.2.2.2.2 (N - 1) (by omega)).2 (by omega)) (Or.inr rfl)) (wr := Wx) (List.Perm.refl _) 0 rfl rfl (gdV wm_464 wm_465 wm_466 wm_2 wm_467) (by decide +kernel) ⟨(Nat.le_of_ble_eq_true rfl), (Nat.le_of_ble_eq_true rfl)⟩ ⟨(Nat.le_of_ble_eq_true rfl), (Nat.le_of_ble_eq_true rfl)⟩ (Nat.le_of_ble_eq_true rfl) dL_law_561 (fun v561 v561u hp561 => ?_)
                      obtain ⟨rfl, hF561, T7, hA561, -, hT7⟩ := hp561
                      have hT8 := hT7 rfl
                      have hK561 := hK547.fr hF561 (by simp [tS])
                      rw [Nat.one_mul, hT6b (N - 1) (by omega)]
                      refine WW.equ (u' := (Wx ++ WS κ a v561u, _, _)) rfl ?_
                      simp only [Option.toList_some, List.cons_append, List.nil_append]
                      refine w_iload h (pc := 564) dL_law_564 rfl ?_
                      refine w_icmp_ne h (pc := 566) (tgt := 592) dL_law_566 (by decide) (by omega) (by omega) (fun c566 => by exfalso; omega) (fun c566 => ?_)
                      refine w_aload_n h (pc := 569) dL_law_569 rfl ?_
                      refine w_aload_n h (pc := 570) dL_law_570 rfl ?_
                      refine w_get h (pc := 571) wi_X6 q0 (gl hq) rfl 1 (by decide) wm_6 rfl (v := .int (iI (N : Int))) rfl dL_law_571 ?_
                      refine w_fV1 h (pc := 574) (mX5_entries l D κ a ε V N 2 1 (84 + 28 + 28) SS T7 v561u hA561 N (by omega)) (wr := Wx) (List.Perm.refl _) 0 rfl rfl (gdV wm_456 wm_457 wm_458 wm_2 wm_459) (by decide +kernel) ⟨(Nat.le_of_ble_eq_true rfl), (Nat.le_of_ble_eq_true rfl)⟩ ⟨(Nat.le_of_ble_eq_true rfl), (Nat.le_of_ble_eq_true rfl)⟩ (Nat.le_of_ble_eq_true rfl) dL_law_574 (fun v574 v574u hp574 => ?_)
                      obtain ⟨rfl, e574⟩ := hp574
                      obtain rfl := e574.symm
                      rw [hT8, List.length_nil]
                      refine WW.equ (u' := (Wx ++ WS κ a v561u, _, _)) rfl ?_
                      simp only [Option.toList_some, List.cons_append, List.nil_append]
                      refine w_if_ne h (pc := 577) (tgt := 592) dL_law_577 (by decide) (by omega) (fun c577 => by exfalso; omega) (fun c577 => ?_)
                      refine w_aload_n h (pc := 580) dL_law_580 rfl ?_
                      refine w_aload_n h (pc := 581) dL_law_581 rfl ?_
                      refine w_get h (pc := 582) wi_X6 q0 (gl hq) rfl 1 (by decide) wm_6 rfl (v := .int (iI (N : Int))) rfl dL_law_582 ?_
                      refine w_iconst h (pc := 585) dL_law_585 ?_
                      refine w_fV2 h (pc := 586) (mX5_ofContext l D κ a ε V N 2 1 (84 + 28 + 28) SS T7 v561u hA561 N (by omega)) (wr := Wx) (List.Perm.refl _) 0 rfl rfl (gdV wm_478 wm_479 wm_480 wm_2 wm_481) (by decide +kernel) ⟨(Nat.le_of_ble_eq_true rfl), (Nat.le_of_ble_eq_true rfl)⟩ ⟨(Nat.le_of_ble_eq_true rfl), (Nat.le_of_ble_eq_true rfl)⟩ (Nat.le_of_ble_eq_true rfl) dL_law_586 (fun v586 v586u hp586 => ?_)
                      obtain ⟨rfl, hF586⟩ := hp586
                      have hA586 := hA561.of hF586 (by simp [tS]) (by simp [tG]) (by simp) (by simp)
                      have hK586 := hK561.fr hF586 (by simp)
                      rw [hT8, lp_rf]
                      refine WW.equ (u' := (Wx ++ WS κ a v586u, _, _)) rfl ?_
                      simp only [Option.toList_some, List.cons_append, List.nil_append]
                      refine w_if_eq h (pc := 589) (tgt := 594) dL_law_589 (by decide) (by omega) (fun c589 => ?_) (fun c589 => by exfalso; omega)
                      refine w_aload_n h (pc := 594) dL_law_594 rfl ?_
                      refine w_iconst h (pc := 595) dL_law_595 ?_
                      refine w_iconst h (pc := 596) dL_law_596 ?_
                      refine w_fV2 h (pc := 597) (mX5_addStep l D κ a ε v586u hK586.2.2) (wr := Wx) (List.Perm.refl _) 0 rfl rfl (gdV wm_482 wm_483 wm_484 wm_2 wm_485) (by decide +kernel) ⟨(Nat.le_of_ble_eq_true rfl), (Nat.le_of_ble_eq_true rfl)⟩ ⟨(Nat.le_of_ble_eq_true rfl), (Nat.le_of_ble_eq_true rfl)⟩ (Nat.le_of_ble_eq_true rfl) dL_law_597 (fun v597 v597u hp597 => ?_)
                      obtain ⟨rfl, hF597, e11, e15, e16⟩ := hp597
                      have hA597 := hA586.of hF597 (by simp [tS]) (by simp [tG]) (by simp) (by simp)
                      have e1 : v597u.1 1 = ((0 : Nat) : Int) := (hF597.1 1 (by simp)).trans hK586.1
                      have e2 : v597u.1 2 = ((0 : Nat) : Int) := (hF597.1 2 (by simp)).trans hK586.2.1
                      refine WW.equ (u' := (Wx ++ WS κ a v597u, _, _)) rfl ?_
                      simp only [Option.toList_some, List.cons_append, List.nil_append]
                      refine w_pop h (pc := 600) dL_law_600 rfl ?_
                      refine w_aload_n h (pc := 601) dL_law_601 rfl ?_
                      refine w_iconst h (pc := 602) dL_law_602 ?_
                      refine w_fV1 h (pc := 603) (mX5_ranked l D κ a ε V N 2 1 (84 + 28 + 28) SS T7 v597u hA597 0 (by omega)) (wr := Wx) (List.Perm.refl _) 0 rfl rfl (gdV wm_346 wm_347 wm_348 wm_2 wm_349) (by decide +kernel) ⟨(Nat.le_of_ble_eq_true rfl), (Nat.le_of_ble_eq_true rfl)⟩ ⟨(Nat.le_of_ble_eq_true rfl), (Nat.le_of_ble_eq_true rfl)⟩ (Nat.le_of_ble_eq_true rfl) dL_law_603 (fun v603 v603u hp603 => ?_)
                      obtain ⟨rfl, hF603⟩ := hp603
                      have hA603 := hA597.of hF603 (by simp [tS]) (by simp [tG]) (by simp) (by simp)
                      obtain ⟨p, hp⟩ : ∃ p, p = (chz V N 2 1 SS T7 (SS.length : Int)) := ⟨_, rfl⟩
                      rw [← hp]
                      have hfw := fw_ok (p := p) (V := V) (r := 0) (Nat.zero_le _)
                      refine WW.equ (u' := (Wx ++ WS κ a v603u, _, _)) rfl ?_
                      simp only [Option.toList_some, List.cons_append, List.nil_append]
                      refine w_istore h (pc := 606) dL_law_606 (by decide) ?_
                      refine w_aload_n h (pc := 608) dL_law_608 rfl ?_
                      refine w_fV0 h (pc := 609) (mX5_length l D κ a ε V N 2 1 (84 + 28 + 28) SS T7 v603u hA603) (wr := Wx) (List.Perm.refl _) 0 rfl rfl (gdV wm_448 wm_449 wm_450 wm_2 wm_451) (by decide +kernel) ⟨(Nat.le_of_ble_eq_true rfl), (Nat.le_of_ble_eq_true rfl)⟩ ⟨(Nat.le_of_ble_eq_true rfl), (Nat.le_of_ble_eq_true rfl)⟩ (Nat.le_of_ble_eq_true rfl) dL_law_609 (fun v609 v609u hp609 => ?_)
                      obtain ⟨rfl, e609⟩ := hp609
                      obtain rfl := e609.symm
                      refine WW.equ (u' := (Wx ++ WS κ a v603u, _, _)) rfl ?_
                      simp only [Option.toList_some, List.cons_append, List.nil_append]
                      refine w_istore h (pc := 612) dL_law_612 (by decide) ?_
                      refine w_aload_n h (pc := 614) dL_law_614 rfl ?_
                      refine w_fV0 h (pc := 615) (mX5_runScript l D κ a ε V N 2 1 (84 + 28 + 28) SS T7 v603u hA603 hV.1 (by omega) 0 0 (by omega) ((hF603.1 1 (by simp)).trans e1) ((hF603.1 2 (by simp)).trans e2) ((hF603.1 11 (by simp)).trans e11) ((congrFun (hF603.2 15 (by simp)) 0).trans e15) ((congrFun (hF603.2 16 (by simp)) 0).trans e16)) (wr := Wx) (List.Perm.refl _) 0 rfl rfl (gdV wm_495 wm_496 wm_497 wm_2 wm_498) (by decide +kernel) ⟨(Nat.le_of_ble_eq_true rfl), (Nat.le_of_ble_eq_true rfl)⟩ ⟨(Nat.le_of_ble_eq_true rfl), (Nat.le_of_ble_eq_true rfl)⟩ (Nat.le_of_ble_eq_true rfl) dL_law_615 (fun v615 v615u hp615 => ?_)
                      rw [← hp] at hp615
                      obtain ⟨res, rfl, hres⟩ : ∃ res : Nat, v615 = some (.int (iI (res : Int))) ∧ ((fw p V 0 = V ∧ res = SS.length ∧ v615u.1 3 = 1) ∨ (fw p V 0 < V ∧ res = SS.length + 1 ∧ AB V N 2 1 (84 + 28 + 28) (SS ++ [fw p V 0]) T7 v615u)) := by
                        rcases hp615 with ⟨y1, y2, y3, y4⟩ | ⟨y1, y2, y3, y4⟩
                        · exact ⟨_, y2, Or.inl ⟨y1, rfl, y3⟩⟩
                        · exact ⟨_, y2, Or.inr ⟨y1, rfl, y4⟩⟩
                      have hrl : res ≤ 20 := by rcases hres with ⟨-, y, -⟩ | ⟨-, y, -⟩ <;> omega
                      refine WW.equ (u' := (Wx ++ WS κ a v615u, _, _)) rfl ?_
                      simp only [Option.toList_some, List.cons_append, List.nil_append]
                      refine w_istore h (pc := 618) dL_law_618 (by decide) ?_
                      refine w_iload h (pc := 620) dL_law_620 rfl ?_
                      refine w_bipush h (pc := 622) dL_law_622 (by decide) ?_
                      refine w_icmp_eq h (pc := 624) (tgt := 673) dL_law_624 (by decide) (by omega) (by omega) (fun c624 => by exfalso; omega) (fun c624 => ?_)
                      refine w_iload h (pc := 627) dL_law_627 rfl ?_
                      refine w_aload_n h (pc := 629) dL_law_629 rfl ?_
                      refine w_get h (pc := 630) wi_X6 q0 (gl hq) rfl 0 (by decide) wm_3 rfl (v := .int (iI (V : Int))) rfl dL_law_630 ?_
                      refine w_icmp_ne h (pc := 633) (tgt := 653) dL_law_633 (by decide) (by omega) (by omega) (fun c633 => ?_) (fun c633 => ?_)
                      · have hres8 : res = SS.length + 1 ∧ AB V N 2 1 (84 + 28 + 28) (SS ++ [fw p V 0]) T7 v615u := by
                          rcases hres with ⟨y1, -, -⟩ | ⟨-, y2, y3⟩
                          · omega
                          · exact ⟨y2, y3⟩
                        refine w_iload h (pc := 653) dL_law_653 rfl ?_
                        refine w_iload h (pc := 655) dL_law_655 rfl ?_
                        refine w_iconst h (pc := 657) dL_law_657 ?_
                        refine w_iadd h (pc := 658) dL_law_658 ?_
                        refine w_icmp_ne h (pc := 659) (tgt := 677) dL_law_659 (by decide) (by omega) (by omega) (fun c659 => by exfalso; omega) (fun c659 => ?_)
                        refine w_aload_n h (pc := 662) dL_law_662 rfl ?_
                        refine w_iload h (pc := 663) dL_law_663 rfl ?_
                        refine w_fV1 h (pc := 665) (mX5_wordAt l D κ a ε V N 2 1 (84 + 28 + 28) (SS ++ [fw p V 0]) T7 v615u hres8.2 SS.length (fw p V 0) List.getElem?_concat_length) (wr := Wx) (List.Perm.refl _) 0 rfl rfl (gdV wm_452 wm_453 wm_454 wm_2 wm_455) (by decide +kernel) ⟨(Nat.le_of_ble_eq_true rfl), (Nat.le_of_ble_eq_true rfl)⟩ ⟨(Nat.le_of_ble_eq_true rfl), (Nat.le_of_ble_eq_true rfl)⟩ (Nat.le_of_ble_eq_true rfl) dL_law_665 (fun v665 v665u hp665 => ?_)
                        obtain ⟨rfl, e665⟩ := hp665
                        obtain rfl := e665.symm
                        refine WW.equ (u' := (Wx ++ WS κ a v615u, _, _)) rfl ?_
                        simp only [Option.toList_some, List.cons_append, List.nil_append]
                        refine w_iload h (pc := 668) dL_law_668 rfl ?_
                        refine w_icmp_ne h (pc := 670) (tgt := 677) dL_law_670 (by decide) (by omega) (by omega) (fun c670 => by exfalso; omega) (fun c670 => ?_)
                        refine w_iconst h (pc := 673) dL_law_673 ?_
                        refine w_goto h (pc := 674) (tgt := 678) dL_law_674 (by decide) ?_
                        exact w_iret h (pc := 678) (ty := .boolean) rfl rfl dL_law_678 (Nat.le_of_ble_eq_true rfl) (Nat.le_of_ble_eq_true rfl) rfl
                      · have hres9 : res = SS.length ∧ v615u.1 3 = 1 := by
                          rcases hres with ⟨-, y2, y3⟩ | ⟨y1, -, -⟩
                          · exact ⟨y2, y3⟩
                          · omega
                        refine w_iload h (pc := 636) dL_law_636 rfl ?_
                        refine w_iload h (pc := 638) dL_law_638 rfl ?_
                        refine w_icmp_ne h (pc := 640) (tgt := 677) dL_law_640 (by decide) (by omega) (by omega) (fun c640 => by exfalso; omega) (fun c640 => ?_)
                        refine w_aload_n h (pc := 643) dL_law_643 rfl ?_
                        refine w_fV0 h (pc := 644) (mX5_hasEnded l D κ a ε v615u 1 (Or.inr rfl) hres9.2) (wr := Wx) (List.Perm.refl _) 0 rfl rfl (gdV wm_526 wm_527 wm_528 wm_2 wm_529) (by decide +kernel) ⟨(Nat.le_of_ble_eq_true rfl), (Nat.le_of_ble_eq_true rfl)⟩ ⟨(Nat.le_of_ble_eq_true rfl), (Nat.le_of_ble_eq_true rfl)⟩ (Nat.le_of_ble_eq_true rfl) dL_law_644 (fun v644 v644u hp644 => ?_)
                        obtain ⟨rfl, e644⟩ := hp644
                        obtain rfl := e644.symm
                        refine WW.equ (u' := (Wx ++ WS κ a v615u, _, _)) rfl ?_
                        simp only [Option.toList_some, List.cons_append, List.nil_append]
                        refine w_if_eq h (pc := 647) (tgt := 677) dL_law_647 (by decide) (by omega) (fun c647 => by exfalso; omega) (fun c647 => ?_)
                        refine w_goto h (pc := 650) (tgt := 673) dL_law_650 (by decide) ?_
                        refine w_iconst h (pc := 673) dL_law_673 ?_
                        refine w_goto h (pc := 674) (tgt := 678) dL_law_674 (by decide) ?_
                        exact w_iret h (pc := 678) (ty := .boolean) rfl rfl dL_law_678 (Nat.le_of_ble_eq_true rfl) (Nat.le_of_ble_eq_true rfl) rfl
                    · refine w_iconst h (pc := 522) dL_law_522 ?_
                      exact w_iret h (pc := 523) (ty := .boolean) rfl rfl dL_law_523 (Nat.le_of_ble_eq_true rfl) (Nat.le_of_ble_eq_true rfl) rfl
                  · refine w_aload_n h (pc := 462) dL_law_462 rfl ?_
                    refine w_iload h (pc := 463) dL_law_463 rfl ?_
                    refine w_aload_n h (pc := 465) dL_law_465 rfl ?_
                    refine w_alen h (pc := 466) W.length 0 (gl hqx) rfl dL_law_466 ?_
                    refine WW.eqs (st' := .int (iI (S.length : Int)) :: _) rfl ?_
                    refine w_icmp_ge h (pc := 467) (tgt := 477) dL_law_467 (by decide) (by omega) (by omega) (fun c467 => ?_) (fun c467 => ?_)
                    · refine w_aload_n h (pc := 477) dL_law_477 rfl ?_
                      refine w_bipush h (pc := 478) dL_law_478 (by decide) ?_
                      refine w_fS2 h (pc := 480) (mL_cell l D κ ε hL (Wx ++ WS κ a uD) 13 (by omega)) (wr := []) (List.Perm.refl _) (gdS wm_90 wm_91 wm_85 wm_92) (by decide +kernel) ⟨(Nat.le_of_ble_eq_true rfl), (Nat.le_of_ble_eq_true rfl)⟩ ⟨(Nat.le_of_ble_eq_true rfl), (Nat.le_of_ble_eq_true rfl)⟩ (Nat.le_of_ble_eq_true rfl) dL_law_480 (fun v480 u480 hp480 => ?_)
                      obtain ⟨⟨z3, hz31, hz32, rfl⟩, rfl⟩ := hp480
                      refine WW.equ (u' := (Wx ++ WS κ a uD, _, _)) rfl ?_
                      simp only [Option.toList_some, List.cons_append, List.nil_append]
                      refine w_iload h (pc := 483) dL_law_483 rfl ?_
                      obtain ⟨z4, hz4, hz5, hz6⟩ := iI_rg (iI z3 >>> (iI (j : Int) &&& 31))
                      refine w_ishr h (pc := 485) (z := z4) dL_law_485 hz4 ?_
                      refine w_aload_n h (pc := 486) dL_law_486 rfl ?_
                      refine w_get h (pc := 487) wi_X6 q0 (gl hq) rfl 0 (by decide) wm_3 rfl (v := .int (iI (V : Int))) rfl dL_law_487 ?_
                      refine w_fS2 h (pc := 490) (mL_below l D κ ε (Wx ++ WS κ a uD) _ _ (by omega)) (wr := []) (List.Perm.refl _) (gdS wm_94 wm_95 wm_85 wm_96) (by decide +kernel) ⟨(Nat.le_of_ble_eq_true rfl), (Nat.le_of_ble_eq_true rfl)⟩ ⟨(Nat.le_of_ble_eq_true rfl), (Nat.le_of_ble_eq_true rfl)⟩ (Nat.le_of_ble_eq_true rfl) dL_law_490 (fun v490 u490 hp490 => ?_)
                      obtain ⟨⟨w9, hw9, rfl⟩, rfl⟩ := hp490
                      refine WW.equ (u' := (Wx ++ WS κ a uD, _, _)) rfl ?_
                      simp only [Option.toList_some, List.cons_append, List.nil_append]
                      refine w_fV1 h (pc := 493) (mX5_say l D κ a ε V N 1 num (84 + 28 + 28) SS T5 uD hAD w9 (by omega) (by omega)) (wr := Wx) (List.Perm.refl _) 0 rfl rfl (gdV wm_148 wm_149 wm_150 wm_2 wm_151) (by decide +kernel) ⟨(Nat.le_of_ble_eq_true rfl), (Nat.le_of_ble_eq_true rfl)⟩ ⟨(Nat.le_of_ble_eq_true rfl), (Nat.le_of_ble_eq_true rfl)⟩ (Nat.le_of_ble_eq_true rfl) dL_law_493 (fun v493 v493u hp493 => ?_)
                      obtain ⟨rfl, hF493, hA493⟩ := hp493
                      refine WW.equ (u' := (Wx ++ WS κ a v493u, _, _)) rfl ?_
                      simp only [Option.toList_some, List.cons_append, List.nil_append]
                      refine w_pop h (pc := 496) dL_law_496 rfl ?_
                      refine w_iinc h (pc := 497) dL_law_497 rfl (by decide) ?_
                      refine w_goto h (pc := 500) (tgt := 455) dL_law_500 (by decide) ?_
                      first
                      | exact WW.sub (by rfl) (ih (j + 1) (SS ++ [w9]) v493u (by omega) (by omega) (by rw [List.length_append, hSl]; rfl) hA493 (hKD.fr hF493 (by simp)) (sayOk hSS (by omega) (fun _ => hw9)))
                      | exact WW.sub (by rfl) (ih (j + 1) (SS ++ [w9]) v493u (by omega) (by omega) (by rw [List.length_append, hSl]; rfl) hA493 (hKD.fr hF493 (by simp)) (sayOk hSS (by omega) (fun hlt => absurd hlt (by omega))))
                    · refine w_aload_n h (pc := 470) dL_law_470 rfl ?_
                      refine w_iload h (pc := 471) dL_law_471 rfl ?_
                      obtain ⟨w9, hw9⟩ : ∃ w, S[j]? = some w := ⟨S[j]'(by omega), List.getElem?_eq_getElem (by omega)⟩
                      have hwV9 : w9 < V := hSV w9 (List.mem_of_getElem? hw9)
                      refine w_iald h (pc := 473) W.length (gl hqx) ⟨by omega, by omega⟩ (by omega) (v := iI (w9 : Int)) (hg j w9 hw9) dL_law_473 ?_
                      refine w_goto h (pc := 474) (tgt := 493) dL_law_474 (by decide) ?_
                      refine w_fV1 h (pc := 493) (mX5_say l D κ a ε V N 1 num (84 + 28 + 28) SS T5 uD hAD w9 (by omega) (by omega)) (wr := Wx) (List.Perm.refl _) 0 rfl rfl (gdV wm_148 wm_149 wm_150 wm_2 wm_151) (by decide +kernel) ⟨(Nat.le_of_ble_eq_true rfl), (Nat.le_of_ble_eq_true rfl)⟩ ⟨(Nat.le_of_ble_eq_true rfl), (Nat.le_of_ble_eq_true rfl)⟩ (Nat.le_of_ble_eq_true rfl) dL_law_493 (fun v493 v493u hp493 => ?_)
                      obtain ⟨rfl, hF493, hA493⟩ := hp493
                      refine WW.equ (u' := (Wx ++ WS κ a v493u, _, _)) rfl ?_
                      simp only [Option.toList_some, List.cons_append, List.nil_append]
                      refine w_pop h (pc := 496) dL_law_496 rfl ?_
                      refine w_iinc h (pc := 497) dL_law_497 rfl (by decide) ?_
                      refine w_goto h (pc := 500) (tgt := 455) dL_law_500 (by decide) ?_
                      first
                      | exact WW.sub (by rfl) (ih (j + 1) (SS ++ [w9]) v493u (by omega) (by omega) (by rw [List.length_append, hSl]; rfl) hA493 (hKD.fr hF493 (by simp)) (sayOk hSS (by omega) (fun _ => hw9)))
                      | exact WW.sub (by rfl) (ih (j + 1) (SS ++ [w9]) v493u (by omega) (by omega) (by rw [List.length_append, hSl]; rfl) hA493 (hKD.fr hF493 (by simp)) (sayOk hSS (by omega) (fun hlt => absurd hlt (by omega))))
              exact WW.sub (by rfl) (lp455 (S.length + more + 1) 0 [] v448u (by omega) (by omega) rfl hA448 hK448 ⟨[], by simp, by simp, by simp⟩)
            · refine w_aload_n h (pc := 426) dL_law_426 rfl ?_
              refine w_iload h (pc := 427) dL_law_427 rfl ?_
              obtain ⟨w9, hw9⟩ : ∃ w, S[j]? = some w := ⟨S[j]'(by omega), List.getElem?_eq_getElem (by omega)⟩
              have hwV9 : w9 < V := hSV w9 (List.mem_of_getElem? hw9)
              refine w_fV1 h (pc := 429) (mX5_wordAt l D κ a ε V N 1 num (84 + 28 + 28) (S ++ ws) T5 v397u hA397 j w9 (by rw [List.getElem?_append_left (by omega)]; exact hw9)) (wr := Wx) (List.Perm.refl _) 0 rfl rfl (gdV wm_452 wm_453 wm_454 wm_2 wm_455) (by decide +kernel) ⟨(Nat.le_of_ble_eq_true rfl), (Nat.le_of_ble_eq_true rfl)⟩ ⟨(Nat.le_of_ble_eq_true rfl), (Nat.le_of_ble_eq_true rfl)⟩ (Nat.le_of_ble_eq_true rfl) dL_law_429 (fun v429 v429u hp429 => ?_)
              obtain ⟨rfl, e429⟩ := hp429
              obtain rfl := e429.symm
              refine WW.equ (u' := (Wx ++ WS κ a v397u, _, _)) rfl ?_
              simp only [Option.toList_some, List.cons_append, List.nil_append]
              refine w_aload_n h (pc := 432) dL_law_432 rfl ?_
              refine w_iload h (pc := 433) dL_law_433 rfl ?_
              refine w_iald h (pc := 435) W.length (gl hqx) ⟨by omega, by omega⟩ (by omega) (v := iI (w9 : Int)) (hg j w9 hw9) dL_law_435 ?_
              refine w_icmp_eq h (pc := 436) (tgt := 441) dL_law_436 (by decide) (by omega) (by omega) (fun c436 => ?_) (fun c436 => by exfalso; omega)
              refine w_iinc h (pc := 441) dL_law_441 rfl (by decide) ?_
              refine w_goto h (pc := 444) (tgt := 419) dL_law_444 (by decide) ?_
              exact WW.sub (by rfl) (ih (j + 1) (by omega) (by omega))
        exact WW.sub (by rfl) (lp419 (S.length + 1) 0 (by omega) (by omega))
      · refine w_iconst h (pc := 34) dL_law_34 ?_
        refine w_aload_n h (pc := 35) dL_law_35 rfl ?_
        refine w_bipush h (pc := 36) dL_law_36 (by decide) ?_
        refine w_iload h (pc := 38) dL_law_38 rfl ?_
        refine w_iadd h (pc := 40) dL_law_40 ?_
        rw [show (6 : Int) + (i : Int) = ((6 + i : Nat) : Int) from rfl]
        refine w_fS2 h (pc := 41) (mL_cell l D κ ε hL (Wx ++ WS κ a u) (6 + i) (by omega)) (wr := []) (List.Perm.refl _) (gdS wm_90 wm_91 wm_85 wm_92) (by decide +kernel) ⟨(Nat.le_of_ble_eq_true rfl), (Nat.le_of_ble_eq_true rfl)⟩ ⟨(Nat.le_of_ble_eq_true rfl), (Nat.le_of_ble_eq_true rfl)⟩ (Nat.le_of_ble_eq_true rfl) dL_law_41 (fun v41 u41 hp41 => ?_)
        obtain ⟨⟨z1, hz11, hz12, rfl⟩, rfl⟩ := hp41
        refine WW.equ (u' := (Wx ++ WS κ a u, _, _)) rfl ?_
        simp only [Option.toList_some, List.cons_append, List.nil_append]
        refine w_sipush h (pc := 44) dL_law_44 (by decide) ?_
        refine w_fS2 h (pc := 47) (mL_below l D κ ε (Wx ++ WS κ a u) _ _ (by omega)) (wr := []) (List.Perm.refl _) (gdS wm_94 wm_95 wm_85 wm_96) (by decide +kernel) ⟨(Nat.le_of_ble_eq_true rfl), (Nat.le_of_ble_eq_true rfl)⟩ ⟨(Nat.le_of_ble_eq_true rfl), (Nat.le_of_ble_eq_true rfl)⟩ (Nat.le_of_ble_eq_true rfl) dL_law_47 (fun v47 u47 hp47 => ?_)
        obtain ⟨⟨r1, hr1, rfl⟩, rfl⟩ := hp47
        refine WW.equ (u' := (Wx ++ WS κ a u, _, _)) rfl ?_
        simp only [Option.toList_some, List.cons_append, List.nil_append]
        refine w_iadd h (pc := 50) dL_law_50 ?_
        obtain ⟨num, hne⟩ : ∃ num : Nat, num = 1 + r1 := ⟨_, rfl⟩
        rw [show (1 : Int) + (r1 : Int) = (num : Int) by omega]
        have hnum : 1 ≤ num ∧ num ≤ 1000 := by omega
        have hi4 : i ≤ 4 := by omega
        refine w_istore h (pc := 51) dL_law_51 (by decide) ?_
        refine w_aload_n h (pc := 53) dL_law_53 rfl ?_
        refine w_iload h (pc := 54) dL_law_54 rfl ?_
        refine w_iload h (pc := 56) dL_law_56 rfl ?_
        refine w_fV2 h (pc := 58) (mX5_setWay l D κ a ε V N way0 num0 84 S T u hA i num hi4 hnum) (wr := Wx) (List.Perm.refl _) 0 rfl rfl (gdV wm_244 wm_245 wm_246 wm_2 wm_247) (by decide +kernel) ⟨(Nat.le_of_ble_eq_true rfl), (Nat.le_of_ble_eq_true rfl)⟩ ⟨(Nat.le_of_ble_eq_true rfl), (Nat.le_of_ble_eq_true rfl)⟩ (Nat.le_of_ble_eq_true rfl) dL_law_58 (fun v58 v58u hp58 => ?_)
        obtain ⟨rfl, hF58, hA58⟩ := hp58
        have hK58 := K6.fr hF58 hK9 (by simp)
        refine WW.equ (u' := (Wx ++ WS κ a v58u, _, _)) rfl ?_
        simp only [Option.toList_some, List.cons_append, List.nil_append]
        refine w_pop h (pc := 61) dL_law_61 rfl ?_
        refine w_aload_n h (pc := 62) dL_law_62 rfl ?_
        refine w_fV0 h (pc := 63) (mX5_digest l D κ a ε V N i num 84 S T v58u hA58 0 0 0 (by omega) (by omega) (by omega) hK58.1 hK58.2.1 hK58.2.2.1) (wr := Wx) (List.Perm.refl _) 0 rfl rfl (gdV wm_253 wm_254 wm_255 wm_2 wm_256) (by decide +kernel) ⟨(Nat.le_of_ble_eq_true rfl), (Nat.le_of_ble_eq_true rfl)⟩ ⟨(Nat.le_of_ble_eq_true rfl), (Nat.le_of_ble_eq_true rfl)⟩ (Nat.le_of_ble_eq_true rfl) dL_law_63 (fun v63 v63u hp63 => ?_)
        obtain ⟨rfl, hF63⟩ := hp63
        have hA63 := hA58.of hF63 (by simp [tS]) (by simp [tG]) (by simp) (by simp)
        have hK63 := K6.fr hF63 hK58 (by simp)
        refine WW.equ (u' := (Wx ++ WS κ a v63u, _, _)) rfl ?_
        simp only [Option.toList_some, List.cons_append, List.nil_append]
        refine w_lstore h (pc := 66) dL_law_66 (by decide) ?_
        obtain ⟨p, hp⟩ : ∃ p, p = (chz V N i num S T (S.length : Int)) := ⟨_, rfl⟩
        have hch := lp_Ch (V := V) (N := N) (way := i) (num := num) (S := S) (T := T) hnum hN.1 (S.length : Int)
        rw [← hp] at hch
        have hpl : ∀ w, w ≤ V → p w ≤ 1000000 := fun w hw => by
          rw [hp]
          exact chz_le hnum hN.1 _ hw
        obtain ⟨d, hd, hd1, hd2⟩ := lp_d hV.2 hN
        refine w_iconst h (pc := 68) dL_law_68 ?_
        refine w_istore h (pc := 69) dL_law_69 (by decide) ?_
        refine w_ldc h (pc := 71) (z := 1000001) dL_law_71 wm_4 (by decide) ?_
        refine w_istore h (pc := 73) dL_law_73 (by decide) ?_
        refine w_iconst h (pc := 75) dL_law_75 ?_
        refine w_istore h (pc := 76) dL_law_76 (by decide) ?_
        have lp78 : ∀ (n8 j : Nat) (pr : Int) (uB : US), V + 1 < j + n8 → j ≤ V + 1 → AB V N i num 84 S T uB → K6 uB → (0 ≤ pr ∧ pr ≤ 1000001) → (j ≤ V → (p (fw p V j) : Int) ≤ pr) → WW Γ 15 (Wx ++ WS κ a uB, 3000, 300000) 78 [(0, .ref ε.2.1), (1, .ref (a 0)), (2, .ref b), (3, .ref x), (4, .int (iI (i : Int))), (5, .int (iI (num : Int))), (6, .long (lI (dgs V N i num S T 0 0 0))), (8, .int (iI ((sm (fun r => p (fw p V r)) j : Nat) : Int))), (9, .int (iI pr)), (10, .int (iI (j : Int)))] [] := by
          intro n8
          induction n8 with
          | zero => intro j pr uB hn8 hj hB hKB hpr hle; exfalso; omega
          | succ n9 ih =>
            intro j pr uB hn8 hj hB hKB hpr hle
            refine w_iload h (pc := 78) dL_law_78 rfl ?_
            refine w_aload_n h (pc := 80) dL_law_80 rfl ?_
            refine w_get h (pc := 81) wi_X6 q0 (gl hq) rfl 0 (by decide) wm_3 rfl (v := .int (iI (V : Int))) rfl dL_law_81 ?_
            refine w_icmp_gt h (pc := 84) (tgt := 141) dL_law_84 (by decide) (by omega) (by omega) (fun c84 => ?_) (fun c84 => ?_)
            · obtain rfl : j = V + 1 := by omega
              obtain ⟨s9, hs9⟩ : ∃ s9, s9 = sm (fun r => p (fw p V r)) (V + 1) := ⟨_, rfl⟩
              rw [← hs9]
              rw [lp_sum] at hs9
              rw [← hs9] at hch
              refine w_iload h (pc := 141) dL_law_141 rfl ?_
              refine w_ldc h (pc := 143) (z := 1000000) dL_law_143 wm_5 (by decide) ?_
              refine w_icmp_gt h (pc := 145) (tgt := 177) dL_law_145 (by decide) (by omega) (by omega) (fun c145 => by exfalso; omega) (fun c145 => ?_)
              refine w_iload h (pc := 148) dL_law_148 rfl ?_
              refine w_ldc h (pc := 150) (z := 1000000) dL_law_150 wm_5 (by decide) ?_
              refine w_bipush h (pc := 152) dL_law_152 (by decide) ?_
              refine w_aload_n h (pc := 154) dL_law_154 rfl ?_
              refine w_get h (pc := 155) wi_X6 q0 (gl hq) rfl 1 (by decide) wm_6 rfl (v := .int (iI (N : Int))) rfl dL_law_155 ?_
              refine w_imul h (pc := 158) dL_law_158 ?_
              refine w_aload_n h (pc := 159) dL_law_159 rfl ?_
              refine w_get h (pc := 160) wi_X6 q0 (gl hq) rfl 0 (by decide) wm_3 rfl (v := .int (iI (V : Int))) rfl dL_law_160 ?_
              refine w_iconst h (pc := 163) dL_law_163 ?_
              refine w_iadd h (pc := 164) dL_law_164 ?_
              refine w_imul h (pc := 165) dL_law_165 ?_
              refine w_aload_n h (pc := 166) dL_law_166 rfl ?_
              refine w_get h (pc := 167) wi_X6 q0 (gl hq) rfl 0 (by decide) wm_3 rfl (v := .int (iI (V : Int))) rfl dL_law_167 ?_
              refine w_iconst h (pc := 170) dL_law_170 ?_
              refine w_iadd h (pc := 171) dL_law_171 ?_
              refine w_imul h (pc := 172) dL_law_172 ?_
              rw [hd]
              refine w_isub h (pc := 173) dL_law_173 ?_
              refine w_icmp_ge h (pc := 174) (tgt := 179) dL_law_174 (by decide) (by omega) (by omega) (fun c174 => ?_) (fun c174 => by exfalso; omega)
              refine w_aload_n h (pc := 179) dL_law_179 rfl ?_
              refine w_fV0 h (pc := 180) (mX5_wouldDraw l D κ a ε V N i num 84 S T uB hB hV.1 0 (by omega) hKB.1) (wr := Wx) (List.Perm.refl _) 0 rfl rfl (gdV wm_354 wm_355 wm_356 wm_2 wm_357) (by decide +kernel) ⟨(Nat.le_of_ble_eq_true rfl), (Nat.le_of_ble_eq_true rfl)⟩ ⟨(Nat.le_of_ble_eq_true rfl), (Nat.le_of_ble_eq_true rfl)⟩ (Nat.le_of_ble_eq_true rfl) dL_law_180 (fun v180 v180u hp180 => ?_)
              obtain ⟨hF180, r2, rfl, hr2, hr3⟩ := hp180
              have hA180 := hB.of hF180 (by simp [tS]) (by simp [tG]) (by simp) (by simp)
              have hK180 := K6.fr hF180 hKB (by simp)
              rw [← hp] at hr3
              refine WW.equ (u' := (Wx ++ WS κ a v180u, _, _)) rfl ?_
              simp only [Option.toList_some, List.cons_append, List.nil_append]
              refine w_istore h (pc := 183) dL_law_183 (by decide) ?_
              refine w_iload h (pc := 185) dL_law_185 rfl ?_
              refine w_if_lt h (pc := 187) (tgt := 271) dL_law_187 (by decide) (by omega) (fun c187 => by exfalso; omega) (fun c187 => ?_)
              refine w_iload h (pc := 190) dL_law_190 rfl ?_
              refine w_aload_n h (pc := 192) dL_law_192 rfl ?_
              refine w_get h (pc := 193) wi_X6 q0 (gl hq) rfl 0 (by decide) wm_3 rfl (v := .int (iI (V : Int))) rfl dL_law_193 ?_
              refine w_icmp_gt h (pc := 196) (tgt := 271) dL_law_196 (by decide) (by omega) (by omega) (fun c196 => by exfalso; omega) (fun c196 => ?_)
              refine w_aload_n h (pc := 199) dL_law_199 rfl ?_
              refine w_iload h (pc := 200) dL_law_200 rfl ?_
              refine w_fV1 h (pc := 202) (mX5_chance l D κ a ε V N i num 84 S T v180u hA180 r2 hr2) (wr := Wx) (List.Perm.refl _) 0 rfl rfl (gdV wm_350 wm_351 wm_352 wm_2 wm_353) (by decide +kernel) ⟨(Nat.le_of_ble_eq_true rfl), (Nat.le_of_ble_eq_true rfl)⟩ ⟨(Nat.le_of_ble_eq_true rfl), (Nat.le_of_ble_eq_true rfl)⟩ (Nat.le_of_ble_eq_true rfl) dL_law_202 (fun v202 v202u hp202 => ?_)
              obtain ⟨rfl, hF202⟩ := hp202
              have hA202 := hA180.of hF202 (by simp [tS]) (by simp [tG]) (by simp) (by simp)
              have hK202 := K6.fr hF202 hK180 (by simp)
              rw [← hp]
              have hr4 := hr3 (by omega)
              have hr5 := hpl r2 hr2
              refine WW.equ (u' := (Wx ++ WS κ a v202u, _, _)) rfl ?_
              simp only [Option.toList_some, List.cons_append, List.nil_append]
              refine w_if_ne h (pc := 205) (tgt := 213) dL_law_205 (by decide) (by omega) (fun c205 => ?_) (fun c205 => by exfalso; omega)
              refine w_aload_n h (pc := 213) dL_law_213 rfl ?_
              refine w_iload h (pc := 214) dL_law_214 rfl ?_
              refine w_iload h (pc := 216) dL_law_216 rfl ?_
              refine w_fV2 h (pc := 218) (mX5_scoreBy l D κ a ε V N i num 84 S T v202u hA202 i num hi4 hnum) (wr := Wx) (List.Perm.refl _) 0 rfl rfl (gdV wm_370 wm_371 wm_372 wm_2 wm_373) (by decide +kernel) ⟨(Nat.le_of_ble_eq_true rfl), (Nat.le_of_ble_eq_true rfl)⟩ ⟨(Nat.le_of_ble_eq_true rfl), (Nat.le_of_ble_eq_true rfl)⟩ (Nat.le_of_ble_eq_true rfl) dL_law_218 (fun v218 v218u hp218 => ?_)
              obtain ⟨rfl, hF218, hA218⟩ := hp218
              have hK218 := K6.fr hF218 hK202 (by simp)
              refine WW.equ (u' := (Wx ++ WS κ a v218u, _, _)) rfl ?_
              simp only [Option.toList_some, List.cons_append, List.nil_append]
              refine w_aload_n h (pc := 221) dL_law_221 rfl ?_
              refine w_fV0 h (pc := 222) (mX5_score l D κ a ε V N i num 84 S T v218u hA218) (wr := Wx) (List.Perm.refl _) 0 rfl rfl (gdV wm_374 wm_375 wm_376 wm_2 wm_377) (by decide +kernel) ⟨(Nat.le_of_ble_eq_true rfl), (Nat.le_of_ble_eq_true rfl)⟩ ⟨(Nat.le_of_ble_eq_true rfl), (Nat.le_of_ble_eq_true rfl)⟩ (Nat.le_of_ble_eq_true rfl) dL_law_222 (fun v222 v222u hp222 => ?_)
              obtain ⟨rfl, hF222⟩ := hp222
              have hA222 := hA218.of hF222 (by simp [tS]) (by simp [tG]) (by simp) (by simp)
              have hK222 := K6.fr hF222 hK218 (by simp)
              have hsl := scr_le (V := V) (N := N) (way := i) (num := num) (S := S) (T := T) (S.length + 1)
              have hsc : scr V N i num S T ≤ 1000000 := by unfold scr; omega
              refine WW.equ (u' := (Wx ++ WS κ a v222u, _, _)) rfl ?_
              simp only [Option.toList_some, List.cons_append, List.nil_append]
              refine w_icmp_ne h (pc := 225) (tgt := 271) dL_law_225 (by decide) (by omega) (by omega) (fun c225 => by exfalso; omega) (fun c225 => ?_)
              refine w_aload_n h (pc := 228) dL_law_228 rfl ?_
              refine w_iload h (pc := 229) dL_law_229 rfl ?_
              refine w_fV1 h (pc := 231) (mX5_costOf l D κ a ε v222u s9 (by omega)) (wr := Wx) (List.Perm.refl _) 0 rfl rfl (gdV wm_378 wm_379 wm_380 wm_2 wm_381) (by decide +kernel) ⟨(Nat.le_of_ble_eq_true rfl), (Nat.le_of_ble_eq_true rfl)⟩ ⟨(Nat.le_of_ble_eq_true rfl), (Nat.le_of_ble_eq_true rfl)⟩ (Nat.le_of_ble_eq_true rfl) dL_law_231 (fun v231 v231u hp231 => ?_)
              obtain ⟨rfl, e231⟩ := hp231
              obtain rfl := e231.symm
              have hco := co_near (p := s9) (by omega) (by omega)
              refine WW.equ (u' := (Wx ++ WS κ a v222u, _, _)) rfl ?_
              simp only [Option.toList_some, List.cons_append, List.nil_append]
              refine w_sipush h (pc := 234) dL_law_234 (by decide) ?_
              refine w_icmp_gt h (pc := 237) (tgt := 271) dL_law_237 (by decide) (by omega) (by omega) (fun c237 => by exfalso; omega) (fun c237 => ?_)
              refine w_aload_n h (pc := 240) dL_law_240 rfl ?_
              refine w_fV0 h (pc := 241) (mX5_meanCost l D κ a ε V N i num 84 S T v222u hA222) (wr := Wx) (List.Perm.refl _) 0 rfl rfl (gdV wm_382 wm_383 wm_384 wm_2 wm_385) (by decide +kernel) ⟨(Nat.le_of_ble_eq_true rfl), (Nat.le_of_ble_eq_true rfl)⟩ ⟨(Nat.le_of_ble_eq_true rfl), (Nat.le_of_ble_eq_true rfl)⟩ (Nat.le_of_ble_eq_true rfl) dL_law_241 (fun v241 v241u hp241 => ?_)
              obtain ⟨rfl, hF241⟩ := hp241
              have hA241 := hA222.of hF241 (by simp [tS]) (by simp [tG]) (by simp) (by simp)
              have hK241 := K6.fr hF241 hK222 (by simp)
              refine WW.equ (u' := (Wx ++ WS κ a v241u, _, _)) rfl ?_
              simp only [Option.toList_some, List.cons_append, List.nil_append]
              refine w_aload_n h (pc := 244) dL_law_244 rfl ?_
              refine w_alen h (pc := 245) W.length 0 (gl hqx) rfl dL_law_245 ?_
              refine WW.eqs (st' := .int (iI (S.length : Int)) :: _) rfl ?_
              refine w_iconst h (pc := 246) dL_law_246 ?_
              refine w_iadd h (pc := 247) dL_law_247 ?_
              rw [show ((S.length : Int) + 1) = ((S.length + 1 : Nat) : Int) from rfl]
              refine w_i2d h (pc := 248) dL_law_248 ?_
              refine w_dmul h (pc := 249) dL_law_249 (md_2 (Nat.le_add_left 1 _) (by omega) hsc) ?_
              refine w_aload_n h (pc := 250) dL_law_250 rfl ?_
              refine w_fV0 h (pc := 251) (mX5_score l D κ a ε V N i num 84 S T v241u hA241) (wr := Wx) (List.Perm.refl _) 0 rfl rfl (gdV wm_374 wm_375 wm_376 wm_2 wm_377) (by decide +kernel) ⟨(Nat.le_of_ble_eq_true rfl), (Nat.le_of_ble_eq_true rfl)⟩ ⟨(Nat.le_of_ble_eq_true rfl), (Nat.le_of_ble_eq_true rfl)⟩ (Nat.le_of_ble_eq_true rfl) dL_law_251 (fun v251 v251u hp251 => ?_)
              obtain ⟨rfl, hF251⟩ := hp251
              have hA251 := hA241.of hF251 (by simp [tS]) (by simp [tG]) (by simp) (by simp)
              have hK251 := K6.fr hF251 hK241 (by simp)
              refine WW.equ (u' := (Wx ++ WS κ a v251u, _, _)) rfl ?_
              simp only [Option.toList_some, List.cons_append, List.nil_append]
              refine w_iconst h (pc := 254) dL_law_254 ?_
              refine w_iadd h (pc := 255) dL_law_255 ?_
              rw [show ((scr V N i num S T : Nat) : Int) + 1 = ((scr V N i num S T + 1 : Nat) : Int) from rfl]
              refine w_i2d h (pc := 256) dL_law_256 ?_
              refine w_dcmp h (pc := 257) dL_law_257 ?_
              obtain ⟨z9, hz9, hz7, hz8⟩ := md_4 (S := scr V N i num S T) (k := S.length + 1) (Nat.le_add_left 1 _) (by omega) hsc
              rw [hz9]
              refine w_if_gt h (pc := 258) (tgt := 271) dL_law_258 (by decide) (by omega) (fun c258 => by exfalso; omega) (fun c258 => ?_)
              refine w_aload_n h (pc := 261) dL_law_261 rfl ?_
              refine w_fV0 h (pc := 262) (mX5_digest l D κ a ε V N i num 84 S T v251u hA251 0 0 0 (by omega) (by omega) (by omega) hK251.1 hK251.2.1 hK251.2.2.1) (wr := Wx) (List.Perm.refl _) 0 rfl rfl (gdV wm_253 wm_254 wm_255 wm_2 wm_256) (by decide +kernel) ⟨(Nat.le_of_ble_eq_true rfl), (Nat.le_of_ble_eq_true rfl)⟩ ⟨(Nat.le_of_ble_eq_true rfl), (Nat.le_of_ble_eq_true rfl)⟩ (Nat.le_of_ble_eq_true rfl) dL_law_262 (fun v262 v262u hp262 => ?_)
              obtain ⟨rfl, hF262⟩ := hp262
              have hA262 := hA251.of hF262 (by simp [tS]) (by simp [tG]) (by simp) (by simp)
              have hK262 := K6.fr hF262 hK251 (by simp)
              refine WW.equ (u' := (Wx ++ WS κ a v262u, _, _)) rfl ?_
              simp only [Option.toList_some, List.cons_append, List.nil_append]
              refine w_lload h (pc := 265) dL_law_265 rfl ?_
              refine w_lcmp h (pc := 267) dL_law_267 ?_
              rw [lg_self]
              refine w_if_eq h (pc := 268) (tgt := 273) dL_law_268 (by decide) (by omega) (fun c268 => ?_) (fun c268 => by exfalso; omega)
              refine w_iinc h (pc := 273) dL_law_273 rfl (by decide) ?_
              refine w_goto h (pc := 276) (tgt := 28) dL_law_276 (by decide) ?_
              exact WW.sub (by rfl) (ihA (i + 1) i num v262u (by omega) (by omega) hA262 hK262)
            · refine w_aload_n h (pc := 87) dL_law_87 rfl ?_
              refine w_iload h (pc := 88) dL_law_88 rfl ?_
              have hfw := fw_ok (p := p) (V := V) (r := j) (by omega)
              have hpj := hpl _ hfw.1
              refine w_fV1 h (pc := 90) (mX5_ranked l D κ a ε V N i num 84 S T uB hB j (by omega)) (wr := Wx) (List.Perm.refl _) 0 rfl rfl (gdV wm_346 wm_347 wm_348 wm_2 wm_349) (by decide +kernel) ⟨(Nat.le_of_ble_eq_true rfl), (Nat.le_of_ble_eq_true rfl)⟩ ⟨(Nat.le_of_ble_eq_true rfl), (Nat.le_of_ble_eq_true rfl)⟩ (Nat.le_of_ble_eq_true rfl) dL_law_90 (fun v90 v90u hp90 => ?_)
              obtain ⟨rfl, hF90⟩ := hp90
              have hA90 := hB.of hF90 (by simp [tS]) (by simp [tG]) (by simp) (by simp)
              have hK90 := K6.fr hF90 hKB (by simp)
              rw [← hp]
              refine WW.equ (u' := (Wx ++ WS κ a v90u, _, _)) rfl ?_
              simp only [Option.toList_some, List.cons_append, List.nil_append]
              refine w_istore h (pc := 93) dL_law_93 (by decide) ?_
              refine w_aload_n h (pc := 95) dL_law_95 rfl ?_
              refine w_iload h (pc := 96) dL_law_96 rfl ?_
              refine w_fV1 h (pc := 98) (mX5_chance l D κ a ε V N i num 84 S T v90u hA90 (fw p V j) hfw.1) (wr := Wx) (List.Perm.refl _) 0 rfl rfl (gdV wm_350 wm_351 wm_352 wm_2 wm_353) (by decide +kernel) ⟨(Nat.le_of_ble_eq_true rfl), (Nat.le_of_ble_eq_true rfl)⟩ ⟨(Nat.le_of_ble_eq_true rfl), (Nat.le_of_ble_eq_true rfl)⟩ (Nat.le_of_ble_eq_true rfl) dL_law_98 (fun v98 v98u hp98 => ?_)
              obtain ⟨rfl, hF98⟩ := hp98
              have hA98 := hA90.of hF98 (by simp [tS]) (by simp [tG]) (by simp) (by simp)
              have hK98 := K6.fr hF98 hK90 (by simp)
              rw [← hp]
              refine WW.equ (u' := (Wx ++ WS κ a v98u, _, _)) rfl ?_
              simp only [Option.toList_some, List.cons_append, List.nil_append]
              refine w_istore h (pc := 101) dL_law_101 (by decide) ?_
              refine w_iload h (pc := 103) dL_law_103 rfl ?_
              refine w_if_lt h (pc := 105) (tgt := 122) dL_law_105 (by decide) (by omega) (fun c105 => by exfalso; omega) (fun c105 => ?_)
              refine w_iload h (pc := 108) dL_law_108 rfl ?_
              refine w_ldc h (pc := 110) (z := 1000000) dL_law_110 wm_5 (by decide) ?_
              refine w_icmp_gt h (pc := 112) (tgt := 122) dL_law_112 (by decide) (by omega) (by omega) (fun c112 => by exfalso; omega) (fun c112 => ?_)
              refine w_iload h (pc := 115) dL_law_115 rfl ?_
              refine w_iload h (pc := 117) dL_law_117 rfl ?_
              refine w_icmp_le h (pc := 119) (tgt := 124) dL_law_119 (by decide) (by omega) (by omega) (fun c119 => ?_) (fun c119 => by exfalso; omega)
              refine w_iload h (pc := 124) dL_law_124 rfl ?_
              refine w_istore h (pc := 126) dL_law_126 (by decide) ?_
              refine w_iload h (pc := 128) dL_law_128 rfl ?_
              refine w_iload h (pc := 130) dL_law_130 rfl ?_
              refine w_iadd h (pc := 132) dL_law_132 ?_
              refine w_istore h (pc := 133) dL_law_133 (by decide) ?_
              refine w_iinc h (pc := 135) dL_law_135 rfl (by decide) ?_
              refine w_goto h (pc := 138) (tgt := 78) dL_law_138 (by decide) ?_
              exact WW.sub (by rfl) (ih (j + 1) (p (fw p V j) : Int) v98u (by omega) (by omega) hA98 hK98 ⟨by omega, by omega⟩ (fun hj2 => Int.ofNat_le.mpr (lp_fall hj2)))
        exact WW.sub (by rfl) (lp78 (V + 2) 0 1000001 v63u (by omega) (by omega) hA63 hK63 ⟨by omega, by omega⟩ (fun _ => by
          have := hpl _ (fw_ok (p := p) (V := V) (r := 0) (Nat.zero_le _)).1
          omega))
  exact WW.sub (by rfl) (lp28 6 0 0 500 u2 (by omega) (by omega) hA2 hK2)
