theorem dX12_goFour_208 : decode cX12_goFour 208 = .ok (.istore 7, 2) := by decide +kernel
theorem dX12_goFour_210 : decode cX12_goFour 210 = .ok (.iload 7, 2) := by decide +kernel
theorem dX12_goFour_212 : decode cX12_goFour 212 = .ok (.iconst 4, 1) := by decide +kernel
theorem dX12_goFour_213 : decode cX12_goFour 213 = .ok (.if_icmp .ge 31, 3) := by decide +kernel
theorem dX12_goFour_216 : decode cX12_goFour 216 = .ok (.aload_n 0, 1) := by decide +kernel
theorem dX12_goFour_217 : decode cX12_goFour 217 = .ok (.getfield 81, 3) := by decide +kernel
theorem dX12_goFour_220 : decode cX12_goFour 220 = .ok (.iload 7, 2) := by decide +kernel
theorem dX12_goFour_222 : decode cX12_goFour 222 = .ok (.iload 7, 2) := by decide +kernel
theorem dX12_goFour_224 : decode cX12_goFour 224 = .ok (.iload_n 3, 1) := by decide +kernel
theorem dX12_goFour_225 : decode cX12_goFour 225 = .ok (.if_icmp .ne 7, 3) := by decide +kernel
theorem dX12_goFour_228 : decode cX12_goFour 228 = .ok (.iconst 4, 1) := by decide +kernel
theorem dX12_goFour_229 : decode cX12_goFour 229 = .ok (.goto 8, 3) := by decide +kernel
theorem dX12_goFour_232 : decode cX12_goFour 232 = .ok (.iload 6, 2) := by decide +kernel
theorem dX12_goFour_234 : decode cX12_goFour 234 = .ok (.iinc 6 1, 3) := by decide +kernel
theorem dX12_goFour_237 : decode cX12_goFour 237 = .ok (.iastore, 1) := by decide +kernel
theorem dX12_goFour_238 : decode cX12_goFour 238 = .ok (.iinc 7 1, 3) := by decide +kernel
theorem dX12_goFour_241 : decode cX12_goFour 241 = .ok (.goto (-31), 3) := by decide +kernel
theorem dX12_goFour_244 : decode cX12_goFour 244 = .ok (.aload_n 0, 1) := by decide +kernel
theorem dX12_goFour_245 : decode cX12_goFour 245 = .ok (.iload_n 2, 1) := by decide +kernel
theorem dX12_goFour_246 : decode cX12_goFour 246 = .ok (.aload_n 0, 1) := by decide +kernel
theorem dX12_goFour_247 : decode cX12_goFour 247 = .ok (.getfield 81, 3) := by decide +kernel
theorem dX12_goFour_250 : decode cX12_goFour 250 = .ok (.iconst 0, 1) := by decide +kernel
theorem dX12_goFour_251 : decode cX12_goFour 251 = .ok (.iaload, 1) := by decide +kernel
theorem dX12_goFour_252 : decode cX12_goFour 252 = .ok (.aload_n 0, 1) := by decide +kernel
theorem dX12_goFour_253 : decode cX12_goFour 253 = .ok (.getfield 81, 3) := by decide +kernel
theorem dX12_goFour_256 : decode cX12_goFour 256 = .ok (.iconst 1, 1) := by decide +kernel
theorem dX12_goFour_257 : decode cX12_goFour 257 = .ok (.iaload, 1) := by decide +kernel
theorem dX12_goFour_258 : decode cX12_goFour 258 = .ok (.aload_n 0, 1) := by decide +kernel
theorem dX12_goFour_259 : decode cX12_goFour 259 = .ok (.getfield 81, 3) := by decide +kernel
theorem dX12_goFour_262 : decode cX12_goFour 262 = .ok (.iconst 2, 1) := by decide +kernel
theorem dX12_goFour_263 : decode cX12_goFour 263 = .ok (.iaload, 1) := by decide +kernel
theorem dX12_goFour_264 : decode cX12_goFour 264 = .ok (.aload_n 0, 1) := by decide +kernel
theorem dX12_goFour_265 : decode cX12_goFour 265 = .ok (.getfield 81, 3) := by decide +kernel
theorem dX12_goFour_268 : decode cX12_goFour 268 = .ok (.iconst 3, 1) := by decide +kernel
theorem dX12_goFour_269 : decode cX12_goFour 269 = .ok (.iaload, 1) := by decide +kernel
theorem dX12_goFour_270 : decode cX12_goFour 270 = .ok (.invokevirtual 405, 3) := by decide +kernel
theorem dX12_goFour_273 : decode cX12_goFour 273 = .ok (.iconst 0, 1) := by decide +kernel
theorem dX12_goFour_274 : decode cX12_goFour 274 = .ok (.istore 7, 2) := by decide +kernel
theorem dX12_goFour_276 : decode cX12_goFour 276 = .ok (.iload 7, 2) := by decide +kernel
theorem dX12_goFour_278 : decode cX12_goFour 278 = .ok (.iconst 4, 1) := by decide +kernel
theorem dX12_goFour_279 : decode cX12_goFour 279 = .ok (.if_icmp .ge 108, 3) := by decide +kernel
theorem dX12_goFour_282 : decode cX12_goFour 282 = .ok (.iload 7, 2) := by decide +kernel
theorem dX12_goFour_284 : decode cX12_goFour 284 = .ok (.iload_n 3, 1) := by decide +kernel
theorem dX12_goFour_285 : decode cX12_goFour 285 = .ok (.if_icmp .ne 6, 3) := by decide +kernel
theorem dX12_goFour_288 : decode cX12_goFour 288 = .ok (.goto 93, 3) := by decide +kernel
theorem dX12_goFour_291 : decode cX12_goFour 291 = .ok (.aload_n 1, 1) := by decide +kernel
theorem dX12_goFour_292 : decode cX12_goFour 292 = .ok (.iload_n 2, 1) := by decide +kernel
theorem dX12_goFour_293 : decode cX12_goFour 293 = .ok (.iload 7, 2) := by decide +kernel
theorem dX12_goFour_295 : decode cX12_goFour 295 = .ok (.invokestatic 150, 3) := by decide +kernel
theorem dX12_goFour_298 : decode cX12_goFour 298 = .ok (.istore 8, 2) := by decide +kernel
theorem dX12_goFour_300 : decode cX12_goFour 300 = .ok (.iconst 0, 1) := by decide +kernel
theorem dX12_goFour_301 : decode cX12_goFour 301 = .ok (.istore 9, 2) := by decide +kernel
theorem dX12_goFour_303 : decode cX12_goFour 303 = .ok (.iload 9, 2) := by decide +kernel
theorem dX12_goFour_305 : decode cX12_goFour 305 = .ok (.iconst 4, 1) := by decide +kernel
theorem dX12_goFour_306 : decode cX12_goFour 306 = .ok (.if_icmp .ge 42, 3) := by decide +kernel
theorem dX12_goFour_309 : decode cX12_goFour 309 = .ok (.aload_n 0, 1) := by decide +kernel
theorem dX12_goFour_310 : decode cX12_goFour 310 = .ok (.getfield 84, 3) := by decide +kernel
theorem dX12_goFour_313 : decode cX12_goFour 313 = .ok (.iload 8, 2) := by decide +kernel
theorem dX12_goFour_315 : decode cX12_goFour 315 = .ok (.bipush 24, 2) := by decide +kernel
theorem dX12_goFour_317 : decode cX12_goFour 317 = .ok (.irem, 1) := by decide +kernel
theorem dX12_goFour_318 : decode cX12_goFour 318 = .ok (.iload 9, 2) := by decide +kernel
theorem dX12_goFour_320 : decode cX12_goFour 320 = .ok (.invokestatic 124, 3) := by decide +kernel
theorem dX12_goFour_323 : decode cX12_goFour 323 = .ok (.iload 9, 2) := by decide +kernel
theorem dX12_goFour_325 : decode cX12_goFour 325 = .ok (.iload 7, 2) := by decide +kernel
theorem dX12_goFour_327 : decode cX12_goFour 327 = .ok (.if_icmp .ne 7, 3) := by decide +kernel
theorem dX12_goFour_330 : decode cX12_goFour 330 = .ok (.iconst 3, 1) := by decide +kernel
theorem dX12_goFour_331 : decode cX12_goFour 331 = .ok (.goto 10, 3) := by decide +kernel
theorem dX12_goFour_334 : decode cX12_goFour 334 = .ok (.aload_n 0, 1) := by decide +kernel
theorem dX12_goFour_335 : decode cX12_goFour 335 = .ok (.getfield 81, 3) := by decide +kernel
theorem dX12_goFour_338 : decode cX12_goFour 338 = .ok (.iload 9, 2) := by decide +kernel
theorem dX12_goFour_340 : decode cX12_goFour 340 = .ok (.iaload, 1) := by decide +kernel
theorem dX12_goFour_341 : decode cX12_goFour 341 = .ok (.iastore, 1) := by decide +kernel
theorem dX12_goFour_342 : decode cX12_goFour 342 = .ok (.iinc 9 1, 3) := by decide +kernel
theorem dX12_goFour_345 : decode cX12_goFour 345 = .ok (.goto (-42), 3) := by decide +kernel
theorem dX12_goFour_348 : decode cX12_goFour 348 = .ok (.aload_n 0, 1) := by decide +kernel
theorem dX12_goFour_349 : decode cX12_goFour 349 = .ok (.iload 8, 2) := by decide +kernel
theorem dX12_goFour_351 : decode cX12_goFour 351 = .ok (.bipush 24, 2) := by decide +kernel
theorem dX12_goFour_353 : decode cX12_goFour 353 = .ok (.idiv, 1) := by decide +kernel
theorem dX12_goFour_354 : decode cX12_goFour 354 = .ok (.aload_n 0, 1) := by decide +kernel
theorem dX12_goFour_355 : decode cX12_goFour 355 = .ok (.getfield 84, 3) := by decide +kernel
theorem dX12_goFour_358 : decode cX12_goFour 358 = .ok (.iconst 0, 1) := by decide +kernel
theorem dX12_goFour_359 : decode cX12_goFour 359 = .ok (.iaload, 1) := by decide +kernel
theorem dX12_goFour_360 : decode cX12_goFour 360 = .ok (.aload_n 0, 1) := by decide +kernel
theorem dX12_goFour_361 : decode cX12_goFour 361 = .ok (.getfield 84, 3) := by decide +kernel
theorem dX12_goFour_364 : decode cX12_goFour 364 = .ok (.iconst 1, 1) := by decide +kernel
theorem dX12_goFour_365 : decode cX12_goFour 365 = .ok (.iaload, 1) := by decide +kernel
theorem dX12_goFour_366 : decode cX12_goFour 366 = .ok (.aload_n 0, 1) := by decide +kernel
theorem dX12_goFour_367 : decode cX12_goFour 367 = .ok (.getfield 84, 3) := by decide +kernel
theorem dX12_goFour_370 : decode cX12_goFour 370 = .ok (.iconst 2, 1) := by decide +kernel
theorem dX12_goFour_371 : decode cX12_goFour 371 = .ok (.iaload, 1) := by decide +kernel
theorem dX12_goFour_372 : decode cX12_goFour 372 = .ok (.aload_n 0, 1) := by decide +kernel
theorem dX12_goFour_373 : decode cX12_goFour 373 = .ok (.getfield 84, 3) := by decide +kernel
theorem dX12_goFour_376 : decode cX12_goFour 376 = .ok (.iconst 3, 1) := by decide +kernel
theorem dX12_goFour_377 : decode cX12_goFour 377 = .ok (.iaload, 1) := by decide +kernel
theorem dX12_goFour_378 : decode cX12_goFour 378 = .ok (.invokevirtual 405, 3) := by decide +kernel
theorem dX12_goFour_381 : decode cX12_goFour 381 = .ok (.iinc 7 1, 3) := by decide +kernel
theorem dX12_goFour_384 : decode cX12_goFour 384 = .ok (.goto (-108), 3) := by decide +kernel
theorem dX12_goFour_387 : decode cX12_goFour 387 = .ok (.aload_n 0, 1) := by decide +kernel
theorem dX12_goFour_388 : decode cX12_goFour 388 = .ok (.iconst 0, 1) := by decide +kernel
theorem dX12_goFour_389 : decode cX12_goFour 389 = .ok (.iconst 1, 1) := by decide +kernel
theorem dX12_goFour_390 : decode cX12_goFour 390 = .ok (.iconst 2, 1) := by decide +kernel
theorem dX12_goFour_391 : decode cX12_goFour 391 = .ok (.iconst 3, 1) := by decide +kernel
theorem dX12_goFour_392 : decode cX12_goFour 392 = .ok (.invokevirtual 409, 3) := by decide +kernel
theorem dX12_goFour_395 : decode cX12_goFour 395 = .ok (.aload_n 0, 1) := by decide +kernel
theorem dX12_goFour_396 : decode cX12_goFour 396 = .ok (.aload_n 1, 1) := by decide +kernel
theorem dX12_goFour_397 : decode cX12_goFour 397 = .ok (.invokevirtual 413, 3) := by decide +kernel
theorem dX12_goFour_400 : decode cX12_goFour 400 = .ok (.iconst 0, 1) := by decide +kernel
theorem dX12_goFour_401 : decode cX12_goFour 401 = .ok (.ireturn, 1) := by decide +kernel
theorem dX12_goMove_0 : decode cX12_goMove 0 = .ok (.iload_n 2, 1) := by decide +kernel
theorem dX12_goMove_1 : decode cX12_goMove 1 = .ok (.ifCond .ne 14, 3) := by decide +kernel
theorem dX12_goMove_4 : decode cX12_goMove 4 = .ok (.aload_n 0, 1) := by decide +kernel
theorem dX12_goMove_5 : decode cX12_goMove 5 = .ok (.aload_n 1, 1) := by decide +kernel
theorem dX12_goMove_6 : decode cX12_goMove 6 = .ok (.iload_n 3, 1) := by decide +kernel
theorem dX12_goMove_7 : decode cX12_goMove 7 = .ok (.iload 4, 2) := by decide +kernel
theorem dX12_goMove_9 : decode cX12_goMove 9 = .ok (.invokevirtual 425, 3) := by decide +kernel
theorem dX12_goMove_12 : decode cX12_goMove 12 = .ok (.goto 43, 3) := by decide +kernel
theorem dX12_goMove_15 : decode cX12_goMove 15 = .ok (.iload_n 2, 1) := by decide +kernel
theorem dX12_goMove_16 : decode cX12_goMove 16 = .ok (.iconst 1, 1) := by decide +kernel
theorem dX12_goMove_17 : decode cX12_goMove 17 = .ok (.if_icmp .ne 16, 3) := by decide +kernel
theorem dX12_goMove_20 : decode cX12_goMove 20 = .ok (.aload_n 0, 1) := by decide +kernel
theorem dX12_goMove_21 : decode cX12_goMove 21 = .ok (.aload_n 1, 1) := by decide +kernel
theorem dX12_goMove_22 : decode cX12_goMove 22 = .ok (.iload_n 3, 1) := by decide +kernel
theorem dX12_goMove_23 : decode cX12_goMove 23 = .ok (.iload 4, 2) := by decide +kernel
theorem dX12_goMove_25 : decode cX12_goMove 25 = .ok (.iload 5, 2) := by decide +kernel
theorem dX12_goMove_27 : decode cX12_goMove 27 = .ok (.invokevirtual 428, 3) := by decide +kernel
theorem dX12_goMove_30 : decode cX12_goMove 30 = .ok (.goto 25, 3) := by decide +kernel
theorem dX12_goMove_33 : decode cX12_goMove 33 = .ok (.iload_n 2, 1) := by decide +kernel
theorem dX12_goMove_34 : decode cX12_goMove 34 = .ok (.iconst 2, 1) := by decide +kernel
theorem dX12_goMove_35 : decode cX12_goMove 35 = .ok (.if_icmp .ne 12, 3) := by decide +kernel
theorem dX12_goMove_38 : decode cX12_goMove 38 = .ok (.aload_n 0, 1) := by decide +kernel
theorem dX12_goMove_39 : decode cX12_goMove 39 = .ok (.aload_n 1, 1) := by decide +kernel
theorem dX12_goMove_40 : decode cX12_goMove 40 = .ok (.iload_n 3, 1) := by decide +kernel
theorem dX12_goMove_41 : decode cX12_goMove 41 = .ok (.invokevirtual 431, 3) := by decide +kernel
theorem dX12_goMove_44 : decode cX12_goMove 44 = .ok (.goto 11, 3) := by decide +kernel
theorem dX12_goMove_47 : decode cX12_goMove 47 = .ok (.aload_n 0, 1) := by decide +kernel
theorem dX12_goMove_48 : decode cX12_goMove 48 = .ok (.aload_n 1, 1) := by decide +kernel
theorem dX12_goMove_49 : decode cX12_goMove 49 = .ok (.iload_n 3, 1) := by decide +kernel
theorem dX12_goMove_50 : decode cX12_goMove 50 = .ok (.iload 4, 2) := by decide +kernel
theorem dX12_goMove_52 : decode cX12_goMove 52 = .ok (.invokevirtual 434, 3) := by decide +kernel
theorem dX12_goMove_55 : decode cX12_goMove 55 = .ok (.istore 6, 2) := by decide +kernel
theorem dX12_goMove_57 : decode cX12_goMove 57 = .ok (.iload 6, 2) := by decide +kernel
theorem dX12_goMove_59 : decode cX12_goMove 59 = .ok (.ifCond .ne 9, 3) := by decide +kernel
theorem dX12_goMove_62 : decode cX12_goMove 62 = .ok (.aload_n 0, 1) := by decide +kernel
theorem dX12_goMove_63 : decode cX12_goMove 63 = .ok (.aload_n 1, 1) := by decide +kernel
theorem dX12_goMove_64 : decode cX12_goMove 64 = .ok (.invokevirtual 221, 3) := by decide +kernel
theorem dX12_goMove_67 : decode cX12_goMove 67 = .ok (.pop, 1) := by decide +kernel
theorem dX12_goMove_68 : decode cX12_goMove 68 = .ok (.iload 6, 2) := by decide +kernel
theorem dX12_goMove_70 : decode cX12_goMove 70 = .ok (.ireturn, 1) := by decide +kernel
theorem dX12_change_0 : decode cX12_change 0 = .ok (.aload_n 0, 1) := by decide +kernel
theorem dX12_change_1 : decode cX12_change 1 = .ok (.getfield 437, 3) := by decide +kernel
theorem dX12_change_4 : decode cX12_change 4 = .ok (.bipush 8, 2) := by decide +kernel
theorem dX12_change_6 : decode cX12_change 6 = .ok (.if_icmp .ne 43, 3) := by decide +kernel
theorem dX12_change_9 : decode cX12_change 9 = .ok (.iconst 0, 1) := by decide +kernel
theorem dX12_change_10 : decode cX12_change 10 = .ok (.istore_n 2, 1) := by decide +kernel
theorem dX12_change_11 : decode cX12_change 11 = .ok (.iload_n 2, 1) := by decide +kernel
theorem dX12_change_12 : decode cX12_change 12 = .ok (.sipush 231, 3) := by decide +kernel
theorem dX12_change_15 : decode cX12_change 15 = .ok (.if_icmp .ge 24, 3) := by decide +kernel
theorem dX12_change_18 : decode cX12_change 18 = .ok (.aload_n 0, 1) := by decide +kernel
theorem dX12_change_19 : decode cX12_change 19 = .ok (.getfield 87, 3) := by decide +kernel
theorem dX12_change_22 : decode cX12_change 22 = .ok (.iload_n 2, 1) := by decide +kernel
theorem dX12_change_23 : decode cX12_change 23 = .ok (.aload_n 0, 1) := by decide +kernel
theorem dX12_change_24 : decode cX12_change 24 = .ok (.getfield 87, 3) := by decide +kernel
theorem dX12_change_27 : decode cX12_change 27 = .ok (.iload_n 2, 1) := by decide +kernel
theorem dX12_change_28 : decode cX12_change 28 = .ok (.bipush 33, 2) := by decide +kernel
theorem dX12_change_30 : decode cX12_change 30 = .ok (.iadd, 1) := by decide +kernel
theorem dX12_change_31 : decode cX12_change 31 = .ok (.iaload, 1) := by decide +kernel
theorem dX12_change_32 : decode cX12_change 32 = .ok (.iastore, 1) := by decide +kernel
theorem dX12_change_33 : decode cX12_change 33 = .ok (.iinc 2 1, 3) := by decide +kernel
theorem dX12_change_36 : decode cX12_change 36 = .ok (.goto (-25), 3) := by decide +kernel
theorem dX12_change_39 : decode cX12_change 39 = .ok (.aload_n 0, 1) := by decide +kernel
theorem dX12_change_40 : decode cX12_change 40 = .ok (.dup, 1) := by decide +kernel
theorem dX12_change_41 : decode cX12_change 41 = .ok (.getfield 437, 3) := by decide +kernel
theorem dX12_change_44 : decode cX12_change 44 = .ok (.iconst 1, 1) := by decide +kernel
theorem dX12_change_45 : decode cX12_change 45 = .ok (.isub, 1) := by decide +kernel
theorem dX12_change_46 : decode cX12_change 46 = .ok (.putfield 437, 3) := by decide +kernel
theorem dX12_change_49 : decode cX12_change 49 = .ok (.iconst 0, 1) := by decide +kernel
theorem dX12_change_50 : decode cX12_change 50 = .ok (.istore_n 2, 1) := by decide +kernel
theorem dX12_change_51 : decode cX12_change 51 = .ok (.iload_n 2, 1) := by decide +kernel
theorem dX12_change_52 : decode cX12_change 52 = .ok (.bipush 33, 2) := by decide +kernel
theorem dX12_change_54 : decode cX12_change 54 = .ok (.if_icmp .ge 29, 3) := by decide +kernel
theorem dX12_change_57 : decode cX12_change 57 = .ok (.aload_n 0, 1) := by decide +kernel
theorem dX12_change_58 : decode cX12_change 58 = .ok (.getfield 87, 3) := by decide +kernel
theorem dX12_change_61 : decode cX12_change 61 = .ok (.bipush 33, 2) := by decide +kernel
theorem dX12_change_63 : decode cX12_change 63 = .ok (.aload_n 0, 1) := by decide +kernel
theorem dX12_change_64 : decode cX12_change 64 = .ok (.getfield 437, 3) := by decide +kernel
theorem dX12_change_67 : decode cX12_change 67 = .ok (.imul, 1) := by decide +kernel
theorem dX12_change_68 : decode cX12_change 68 = .ok (.iload_n 2, 1) := by decide +kernel
theorem dX12_change_69 : decode cX12_change 69 = .ok (.iadd, 1) := by decide +kernel
theorem dX12_change_70 : decode cX12_change 70 = .ok (.aload_n 0, 1) := by decide +kernel
theorem dX12_change_71 : decode cX12_change 71 = .ok (.getfield 9, 3) := by decide +kernel
theorem dX12_change_74 : decode cX12_change 74 = .ok (.iload_n 2, 1) := by decide +kernel
theorem dX12_change_75 : decode cX12_change 75 = .ok (.iaload, 1) := by decide +kernel
theorem dX12_change_76 : decode cX12_change 76 = .ok (.iastore, 1) := by decide +kernel
theorem dX12_change_77 : decode cX12_change 77 = .ok (.iinc 2 1, 3) := by decide +kernel
theorem dX12_change_80 : decode cX12_change 80 = .ok (.goto (-29), 3) := by decide +kernel
theorem dX12_change_83 : decode cX12_change 83 = .ok (.aload_n 0, 1) := by decide +kernel
theorem dX12_change_84 : decode cX12_change 84 = .ok (.dup, 1) := by decide +kernel
theorem dX12_change_85 : decode cX12_change 85 = .ok (.getfield 437, 3) := by decide +kernel
theorem dX12_change_88 : decode cX12_change 88 = .ok (.iconst 1, 1) := by decide +kernel
theorem dX12_change_89 : decode cX12_change 89 = .ok (.iadd, 1) := by decide +kernel
theorem dX12_change_90 : decode cX12_change 90 = .ok (.putfield 437, 3) := by decide +kernel
theorem dX12_change_93 : decode cX12_change 93 = .ok (.aload_n 1, 1) := by decide +kernel
theorem dX12_change_94 : decode cX12_change 94 = .ok (.aload_n 0, 1) := by decide +kernel
theorem dX12_change_95 : decode cX12_change 95 = .ok (.getfield 9, 3) := by decide +kernel
theorem dX12_change_98 : decode cX12_change 98 = .ok (.invokestatic 168, 3) := by decide +kernel
theorem dX12_change_101 : decode cX12_change 101 = .ok (.return_, 1) := by decide +kernel
theorem dX12_doMove_0 : decode cX12_doMove 0 = .ok (.aload_n 0, 1) := by decide +kernel
theorem dX12_doMove_1 : decode cX12_doMove 1 = .ok (.getfield 9, 3) := by decide +kernel
theorem dX12_doMove_4 : decode cX12_doMove 4 = .ok (.aload_n 0, 1) := by decide +kernel
theorem dX12_doMove_5 : decode cX12_doMove 5 = .ok (.getfield 90, 3) := by decide +kernel
theorem dX12_doMove_8 : decode cX12_doMove 8 = .ok (.invokestatic 168, 3) := by decide +kernel
theorem dX12_doMove_11 : decode cX12_doMove 11 = .ok (.aload_n 0, 1) := by decide +kernel
theorem dX12_doMove_12 : decode cX12_doMove 12 = .ok (.aload_n 0, 1) := by decide +kernel
theorem dX12_doMove_13 : decode cX12_doMove 13 = .ok (.getfield 90, 3) := by decide +kernel
theorem dX12_doMove_16 : decode cX12_doMove 16 = .ok (.iload_n 1, 1) := by decide +kernel
theorem dX12_doMove_17 : decode cX12_doMove 17 = .ok (.iload_n 2, 1) := by decide +kernel
theorem dX12_doMove_18 : decode cX12_doMove 18 = .ok (.iload_n 3, 1) := by decide +kernel
theorem dX12_doMove_19 : decode cX12_doMove 19 = .ok (.iload 4, 2) := by decide +kernel
theorem dX12_doMove_21 : decode cX12_doMove 21 = .ok (.invokevirtual 440, 3) := by decide +kernel
theorem dX12_doMove_24 : decode cX12_doMove 24 = .ok (.istore 5, 2) := by decide +kernel
theorem dX12_doMove_26 : decode cX12_doMove 26 = .ok (.iload 5, 2) := by decide +kernel
theorem dX12_doMove_28 : decode cX12_doMove 28 = .ok (.ifCond .ge 6, 3) := by decide +kernel
theorem dX12_doMove_31 : decode cX12_doMove 31 = .ok (.iload 5, 2) := by decide +kernel
theorem dX12_doMove_33 : decode cX12_doMove 33 = .ok (.ireturn, 1) := by decide +kernel
theorem dX12_doMove_34 : decode cX12_doMove 34 = .ok (.aload_n 0, 1) := by decide +kernel
theorem dX12_doMove_35 : decode cX12_doMove 35 = .ok (.aload_n 0, 1) := by decide +kernel
theorem dX12_doMove_36 : decode cX12_doMove 36 = .ok (.getfield 90, 3) := by decide +kernel
theorem dX12_doMove_39 : decode cX12_doMove 39 = .ok (.invokevirtual 224, 3) := by decide +kernel
theorem dX12_doMove_42 : decode cX12_doMove 42 = .ok (.aload_n 0, 1) := by decide +kernel
theorem dX12_doMove_43 : decode cX12_doMove 43 = .ok (.getfield 9, 3) := by decide +kernel
theorem dX12_doMove_46 : decode cX12_doMove 46 = .ok (.iconst 0, 1) := by decide +kernel
theorem dX12_doMove_47 : decode cX12_doMove 47 = .ok (.iaload, 1) := by decide +kernel
theorem dX12_doMove_48 : decode cX12_doMove 48 = .ok (.ireturn, 1) := by decide +kernel
theorem dX12_two_0 : decode cX12_two 0 = .ok (.aload_n 0, 1) := by decide +kernel
theorem dX12_two_1 : decode cX12_two 1 = .ok (.iconst 0, 1) := by decide +kernel
theorem dX12_two_2 : decode cX12_two 2 = .ok (.putfield 128, 3) := by decide +kernel
theorem dX12_two_5 : decode cX12_two 5 = .ok (.aload_n 0, 1) := by decide +kernel
theorem dX12_two_6 : decode cX12_two 6 = .ok (.iconst 0, 1) := by decide +kernel
theorem dX12_two_7 : decode cX12_two 7 = .ok (.iload_n 1, 1) := by decide +kernel
theorem dX12_two_8 : decode cX12_two 8 = .ok (.iload_n 2, 1) := by decide +kernel
theorem dX12_two_9 : decode cX12_two 9 = .ok (.iconst 0, 1) := by decide +kernel
theorem dX12_two_10 : decode cX12_two 10 = .ok (.invokevirtual 444, 3) := by decide +kernel
theorem dX12_two_13 : decode cX12_two 13 = .ok (.ireturn, 1) := by decide +kernel
theorem dX12_three_0 : decode cX12_three 0 = .ok (.aload_n 0, 1) := by decide +kernel
theorem dX12_three_1 : decode cX12_three 1 = .ok (.iconst 0, 1) := by decide +kernel
theorem dX12_three_2 : decode cX12_three 2 = .ok (.putfield 128, 3) := by decide +kernel
theorem dX12_three_5 : decode cX12_three 5 = .ok (.aload_n 0, 1) := by decide +kernel
theorem dX12_three_6 : decode cX12_three 6 = .ok (.iconst 1, 1) := by decide +kernel
theorem dX12_three_7 : decode cX12_three 7 = .ok (.iload_n 1, 1) := by decide +kernel
theorem dX12_three_8 : decode cX12_three 8 = .ok (.iload_n 2, 1) := by decide +kernel
theorem dX12_three_9 : decode cX12_three 9 = .ok (.iload_n 3, 1) := by decide +kernel
theorem dX12_three_10 : decode cX12_three 10 = .ok (.invokevirtual 444, 3) := by decide +kernel
theorem dX12_three_13 : decode cX12_three 13 = .ok (.ireturn, 1) := by decide +kernel
theorem dX12_one_0 : decode cX12_one 0 = .ok (.aload_n 0, 1) := by decide +kernel
theorem dX12_one_1 : decode cX12_one 1 = .ok (.iconst 0, 1) := by decide +kernel
theorem dX12_one_2 : decode cX12_one 2 = .ok (.putfield 128, 3) := by decide +kernel
theorem dX12_one_5 : decode cX12_one 5 = .ok (.aload_n 0, 1) := by decide +kernel
theorem dX12_one_6 : decode cX12_one 6 = .ok (.iconst 2, 1) := by decide +kernel
theorem dX12_one_7 : decode cX12_one 7 = .ok (.iload_n 1, 1) := by decide +kernel
theorem dX12_one_8 : decode cX12_one 8 = .ok (.iconst 0, 1) := by decide +kernel
theorem dX12_one_9 : decode cX12_one 9 = .ok (.iconst 0, 1) := by decide +kernel
theorem dX12_one_10 : decode cX12_one 10 = .ok (.invokevirtual 444, 3) := by decide +kernel
theorem dX12_one_13 : decode cX12_one 13 = .ok (.ireturn, 1) := by decide +kernel
theorem dX12_four_0 : decode cX12_four 0 = .ok (.aload_n 0, 1) := by decide +kernel
theorem dX12_four_1 : decode cX12_four 1 = .ok (.iconst 0, 1) := by decide +kernel
theorem dX12_four_2 : decode cX12_four 2 = .ok (.putfield 128, 3) := by decide +kernel
theorem dX12_four_5 : decode cX12_four 5 = .ok (.aload_n 0, 1) := by decide +kernel
theorem dX12_four_6 : decode cX12_four 6 = .ok (.iconst 3, 1) := by decide +kernel
theorem dX12_four_7 : decode cX12_four 7 = .ok (.iload_n 1, 1) := by decide +kernel
theorem dX12_four_8 : decode cX12_four 8 = .ok (.iload_n 2, 1) := by decide +kernel
theorem dX12_four_9 : decode cX12_four 9 = .ok (.iconst 0, 1) := by decide +kernel
theorem dX12_four_10 : decode cX12_four 10 = .ok (.invokevirtual 444, 3) := by decide +kernel
theorem dX12_four_13 : decode cX12_four 13 = .ok (.ireturn, 1) := by decide +kernel
theorem dX12_readTrail_0 : decode cX12_readTrail 0 = .ok (.aload_n 0, 1) := by decide +kernel
theorem dX12_readTrail_1 : decode cX12_readTrail 1 = .ok (.invokevirtual 212, 3) := by decide +kernel
theorem dX12_readTrail_4 : decode cX12_readTrail 4 = .ok (.aload_n 0, 1) := by decide +kernel
theorem dX12_readTrail_5 : decode cX12_readTrail 5 = .ok (.iconst 0, 1) := by decide +kernel
theorem dX12_readTrail_6 : decode cX12_readTrail 6 = .ok (.putfield 448, 3) := by decide +kernel
theorem dX12_readTrail_9 : decode cX12_readTrail 9 = .ok (.aload_n 0, 1) := by decide +kernel
theorem dX12_readTrail_10 : decode cX12_readTrail 10 = .ok (.invokevirtual 192, 3) := by decide +kernel
theorem dX12_readTrail_13 : decode cX12_readTrail 13 = .ok (.ifCond .eq 193, 3) := by decide +kernel
theorem dX12_readTrail_16 : decode cX12_readTrail 16 = .ok (.aload_n 0, 1) := by decide +kernel
theorem dX12_readTrail_17 : decode cX12_readTrail 17 = .ok (.getfield 186, 3) := by decide +kernel
theorem dX12_readTrail_20 : decode cX12_readTrail 20 = .ok (.aload_n 0, 1) := by decide +kernel
theorem dX12_readTrail_21 : decode cX12_readTrail 21 = .ok (.getfield 183, 3) := by decide +kernel
theorem dX12_readTrail_24 : decode cX12_readTrail 24 = .ok (.if_icmp .ge 182, 3) := by decide +kernel
theorem dX12_readTrail_27 : decode cX12_readTrail 27 = .ok (.aload_n 0, 1) := by decide +kernel
theorem dX12_readTrail_28 : decode cX12_readTrail 28 = .ok (.invokevirtual 196, 3) := by decide +kernel
theorem dX12_readTrail_31 : decode cX12_readTrail 31 = .ok (.istore_n 1, 1) := by decide +kernel
theorem dX12_readTrail_32 : decode cX12_readTrail 32 = .ok (.iload_n 1, 1) := by decide +kernel
theorem dX12_readTrail_33 : decode cX12_readTrail 33 = .ok (.bipush 102, 2) := by decide +kernel
theorem dX12_readTrail_35 : decode cX12_readTrail 35 = .ok (.if_icmp .ne 7, 3) := by decide +kernel
theorem dX12_readTrail_38 : decode cX12_readTrail 38 = .ok (.iconst 0, 1) := by decide +kernel
theorem dX12_readTrail_39 : decode cX12_readTrail 39 = .ok (.goto 34, 3) := by decide +kernel
theorem dX12_readTrail_42 : decode cX12_readTrail 42 = .ok (.iload_n 1, 1) := by decide +kernel
theorem dX12_readTrail_43 : decode cX12_readTrail 43 = .ok (.bipush 101, 2) := by decide +kernel
theorem dX12_readTrail_45 : decode cX12_readTrail 45 = .ok (.if_icmp .ne 7, 3) := by decide +kernel
theorem dX12_readTrail_48 : decode cX12_readTrail 48 = .ok (.iconst 1, 1) := by decide +kernel
theorem dX12_readTrail_49 : decode cX12_readTrail 49 = .ok (.goto 24, 3) := by decide +kernel
theorem dX12_readTrail_52 : decode cX12_readTrail 52 = .ok (.iload_n 1, 1) := by decide +kernel
theorem dX12_readTrail_53 : decode cX12_readTrail 53 = .ok (.bipush 116, 2) := by decide +kernel
theorem dX12_readTrail_55 : decode cX12_readTrail 55 = .ok (.if_icmp .ne 7, 3) := by decide +kernel
theorem dX12_readTrail_58 : decode cX12_readTrail 58 = .ok (.iconst 2, 1) := by decide +kernel
theorem dX12_readTrail_59 : decode cX12_readTrail 59 = .ok (.goto 14, 3) := by decide +kernel
theorem dX12_readTrail_62 : decode cX12_readTrail 62 = .ok (.iload_n 1, 1) := by decide +kernel
theorem dX12_readTrail_63 : decode cX12_readTrail 63 = .ok (.bipush 112, 2) := by decide +kernel
theorem dX12_readTrail_65 : decode cX12_readTrail 65 = .ok (.if_icmp .ne 7, 3) := by decide +kernel
theorem dX12_readTrail_68 : decode cX12_readTrail 68 = .ok (.iconst 3, 1) := by decide +kernel
theorem dX12_readTrail_69 : decode cX12_readTrail 69 = .ok (.goto 4, 3) := by decide +kernel
theorem dX12_readTrail_72 : decode cX12_readTrail 72 = .ok (.iconst (-1), 1) := by decide +kernel
theorem dX12_readTrail_73 : decode cX12_readTrail 73 = .ok (.istore_n 2, 1) := by decide +kernel
theorem dX12_readTrail_74 : decode cX12_readTrail 74 = .ok (.iload_n 2, 1) := by decide +kernel
theorem dX12_readTrail_75 : decode cX12_readTrail 75 = .ok (.iconst (-1), 1) := by decide +kernel
theorem dX12_readTrail_76 : decode cX12_readTrail 76 = .ok (.if_icmp .ne 14, 3) := by decide +kernel
theorem dX12_readTrail_79 : decode cX12_readTrail 79 = .ok (.aload_n 0, 1) := by decide +kernel
theorem dX12_readTrail_80 : decode cX12_readTrail 80 = .ok (.aload_n 0, 1) := by decide +kernel
theorem dX12_readTrail_81 : decode cX12_readTrail 81 = .ok (.getfield 186, 3) := by decide +kernel
theorem dX12_readTrail_84 : decode cX12_readTrail 84 = .ok (.invokevirtual 200, 3) := by decide +kernel
theorem dX12_readTrail_87 : decode cX12_readTrail 87 = .ok (.goto (-78), 3) := by decide +kernel
theorem dX12_readTrail_90 : decode cX12_readTrail 90 = .ok (.aload_n 0, 1) := by decide +kernel
theorem dX12_readTrail_91 : decode cX12_readTrail 91 = .ok (.dup, 1) := by decide +kernel
theorem dX12_readTrail_92 : decode cX12_readTrail 92 = .ok (.getfield 186, 3) := by decide +kernel
theorem dX12_readTrail_95 : decode cX12_readTrail 95 = .ok (.iconst 1, 1) := by decide +kernel
theorem dX12_readTrail_96 : decode cX12_readTrail 96 = .ok (.iadd, 1) := by decide +kernel
theorem dX12_readTrail_97 : decode cX12_readTrail 97 = .ok (.putfield 186, 3) := by decide +kernel
theorem dX12_readTrail_100 : decode cX12_readTrail 100 = .ok (.aload_n 0, 1) := by decide +kernel
theorem dX12_readTrail_101 : decode cX12_readTrail 101 = .ok (.getfield 93, 3) := by decide +kernel
theorem dX12_readTrail_104 : decode cX12_readTrail 104 = .ok (.iconst 4, 1) := by decide +kernel
theorem dX12_readTrail_105 : decode cX12_readTrail 105 = .ok (.aload_n 0, 1) := by decide +kernel
theorem dX12_readTrail_106 : decode cX12_readTrail 106 = .ok (.getfield 448, 3) := by decide +kernel
theorem dX12_readTrail_109 : decode cX12_readTrail 109 = .ok (.imul, 1) := by decide +kernel
theorem dX12_readTrail_110 : decode cX12_readTrail 110 = .ok (.iload_n 2, 1) := by decide +kernel
theorem dX12_readTrail_111 : decode cX12_readTrail 111 = .ok (.iastore, 1) := by decide +kernel
theorem dX12_readTrail_112 : decode cX12_readTrail 112 = .ok (.aload_n 0, 1) := by decide +kernel
theorem dX12_readTrail_113 : decode cX12_readTrail 113 = .ok (.getfield 93, 3) := by decide +kernel
theorem dX12_readTrail_116 : decode cX12_readTrail 116 = .ok (.iconst 4, 1) := by decide +kernel
theorem dX12_readTrail_117 : decode cX12_readTrail 117 = .ok (.aload_n 0, 1) := by decide +kernel
theorem dX12_readTrail_118 : decode cX12_readTrail 118 = .ok (.getfield 448, 3) := by decide +kernel
theorem dX12_readTrail_121 : decode cX12_readTrail 121 = .ok (.imul, 1) := by decide +kernel
theorem dX12_readTrail_122 : decode cX12_readTrail 122 = .ok (.iconst 1, 1) := by decide +kernel
theorem dX12_readTrail_123 : decode cX12_readTrail 123 = .ok (.iadd, 1) := by decide +kernel
theorem dX12_readTrail_124 : decode cX12_readTrail 124 = .ok (.aload_n 0, 1) := by decide +kernel
theorem dX12_readTrail_125 : decode cX12_readTrail 125 = .ok (.bipush 48, 2) := by decide +kernel
theorem dX12_readTrail_127 : decode cX12_readTrail 127 = .ok (.bipush 10, 2) := by decide +kernel
theorem dX12_readTrail_129 : decode cX12_readTrail 129 = .ok (.invokevirtual 204, 3) := by decide +kernel
theorem dX12_readTrail_132 : decode cX12_readTrail 132 = .ok (.iastore, 1) := by decide +kernel
theorem dX12_readTrail_133 : decode cX12_readTrail 133 = .ok (.aload_n 0, 1) := by decide +kernel
theorem dX12_readTrail_134 : decode cX12_readTrail 134 = .ok (.getfield 93, 3) := by decide +kernel
theorem dX12_readTrail_137 : decode cX12_readTrail 137 = .ok (.iconst 4, 1) := by decide +kernel
theorem dX12_readTrail_138 : decode cX12_readTrail 138 = .ok (.aload_n 0, 1) := by decide +kernel
theorem dX12_readTrail_139 : decode cX12_readTrail 139 = .ok (.getfield 448, 3) := by decide +kernel
theorem dX12_readTrail_142 : decode cX12_readTrail 142 = .ok (.imul, 1) := by decide +kernel
theorem dX12_readTrail_143 : decode cX12_readTrail 143 = .ok (.iconst 2, 1) := by decide +kernel
theorem dX12_readTrail_144 : decode cX12_readTrail 144 = .ok (.iadd, 1) := by decide +kernel
theorem dX12_readTrail_145 : decode cX12_readTrail 145 = .ok (.iload_n 2, 1) := by decide +kernel
theorem dX12_readTrail_146 : decode cX12_readTrail 146 = .ok (.iconst 2, 1) := by decide +kernel
theorem dX12_readTrail_147 : decode cX12_readTrail 147 = .ok (.if_icmp .ne 7, 3) := by decide +kernel
theorem dX12_readTrail_150 : decode cX12_readTrail 150 = .ok (.iconst 0, 1) := by decide +kernel
theorem dX12_readTrail_151 : decode cX12_readTrail 151 = .ok (.goto 11, 3) := by decide +kernel
theorem dX12_readTrail_154 : decode cX12_readTrail 154 = .ok (.aload_n 0, 1) := by decide +kernel
theorem dX12_readTrail_155 : decode cX12_readTrail 155 = .ok (.bipush 48, 2) := by decide +kernel
theorem dX12_readTrail_157 : decode cX12_readTrail 157 = .ok (.bipush 10, 2) := by decide +kernel
theorem dX12_readTrail_159 : decode cX12_readTrail 159 = .ok (.invokevirtual 204, 3) := by decide +kernel
theorem dX12_readTrail_162 : decode cX12_readTrail 162 = .ok (.iastore, 1) := by decide +kernel
theorem dX12_readTrail_163 : decode cX12_readTrail 163 = .ok (.aload_n 0, 1) := by decide +kernel
theorem dX12_readTrail_164 : decode cX12_readTrail 164 = .ok (.getfield 93, 3) := by decide +kernel
theorem dX12_readTrail_167 : decode cX12_readTrail 167 = .ok (.iconst 4, 1) := by decide +kernel
theorem dX12_readTrail_168 : decode cX12_readTrail 168 = .ok (.aload_n 0, 1) := by decide +kernel
theorem dX12_readTrail_169 : decode cX12_readTrail 169 = .ok (.getfield 448, 3) := by decide +kernel
theorem dX12_readTrail_172 : decode cX12_readTrail 172 = .ok (.imul, 1) := by decide +kernel
theorem dX12_readTrail_173 : decode cX12_readTrail 173 = .ok (.iconst 3, 1) := by decide +kernel
theorem dX12_readTrail_174 : decode cX12_readTrail 174 = .ok (.iadd, 1) := by decide +kernel
theorem dX12_readTrail_175 : decode cX12_readTrail 175 = .ok (.iload_n 2, 1) := by decide +kernel
theorem dX12_readTrail_176 : decode cX12_readTrail 176 = .ok (.iconst 1, 1) := by decide +kernel
theorem dX12_readTrail_177 : decode cX12_readTrail 177 = .ok (.if_icmp .ne 14, 3) := by decide +kernel
theorem dX12_readTrail_180 : decode cX12_readTrail 180 = .ok (.aload_n 0, 1) := by decide +kernel
theorem dX12_readTrail_181 : decode cX12_readTrail 181 = .ok (.bipush 48, 2) := by decide +kernel
theorem dX12_readTrail_183 : decode cX12_readTrail 183 = .ok (.bipush 10, 2) := by decide +kernel
theorem dX12_readTrail_185 : decode cX12_readTrail 185 = .ok (.invokevirtual 204, 3) := by decide +kernel
theorem dX12_readTrail_188 : decode cX12_readTrail 188 = .ok (.goto 4, 3) := by decide +kernel
theorem dX12_readTrail_191 : decode cX12_readTrail 191 = .ok (.iconst 0, 1) := by decide +kernel
theorem dX12_readTrail_192 : decode cX12_readTrail 192 = .ok (.iastore, 1) := by decide +kernel
theorem dX12_readTrail_193 : decode cX12_readTrail 193 = .ok (.aload_n 0, 1) := by decide +kernel
theorem dX12_readTrail_194 : decode cX12_readTrail 194 = .ok (.dup, 1) := by decide +kernel
theorem dX12_readTrail_195 : decode cX12_readTrail 195 = .ok (.getfield 448, 3) := by decide +kernel
theorem dX12_readTrail_198 : decode cX12_readTrail 198 = .ok (.iconst 1, 1) := by decide +kernel
theorem dX12_readTrail_199 : decode cX12_readTrail 199 = .ok (.iadd, 1) := by decide +kernel
theorem dX12_readTrail_200 : decode cX12_readTrail 200 = .ok (.putfield 448, 3) := by decide +kernel
theorem dX12_readTrail_203 : decode cX12_readTrail 203 = .ok (.goto (-194), 3) := by decide +kernel
theorem dX12_readTrail_206 : decode cX12_readTrail 206 = .ok (.aload_n 0, 1) := by decide +kernel
theorem dX12_readTrail_207 : decode cX12_readTrail 207 = .ok (.invokevirtual 218, 3) := by decide +kernel
theorem dX12_readTrail_210 : decode cX12_readTrail 210 = .ok (.ireturn, 1) := by decide +kernel
theorem dX12_goTrail_0 : decode cX12_goTrail 0 = .ok (.aload_n 0, 1) := by decide +kernel
theorem dX12_goTrail_1 : decode cX12_goTrail 1 = .ok (.getfield 9, 3) := by decide +kernel
theorem dX12_goTrail_4 : decode cX12_goTrail 4 = .ok (.aload_n 0, 1) := by decide +kernel
theorem dX12_goTrail_5 : decode cX12_goTrail 5 = .ok (.getfield 90, 3) := by decide +kernel
theorem dX12_goTrail_8 : decode cX12_goTrail 8 = .ok (.invokestatic 168, 3) := by decide +kernel
theorem dX12_goTrail_11 : decode cX12_goTrail 11 = .ok (.iconst 0, 1) := by decide +kernel
theorem dX12_goTrail_12 : decode cX12_goTrail 12 = .ok (.istore_n 1, 1) := by decide +kernel
theorem dX12_goTrail_13 : decode cX12_goTrail 13 = .ok (.iload_n 1, 1) := by decide +kernel
theorem dX12_goTrail_14 : decode cX12_goTrail 14 = .ok (.aload_n 0, 1) := by decide +kernel
theorem dX12_goTrail_15 : decode cX12_goTrail 15 = .ok (.getfield 448, 3) := by decide +kernel
theorem dX12_goTrail_18 : decode cX12_goTrail 18 = .ok (.if_icmp .ge 58, 3) := by decide +kernel
theorem dX12_goTrail_21 : decode cX12_goTrail 21 = .ok (.aload_n 0, 1) := by decide +kernel
theorem dX12_goTrail_22 : decode cX12_goTrail 22 = .ok (.aload_n 0, 1) := by decide +kernel
theorem dX12_goTrail_23 : decode cX12_goTrail 23 = .ok (.getfield 90, 3) := by decide +kernel
theorem dX12_goTrail_26 : decode cX12_goTrail 26 = .ok (.aload_n 0, 1) := by decide +kernel
theorem dX12_goTrail_27 : decode cX12_goTrail 27 = .ok (.getfield 93, 3) := by decide +kernel
theorem dX12_goTrail_30 : decode cX12_goTrail 30 = .ok (.iconst 4, 1) := by decide +kernel
theorem dX12_goTrail_31 : decode cX12_goTrail 31 = .ok (.iload_n 1, 1) := by decide +kernel
theorem dX12_goTrail_32 : decode cX12_goTrail 32 = .ok (.imul, 1) := by decide +kernel
theorem dX12_goTrail_33 : decode cX12_goTrail 33 = .ok (.iaload, 1) := by decide +kernel
theorem dX12_goTrail_34 : decode cX12_goTrail 34 = .ok (.aload_n 0, 1) := by decide +kernel
theorem dX12_goTrail_35 : decode cX12_goTrail 35 = .ok (.getfield 93, 3) := by decide +kernel
theorem dX12_goTrail_38 : decode cX12_goTrail 38 = .ok (.iconst 4, 1) := by decide +kernel
theorem dX12_goTrail_39 : decode cX12_goTrail 39 = .ok (.iload_n 1, 1) := by decide +kernel
theorem dX12_goTrail_40 : decode cX12_goTrail 40 = .ok (.imul, 1) := by decide +kernel
theorem dX12_goTrail_41 : decode cX12_goTrail 41 = .ok (.iconst 1, 1) := by decide +kernel
theorem dX12_goTrail_42 : decode cX12_goTrail 42 = .ok (.iadd, 1) := by decide +kernel
theorem dX12_goTrail_43 : decode cX12_goTrail 43 = .ok (.iaload, 1) := by decide +kernel
theorem dX12_goTrail_44 : decode cX12_goTrail 44 = .ok (.aload_n 0, 1) := by decide +kernel
theorem dX12_goTrail_45 : decode cX12_goTrail 45 = .ok (.getfield 93, 3) := by decide +kernel
theorem dX12_goTrail_48 : decode cX12_goTrail 48 = .ok (.iconst 4, 1) := by decide +kernel
theorem dX12_goTrail_49 : decode cX12_goTrail 49 = .ok (.iload_n 1, 1) := by decide +kernel
theorem dX12_goTrail_50 : decode cX12_goTrail 50 = .ok (.imul, 1) := by decide +kernel
theorem dX12_goTrail_51 : decode cX12_goTrail 51 = .ok (.iconst 2, 1) := by decide +kernel
theorem dX12_goTrail_52 : decode cX12_goTrail 52 = .ok (.iadd, 1) := by decide +kernel
theorem dX12_goTrail_53 : decode cX12_goTrail 53 = .ok (.iaload, 1) := by decide +kernel
theorem dX12_goTrail_54 : decode cX12_goTrail 54 = .ok (.aload_n 0, 1) := by decide +kernel
theorem dX12_goTrail_55 : decode cX12_goTrail 55 = .ok (.getfield 93, 3) := by decide +kernel
theorem dX12_goTrail_58 : decode cX12_goTrail 58 = .ok (.iconst 4, 1) := by decide +kernel
theorem dX12_goTrail_59 : decode cX12_goTrail 59 = .ok (.iload_n 1, 1) := by decide +kernel
theorem dX12_goTrail_60 : decode cX12_goTrail 60 = .ok (.imul, 1) := by decide +kernel
theorem dX12_goTrail_61 : decode cX12_goTrail 61 = .ok (.iconst 3, 1) := by decide +kernel
theorem dX12_goTrail_62 : decode cX12_goTrail 62 = .ok (.iadd, 1) := by decide +kernel
theorem dX12_goTrail_63 : decode cX12_goTrail 63 = .ok (.iaload, 1) := by decide +kernel
theorem dX12_goTrail_64 : decode cX12_goTrail 64 = .ok (.invokevirtual 440, 3) := by decide +kernel
theorem dX12_goTrail_67 : decode cX12_goTrail 67 = .ok (.ifCond .ne 9, 3) := by decide +kernel
theorem dX12_goTrail_70 : decode cX12_goTrail 70 = .ok (.iinc 1 1, 3) := by decide +kernel
theorem dX12_goTrail_73 : decode cX12_goTrail 73 = .ok (.goto (-60), 3) := by decide +kernel
theorem dX12_goTrail_76 : decode cX12_goTrail 76 = .ok (.iload_n 1, 1) := by decide +kernel
theorem dX12_goTrail_77 : decode cX12_goTrail 77 = .ok (.ireturn, 1) := by decide +kernel
theorem dX12_trail_0 : decode cX12_trail 0 = .ok (.aload_n 0, 1) := by decide +kernel
theorem dX12_trail_1 : decode cX12_trail 1 = .ok (.iconst 0, 1) := by decide +kernel
theorem dX12_trail_2 : decode cX12_trail 2 = .ok (.putfield 128, 3) := by decide +kernel
theorem dX12_trail_5 : decode cX12_trail 5 = .ok (.aload_n 0, 1) := by decide +kernel
theorem dX12_trail_6 : decode cX12_trail 6 = .ok (.invokevirtual 451, 3) := by decide +kernel
theorem dX12_trail_9 : decode cX12_trail 9 = .ok (.ifCond .ne 10, 3) := by decide +kernel
theorem dX12_trail_12 : decode cX12_trail 12 = .ok (.iconst (-1), 1) := by decide +kernel
theorem dX12_trail_13 : decode cX12_trail 13 = .ok (.aload_n 0, 1) := by decide +kernel
theorem dX12_trail_14 : decode cX12_trail 14 = .ok (.getfield 189, 3) := by decide +kernel
theorem dX12_trail_17 : decode cX12_trail 17 = .ok (.isub, 1) := by decide +kernel
theorem dX12_trail_18 : decode cX12_trail 18 = .ok (.ireturn, 1) := by decide +kernel
theorem dX12_trail_19 : decode cX12_trail 19 = .ok (.aload_n 0, 1) := by decide +kernel
theorem dX12_trail_20 : decode cX12_trail 20 = .ok (.invokevirtual 454, 3) := by decide +kernel
theorem dX12_trail_23 : decode cX12_trail 23 = .ok (.istore_n 1, 1) := by decide +kernel
theorem dX12_trail_24 : decode cX12_trail 24 = .ok (.iload_n 1, 1) := by decide +kernel
theorem dX12_trail_25 : decode cX12_trail 25 = .ok (.ifCond .le 11, 3) := by decide +kernel
theorem dX12_trail_28 : decode cX12_trail 28 = .ok (.aload_n 0, 1) := by decide +kernel
theorem dX12_trail_29 : decode cX12_trail 29 = .ok (.aload_n 0, 1) := by decide +kernel
theorem dX12_trail_30 : decode cX12_trail 30 = .ok (.getfield 90, 3) := by decide +kernel
theorem dX12_trail_33 : decode cX12_trail 33 = .ok (.invokevirtual 224, 3) := by decide +kernel
theorem dX12_trail_36 : decode cX12_trail 36 = .ok (.aload_n 0, 1) := by decide +kernel
theorem dX12_trail_37 : decode cX12_trail 37 = .ok (.iconst 0, 1) := by decide +kernel
theorem dX12_trail_38 : decode cX12_trail 38 = .ok (.putfield 132, 3) := by decide +kernel
theorem dX12_trail_41 : decode cX12_trail 41 = .ok (.aload_n 0, 1) := by decide +kernel
theorem dX12_trail_42 : decode cX12_trail 42 = .ok (.iload_n 1, 1) := by decide +kernel
theorem dX12_trail_43 : decode cX12_trail 43 = .ok (.aload_n 0, 1) := by decide +kernel
theorem dX12_trail_44 : decode cX12_trail 44 = .ok (.getfield 448, 3) := by decide +kernel
theorem dX12_trail_47 : decode cX12_trail 47 = .ok (.if_icmp .ge 7, 3) := by decide +kernel
theorem dX12_trail_50 : decode cX12_trail 50 = .ok (.lconst 1, 1) := by decide +kernel
theorem dX12_trail_51 : decode cX12_trail 51 = .ok (.goto 4, 3) := by decide +kernel
theorem dX12_trail_54 : decode cX12_trail 54 = .ok (.lconst 0, 1) := by decide +kernel
theorem dX12_trail_55 : decode cX12_trail 55 = .ok (.invokevirtual 231, 3) := by decide +kernel
theorem dX12_trail_58 : decode cX12_trail 58 = .ok (.aload_n 0, 1) := by decide +kernel
theorem dX12_trail_59 : decode cX12_trail 59 = .ok (.aload_n 0, 1) := by decide +kernel
theorem dX12_trail_60 : decode cX12_trail 60 = .ok (.getfield 9, 3) := by decide +kernel
theorem dX12_trail_63 : decode cX12_trail 63 = .ok (.iconst 0, 1) := by decide +kernel
theorem dX12_trail_64 : decode cX12_trail 64 = .ok (.iaload, 1) := by decide +kernel
theorem dX12_trail_65 : decode cX12_trail 65 = .ok (.i2l, 1) := by decide +kernel
theorem dX12_trail_66 : decode cX12_trail 66 = .ok (.invokevirtual 231, 3) := by decide +kernel
theorem dX12_trail_69 : decode cX12_trail 69 = .ok (.iload_n 1, 1) := by decide +kernel
theorem dX12_trail_70 : decode cX12_trail 70 = .ok (.ireturn, 1) := by decide +kernel
theorem dX12_tries_0 : decode cX12_tries 0 = .ok (.aload_n 0, 1) := by decide +kernel
theorem dX12_tries_1 : decode cX12_tries 1 = .ok (.iconst 0, 1) := by decide +kernel
theorem dX12_tries_2 : decode cX12_tries 2 = .ok (.putfield 128, 3) := by decide +kernel
theorem dX12_tries_5 : decode cX12_tries 5 = .ok (.aload_n 0, 1) := by decide +kernel
theorem dX12_tries_6 : decode cX12_tries 6 = .ok (.invokevirtual 451, 3) := by decide +kernel
theorem dX12_tries_9 : decode cX12_tries 9 = .ok (.ifCond .ne 10, 3) := by decide +kernel
theorem dX12_tries_12 : decode cX12_tries 12 = .ok (.iconst (-1), 1) := by decide +kernel
theorem dX12_tries_13 : decode cX12_tries 13 = .ok (.aload_n 0, 1) := by decide +kernel
theorem dX12_tries_14 : decode cX12_tries 14 = .ok (.getfield 189, 3) := by decide +kernel
theorem dX12_tries_17 : decode cX12_tries 17 = .ok (.isub, 1) := by decide +kernel
theorem dX12_tries_18 : decode cX12_tries 18 = .ok (.ireturn, 1) := by decide +kernel
theorem dX12_tries_19 : decode cX12_tries 19 = .ok (.aload_n 0, 1) := by decide +kernel
theorem dX12_tries_20 : decode cX12_tries 20 = .ok (.invokevirtual 454, 3) := by decide +kernel
theorem dX12_tries_23 : decode cX12_tries 23 = .ok (.istore_n 1, 1) := by decide +kernel
theorem dX12_tries_24 : decode cX12_tries 24 = .ok (.aload_n 0, 1) := by decide +kernel
theorem dX12_tries_25 : decode cX12_tries 25 = .ok (.iconst 0, 1) := by decide +kernel
theorem dX12_tries_26 : decode cX12_tries 26 = .ok (.putfield 132, 3) := by decide +kernel
theorem dX12_tries_29 : decode cX12_tries 29 = .ok (.aload_n 0, 1) := by decide +kernel
theorem dX12_tries_30 : decode cX12_tries 30 = .ok (.iload_n 1, 1) := by decide +kernel
theorem dX12_tries_31 : decode cX12_tries 31 = .ok (.i2l, 1) := by decide +kernel
theorem dX12_tries_32 : decode cX12_tries 32 = .ok (.invokevirtual 231, 3) := by decide +kernel
theorem dX12_tries_35 : decode cX12_tries 35 = .ok (.aload_n 0, 1) := by decide +kernel
theorem dX12_tries_36 : decode cX12_tries 36 = .ok (.aload_n 0, 1) := by decide +kernel
theorem dX12_tries_37 : decode cX12_tries 37 = .ok (.getfield 90, 3) := by decide +kernel
theorem dX12_tries_40 : decode cX12_tries 40 = .ok (.aload_n 0, 1) := by decide +kernel
theorem dX12_tries_41 : decode cX12_tries 41 = .ok (.getfield 9, 3) := by decide +kernel
theorem dX12_tries_44 : decode cX12_tries 44 = .ok (.invokestatic 172, 3) := by decide +kernel
theorem dX12_tries_47 : decode cX12_tries 47 = .ok (.ifCond .eq 7, 3) := by decide +kernel
theorem dX12_tries_50 : decode cX12_tries 50 = .ok (.lconst 1, 1) := by decide +kernel
theorem dX12_tries_51 : decode cX12_tries 51 = .ok (.goto 4, 3) := by decide +kernel
theorem dX12_tries_54 : decode cX12_tries 54 = .ok (.lconst 0, 1) := by decide +kernel
theorem dX12_tries_55 : decode cX12_tries 55 = .ok (.invokevirtual 231, 3) := by decide +kernel
theorem dX12_tries_58 : decode cX12_tries 58 = .ok (.aload_n 0, 1) := by decide +kernel
theorem dX12_tries_59 : decode cX12_tries 59 = .ok (.getfield 90, 3) := by decide +kernel
theorem dX12_tries_62 : decode cX12_tries 62 = .ok (.iconst 0, 1) := by decide +kernel
theorem dX12_tries_63 : decode cX12_tries 63 = .ok (.iaload, 1) := by decide +kernel
theorem dX12_tries_64 : decode cX12_tries 64 = .ok (.ireturn, 1) := by decide +kernel
theorem dX12_layPlace_0 : decode cX12_layPlace 0 = .ok (.iload_n 1, 1) := by decide +kernel
theorem dX12_layPlace_1 : decode cX12_layPlace 1 = .ok (.istore_n 2, 1) := by decide +kernel
theorem dX12_layPlace_2 : decode cX12_layPlace 2 = .ok (.aload_n 0, 1) := by decide +kernel
theorem dX12_layPlace_3 : decode cX12_layPlace 3 = .ok (.iconst 0, 1) := by decide +kernel
theorem dX12_layPlace_4 : decode cX12_layPlace 4 = .ok (.putfield 457, 3) := by decide +kernel
theorem dX12_layPlace_7 : decode cX12_layPlace 7 = .ok (.iload_n 2, 1) := by decide +kernel
theorem dX12_layPlace_8 : decode cX12_layPlace 8 = .ok (.bipush 32, 2) := by decide +kernel
theorem dX12_layPlace_10 : decode cX12_layPlace 10 = .ok (.if_icmp .ge 23, 3) := by decide +kernel
theorem dX12_layPlace_13 : decode cX12_layPlace 13 = .ok (.aload_n 0, 1) := by decide +kernel
theorem dX12_layPlace_14 : decode cX12_layPlace 14 = .ok (.iconst 0, 1) := by decide +kernel
theorem dX12_layPlace_15 : decode cX12_layPlace 15 = .ok (.putfield 460, 3) := by decide +kernel
theorem dX12_layPlace_18 : decode cX12_layPlace 18 = .ok (.aload_n 0, 1) := by decide +kernel
theorem dX12_layPlace_19 : decode cX12_layPlace 19 = .ok (.iload_n 2, 1) := by decide +kernel
theorem dX12_layPlace_20 : decode cX12_layPlace 20 = .ok (.iconst 4, 1) := by decide +kernel
theorem dX12_layPlace_21 : decode cX12_layPlace 21 = .ok (.idiv, 1) := by decide +kernel
theorem dX12_layPlace_22 : decode cX12_layPlace 22 = .ok (.putfield 463, 3) := by decide +kernel
theorem dX12_layPlace_25 : decode cX12_layPlace 25 = .ok (.aload_n 0, 1) := by decide +kernel
theorem dX12_layPlace_26 : decode cX12_layPlace 26 = .ok (.iload_n 2, 1) := by decide +kernel
theorem dX12_layPlace_27 : decode cX12_layPlace 27 = .ok (.iconst 4, 1) := by decide +kernel
theorem dX12_layPlace_28 : decode cX12_layPlace 28 = .ok (.irem, 1) := by decide +kernel
theorem dX12_layPlace_29 : decode cX12_layPlace 29 = .ok (.putfield 466, 3) := by decide +kernel
theorem dX12_layPlace_32 : decode cX12_layPlace 32 = .ok (.return_, 1) := by decide +kernel
theorem dX12_layPlace_33 : decode cX12_layPlace 33 = .ok (.iinc 2 (-32), 3) := by decide +kernel
theorem dX12_layPlace_36 : decode cX12_layPlace 36 = .ok (.iload_n 2, 1) := by decide +kernel
theorem dX12_layPlace_37 : decode cX12_layPlace 37 = .ok (.bipush 48, 2) := by decide +kernel
theorem dX12_layPlace_39 : decode cX12_layPlace 39 = .ok (.if_icmp .ge 72, 3) := by decide +kernel
theorem dX12_layPlace_42 : decode cX12_layPlace 42 = .ok (.aload_n 0, 1) := by decide +kernel
theorem dX12_layPlace_43 : decode cX12_layPlace 43 = .ok (.iconst 1, 1) := by decide +kernel
theorem dX12_layPlace_44 : decode cX12_layPlace 44 = .ok (.putfield 460, 3) := by decide +kernel
theorem dX12_layPlace_47 : decode cX12_layPlace 47 = .ok (.aload_n 0, 1) := by decide +kernel
theorem dX12_layPlace_48 : decode cX12_layPlace 48 = .ok (.iload_n 2, 1) := by decide +kernel
theorem dX12_layPlace_49 : decode cX12_layPlace 49 = .ok (.bipush 6, 2) := by decide +kernel
theorem dX12_layPlace_51 : decode cX12_layPlace 51 = .ok (.idiv, 1) := by decide +kernel
theorem dX12_layPlace_52 : decode cX12_layPlace 52 = .ok (.putfield 463, 3) := by decide +kernel
theorem dX12_layPlace_55 : decode cX12_layPlace 55 = .ok (.iload_n 2, 1) := by decide +kernel
theorem dX12_layPlace_56 : decode cX12_layPlace 56 = .ok (.bipush 6, 2) := by decide +kernel
theorem dX12_layPlace_58 : decode cX12_layPlace 58 = .ok (.irem, 1) := by decide +kernel
theorem dX12_layPlace_59 : decode cX12_layPlace 59 = .ok (.istore_n 3, 1) := by decide +kernel
theorem dX12_layPlace_60 : decode cX12_layPlace 60 = .ok (.aload_n 0, 1) := by decide +kernel
theorem dX12_layPlace_61 : decode cX12_layPlace 61 = .ok (.iload_n 3, 1) := by decide +kernel
theorem dX12_layPlace_62 : decode cX12_layPlace 62 = .ok (.iconst 3, 1) := by decide +kernel
theorem dX12_layPlace_63 : decode cX12_layPlace 63 = .ok (.if_icmp .ge 7, 3) := by decide +kernel
theorem dX12_layPlace_66 : decode cX12_layPlace 66 = .ok (.iconst 0, 1) := by decide +kernel
theorem dX12_layPlace_67 : decode cX12_layPlace 67 = .ok (.goto 13, 3) := by decide +kernel
theorem dX12_layPlace_70 : decode cX12_layPlace 70 = .ok (.iload_n 3, 1) := by decide +kernel
theorem dX12_layPlace_71 : decode cX12_layPlace 71 = .ok (.iconst 5, 1) := by decide +kernel
theorem dX12_layPlace_72 : decode cX12_layPlace 72 = .ok (.if_icmp .ge 7, 3) := by decide +kernel
theorem dX12_layPlace_75 : decode cX12_layPlace 75 = .ok (.iconst 1, 1) := by decide +kernel
theorem dX12_layPlace_76 : decode cX12_layPlace 76 = .ok (.goto 4, 3) := by decide +kernel
theorem dX12_layPlace_79 : decode cX12_layPlace 79 = .ok (.iconst 2, 1) := by decide +kernel
theorem dX12_layPlace_80 : decode cX12_layPlace 80 = .ok (.putfield 466, 3) := by decide +kernel
theorem dX12_layPlace_83 : decode cX12_layPlace 83 = .ok (.aload_n 0, 1) := by decide +kernel
theorem dX12_layPlace_84 : decode cX12_layPlace 84 = .ok (.iload_n 3, 1) := by decide +kernel
theorem dX12_layPlace_85 : decode cX12_layPlace 85 = .ok (.iconst 3, 1) := by decide +kernel
theorem dX12_layPlace_86 : decode cX12_layPlace 86 = .ok (.if_icmp .ge 9, 3) := by decide +kernel
theorem dX12_layPlace_89 : decode cX12_layPlace 89 = .ok (.iload_n 3, 1) := by decide +kernel
theorem dX12_layPlace_90 : decode cX12_layPlace 90 = .ok (.iconst 1, 1) := by decide +kernel
theorem dX12_layPlace_91 : decode cX12_layPlace 91 = .ok (.iadd, 1) := by decide +kernel
theorem dX12_layPlace_92 : decode cX12_layPlace 92 = .ok (.goto 15, 3) := by decide +kernel
theorem dX12_layPlace_95 : decode cX12_layPlace 95 = .ok (.iload_n 3, 1) := by decide +kernel
theorem dX12_layPlace_96 : decode cX12_layPlace 96 = .ok (.iconst 5, 1) := by decide +kernel
theorem dX12_layPlace_97 : decode cX12_layPlace 97 = .ok (.if_icmp .ge 9, 3) := by decide +kernel
theorem dX12_layPlace_100 : decode cX12_layPlace 100 = .ok (.iload_n 3, 1) := by decide +kernel
theorem dX12_layPlace_101 : decode cX12_layPlace 101 = .ok (.iconst 1, 1) := by decide +kernel
theorem dX12_layPlace_102 : decode cX12_layPlace 102 = .ok (.isub, 1) := by decide +kernel
theorem dX12_layPlace_103 : decode cX12_layPlace 103 = .ok (.goto 4, 3) := by decide +kernel
theorem dX12_layPlace_106 : decode cX12_layPlace 106 = .ok (.iconst 3, 1) := by decide +kernel
theorem dX12_layPlace_107 : decode cX12_layPlace 107 = .ok (.putfield 457, 3) := by decide +kernel
theorem dX12_layPlace_110 : decode cX12_layPlace 110 = .ok (.return_, 1) := by decide +kernel
theorem dX12_layPlace_111 : decode cX12_layPlace 111 = .ok (.iinc 2 (-48), 3) := by decide +kernel
theorem dX12_layPlace_114 : decode cX12_layPlace 114 = .ok (.aload_n 0, 1) := by decide +kernel
theorem dX12_layPlace_115 : decode cX12_layPlace 115 = .ok (.iload_n 2, 1) := by decide +kernel
theorem dX12_layPlace_116 : decode cX12_layPlace 116 = .ok (.bipush 8, 2) := by decide +kernel
theorem dX12_layPlace_118 : decode cX12_layPlace 118 = .ok (.if_icmp .ge 7, 3) := by decide +kernel
theorem dX12_layPlace_121 : decode cX12_layPlace 121 = .ok (.iconst 2, 1) := by decide +kernel
theorem dX12_layPlace_122 : decode cX12_layPlace 122 = .ok (.goto 4, 3) := by decide +kernel
theorem dX12_layPlace_125 : decode cX12_layPlace 125 = .ok (.iconst 3, 1) := by decide +kernel
theorem dX12_layPlace_126 : decode cX12_layPlace 126 = .ok (.putfield 460, 3) := by decide +kernel
theorem dX12_layPlace_129 : decode cX12_layPlace 129 = .ok (.aload_n 0, 1) := by decide +kernel
theorem dX12_layPlace_130 : decode cX12_layPlace 130 = .ok (.iload_n 2, 1) := by decide +kernel
theorem dX12_layPlace_131 : decode cX12_layPlace 131 = .ok (.bipush 8, 2) := by decide +kernel
theorem dX12_layPlace_133 : decode cX12_layPlace 133 = .ok (.if_icmp .ge 7, 3) := by decide +kernel
theorem dX12_layPlace_136 : decode cX12_layPlace 136 = .ok (.iload_n 2, 1) := by decide +kernel
theorem dX12_layPlace_137 : decode cX12_layPlace 137 = .ok (.goto 9, 3) := by decide +kernel
theorem dX12_layPlace_140 : decode cX12_layPlace 140 = .ok (.iload_n 2, 1) := by decide +kernel
theorem dX12_layPlace_141 : decode cX12_layPlace 141 = .ok (.bipush 8, 2) := by decide +kernel
theorem dX12_layPlace_143 : decode cX12_layPlace 143 = .ok (.isub, 1) := by decide +kernel
theorem dX12_layPlace_144 : decode cX12_layPlace 144 = .ok (.iconst 4, 1) := by decide +kernel
theorem dX12_layPlace_145 : decode cX12_layPlace 145 = .ok (.idiv, 1) := by decide +kernel
theorem dX12_layPlace_146 : decode cX12_layPlace 146 = .ok (.putfield 463, 3) := by decide +kernel
theorem dX12_layPlace_149 : decode cX12_layPlace 149 = .ok (.aload_n 0, 1) := by decide +kernel
theorem dX12_layPlace_150 : decode cX12_layPlace 150 = .ok (.iload_n 2, 1) := by decide +kernel
theorem dX12_layPlace_151 : decode cX12_layPlace 151 = .ok (.bipush 8, 2) := by decide +kernel
theorem dX12_layPlace_153 : decode cX12_layPlace 153 = .ok (.if_icmp .ge 7, 3) := by decide +kernel
theorem dX12_layPlace_156 : decode cX12_layPlace 156 = .ok (.iconst 0, 1) := by decide +kernel
theorem dX12_layPlace_157 : decode cX12_layPlace 157 = .ok (.goto 9, 3) := by decide +kernel
theorem dX12_layPlace_160 : decode cX12_layPlace 160 = .ok (.iload_n 2, 1) := by decide +kernel
theorem dX12_layPlace_161 : decode cX12_layPlace 161 = .ok (.bipush 8, 2) := by decide +kernel
theorem dX12_layPlace_163 : decode cX12_layPlace 163 = .ok (.isub, 1) := by decide +kernel
theorem dX12_layPlace_164 : decode cX12_layPlace 164 = .ok (.iconst 4, 1) := by decide +kernel
theorem dX12_layPlace_165 : decode cX12_layPlace 165 = .ok (.irem, 1) := by decide +kernel
theorem dX12_layPlace_166 : decode cX12_layPlace 166 = .ok (.putfield 466, 3) := by decide +kernel
theorem dX12_layPlace_169 : decode cX12_layPlace 169 = .ok (.return_, 1) := by decide +kernel
theorem dX12_goPlace_0 : decode cX12_goPlace 0 = .ok (.aload_n 0, 1) := by decide +kernel
theorem dX12_goPlace_1 : decode cX12_goPlace 1 = .ok (.iload_n 2, 1) := by decide +kernel
theorem dX12_goPlace_2 : decode cX12_goPlace 2 = .ok (.invokevirtual 469, 3) := by decide +kernel
theorem dX12_goPlace_5 : decode cX12_goPlace 5 = .ok (.aload_n 0, 1) := by decide +kernel
theorem dX12_goPlace_6 : decode cX12_goPlace 6 = .ok (.getfield 463, 3) := by decide +kernel
theorem dX12_goPlace_9 : decode cX12_goPlace 9 = .ok (.aload_n 1, 1) := by decide +kernel
theorem dX12_goPlace_10 : decode cX12_goPlace 10 = .ok (.iconst 0, 1) := by decide +kernel
theorem dX12_goPlace_11 : decode cX12_goPlace 11 = .ok (.iaload, 1) := by decide +kernel
theorem dX12_goPlace_12 : decode cX12_goPlace 12 = .ok (.if_icmp .lt 5, 3) := by decide +kernel
theorem dX12_goPlace_15 : decode cX12_goPlace 15 = .ok (.iconst 0, 1) := by decide +kernel
theorem dX12_goPlace_16 : decode cX12_goPlace 16 = .ok (.ireturn, 1) := by decide +kernel
theorem dX12_goPlace_17 : decode cX12_goPlace 17 = .ok (.aload_n 1, 1) := by decide +kernel
theorem dX12_goPlace_18 : decode cX12_goPlace 18 = .ok (.aload_n 0, 1) := by decide +kernel
theorem dX12_goPlace_19 : decode cX12_goPlace 19 = .ok (.getfield 90, 3) := by decide +kernel
theorem dX12_goPlace_22 : decode cX12_goPlace 22 = .ok (.invokestatic 168, 3) := by decide +kernel
theorem dX12_goPlace_25 : decode cX12_goPlace 25 = .ok (.aload_n 0, 1) := by decide +kernel
theorem dX12_goPlace_26 : decode cX12_goPlace 26 = .ok (.aload_n 0, 1) := by decide +kernel
theorem dX12_goPlace_27 : decode cX12_goPlace 27 = .ok (.getfield 90, 3) := by decide +kernel
theorem dX12_goPlace_30 : decode cX12_goPlace 30 = .ok (.aload_n 0, 1) := by decide +kernel
theorem dX12_goPlace_31 : decode cX12_goPlace 31 = .ok (.getfield 460, 3) := by decide +kernel
theorem dX12_goPlace_34 : decode cX12_goPlace 34 = .ok (.aload_n 0, 1) := by decide +kernel
theorem dX12_goPlace_35 : decode cX12_goPlace 35 = .ok (.getfield 463, 3) := by decide +kernel
theorem dX12_goPlace_38 : decode cX12_goPlace 38 = .ok (.aload_n 0, 1) := by decide +kernel
theorem dX12_goPlace_39 : decode cX12_goPlace 39 = .ok (.getfield 466, 3) := by decide +kernel
theorem dX12_goPlace_42 : decode cX12_goPlace 42 = .ok (.aload_n 0, 1) := by decide +kernel
theorem dX12_goPlace_43 : decode cX12_goPlace 43 = .ok (.getfield 457, 3) := by decide +kernel
theorem dX12_goPlace_46 : decode cX12_goPlace 46 = .ok (.invokevirtual 440, 3) := by decide +kernel
theorem dX12_goPlace_49 : decode cX12_goPlace 49 = .ok (.ifCond .ne 7, 3) := by decide +kernel
theorem dX12_goPlace_52 : decode cX12_goPlace 52 = .ok (.iconst 1, 1) := by decide +kernel
theorem dX12_goPlace_53 : decode cX12_goPlace 53 = .ok (.goto 4, 3) := by decide +kernel
theorem dX12_goPlace_56 : decode cX12_goPlace 56 = .ok (.iconst 0, 1) := by decide +kernel
theorem dX12_goPlace_57 : decode cX12_goPlace 57 = .ok (.ireturn, 1) := by decide +kernel
theorem dX12_isFound_0 : decode cX12_isFound 0 = .ok (.iconst 0, 1) := by decide +kernel
theorem dX12_isFound_1 : decode cX12_isFound 1 = .ok (.istore_n 2, 1) := by decide +kernel
theorem dX12_isFound_2 : decode cX12_isFound 2 = .ok (.iload_n 2, 1) := by decide +kernel
theorem dX12_isFound_3 : decode cX12_isFound 3 = .ok (.aload_n 0, 1) := by decide +kernel
theorem dX12_isFound_4 : decode cX12_isFound 4 = .ok (.getfield 472, 3) := by decide +kernel
theorem dX12_isFound_7 : decode cX12_isFound 7 = .ok (.if_icmp .ge 62, 3) := by decide +kernel
theorem dX12_isFound_10 : decode cX12_isFound 10 = .ok (.iconst 1, 1) := by decide +kernel
theorem dX12_isFound_11 : decode cX12_isFound 11 = .ok (.istore_n 3, 1) := by decide +kernel
theorem dX12_isFound_12 : decode cX12_isFound 12 = .ok (.iconst 0, 1) := by decide +kernel
theorem dX12_isFound_13 : decode cX12_isFound 13 = .ok (.istore 4, 2) := by decide +kernel
theorem dX12_isFound_15 : decode cX12_isFound 15 = .ok (.iload 4, 2) := by decide +kernel
theorem dX12_isFound_17 : decode cX12_isFound 17 = .ok (.bipush 33, 2) := by decide +kernel
theorem dX12_isFound_19 : decode cX12_isFound 19 = .ok (.if_icmp .ge 38, 3) := by decide +kernel
theorem dX12_isFound_22 : decode cX12_isFound 22 = .ok (.iload_n 3, 1) := by decide +kernel
theorem dX12_isFound_23 : decode cX12_isFound 23 = .ok (.ifCond .eq 34, 3) := by decide +kernel
theorem dX12_isFound_26 : decode cX12_isFound 26 = .ok (.aload_n 0, 1) := by decide +kernel
theorem dX12_isFound_27 : decode cX12_isFound 27 = .ok (.getfield 96, 3) := by decide +kernel
theorem dX12_isFound_30 : decode cX12_isFound 30 = .ok (.bipush 33, 2) := by decide +kernel
theorem dX12_isFound_32 : decode cX12_isFound 32 = .ok (.iload_n 2, 1) := by decide +kernel
theorem dX12_isFound_33 : decode cX12_isFound 33 = .ok (.imul, 1) := by decide +kernel
theorem dX12_isFound_34 : decode cX12_isFound 34 = .ok (.iload 4, 2) := by decide +kernel
theorem dX12_isFound_36 : decode cX12_isFound 36 = .ok (.iadd, 1) := by decide +kernel
theorem dX12_isFound_37 : decode cX12_isFound 37 = .ok (.iaload, 1) := by decide +kernel
theorem dX12_isFound_38 : decode cX12_isFound 38 = .ok (.aload_n 1, 1) := by decide +kernel
theorem dX12_isFound_39 : decode cX12_isFound 39 = .ok (.iload 4, 2) := by decide +kernel
theorem dX12_isFound_41 : decode cX12_isFound 41 = .ok (.iaload, 1) := by decide +kernel
theorem dX12_isFound_42 : decode cX12_isFound 42 = .ok (.if_icmp .ne 7, 3) := by decide +kernel
theorem dX12_isFound_45 : decode cX12_isFound 45 = .ok (.iconst 1, 1) := by decide +kernel
theorem dX12_isFound_46 : decode cX12_isFound 46 = .ok (.goto 4, 3) := by decide +kernel
theorem dX12_isFound_49 : decode cX12_isFound 49 = .ok (.iconst 0, 1) := by decide +kernel
theorem dX12_isFound_50 : decode cX12_isFound 50 = .ok (.istore_n 3, 1) := by decide +kernel
theorem dX12_isFound_51 : decode cX12_isFound 51 = .ok (.iinc 4 1, 3) := by decide +kernel
theorem dX12_isFound_54 : decode cX12_isFound 54 = .ok (.goto (-39), 3) := by decide +kernel
theorem dX12_isFound_57 : decode cX12_isFound 57 = .ok (.iload_n 3, 1) := by decide +kernel
theorem dX12_isFound_58 : decode cX12_isFound 58 = .ok (.ifCond .eq 5, 3) := by decide +kernel
theorem dX12_isFound_61 : decode cX12_isFound 61 = .ok (.iconst 1, 1) := by decide +kernel
theorem dX12_isFound_62 : decode cX12_isFound 62 = .ok (.ireturn, 1) := by decide +kernel
theorem dX12_isFound_63 : decode cX12_isFound 63 = .ok (.iinc 2 1, 3) := by decide +kernel
theorem dX12_isFound_66 : decode cX12_isFound 66 = .ok (.goto (-64), 3) := by decide +kernel
theorem dX12_isFound_69 : decode cX12_isFound 69 = .ok (.iconst 0, 1) := by decide +kernel
theorem dX12_isFound_70 : decode cX12_isFound 70 = .ok (.ireturn, 1) := by decide +kernel
theorem dX12_find_0 : decode cX12_find 0 = .ok (.iconst 0, 1) := by decide +kernel
theorem dX12_find_1 : decode cX12_find 1 = .ok (.istore_n 3, 1) := by decide +kernel
theorem dX12_find_2 : decode cX12_find 2 = .ok (.iload_n 3, 1) := by decide +kernel
theorem dX12_find_3 : decode cX12_find 3 = .ok (.bipush 33, 2) := by decide +kernel
theorem dX12_find_5 : decode cX12_find 5 = .ok (.if_icmp .ge 26, 3) := by decide +kernel
theorem dX12_find_8 : decode cX12_find 8 = .ok (.aload_n 0, 1) := by decide +kernel
theorem dX12_find_9 : decode cX12_find 9 = .ok (.getfield 96, 3) := by decide +kernel
theorem dX12_find_12 : decode cX12_find 12 = .ok (.bipush 33, 2) := by decide +kernel
theorem dX12_find_14 : decode cX12_find 14 = .ok (.aload_n 0, 1) := by decide +kernel
theorem dX12_find_15 : decode cX12_find 15 = .ok (.getfield 472, 3) := by decide +kernel
theorem dX12_find_18 : decode cX12_find 18 = .ok (.imul, 1) := by decide +kernel
theorem dX12_find_19 : decode cX12_find 19 = .ok (.iload_n 3, 1) := by decide +kernel
theorem dX12_find_20 : decode cX12_find 20 = .ok (.iadd, 1) := by decide +kernel
theorem dX12_find_21 : decode cX12_find 21 = .ok (.aload_n 1, 1) := by decide +kernel
theorem dX12_find_22 : decode cX12_find 22 = .ok (.iload_n 3, 1) := by decide +kernel
theorem dX12_find_23 : decode cX12_find 23 = .ok (.iaload, 1) := by decide +kernel
theorem dX12_find_24 : decode cX12_find 24 = .ok (.iastore, 1) := by decide +kernel
theorem dX12_find_25 : decode cX12_find 25 = .ok (.iinc 3 1, 3) := by decide +kernel
theorem dX12_find_28 : decode cX12_find 28 = .ok (.goto (-26), 3) := by decide +kernel
theorem dX12_find_31 : decode cX12_find 31 = .ok (.aload_n 0, 1) := by decide +kernel
theorem dX12_find_32 : decode cX12_find 32 = .ok (.getfield 99, 3) := by decide +kernel
theorem dX12_find_35 : decode cX12_find 35 = .ok (.aload_n 0, 1) := by decide +kernel
theorem dX12_find_36 : decode cX12_find 36 = .ok (.getfield 472, 3) := by decide +kernel
theorem dX12_find_39 : decode cX12_find 39 = .ok (.iload_n 2, 1) := by decide +kernel
theorem dX12_find_40 : decode cX12_find 40 = .ok (.iastore, 1) := by decide +kernel
theorem dX12_find_41 : decode cX12_find 41 = .ok (.aload_n 0, 1) := by decide +kernel
theorem dX12_find_42 : decode cX12_find 42 = .ok (.dup, 1) := by decide +kernel
theorem dX12_find_43 : decode cX12_find 43 = .ok (.getfield 472, 3) := by decide +kernel
theorem dX12_find_46 : decode cX12_find 46 = .ok (.iconst 1, 1) := by decide +kernel
theorem dX12_find_47 : decode cX12_find 47 = .ok (.iadd, 1) := by decide +kernel
theorem dX12_find_48 : decode cX12_find 48 = .ok (.putfield 472, 3) := by decide +kernel
theorem dX12_find_51 : decode cX12_find 51 = .ok (.return_, 1) := by decide +kernel
theorem dX12_comes_0 : decode cX12_comes 0 = .ok (.aload_n 0, 1) := by decide +kernel
theorem dX12_comes_1 : decode cX12_comes 1 = .ok (.iconst 0, 1) := by decide +kernel
theorem dX12_comes_2 : decode cX12_comes 2 = .ok (.putfield 128, 3) := by decide +kernel
theorem dX12_comes_5 : decode cX12_comes 5 = .ok (.aload_n 0, 1) := by decide +kernel
theorem dX12_comes_6 : decode cX12_comes 6 = .ok (.iconst 0, 1) := by decide +kernel
theorem dX12_comes_7 : decode cX12_comes 7 = .ok (.putfield 472, 3) := by decide +kernel
theorem dX12_comes_10 : decode cX12_comes 10 = .ok (.iconst 0, 1) := by decide +kernel
theorem dX12_comes_11 : decode cX12_comes 11 = .ok (.istore_n 1, 1) := by decide +kernel
theorem dX12_comes_12 : decode cX12_comes 12 = .ok (.iload_n 1, 1) := by decide +kernel
theorem dX12_comes_13 : decode cX12_comes 13 = .ok (.iconst 4, 1) := by decide +kernel
theorem dX12_comes_14 : decode cX12_comes 14 = .ok (.if_icmp .ge 16, 3) := by decide +kernel
theorem dX12_comes_17 : decode cX12_comes 17 = .ok (.aload_n 0, 1) := by decide +kernel
theorem dX12_comes_18 : decode cX12_comes 18 = .ok (.getfield 102, 3) := by decide +kernel
theorem dX12_comes_21 : decode cX12_comes 21 = .ok (.iload_n 1, 1) := by decide +kernel
theorem dX12_comes_22 : decode cX12_comes 22 = .ok (.iconst 0, 1) := by decide +kernel
theorem dX12_comes_23 : decode cX12_comes 23 = .ok (.iastore, 1) := by decide +kernel
theorem dX12_comes_24 : decode cX12_comes 24 = .ok (.iinc 1 1, 3) := by decide +kernel
theorem dX12_comes_27 : decode cX12_comes 27 = .ok (.goto (-15), 3) := by decide +kernel
theorem dX12_comes_30 : decode cX12_comes 30 = .ok (.iconst 0, 1) := by decide +kernel
theorem dX12_comes_31 : decode cX12_comes 31 = .ok (.istore_n 1, 1) := by decide +kernel
theorem dX12_comes_32 : decode cX12_comes 32 = .ok (.iload_n 1, 1) := by decide +kernel
theorem dX12_comes_33 : decode cX12_comes 33 = .ok (.bipush 120, 2) := by decide +kernel
theorem dX12_comes_35 : decode cX12_comes 35 = .ok (.if_icmp .ge 57, 3) := by decide +kernel
theorem dX12_comes_38 : decode cX12_comes 38 = .ok (.aload_n 0, 1) := by decide +kernel
theorem dX12_comes_39 : decode cX12_comes 39 = .ok (.aload_n 0, 1) := by decide +kernel
theorem dX12_comes_40 : decode cX12_comes 40 = .ok (.getfield 9, 3) := by decide +kernel
theorem dX12_comes_43 : decode cX12_comes 43 = .ok (.iload_n 1, 1) := by decide +kernel
theorem dX12_comes_44 : decode cX12_comes 44 = .ok (.invokevirtual 475, 3) := by decide +kernel
theorem dX12_comes_47 : decode cX12_comes 47 = .ok (.ifCond .ne 6, 3) := by decide +kernel
theorem dX12_comes_50 : decode cX12_comes 50 = .ok (.goto 36, 3) := by decide +kernel
theorem dX12_comes_53 : decode cX12_comes 53 = .ok (.aload_n 0, 1) := by decide +kernel
theorem dX12_comes_54 : decode cX12_comes 54 = .ok (.getfield 102, 3) := by decide +kernel
theorem dX12_comes_57 : decode cX12_comes 57 = .ok (.aload_n 0, 1) := by decide +kernel
theorem dX12_comes_58 : decode cX12_comes 58 = .ok (.getfield 460, 3) := by decide +kernel
theorem dX12_comes_61 : decode cX12_comes 61 = .ok (.dup2, 1) := by decide +kernel
theorem dX12_comes_62 : decode cX12_comes 62 = .ok (.iaload, 1) := by decide +kernel
theorem dX12_comes_63 : decode cX12_comes 63 = .ok (.iconst 1, 1) := by decide +kernel
theorem dX12_comes_64 : decode cX12_comes 64 = .ok (.iadd, 1) := by decide +kernel
theorem dX12_comes_65 : decode cX12_comes 65 = .ok (.iastore, 1) := by decide +kernel
theorem dX12_comes_66 : decode cX12_comes 66 = .ok (.aload_n 0, 1) := by decide +kernel
theorem dX12_comes_67 : decode cX12_comes 67 = .ok (.aload_n 0, 1) := by decide +kernel
theorem dX12_comes_68 : decode cX12_comes 68 = .ok (.getfield 90, 3) := by decide +kernel
theorem dX12_comes_71 : decode cX12_comes 71 = .ok (.invokevirtual 478, 3) := by decide +kernel
theorem dX12_comes_74 : decode cX12_comes 74 = .ok (.ifCond .ne 12, 3) := by decide +kernel
theorem dX12_comes_77 : decode cX12_comes 77 = .ok (.aload_n 0, 1) := by decide +kernel
theorem dX12_comes_78 : decode cX12_comes 78 = .ok (.aload_n 0, 1) := by decide +kernel
theorem dX12_comes_79 : decode cX12_comes 79 = .ok (.getfield 90, 3) := by decide +kernel
theorem dX12_comes_82 : decode cX12_comes 82 = .ok (.iconst 1, 1) := by decide +kernel
theorem dX12_comes_83 : decode cX12_comes 83 = .ok (.invokevirtual 481, 3) := by decide +kernel
theorem dX12_comes_86 : decode cX12_comes 86 = .ok (.iinc 1 1, 3) := by decide +kernel
theorem dX12_comes_89 : decode cX12_comes 89 = .ok (.goto (-57), 3) := by decide +kernel
theorem dX12_comes_92 : decode cX12_comes 92 = .ok (.aload_n 0, 1) := by decide +kernel
theorem dX12_comes_93 : decode cX12_comes 93 = .ok (.iconst 0, 1) := by decide +kernel
theorem dX12_comes_94 : decode cX12_comes 94 = .ok (.putfield 132, 3) := by decide +kernel
theorem dX12_comes_97 : decode cX12_comes 97 = .ok (.iconst 0, 1) := by decide +kernel
theorem dX12_comes_98 : decode cX12_comes 98 = .ok (.istore_n 1, 1) := by decide +kernel
theorem dX12_comes_99 : decode cX12_comes 99 = .ok (.iload_n 1, 1) := by decide +kernel
theorem dX12_comes_100 : decode cX12_comes 100 = .ok (.iconst 4, 1) := by decide +kernel
theorem dX12_comes_101 : decode cX12_comes 101 = .ok (.if_icmp .ge 20, 3) := by decide +kernel
theorem dX12_comes_104 : decode cX12_comes 104 = .ok (.aload_n 0, 1) := by decide +kernel
theorem dX12_comes_105 : decode cX12_comes 105 = .ok (.aload_n 0, 1) := by decide +kernel
theorem dX12_comes_106 : decode cX12_comes 106 = .ok (.getfield 102, 3) := by decide +kernel
theorem dX12_comes_109 : decode cX12_comes 109 = .ok (.iload_n 1, 1) := by decide +kernel
theorem dX12_comes_110 : decode cX12_comes 110 = .ok (.iaload, 1) := by decide +kernel
theorem dX12_comes_111 : decode cX12_comes 111 = .ok (.i2l, 1) := by decide +kernel
theorem dX12_comes_112 : decode cX12_comes 112 = .ok (.invokevirtual 231, 3) := by decide +kernel
theorem dX12_comes_115 : decode cX12_comes 115 = .ok (.iinc 1 1, 3) := by decide +kernel
theorem dX12_comes_118 : decode cX12_comes 118 = .ok (.goto (-19), 3) := by decide +kernel
theorem dX12_comes_121 : decode cX12_comes 121 = .ok (.aload_n 0, 1) := by decide +kernel
theorem dX12_comes_122 : decode cX12_comes 122 = .ok (.getfield 472, 3) := by decide +kernel
theorem dX12_comes_125 : decode cX12_comes 125 = .ok (.ireturn, 1) := by decide +kernel
theorem dX12_isAsKept_0 : decode cX12_isAsKept 0 = .ok (.iconst 0, 1) := by decide +kernel
theorem dX12_isAsKept_1 : decode cX12_isAsKept 1 = .ok (.istore_n 3, 1) := by decide +kernel
theorem dX12_isAsKept_2 : decode cX12_isAsKept 2 = .ok (.iload_n 3, 1) := by decide +kernel
theorem dX12_isAsKept_3 : decode cX12_isAsKept 3 = .ok (.bipush 33, 2) := by decide +kernel
theorem dX12_isAsKept_5 : decode cX12_isAsKept 5 = .ok (.if_icmp .ge 28, 3) := by decide +kernel
theorem dX12_isAsKept_8 : decode cX12_isAsKept 8 = .ok (.aload_n 1, 1) := by decide +kernel
theorem dX12_isAsKept_9 : decode cX12_isAsKept 9 = .ok (.iload_n 3, 1) := by decide +kernel
theorem dX12_isAsKept_10 : decode cX12_isAsKept 10 = .ok (.iaload, 1) := by decide +kernel
theorem dX12_isAsKept_11 : decode cX12_isAsKept 11 = .ok (.aload_n 0, 1) := by decide +kernel
theorem dX12_isAsKept_12 : decode cX12_isAsKept 12 = .ok (.getfield 105, 3) := by decide +kernel
theorem dX12_isAsKept_15 : decode cX12_isAsKept 15 = .ok (.bipush 33, 2) := by decide +kernel
theorem dX12_isAsKept_17 : decode cX12_isAsKept 17 = .ok (.iload_n 2, 1) := by decide +kernel
theorem dX12_isAsKept_18 : decode cX12_isAsKept 18 = .ok (.imul, 1) := by decide +kernel
theorem dX12_isAsKept_19 : decode cX12_isAsKept 19 = .ok (.iload_n 3, 1) := by decide +kernel
theorem dX12_isAsKept_20 : decode cX12_isAsKept 20 = .ok (.iadd, 1) := by decide +kernel
theorem dX12_isAsKept_21 : decode cX12_isAsKept 21 = .ok (.iaload, 1) := by decide +kernel
theorem dX12_isAsKept_22 : decode cX12_isAsKept 22 = .ok (.if_icmp .eq 5, 3) := by decide +kernel
theorem dX12_isAsKept_25 : decode cX12_isAsKept 25 = .ok (.iconst 0, 1) := by decide +kernel
theorem dX12_isAsKept_26 : decode cX12_isAsKept 26 = .ok (.ireturn, 1) := by decide +kernel
theorem dX12_isAsKept_27 : decode cX12_isAsKept 27 = .ok (.iinc 3 1, 3) := by decide +kernel
theorem dX12_isAsKept_30 : decode cX12_isAsKept 30 = .ok (.goto (-28), 3) := by decide +kernel
theorem dX12_isAsKept_33 : decode cX12_isAsKept 33 = .ok (.iconst 1, 1) := by decide +kernel
theorem dX12_isAsKept_34 : decode cX12_isAsKept 34 = .ok (.ireturn, 1) := by decide +kernel
theorem dX12_leads_0 : decode cX12_leads 0 = .ok (.aload_n 0, 1) := by decide +kernel
theorem dX12_leads_1 : decode cX12_leads 1 = .ok (.iconst 0, 1) := by decide +kernel
theorem dX12_leads_2 : decode cX12_leads 2 = .ok (.putfield 128, 3) := by decide +kernel
theorem dX12_leads_5 : decode cX12_leads 5 = .ok (.iload_n 1, 1) := by decide +kernel
theorem dX12_leads_6 : decode cX12_leads 6 = .ok (.iconst 0, 1) := by decide +kernel
theorem dX12_leads_7 : decode cX12_leads 7 = .ok (.iconst 1, 1) := by decide +kernel
theorem dX12_leads_8 : decode cX12_leads 8 = .ok (.invokestatic 179, 3) := by decide +kernel
theorem dX12_leads_11 : decode cX12_leads 11 = .ok (.ifCond .ne 5, 3) := by decide +kernel
theorem dX12_leads_14 : decode cX12_leads 14 = .ok (.iconst (-1), 1) := by decide +kernel
theorem dX12_leads_15 : decode cX12_leads 15 = .ok (.ireturn, 1) := by decide +kernel
theorem dX12_leads_16 : decode cX12_leads 16 = .ok (.iconst 0, 1) := by decide +kernel
theorem dX12_leads_17 : decode cX12_leads 17 = .ok (.istore_n 2, 1) := by decide +kernel
theorem dX12_leads_18 : decode cX12_leads 18 = .ok (.iload_n 2, 1) := by decide +kernel
theorem dX12_leads_19 : decode cX12_leads 19 = .ok (.bipush 120, 2) := by decide +kernel
theorem dX12_leads_21 : decode cX12_leads 21 = .ok (.if_icmp .ge 98, 3) := by decide +kernel
theorem dX12_leads_24 : decode cX12_leads 24 = .ok (.aload_n 0, 1) := by decide +kernel
theorem dX12_leads_25 : decode cX12_leads 25 = .ok (.getfield 108, 3) := by decide +kernel
theorem dX12_leads_28 : decode cX12_leads 28 = .ok (.iload_n 1, 1) := by decide +kernel
theorem dX12_leads_29 : decode cX12_leads 29 = .ok (.baload, 1) := by decide +kernel
theorem dX12_leads_30 : decode cX12_leads 30 = .ok (.ifCond .eq 89, 3) := by decide +kernel
theorem dX12_leads_33 : decode cX12_leads 33 = .ok (.aload_n 0, 1) := by decide +kernel
theorem dX12_leads_34 : decode cX12_leads 34 = .ok (.aload_n 0, 1) := by decide +kernel
theorem dX12_leads_35 : decode cX12_leads 35 = .ok (.getfield 9, 3) := by decide +kernel
theorem dX12_leads_38 : decode cX12_leads 38 = .ok (.iload_n 2, 1) := by decide +kernel
theorem dX12_leads_39 : decode cX12_leads 39 = .ok (.invokevirtual 475, 3) := by decide +kernel
theorem dX12_leads_42 : decode cX12_leads 42 = .ok (.ifCond .eq 71, 3) := by decide +kernel
theorem dX12_leads_45 : decode cX12_leads 45 = .ok (.aload_n 0, 1) := by decide +kernel
theorem dX12_leads_46 : decode cX12_leads 46 = .ok (.aload_n 0, 1) := by decide +kernel
theorem dX12_leads_47 : decode cX12_leads 47 = .ok (.getfield 90, 3) := by decide +kernel
theorem dX12_leads_50 : decode cX12_leads 50 = .ok (.iload_n 1, 1) := by decide +kernel
theorem dX12_leads_51 : decode cX12_leads 51 = .ok (.invokevirtual 485, 3) := by decide +kernel
theorem dX12_leads_54 : decode cX12_leads 54 = .ok (.ifCond .ne 6, 3) := by decide +kernel
theorem dX12_leads_57 : decode cX12_leads 57 = .ok (.goto 56, 3) := by decide +kernel
theorem dX12_leads_60 : decode cX12_leads 60 = .ok (.aload_n 0, 1) := by decide +kernel
theorem dX12_leads_61 : decode cX12_leads 61 = .ok (.iconst 0, 1) := by decide +kernel
theorem dX12_leads_62 : decode cX12_leads 62 = .ok (.putfield 132, 3) := by decide +kernel
theorem dX12_leads_65 : decode cX12_leads 65 = .ok (.aload_n 0, 1) := by decide +kernel
theorem dX12_leads_66 : decode cX12_leads 66 = .ok (.aload_n 0, 1) := by decide +kernel
theorem dX12_leads_67 : decode cX12_leads 67 = .ok (.getfield 463, 3) := by decide +kernel
theorem dX12_leads_70 : decode cX12_leads 70 = .ok (.i2l, 1) := by decide +kernel
theorem dX12_leads_71 : decode cX12_leads 71 = .ok (.invokevirtual 231, 3) := by decide +kernel
theorem dX12_leads_74 : decode cX12_leads 74 = .ok (.aload_n 0, 1) := by decide +kernel
theorem dX12_leads_75 : decode cX12_leads 75 = .ok (.getfield 460, 3) := by decide +kernel
theorem dX12_leads_78 : decode cX12_leads 78 = .ok (.iconst 2, 1) := by decide +kernel
theorem dX12_leads_79 : decode cX12_leads 79 = .ok (.if_icmp .eq 12, 3) := by decide +kernel
theorem dX12_leads_82 : decode cX12_leads 82 = .ok (.aload_n 0, 1) := by decide +kernel
theorem dX12_leads_83 : decode cX12_leads 83 = .ok (.aload_n 0, 1) := by decide +kernel
theorem dX12_leads_84 : decode cX12_leads 84 = .ok (.getfield 466, 3) := by decide +kernel
theorem dX12_leads_87 : decode cX12_leads 87 = .ok (.i2l, 1) := by decide +kernel
theorem dX12_leads_88 : decode cX12_leads 88 = .ok (.invokevirtual 231, 3) := by decide +kernel
theorem dX12_leads_91 : decode cX12_leads 91 = .ok (.aload_n 0, 1) := by decide +kernel
theorem dX12_leads_92 : decode cX12_leads 92 = .ok (.getfield 460, 3) := by decide +kernel
theorem dX12_leads_95 : decode cX12_leads 95 = .ok (.iconst 1, 1) := by decide +kernel
theorem dX12_leads_96 : decode cX12_leads 96 = .ok (.if_icmp .ne 12, 3) := by decide +kernel
theorem dX12_leads_99 : decode cX12_leads 99 = .ok (.aload_n 0, 1) := by decide +kernel
theorem dX12_leads_100 : decode cX12_leads 100 = .ok (.aload_n 0, 1) := by decide +kernel
theorem dX12_leads_101 : decode cX12_leads 101 = .ok (.getfield 457, 3) := by decide +kernel
theorem dX12_leads_104 : decode cX12_leads 104 = .ok (.i2l, 1) := by decide +kernel
theorem dX12_leads_105 : decode cX12_leads 105 = .ok (.invokevirtual 231, 3) := by decide +kernel
theorem dX12_leads_108 : decode cX12_leads 108 = .ok (.aload_n 0, 1) := by decide +kernel
theorem dX12_leads_109 : decode cX12_leads 109 = .ok (.getfield 460, 3) := by decide +kernel
theorem dX12_leads_112 : decode cX12_leads 112 = .ok (.ireturn, 1) := by decide +kernel
theorem dX12_leads_113 : decode cX12_leads 113 = .ok (.iinc 2 1, 3) := by decide +kernel
theorem dX12_leads_116 : decode cX12_leads 116 = .ok (.goto (-98), 3) := by decide +kernel
theorem dX12_leads_119 : decode cX12_leads 119 = .ok (.bipush (-2), 2) := by decide +kernel
theorem dX12_leads_121 : decode cX12_leads 121 = .ok (.ireturn, 1) := by decide +kernel
theorem dX12_goFirst_0 : decode cX12_goFirst 0 = .ok (.iconst 0, 1) := by decide +kernel
theorem dX12_goFirst_1 : decode cX12_goFirst 1 = .ok (.istore_n 2, 1) := by decide +kernel
theorem dX12_goFirst_2 : decode cX12_goFirst 2 = .ok (.iload_n 2, 1) := by decide +kernel
theorem dX12_goFirst_3 : decode cX12_goFirst 3 = .ok (.bipush 120, 2) := by decide +kernel
theorem dX12_goFirst_5 : decode cX12_goFirst 5 = .ok (.if_icmp .ge 50, 3) := by decide +kernel
theorem dX12_goFirst_8 : decode cX12_goFirst 8 = .ok (.aload_n 0, 1) := by decide +kernel
theorem dX12_goFirst_9 : decode cX12_goFirst 9 = .ok (.iload_n 2, 1) := by decide +kernel
theorem dX12_goFirst_10 : decode cX12_goFirst 10 = .ok (.invokevirtual 469, 3) := by decide +kernel
theorem dX12_goFirst_13 : decode cX12_goFirst 13 = .ok (.aload_n 0, 1) := by decide +kernel
theorem dX12_goFirst_14 : decode cX12_goFirst 14 = .ok (.getfield 460, 3) := by decide +kernel
theorem dX12_goFirst_17 : decode cX12_goFirst 17 = .ok (.iload_n 1, 1) := by decide +kernel
theorem dX12_goFirst_18 : decode cX12_goFirst 18 = .ok (.if_icmp .ne 31, 3) := by decide +kernel
theorem dX12_goFirst_21 : decode cX12_goFirst 21 = .ok (.aload_n 0, 1) := by decide +kernel
theorem dX12_goFirst_22 : decode cX12_goFirst 22 = .ok (.aload_n 0, 1) := by decide +kernel
theorem dX12_goFirst_23 : decode cX12_goFirst 23 = .ok (.getfield 112, 3) := by decide +kernel
theorem dX12_goFirst_26 : decode cX12_goFirst 26 = .ok (.iload_n 2, 1) := by decide +kernel
theorem dX12_goFirst_27 : decode cX12_goFirst 27 = .ok (.invokevirtual 475, 3) := by decide +kernel
theorem dX12_goFirst_30 : decode cX12_goFirst 30 = .ok (.ifCond .ne 6, 3) := by decide +kernel
theorem dX12_goFirst_33 : decode cX12_goFirst 33 = .ok (.goto 16, 3) := by decide +kernel
theorem dX12_goFirst_36 : decode cX12_goFirst 36 = .ok (.aload_n 0, 1) := by decide +kernel
theorem dX12_goFirst_37 : decode cX12_goFirst 37 = .ok (.getfield 90, 3) := by decide +kernel
theorem dX12_goFirst_40 : decode cX12_goFirst 40 = .ok (.aload_n 0, 1) := by decide +kernel
theorem dX12_goFirst_41 : decode cX12_goFirst 41 = .ok (.getfield 112, 3) := by decide +kernel
theorem dX12_goFirst_44 : decode cX12_goFirst 44 = .ok (.invokestatic 168, 3) := by decide +kernel
theorem dX12_goFirst_47 : decode cX12_goFirst 47 = .ok (.iconst 1, 1) := by decide +kernel
theorem dX12_goFirst_48 : decode cX12_goFirst 48 = .ok (.ireturn, 1) := by decide +kernel
theorem dX12_goFirst_49 : decode cX12_goFirst 49 = .ok (.iinc 2 1, 3) := by decide +kernel
theorem dX12_goFirst_52 : decode cX12_goFirst 52 = .ok (.goto (-50), 3) := by decide +kernel
theorem dX12_goFirst_55 : decode cX12_goFirst 55 = .ok (.iconst 0, 1) := by decide +kernel
theorem dX12_goFirst_56 : decode cX12_goFirst 56 = .ok (.ireturn, 1) := by decide +kernel
theorem dX12_simpler_0 : decode cX12_simpler 0 = .ok (.aload_n 0, 1) := by decide +kernel
theorem dX12_simpler_1 : decode cX12_simpler 1 = .ok (.iconst 0, 1) := by decide +kernel
theorem dX12_simpler_2 : decode cX12_simpler 2 = .ok (.putfield 128, 3) := by decide +kernel
theorem dX12_simpler_5 : decode cX12_simpler 5 = .ok (.aload_n 0, 1) := by decide +kernel
theorem dX12_simpler_6 : decode cX12_simpler 6 = .ok (.getfield 9, 3) := by decide +kernel
theorem dX12_simpler_9 : decode cX12_simpler 9 = .ok (.aload_n 0, 1) := by decide +kernel
theorem dX12_simpler_10 : decode cX12_simpler 10 = .ok (.getfield 112, 3) := by decide +kernel
theorem dX12_simpler_13 : decode cX12_simpler 13 = .ok (.invokestatic 168, 3) := by decide +kernel
theorem dX12_simpler_16 : decode cX12_simpler 16 = .ok (.iconst 0, 1) := by decide +kernel
theorem dX12_simpler_17 : decode cX12_simpler 17 = .ok (.istore_n 1, 1) := by decide +kernel
theorem dX12_simpler_18 : decode cX12_simpler 18 = .ok (.aload_n 0, 1) := by decide +kernel
theorem dX12_simpler_19 : decode cX12_simpler 19 = .ok (.iconst 3, 1) := by decide +kernel
theorem dX12_simpler_20 : decode cX12_simpler 20 = .ok (.invokevirtual 488, 3) := by decide +kernel
theorem dX12_simpler_23 : decode cX12_simpler 23 = .ok (.ifCond .ne 11, 3) := by decide +kernel
theorem dX12_simpler_26 : decode cX12_simpler 26 = .ok (.aload_n 0, 1) := by decide +kernel
theorem dX12_simpler_27 : decode cX12_simpler 27 = .ok (.iconst 1, 1) := by decide +kernel
theorem dX12_simpler_28 : decode cX12_simpler 28 = .ok (.invokevirtual 488, 3) := by decide +kernel
theorem dX12_simpler_31 : decode cX12_simpler 31 = .ok (.ifCond .eq 9, 3) := by decide +kernel
theorem dX12_simpler_34 : decode cX12_simpler 34 = .ok (.iinc 1 1, 3) := by decide +kernel
theorem dX12_simpler_37 : decode cX12_simpler 37 = .ok (.goto (-19), 3) := by decide +kernel
theorem dX12_simpler_40 : decode cX12_simpler 40 = .ok (.iload_n 1, 1) := by decide +kernel
theorem dX12_simpler_41 : decode cX12_simpler 41 = .ok (.ifCond .le 11, 3) := by decide +kernel
theorem dX12_simpler_44 : decode cX12_simpler 44 = .ok (.aload_n 0, 1) := by decide +kernel
theorem dX12_simpler_45 : decode cX12_simpler 45 = .ok (.aload_n 0, 1) := by decide +kernel
theorem dX12_simpler_46 : decode cX12_simpler 46 = .ok (.getfield 112, 3) := by decide +kernel
theorem dX12_simpler_49 : decode cX12_simpler 49 = .ok (.invokevirtual 224, 3) := by decide +kernel
theorem dX12_simpler_52 : decode cX12_simpler 52 = .ok (.aload_n 0, 1) := by decide +kernel
theorem dX12_simpler_53 : decode cX12_simpler 53 = .ok (.iconst 0, 1) := by decide +kernel
theorem dX12_simpler_54 : decode cX12_simpler 54 = .ok (.putfield 132, 3) := by decide +kernel
theorem dX12_simpler_57 : decode cX12_simpler 57 = .ok (.aload_n 0, 1) := by decide +kernel
theorem dX12_simpler_58 : decode cX12_simpler 58 = .ok (.iload_n 1, 1) := by decide +kernel
theorem dX12_simpler_59 : decode cX12_simpler 59 = .ok (.i2l, 1) := by decide +kernel
theorem dX12_simpler_60 : decode cX12_simpler 60 = .ok (.invokevirtual 231, 3) := by decide +kernel
theorem dX12_simpler_63 : decode cX12_simpler 63 = .ok (.aload_n 0, 1) := by decide +kernel
theorem dX12_simpler_64 : decode cX12_simpler 64 = .ok (.getfield 9, 3) := by decide +kernel
theorem dX12_simpler_67 : decode cX12_simpler 67 = .ok (.iconst 0, 1) := by decide +kernel
theorem dX12_simpler_68 : decode cX12_simpler 68 = .ok (.iaload, 1) := by decide +kernel
theorem dX12_simpler_69 : decode cX12_simpler 69 = .ok (.ireturn, 1) := by decide +kernel
theorem dX12_way_0 : decode cX12_way 0 = .ok (.aload_n 0, 1) := by decide +kernel
theorem dX12_way_1 : decode cX12_way 1 = .ok (.iconst 0, 1) := by decide +kernel
theorem dX12_way_2 : decode cX12_way 2 = .ok (.putfield 128, 3) := by decide +kernel
theorem dX12_way_5 : decode cX12_way 5 = .ok (.iload_n 1, 1) := by decide +kernel
theorem dX12_way_6 : decode cX12_way 6 = .ok (.iconst 0, 1) := by decide +kernel
theorem dX12_way_7 : decode cX12_way 7 = .ok (.iconst 1, 1) := by decide +kernel
theorem dX12_way_8 : decode cX12_way 8 = .ok (.invokestatic 179, 3) := by decide +kernel
theorem dX12_way_11 : decode cX12_way 11 = .ok (.ifCond .eq 23, 3) := by decide +kernel
theorem dX12_way_14 : decode cX12_way 14 = .ok (.iload_n 2, 1) := by decide +kernel
theorem dX12_way_15 : decode cX12_way 15 = .ok (.iconst 1, 1) := by decide +kernel
theorem dX12_way_16 : decode cX12_way 16 = .ok (.bipush 30, 2) := by decide +kernel
theorem dX12_way_18 : decode cX12_way 18 = .ok (.invokestatic 179, 3) := by decide +kernel
theorem dX12_way_21 : decode cX12_way 21 = .ok (.ifCond .eq 13, 3) := by decide +kernel
theorem dX12_way_24 : decode cX12_way 24 = .ok (.iload_n 3, 1) := by decide +kernel
theorem dX12_way_25 : decode cX12_way 25 = .ok (.iconst 1, 1) := by decide +kernel
theorem dX12_way_26 : decode cX12_way 26 = .ok (.bipush 8, 2) := by decide +kernel
theorem dX12_way_28 : decode cX12_way 28 = .ok (.invokestatic 179, 3) := by decide +kernel
theorem dX12_way_31 : decode cX12_way 31 = .ok (.ifCond .ne 5, 3) := by decide +kernel
theorem dX12_way_34 : decode cX12_way 34 = .ok (.iconst (-1), 1) := by decide +kernel
theorem dX12_way_35 : decode cX12_way 35 = .ok (.ireturn, 1) := by decide +kernel
theorem dX12_way_36 : decode cX12_way 36 = .ok (.aload_n 0, 1) := by decide +kernel
theorem dX12_way_37 : decode cX12_way 37 = .ok (.getfield 108, 3) := by decide +kernel
theorem dX12_way_40 : decode cX12_way 40 = .ok (.iload_n 1, 1) := by decide +kernel
theorem dX12_way_41 : decode cX12_way 41 = .ok (.baload, 1) := by decide +kernel
theorem dX12_way_42 : decode cX12_way 42 = .ok (.ifCond .ne 6, 3) := by decide +kernel
theorem dX12_way_45 : decode cX12_way 45 = .ok (.bipush (-3), 2) := by decide +kernel
theorem dX12_way_47 : decode cX12_way 47 = .ok (.ireturn, 1) := by decide +kernel
theorem dX12_way_48 : decode cX12_way 48 = .ok (.aload_n 0, 1) := by decide +kernel
theorem dX12_way_49 : decode cX12_way 49 = .ok (.iconst 0, 1) := by decide +kernel
theorem dX12_way_50 : decode cX12_way 50 = .ok (.putfield 472, 3) := by decide +kernel
theorem dX12_way_53 : decode cX12_way 53 = .ok (.aload_n 0, 1) := by decide +kernel
theorem dX12_way_54 : decode cX12_way 54 = .ok (.aload_n 0, 1) := by decide +kernel
theorem dX12_way_55 : decode cX12_way 55 = .ok (.getfield 9, 3) := by decide +kernel
theorem dX12_way_58 : decode cX12_way 58 = .ok (.iconst 0, 1) := by decide +kernel
theorem dX12_way_59 : decode cX12_way 59 = .ok (.invokevirtual 481, 3) := by decide +kernel
theorem dX12_way_62 : decode cX12_way 62 = .ok (.iconst 0, 1) := by decide +kernel
theorem dX12_way_63 : decode cX12_way 63 = .ok (.istore 4, 2) := by decide +kernel
theorem dX12_way_65 : decode cX12_way 65 = .ok (.iload 4, 2) := by decide +kernel
theorem dX12_way_67 : decode cX12_way 67 = .ok (.aload_n 0, 1) := by decide +kernel
theorem dX12_way_68 : decode cX12_way 68 = .ok (.getfield 472, 3) := by decide +kernel
theorem dX12_way_71 : decode cX12_way 71 = .ok (.if_icmp .ge 120, 3) := by decide +kernel
theorem dX12_way_74 : decode cX12_way 74 = .ok (.iconst 0, 1) := by decide +kernel
theorem dX12_way_75 : decode cX12_way 75 = .ok (.istore 5, 2) := by decide +kernel
theorem dX12_way_77 : decode cX12_way 77 = .ok (.iload 5, 2) := by decide +kernel
theorem dX12_way_79 : decode cX12_way 79 = .ok (.bipush 33, 2) := by decide +kernel
theorem dX12_way_81 : decode cX12_way 81 = .ok (.if_icmp .ge 29, 3) := by decide +kernel
theorem dX12_way_84 : decode cX12_way 84 = .ok (.aload_n 0, 1) := by decide +kernel
theorem dX12_way_85 : decode cX12_way 85 = .ok (.getfield 115, 3) := by decide +kernel
theorem dX12_way_88 : decode cX12_way 88 = .ok (.iload 5, 2) := by decide +kernel
theorem dX12_way_90 : decode cX12_way 90 = .ok (.aload_n 0, 1) := by decide +kernel
theorem dX12_way_91 : decode cX12_way 91 = .ok (.getfield 96, 3) := by decide +kernel
theorem dX12_way_94 : decode cX12_way 94 = .ok (.bipush 33, 2) := by decide +kernel
theorem dX12_way_96 : decode cX12_way 96 = .ok (.iload 4, 2) := by decide +kernel
theorem dX12_way_98 : decode cX12_way 98 = .ok (.imul, 1) := by decide +kernel
theorem dX12_way_99 : decode cX12_way 99 = .ok (.iload 5, 2) := by decide +kernel
theorem dX12_way_101 : decode cX12_way 101 = .ok (.iadd, 1) := by decide +kernel
theorem dX12_way_102 : decode cX12_way 102 = .ok (.iaload, 1) := by decide +kernel
theorem dX12_way_103 : decode cX12_way 103 = .ok (.iastore, 1) := by decide +kernel
theorem dX12_way_104 : decode cX12_way 104 = .ok (.iinc 5 1, 3) := by decide +kernel
theorem dX12_way_107 : decode cX12_way 107 = .ok (.goto (-30), 3) := by decide +kernel
theorem dX12_way_110 : decode cX12_way 110 = .ok (.iconst 0, 1) := by decide +kernel
theorem dX12_way_111 : decode cX12_way 111 = .ok (.istore 5, 2) := by decide +kernel
theorem dX12_way_113 : decode cX12_way 113 = .ok (.iload 5, 2) := by decide +kernel
theorem dX12_way_115 : decode cX12_way 115 = .ok (.bipush 120, 2) := by decide +kernel
theorem dX12_way_117 : decode cX12_way 117 = .ok (.if_icmp .ge 68, 3) := by decide +kernel
theorem dX12_way_120 : decode cX12_way 120 = .ok (.aload_n 0, 1) := by decide +kernel
theorem dX12_way_121 : decode cX12_way 121 = .ok (.getfield 472, 3) := by decide +kernel
theorem dX12_way_124 : decode cX12_way 124 = .ok (.iload_n 2, 1) := by decide +kernel
theorem dX12_way_125 : decode cX12_way 125 = .ok (.if_icmp .ge 60, 3) := by decide +kernel
theorem dX12_way_128 : decode cX12_way 128 = .ok (.aload_n 0, 1) := by decide +kernel
theorem dX12_way_129 : decode cX12_way 129 = .ok (.aload_n 0, 1) := by decide +kernel
theorem dX12_way_130 : decode cX12_way 130 = .ok (.getfield 115, 3) := by decide +kernel
theorem dX12_way_133 : decode cX12_way 133 = .ok (.iload 5, 2) := by decide +kernel
theorem dX12_way_135 : decode cX12_way 135 = .ok (.invokevirtual 475, 3) := by decide +kernel
theorem dX12_way_138 : decode cX12_way 138 = .ok (.ifCond .eq 41, 3) := by decide +kernel
theorem dX12_way_141 : decode cX12_way 141 = .ok (.aload_n 0, 1) := by decide +kernel
theorem dX12_way_142 : decode cX12_way 142 = .ok (.getfield 90, 3) := by decide +kernel
theorem dX12_way_145 : decode cX12_way 145 = .ok (.iconst 0, 1) := by decide +kernel
theorem dX12_way_146 : decode cX12_way 146 = .ok (.iaload, 1) := by decide +kernel
theorem dX12_way_147 : decode cX12_way 147 = .ok (.iload_n 3, 1) := by decide +kernel
theorem dX12_way_148 : decode cX12_way 148 = .ok (.if_icmp .gt 31, 3) := by decide +kernel
theorem dX12_way_151 : decode cX12_way 151 = .ok (.aload_n 0, 1) := by decide +kernel
theorem dX12_way_152 : decode cX12_way 152 = .ok (.aload_n 0, 1) := by decide +kernel
theorem dX12_way_153 : decode cX12_way 153 = .ok (.getfield 90, 3) := by decide +kernel
theorem dX12_way_156 : decode cX12_way 156 = .ok (.invokevirtual 478, 3) := by decide +kernel
theorem dX12_way_159 : decode cX12_way 159 = .ok (.ifCond .ne 20, 3) := by decide +kernel
theorem dX12_way_162 : decode cX12_way 162 = .ok (.aload_n 0, 1) := by decide +kernel
theorem dX12_way_163 : decode cX12_way 163 = .ok (.aload_n 0, 1) := by decide +kernel
theorem dX12_way_164 : decode cX12_way 164 = .ok (.getfield 90, 3) := by decide +kernel
theorem dX12_way_167 : decode cX12_way 167 = .ok (.aload_n 0, 1) := by decide +kernel
theorem dX12_way_168 : decode cX12_way 168 = .ok (.getfield 99, 3) := by decide +kernel
theorem dX12_way_171 : decode cX12_way 171 = .ok (.iload 4, 2) := by decide +kernel
theorem dX12_way_173 : decode cX12_way 173 = .ok (.iaload, 1) := by decide +kernel
theorem dX12_way_174 : decode cX12_way 174 = .ok (.iconst 1, 1) := by decide +kernel
theorem dX12_way_175 : decode cX12_way 175 = .ok (.iadd, 1) := by decide +kernel
theorem dX12_way_176 : decode cX12_way 176 = .ok (.invokevirtual 481, 3) := by decide +kernel
theorem dX12_way_179 : decode cX12_way 179 = .ok (.iinc 5 1, 3) := by decide +kernel
theorem dX12_way_182 : decode cX12_way 182 = .ok (.goto (-69), 3) := by decide +kernel
theorem dX12_way_185 : decode cX12_way 185 = .ok (.iinc 4 1, 3) := by decide +kernel
theorem dX12_way_188 : decode cX12_way 188 = .ok (.goto (-123), 3) := by decide +kernel
theorem dX12_way_191 : decode cX12_way 191 = .ok (.iconst 0, 1) := by decide +kernel
theorem dX12_way_192 : decode cX12_way 192 = .ok (.istore 4, 2) := by decide +kernel
theorem dX12_way_194 : decode cX12_way 194 = .ok (.iload 4, 2) := by decide +kernel
theorem dX12_way_196 : decode cX12_way 196 = .ok (.aload_n 0, 1) := by decide +kernel
theorem dX12_way_197 : decode cX12_way 197 = .ok (.getfield 472, 3) := by decide +kernel
theorem dX12_way_200 : decode cX12_way 200 = .ok (.if_icmp .ge 82, 3) := by decide +kernel
theorem dX12_way_203 : decode cX12_way 203 = .ok (.iconst 0, 1) := by decide +kernel
theorem dX12_way_204 : decode cX12_way 204 = .ok (.istore 5, 2) := by decide +kernel
theorem dX12_way_206 : decode cX12_way 206 = .ok (.iload 5, 2) := by decide +kernel
theorem dX12_way_208 : decode cX12_way 208 = .ok (.bipush 33, 2) := by decide +kernel
theorem dX12_way_210 : decode cX12_way 210 = .ok (.if_icmp .ge 29, 3) := by decide +kernel
theorem dX12_way_213 : decode cX12_way 213 = .ok (.aload_n 0, 1) := by decide +kernel
theorem dX12_way_214 : decode cX12_way 214 = .ok (.getfield 115, 3) := by decide +kernel
theorem dX12_way_217 : decode cX12_way 217 = .ok (.iload 5, 2) := by decide +kernel
theorem dX12_way_219 : decode cX12_way 219 = .ok (.aload_n 0, 1) := by decide +kernel
theorem dX12_way_220 : decode cX12_way 220 = .ok (.getfield 96, 3) := by decide +kernel
theorem dX12_way_223 : decode cX12_way 223 = .ok (.bipush 33, 2) := by decide +kernel
theorem dX12_way_225 : decode cX12_way 225 = .ok (.iload 4, 2) := by decide +kernel
theorem dX12_way_227 : decode cX12_way 227 = .ok (.imul, 1) := by decide +kernel
theorem dX12_way_228 : decode cX12_way 228 = .ok (.iload 5, 2) := by decide +kernel
theorem dX12_way_230 : decode cX12_way 230 = .ok (.iadd, 1) := by decide +kernel
theorem dX12_way_231 : decode cX12_way 231 = .ok (.iaload, 1) := by decide +kernel
theorem dX12_way_232 : decode cX12_way 232 = .ok (.iastore, 1) := by decide +kernel
theorem dX12_way_233 : decode cX12_way 233 = .ok (.iinc 5 1, 3) := by decide +kernel
theorem dX12_way_236 : decode cX12_way 236 = .ok (.goto (-30), 3) := by decide +kernel
theorem dX12_way_239 : decode cX12_way 239 = .ok (.aload_n 0, 1) := by decide +kernel
theorem dX12_way_240 : decode cX12_way 240 = .ok (.aload_n 0, 1) := by decide +kernel
theorem dX12_way_241 : decode cX12_way 241 = .ok (.getfield 115, 3) := by decide +kernel
theorem dX12_way_244 : decode cX12_way 244 = .ok (.iload_n 1, 1) := by decide +kernel
theorem dX12_way_245 : decode cX12_way 245 = .ok (.invokevirtual 485, 3) := by decide +kernel
theorem dX12_way_248 : decode cX12_way 248 = .ok (.ifCond .ne 6, 3) := by decide +kernel
theorem dX12_way_251 : decode cX12_way 251 = .ok (.goto 25, 3) := by decide +kernel
theorem dX12_way_254 : decode cX12_way 254 = .ok (.aload_n 0, 1) := by decide +kernel
theorem dX12_way_255 : decode cX12_way 255 = .ok (.iconst 0, 1) := by decide +kernel
theorem dX12_way_256 : decode cX12_way 256 = .ok (.putfield 132, 3) := by decide +kernel
theorem dX12_way_259 : decode cX12_way 259 = .ok (.aload_n 0, 1) := by decide +kernel
theorem dX12_way_260 : decode cX12_way 260 = .ok (.iload 4, 2) := by decide +kernel
theorem dX12_way_262 : decode cX12_way 262 = .ok (.iconst 1, 1) := by decide +kernel
theorem dX12_way_263 : decode cX12_way 263 = .ok (.iadd, 1) := by decide +kernel
theorem dX12_way_264 : decode cX12_way 264 = .ok (.i2l, 1) := by decide +kernel
theorem dX12_way_265 : decode cX12_way 265 = .ok (.invokevirtual 231, 3) := by decide +kernel
theorem dX12_way_268 : decode cX12_way 268 = .ok (.aload_n 0, 1) := by decide +kernel
theorem dX12_way_269 : decode cX12_way 269 = .ok (.getfield 99, 3) := by decide +kernel
theorem dX12_way_272 : decode cX12_way 272 = .ok (.iload 4, 2) := by decide +kernel
theorem dX12_way_274 : decode cX12_way 274 = .ok (.iaload, 1) := by decide +kernel
theorem dX12_way_275 : decode cX12_way 275 = .ok (.ireturn, 1) := by decide +kernel
theorem dX12_way_276 : decode cX12_way 276 = .ok (.iinc 4 1, 3) := by decide +kernel
theorem dX12_way_279 : decode cX12_way 279 = .ok (.goto (-85), 3) := by decide +kernel
theorem dX12_way_282 : decode cX12_way 282 = .ok (.bipush (-2), 2) := by decide +kernel
theorem dX12_way_284 : decode cX12_way 284 = .ok (.ireturn, 1) := by decide +kernel
theorem dX12_draw_0 : decode cX12_draw 0 = .ok (.aload_n 0, 1) := by decide +kernel
theorem dX12_draw_1 : decode cX12_draw 1 = .ok (.aload_n 0, 1) := by decide +kernel
theorem dX12_draw_2 : decode cX12_draw 2 = .ok (.getfield 491, 3) := by decide +kernel
theorem dX12_draw_5 : decode cX12_draw 5 = .ok (.ldc_w 494, 3) := by decide +kernel
theorem dX12_draw_8 : decode cX12_draw 8 = .ok (.imul, 1) := by decide +kernel
theorem dX12_draw_9 : decode cX12_draw 9 = .ok (.sipush 12345, 3) := by decide +kernel
theorem dX12_draw_12 : decode cX12_draw 12 = .ok (.iadd, 1) := by decide +kernel
theorem dX12_draw_13 : decode cX12_draw 13 = .ok (.putfield 491, 3) := by decide +kernel
theorem dX12_draw_16 : decode cX12_draw 16 = .ok (.aload_n 0, 1) := by decide +kernel
theorem dX12_draw_17 : decode cX12_draw 17 = .ok (.getfield 491, 3) := by decide +kernel
theorem dX12_draw_20 : decode cX12_draw 20 = .ok (.bipush 16, 2) := by decide +kernel
theorem dX12_draw_22 : decode cX12_draw 22 = .ok (.iushr, 1) := by decide +kernel
theorem dX12_draw_23 : decode cX12_draw 23 = .ok (.iload_n 1, 1) := by decide +kernel
theorem dX12_draw_24 : decode cX12_draw 24 = .ok (.irem, 1) := by decide +kernel
theorem dX12_draw_25 : decode cX12_draw 25 = .ok (.ireturn, 1) := by decide +kernel
theorem dX12_drawn_0 : decode cX12_drawn 0 = .ok (.aload_n 0, 1) := by decide +kernel
theorem dX12_drawn_1 : decode cX12_drawn 1 = .ok (.iconst 0, 1) := by decide +kernel
theorem dX12_drawn_2 : decode cX12_drawn 2 = .ok (.putfield 128, 3) := by decide +kernel
theorem dX12_drawn_5 : decode cX12_drawn 5 = .ok (.iload_n 2, 1) := by decide +kernel
theorem dX12_drawn_6 : decode cX12_drawn 6 = .ok (.iconst 1, 1) := by decide +kernel
theorem dX12_drawn_7 : decode cX12_drawn 7 = .ok (.bipush 12, 2) := by decide +kernel
theorem dX12_drawn_9 : decode cX12_drawn 9 = .ok (.invokestatic 179, 3) := by decide +kernel
theorem dX12_drawn_12 : decode cX12_drawn 12 = .ok (.ifCond .ne 5, 3) := by decide +kernel
theorem dX12_drawn_15 : decode cX12_drawn 15 = .ok (.iconst (-1), 1) := by decide +kernel
theorem dX12_drawn_16 : decode cX12_drawn 16 = .ok (.ireturn, 1) := by decide +kernel
theorem dX12_drawn_17 : decode cX12_drawn 17 = .ok (.aload_n 0, 1) := by decide +kernel
theorem dX12_drawn_18 : decode cX12_drawn 18 = .ok (.iload_n 1, 1) := by decide +kernel
theorem dX12_drawn_19 : decode cX12_drawn 19 = .ok (.putfield 491, 3) := by decide +kernel
theorem dX12_drawn_22 : decode cX12_drawn 22 = .ok (.aload_n 0, 1) := by decide +kernel
theorem dX12_drawn_23 : decode cX12_drawn 23 = .ok (.getfield 9, 3) := by decide +kernel
theorem dX12_drawn_26 : decode cX12_drawn 26 = .ok (.aload_n 0, 1) := by decide +kernel
theorem dX12_drawn_27 : decode cX12_drawn 27 = .ok (.getfield 112, 3) := by decide +kernel
theorem dX12_drawn_30 : decode cX12_drawn 30 = .ok (.invokestatic 168, 3) := by decide +kernel
theorem dX12_drawn_33 : decode cX12_drawn 33 = .ok (.iconst 0, 1) := by decide +kernel
theorem dX12_drawn_34 : decode cX12_drawn 34 = .ok (.istore_n 3, 1) := by decide +kernel
theorem dX12_drawn_35 : decode cX12_drawn 35 = .ok (.iconst 0, 1) := by decide +kernel
theorem dX12_drawn_36 : decode cX12_drawn 36 = .ok (.istore 4, 2) := by decide +kernel
theorem dX12_drawn_38 : decode cX12_drawn 38 = .ok (.iload 4, 2) := by decide +kernel
theorem dX12_drawn_40 : decode cX12_drawn 40 = .ok (.iload_n 2, 1) := by decide +kernel
theorem dX12_drawn_41 : decode cX12_drawn 41 = .ok (.if_icmp .ge 105, 3) := by decide +kernel
theorem dX12_drawn_44 : decode cX12_drawn 44 = .ok (.aload_n 0, 1) := by decide +kernel
theorem dX12_drawn_45 : decode cX12_drawn 45 = .ok (.iconst 4, 1) := by decide +kernel
theorem dX12_drawn_46 : decode cX12_drawn 46 = .ok (.invokevirtual 495, 3) := by decide +kernel
theorem dX12_drawn_49 : decode cX12_drawn 49 = .ok (.istore 5, 2) := by decide +kernel
theorem dX12_drawn_51 : decode cX12_drawn 51 = .ok (.aload_n 0, 1) := by decide +kernel
theorem dX12_drawn_52 : decode cX12_drawn 52 = .ok (.bipush 8, 2) := by decide +kernel
theorem dX12_drawn_54 : decode cX12_drawn 54 = .ok (.invokevirtual 495, 3) := by decide +kernel
theorem dX12_drawn_57 : decode cX12_drawn 57 = .ok (.istore 6, 2) := by decide +kernel
theorem dX12_drawn_59 : decode cX12_drawn 59 = .ok (.iload 5, 2) := by decide +kernel
theorem dX12_drawn_61 : decode cX12_drawn 61 = .ok (.iconst 2, 1) := by decide +kernel
theorem dX12_drawn_62 : decode cX12_drawn 62 = .ok (.if_icmp .ne 7, 3) := by decide +kernel
theorem dX12_drawn_65 : decode cX12_drawn 65 = .ok (.iconst 0, 1) := by decide +kernel
theorem dX12_drawn_66 : decode cX12_drawn 66 = .ok (.goto 8, 3) := by decide +kernel
theorem dX12_drawn_69 : decode cX12_drawn 69 = .ok (.aload_n 0, 1) := by decide +kernel
theorem dX12_drawn_70 : decode cX12_drawn 70 = .ok (.iconst 4, 1) := by decide +kernel
theorem dX12_drawn_71 : decode cX12_drawn 71 = .ok (.invokevirtual 495, 3) := by decide +kernel
theorem dX12_drawn_74 : decode cX12_drawn 74 = .ok (.istore 7, 2) := by decide +kernel
theorem dX12_drawn_76 : decode cX12_drawn 76 = .ok (.iload 5, 2) := by decide +kernel
theorem dX12_drawn_78 : decode cX12_drawn 78 = .ok (.iconst 1, 1) := by decide +kernel
theorem dX12_drawn_79 : decode cX12_drawn 79 = .ok (.if_icmp .ne 11, 3) := by decide +kernel
theorem dX12_drawn_82 : decode cX12_drawn 82 = .ok (.aload_n 0, 1) := by decide +kernel
theorem dX12_drawn_83 : decode cX12_drawn 83 = .ok (.iconst 4, 1) := by decide +kernel
theorem dX12_drawn_84 : decode cX12_drawn 84 = .ok (.invokevirtual 495, 3) := by decide +kernel
theorem dX12_drawn_87 : decode cX12_drawn 87 = .ok (.goto 4, 3) := by decide +kernel
theorem dX12_drawn_90 : decode cX12_drawn 90 = .ok (.iconst 0, 1) := by decide +kernel
theorem dX12_drawn_91 : decode cX12_drawn 91 = .ok (.istore 8, 2) := by decide +kernel
theorem dX12_drawn_93 : decode cX12_drawn 93 = .ok (.aload_n 0, 1) := by decide +kernel
theorem dX12_drawn_94 : decode cX12_drawn 94 = .ok (.getfield 112, 3) := by decide +kernel
theorem dX12_drawn_97 : decode cX12_drawn 97 = .ok (.aload_n 0, 1) := by decide +kernel
theorem dX12_drawn_98 : decode cX12_drawn 98 = .ok (.getfield 90, 3) := by decide +kernel
theorem dX12_drawn_101 : decode cX12_drawn 101 = .ok (.invokestatic 168, 3) := by decide +kernel
theorem dX12_drawn_104 : decode cX12_drawn 104 = .ok (.aload_n 0, 1) := by decide +kernel
theorem dX12_drawn_105 : decode cX12_drawn 105 = .ok (.aload_n 0, 1) := by decide +kernel
theorem dX12_drawn_106 : decode cX12_drawn 106 = .ok (.getfield 90, 3) := by decide +kernel
theorem dX12_drawn_109 : decode cX12_drawn 109 = .ok (.iload 5, 2) := by decide +kernel
theorem dX12_drawn_111 : decode cX12_drawn 111 = .ok (.iload 6, 2) := by decide +kernel
theorem dX12_drawn_113 : decode cX12_drawn 113 = .ok (.iload 7, 2) := by decide +kernel
theorem dX12_drawn_115 : decode cX12_drawn 115 = .ok (.iload 8, 2) := by decide +kernel
theorem dX12_drawn_117 : decode cX12_drawn 117 = .ok (.invokevirtual 440, 3) := by decide +kernel
theorem dX12_drawn_120 : decode cX12_drawn 120 = .ok (.ifCond .ge 6, 3) := by decide +kernel
theorem dX12_drawn_123 : decode cX12_drawn 123 = .ok (.goto 17, 3) := by decide +kernel
theorem dX12_drawn_126 : decode cX12_drawn 126 = .ok (.aload_n 0, 1) := by decide +kernel
theorem dX12_drawn_127 : decode cX12_drawn 127 = .ok (.getfield 90, 3) := by decide +kernel
theorem dX12_drawn_130 : decode cX12_drawn 130 = .ok (.aload_n 0, 1) := by decide +kernel
theorem dX12_drawn_131 : decode cX12_drawn 131 = .ok (.getfield 112, 3) := by decide +kernel
theorem dX12_drawn_134 : decode cX12_drawn 134 = .ok (.invokestatic 168, 3) := by decide +kernel
theorem dX12_drawn_137 : decode cX12_drawn 137 = .ok (.iinc 3 1, 3) := by decide +kernel
theorem dX12_drawn_140 : decode cX12_drawn 140 = .ok (.iinc 4 1, 3) := by decide +kernel
theorem dX12_drawn_143 : decode cX12_drawn 143 = .ok (.goto (-105), 3) := by decide +kernel
theorem dX12_drawn_146 : decode cX12_drawn 146 = .ok (.aload_n 0, 1) := by decide +kernel
theorem dX12_drawn_147 : decode cX12_drawn 147 = .ok (.iconst 0, 1) := by decide +kernel
theorem dX12_drawn_148 : decode cX12_drawn 148 = .ok (.putfield 132, 3) := by decide +kernel
theorem dX12_drawn_151 : decode cX12_drawn 151 = .ok (.aload_n 0, 1) := by decide +kernel
theorem dX12_drawn_152 : decode cX12_drawn 152 = .ok (.iload_n 3, 1) := by decide +kernel
theorem dX12_drawn_153 : decode cX12_drawn 153 = .ok (.i2l, 1) := by decide +kernel
theorem dX12_drawn_154 : decode cX12_drawn 154 = .ok (.invokevirtual 231, 3) := by decide +kernel
theorem dX12_drawn_157 : decode cX12_drawn 157 = .ok (.aload_n 0, 1) := by decide +kernel
theorem dX12_drawn_158 : decode cX12_drawn 158 = .ok (.aload_n 0, 1) := by decide +kernel
theorem dX12_drawn_159 : decode cX12_drawn 159 = .ok (.aload_n 0, 1) := by decide +kernel
theorem dX12_drawn_160 : decode cX12_drawn 160 = .ok (.getfield 112, 3) := by decide +kernel
theorem dX12_drawn_163 : decode cX12_drawn 163 = .ok (.invokevirtual 325, 3) := by decide +kernel
theorem dX12_drawn_166 : decode cX12_drawn 166 = .ok (.ifCond .eq 7, 3) := by decide +kernel
theorem dX12_drawn_169 : decode cX12_drawn 169 = .ok (.lconst 1, 1) := by decide +kernel
theorem dX12_drawn_170 : decode cX12_drawn 170 = .ok (.goto 4, 3) := by decide +kernel
theorem dX12_drawn_173 : decode cX12_drawn 173 = .ok (.lconst 0, 1) := by decide +kernel
theorem dX12_drawn_174 : decode cX12_drawn 174 = .ok (.invokevirtual 231, 3) := by decide +kernel
theorem dX12_drawn_177 : decode cX12_drawn 177 = .ok (.aload_n 0, 1) := by decide +kernel
theorem dX12_drawn_178 : decode cX12_drawn 178 = .ok (.getfield 112, 3) := by decide +kernel
theorem dX12_drawn_181 : decode cX12_drawn 181 = .ok (.iconst 0, 1) := by decide +kernel
theorem dX12_drawn_182 : decode cX12_drawn 182 = .ok (.iaload, 1) := by decide +kernel
theorem dX12_drawn_183 : decode cX12_drawn 183 = .ok (.ireturn, 1) := by decide +kernel
theorem dX12_undo_0 : decode cX12_undo 0 = .ok (.aload_n 0, 1) := by decide +kernel
theorem dX12_undo_1 : decode cX12_undo 1 = .ok (.iconst 0, 1) := by decide +kernel
theorem dX12_undo_2 : decode cX12_undo 2 = .ok (.putfield 128, 3) := by decide +kernel
theorem dX12_undo_5 : decode cX12_undo 5 = .ok (.aload_n 0, 1) := by decide +kernel
theorem dX12_undo_6 : decode cX12_undo 6 = .ok (.getfield 437, 3) := by decide +kernel
theorem dX12_undo_9 : decode cX12_undo 9 = .ok (.ifCond .ne 5, 3) := by decide +kernel
theorem dX12_undo_12 : decode cX12_undo 12 = .ok (.iconst (-1), 1) := by decide +kernel
theorem dX12_undo_13 : decode cX12_undo 13 = .ok (.ireturn, 1) := by decide +kernel
theorem dX12_undo_14 : decode cX12_undo 14 = .ok (.aload_n 0, 1) := by decide +kernel
theorem dX12_undo_15 : decode cX12_undo 15 = .ok (.dup, 1) := by decide +kernel
theorem dX12_undo_16 : decode cX12_undo 16 = .ok (.getfield 437, 3) := by decide +kernel
theorem dX12_undo_19 : decode cX12_undo 19 = .ok (.iconst 1, 1) := by decide +kernel
theorem dX12_undo_20 : decode cX12_undo 20 = .ok (.isub, 1) := by decide +kernel
theorem dX12_undo_21 : decode cX12_undo 21 = .ok (.putfield 437, 3) := by decide +kernel
theorem dX12_undo_24 : decode cX12_undo 24 = .ok (.iconst 0, 1) := by decide +kernel
theorem dX12_undo_25 : decode cX12_undo 25 = .ok (.istore_n 1, 1) := by decide +kernel
theorem dX12_undo_26 : decode cX12_undo 26 = .ok (.iload_n 1, 1) := by decide +kernel
theorem dX12_undo_27 : decode cX12_undo 27 = .ok (.bipush 33, 2) := by decide +kernel
theorem dX12_undo_29 : decode cX12_undo 29 = .ok (.if_icmp .ge 29, 3) := by decide +kernel
theorem dX12_undo_32 : decode cX12_undo 32 = .ok (.aload_n 0, 1) := by decide +kernel
theorem dX12_undo_33 : decode cX12_undo 33 = .ok (.getfield 9, 3) := by decide +kernel
theorem dX12_undo_36 : decode cX12_undo 36 = .ok (.iload_n 1, 1) := by decide +kernel
theorem dX12_undo_37 : decode cX12_undo 37 = .ok (.aload_n 0, 1) := by decide +kernel
theorem dX12_undo_38 : decode cX12_undo 38 = .ok (.getfield 87, 3) := by decide +kernel
theorem dX12_undo_41 : decode cX12_undo 41 = .ok (.bipush 33, 2) := by decide +kernel
theorem dX12_undo_43 : decode cX12_undo 43 = .ok (.aload_n 0, 1) := by decide +kernel
theorem dX12_undo_44 : decode cX12_undo 44 = .ok (.getfield 437, 3) := by decide +kernel
theorem dX12_undo_47 : decode cX12_undo 47 = .ok (.imul, 1) := by decide +kernel
theorem dX12_undo_48 : decode cX12_undo 48 = .ok (.iload_n 1, 1) := by decide +kernel
theorem dX12_undo_49 : decode cX12_undo 49 = .ok (.iadd, 1) := by decide +kernel
theorem dX12_undo_50 : decode cX12_undo 50 = .ok (.iaload, 1) := by decide +kernel
theorem dX12_undo_51 : decode cX12_undo 51 = .ok (.iastore, 1) := by decide +kernel
theorem dX12_undo_52 : decode cX12_undo 52 = .ok (.iinc 1 1, 3) := by decide +kernel
theorem dX12_undo_55 : decode cX12_undo 55 = .ok (.goto (-29), 3) := by decide +kernel
theorem dX12_undo_58 : decode cX12_undo 58 = .ok (.aload_n 0, 1) := by decide +kernel
theorem dX12_undo_59 : decode cX12_undo 59 = .ok (.getfield 437, 3) := by decide +kernel
theorem dX12_undo_62 : decode cX12_undo 62 = .ok (.ireturn, 1) := by decide +kernel
theorem dX12_heard_0 : decode cX12_heard 0 = .ok (.aload_n 0, 1) := by decide +kernel
theorem dX12_heard_1 : decode cX12_heard 1 = .ok (.iconst 0, 1) := by decide +kernel
theorem dX12_heard_2 : decode cX12_heard 2 = .ok (.putfield 128, 3) := by decide +kernel
theorem dX12_heard_5 : decode cX12_heard 5 = .ok (.iload_n 1, 1) := by decide +kernel
theorem dX12_heard_6 : decode cX12_heard 6 = .ok (.iconst 0, 1) := by decide +kernel
theorem dX12_heard_7 : decode cX12_heard 7 = .ok (.iconst 4, 1) := by decide +kernel
theorem dX12_heard_8 : decode cX12_heard 8 = .ok (.invokestatic 179, 3) := by decide +kernel
theorem dX12_heard_11 : decode cX12_heard 11 = .ok (.ifCond .eq 12, 3) := by decide +kernel
theorem dX12_heard_14 : decode cX12_heard 14 = .ok (.aload_n 0, 1) := by decide +kernel
theorem dX12_heard_15 : decode cX12_heard 15 = .ok (.getfield 498, 3) := by decide +kernel
theorem dX12_heard_18 : decode cX12_heard 18 = .ok (.bipush 8, 2) := by decide +kernel
theorem dX12_heard_20 : decode cX12_heard 20 = .ok (.if_icmp .ne 5, 3) := by decide +kernel
theorem dX12_heard_23 : decode cX12_heard 23 = .ok (.iconst (-1), 1) := by decide +kernel
theorem dX12_heard_24 : decode cX12_heard 24 = .ok (.ireturn, 1) := by decide +kernel
theorem dX12_heard_25 : decode cX12_heard 25 = .ok (.iload_n 2, 1) := by decide +kernel
theorem dX12_heard_26 : decode cX12_heard 26 = .ok (.iconst 0, 1) := by decide +kernel
theorem dX12_heard_27 : decode cX12_heard 27 = .ok (.iload_n 1, 1) := by decide +kernel
theorem dX12_heard_28 : decode cX12_heard 28 = .ok (.ifCond .ne 8, 3) := by decide +kernel
theorem dX12_heard_31 : decode cX12_heard 31 = .ok (.bipush 48, 2) := by decide +kernel
theorem dX12_heard_33 : decode cX12_heard 33 = .ok (.goto 14, 3) := by decide +kernel
theorem dX12_heard_36 : decode cX12_heard 36 = .ok (.iload_n 1, 1) := by decide +kernel
theorem dX12_heard_37 : decode cX12_heard 37 = .ok (.iconst 3, 1) := by decide +kernel
theorem dX12_heard_38 : decode cX12_heard 38 = .ok (.if_icmp .ne 8, 3) := by decide +kernel
theorem dX12_heard_41 : decode cX12_heard 41 = .ok (.bipush 7, 2) := by decide +kernel
theorem dX12_heard_43 : decode cX12_heard 43 = .ok (.goto 4, 3) := by decide +kernel
theorem dX12_heard_46 : decode cX12_heard 46 = .ok (.iconst 1, 1) := by decide +kernel
theorem dX12_heard_47 : decode cX12_heard 47 = .ok (.invokestatic 179, 3) := by decide +kernel
theorem dX12_heard_50 : decode cX12_heard 50 = .ok (.ifCond .ne 5, 3) := by decide +kernel
theorem dX12_heard_53 : decode cX12_heard 53 = .ok (.iconst (-1), 1) := by decide +kernel
theorem dX12_heard_54 : decode cX12_heard 54 = .ok (.ireturn, 1) := by decide +kernel
theorem dX12_heard_55 : decode cX12_heard 55 = .ok (.aload_n 0, 1) := by decide +kernel
theorem dX12_heard_56 : decode cX12_heard 56 = .ok (.getfield 118, 3) := by decide +kernel
theorem dX12_heard_59 : decode cX12_heard 59 = .ok (.aload_n 0, 1) := by decide +kernel
theorem dX12_heard_60 : decode cX12_heard 60 = .ok (.getfield 498, 3) := by decide +kernel
theorem dX12_heard_63 : decode cX12_heard 63 = .ok (.iload_n 1, 1) := by decide +kernel
theorem dX12_heard_64 : decode cX12_heard 64 = .ok (.iastore, 1) := by decide +kernel
theorem dX12_heard_65 : decode cX12_heard 65 = .ok (.aload_n 0, 1) := by decide +kernel
theorem dX12_heard_66 : decode cX12_heard 66 = .ok (.getfield 121, 3) := by decide +kernel
theorem dX12_heard_69 : decode cX12_heard 69 = .ok (.aload_n 0, 1) := by decide +kernel
theorem dX12_heard_70 : decode cX12_heard 70 = .ok (.getfield 498, 3) := by decide +kernel
theorem dX12_heard_73 : decode cX12_heard 73 = .ok (.iload_n 2, 1) := by decide +kernel
theorem dX12_heard_74 : decode cX12_heard 74 = .ok (.iastore, 1) := by decide +kernel
theorem dX12_heard_75 : decode cX12_heard 75 = .ok (.aload_n 0, 1) := by decide +kernel
theorem dX12_heard_76 : decode cX12_heard 76 = .ok (.dup, 1) := by decide +kernel
theorem dX12_heard_77 : decode cX12_heard 77 = .ok (.getfield 498, 3) := by decide +kernel
theorem dX12_heard_80 : decode cX12_heard 80 = .ok (.iconst 1, 1) := by decide +kernel
theorem dX12_heard_81 : decode cX12_heard 81 = .ok (.iadd, 1) := by decide +kernel
theorem dX12_heard_82 : decode cX12_heard 82 = .ok (.putfield 498, 3) := by decide +kernel
theorem dX12_heard_85 : decode cX12_heard 85 = .ok (.aload_n 0, 1) := by decide +kernel
theorem dX12_heard_86 : decode cX12_heard 86 = .ok (.getfield 498, 3) := by decide +kernel
theorem dX12_heard_89 : decode cX12_heard 89 = .ok (.ireturn, 1) := by decide +kernel
theorem dX12_forget_0 : decode cX12_forget 0 = .ok (.aload_n 0, 1) := by decide +kernel
theorem dX12_forget_1 : decode cX12_forget 1 = .ok (.iconst 0, 1) := by decide +kernel
theorem dX12_forget_2 : decode cX12_forget 2 = .ok (.putfield 128, 3) := by decide +kernel
theorem dX12_forget_5 : decode cX12_forget 5 = .ok (.aload_n 0, 1) := by decide +kernel
theorem dX12_forget_6 : decode cX12_forget 6 = .ok (.getfield 498, 3) := by decide +kernel
theorem dX12_forget_9 : decode cX12_forget 9 = .ok (.istore_n 1, 1) := by decide +kernel
theorem dX12_forget_10 : decode cX12_forget 10 = .ok (.aload_n 0, 1) := by decide +kernel
theorem dX12_forget_11 : decode cX12_forget 11 = .ok (.iconst 0, 1) := by decide +kernel
theorem dX12_forget_12 : decode cX12_forget 12 = .ok (.putfield 498, 3) := by decide +kernel
theorem dX12_forget_15 : decode cX12_forget 15 = .ok (.iload_n 1, 1) := by decide +kernel
theorem dX12_forget_16 : decode cX12_forget 16 = .ok (.ireturn, 1) := by decide +kernel
theorem dX12_hasEdge_0 : decode cX12_hasEdge 0 = .ok (.iconst 0, 1) := by decide +kernel
theorem dX12_hasEdge_1 : decode cX12_hasEdge 1 = .ok (.istore_n 3, 1) := by decide +kernel
theorem dX12_hasEdge_2 : decode cX12_hasEdge 2 = .ok (.iload_n 3, 1) := by decide +kernel
theorem dX12_hasEdge_3 : decode cX12_hasEdge 3 = .ok (.iconst 4, 1) := by decide +kernel
theorem dX12_hasEdge_4 : decode cX12_hasEdge 4 = .ok (.if_icmp .ge 50, 3) := by decide +kernel
theorem dX12_hasEdge_7 : decode cX12_hasEdge 7 = .ok (.iload_n 1, 1) := by decide +kernel
theorem dX12_hasEdge_8 : decode cX12_hasEdge 8 = .ok (.aload_n 0, 1) := by decide +kernel
theorem dX12_hasEdge_9 : decode cX12_hasEdge 9 = .ok (.getfield 9, 3) := by decide +kernel
theorem dX12_hasEdge_12 : decode cX12_hasEdge 12 = .ok (.iconst 0, 1) := by decide +kernel
theorem dX12_hasEdge_13 : decode cX12_hasEdge 13 = .ok (.iaload, 1) := by decide +kernel
theorem dX12_hasEdge_14 : decode cX12_hasEdge 14 = .ok (.if_icmp .ge 40, 3) := by decide +kernel
theorem dX12_hasEdge_17 : decode cX12_hasEdge 17 = .ok (.iload_n 3, 1) := by decide +kernel
theorem dX12_hasEdge_18 : decode cX12_hasEdge 18 = .ok (.iconst 1, 1) := by decide +kernel
theorem dX12_hasEdge_19 : decode cX12_hasEdge 19 = .ok (.iadd, 1) := by decide +kernel
theorem dX12_hasEdge_20 : decode cX12_hasEdge 20 = .ok (.istore 4, 2) := by decide +kernel
theorem dX12_hasEdge_22 : decode cX12_hasEdge 22 = .ok (.iload 4, 2) := by decide +kernel
theorem dX12_hasEdge_24 : decode cX12_hasEdge 24 = .ok (.iconst 4, 1) := by decide +kernel
theorem dX12_hasEdge_25 : decode cX12_hasEdge 25 = .ok (.if_icmp .ge 23, 3) := by decide +kernel
theorem dX12_hasEdge_28 : decode cX12_hasEdge 28 = .ok (.aload_n 0, 1) := by decide +kernel
theorem dX12_hasEdge_29 : decode cX12_hasEdge 29 = .ok (.iload_n 1, 1) := by decide +kernel
theorem dX12_hasEdge_30 : decode cX12_hasEdge 30 = .ok (.iload_n 3, 1) := by decide +kernel
theorem dX12_hasEdge_31 : decode cX12_hasEdge 31 = .ok (.iload 4, 2) := by decide +kernel
theorem dX12_hasEdge_33 : decode cX12_hasEdge 33 = .ok (.invokevirtual 258, 3) := by decide +kernel
theorem dX12_hasEdge_36 : decode cX12_hasEdge 36 = .ok (.iload_n 2, 1) := by decide +kernel
theorem dX12_hasEdge_37 : decode cX12_hasEdge 37 = .ok (.if_icmp .ne 5, 3) := by decide +kernel
theorem dX12_hasEdge_40 : decode cX12_hasEdge 40 = .ok (.iconst 1, 1) := by decide +kernel
theorem dX12_hasEdge_41 : decode cX12_hasEdge 41 = .ok (.ireturn, 1) := by decide +kernel
theorem dX12_hasEdge_42 : decode cX12_hasEdge 42 = .ok (.iinc 4 1, 3) := by decide +kernel
theorem dX12_hasEdge_45 : decode cX12_hasEdge 45 = .ok (.goto (-23), 3) := by decide +kernel
theorem dX12_hasEdge_48 : decode cX12_hasEdge 48 = .ok (.iinc 3 1, 3) := by decide +kernel
theorem dX12_hasEdge_51 : decode cX12_hasEdge 51 = .ok (.goto (-49), 3) := by decide +kernel
theorem dX12_hasEdge_54 : decode cX12_hasEdge 54 = .ok (.iconst 0, 1) := by decide +kernel
theorem dX12_hasEdge_55 : decode cX12_hasEdge 55 = .ok (.ireturn, 1) := by decide +kernel
theorem dX12_isSo_0 : decode cX12_isSo 0 = .ok (.aload_n 0, 1) := by decide +kernel
theorem dX12_isSo_1 : decode cX12_isSo 1 = .ok (.iload_n 1, 1) := by decide +kernel
theorem dX12_isSo_2 : decode cX12_isSo 2 = .ok (.invokevirtual 303, 3) := by decide +kernel
theorem dX12_isSo_5 : decode cX12_isSo 5 = .ok (.istore 4, 2) := by decide +kernel
theorem dX12_isSo_7 : decode cX12_isSo 7 = .ok (.aload_n 0, 1) := by decide +kernel
theorem dX12_isSo_8 : decode cX12_isSo 8 = .ok (.getfield 54, 3) := by decide +kernel
theorem dX12_isSo_11 : decode cX12_isSo 11 = .ok (.iload_n 1, 1) := by decide +kernel
theorem dX12_isSo_12 : decode cX12_isSo 12 = .ok (.iaload, 1) := by decide +kernel
theorem dX12_isSo_13 : decode cX12_isSo 13 = .ok (.bipush 16, 2) := by decide +kernel
theorem dX12_isSo_15 : decode cX12_isSo 15 = .ok (.idiv, 1) := by decide +kernel
theorem dX12_isSo_16 : decode cX12_isSo 16 = .ok (.istore 5, 2) := by decide +kernel
theorem dX12_isSo_18 : decode cX12_isSo 18 = .ok (.iload_n 2, 1) := by decide +kernel
theorem dX12_isSo_19 : decode cX12_isSo 19 = .ok (.tableswitch 110 0 3 #[29, 49, 78, 102], 29) := by decide +kernel
theorem dX12_isSo_48 : decode cX12_isSo 48 = .ok (.aload_n 0, 1) := by decide +kernel
theorem dX12_isSo_49 : decode cX12_isSo 49 = .ok (.aload_n 0, 1) := by decide +kernel
theorem dX12_isSo_50 : decode cX12_isSo 50 = .ok (.getfield 9, 3) := by decide +kernel
theorem dX12_isSo_53 : decode cX12_isSo 53 = .ok (.iload 4, 2) := by decide +kernel
theorem dX12_isSo_55 : decode cX12_isSo 55 = .ok (.invokevirtual 279, 3) := by decide +kernel
theorem dX12_isSo_58 : decode cX12_isSo 58 = .ok (.iload_n 3, 1) := by decide +kernel
theorem dX12_isSo_59 : decode cX12_isSo 59 = .ok (.if_icmp .lt 7, 3) := by decide +kernel
theorem dX12_isSo_62 : decode cX12_isSo 62 = .ok (.iconst 1, 1) := by decide +kernel
theorem dX12_isSo_63 : decode cX12_isSo 63 = .ok (.goto 4, 3) := by decide +kernel
theorem dX12_isSo_66 : decode cX12_isSo 66 = .ok (.iconst 0, 1) := by decide +kernel
theorem dX12_isSo_67 : decode cX12_isSo 67 = .ok (.ireturn, 1) := by decide +kernel
theorem dX12_isSo_68 : decode cX12_isSo 68 = .ok (.aload_n 0, 1) := by decide +kernel
theorem dX12_isSo_69 : decode cX12_isSo 69 = .ok (.aload_n 0, 1) := by decide +kernel
theorem dX12_isSo_70 : decode cX12_isSo 70 = .ok (.getfield 9, 3) := by decide +kernel
theorem dX12_isSo_73 : decode cX12_isSo 73 = .ok (.iload 4, 2) := by decide +kernel
theorem dX12_isSo_75 : decode cX12_isSo 75 = .ok (.invokevirtual 272, 3) := by decide +kernel
theorem dX12_isSo_78 : decode cX12_isSo 78 = .ok (.iload_n 3, 1) := by decide +kernel
theorem dX12_isSo_79 : decode cX12_isSo 79 = .ok (.iconst 1, 1) := by decide +kernel
theorem dX12_isSo_80 : decode cX12_isSo 80 = .ok (.if_icmp .ne 7, 3) := by decide +kernel
theorem dX12_isSo_83 : decode cX12_isSo 83 = .ok (.iconst 1, 1) := by decide +kernel
theorem dX12_isSo_84 : decode cX12_isSo 84 = .ok (.goto 4, 3) := by decide +kernel
theorem dX12_isSo_87 : decode cX12_isSo 87 = .ok (.iconst 0, 1) := by decide +kernel
theorem dX12_isSo_88 : decode cX12_isSo 88 = .ok (.if_icmp .ne 7, 3) := by decide +kernel
theorem dX12_isSo_91 : decode cX12_isSo 91 = .ok (.iconst 1, 1) := by decide +kernel
theorem dX12_isSo_92 : decode cX12_isSo 92 = .ok (.goto 4, 3) := by decide +kernel
theorem dX12_isSo_95 : decode cX12_isSo 95 = .ok (.iconst 0, 1) := by decide +kernel
theorem dX12_isSo_96 : decode cX12_isSo 96 = .ok (.ireturn, 1) := by decide +kernel
theorem dX12_isSo_97 : decode cX12_isSo 97 = .ok (.aload_n 0, 1) := by decide +kernel
theorem dX12_isSo_98 : decode cX12_isSo 98 = .ok (.iload_n 1, 1) := by decide +kernel
theorem dX12_isSo_99 : decode cX12_isSo 99 = .ok (.invokevirtual 306, 3) := by decide +kernel
theorem dX12_isSo_102 : decode cX12_isSo 102 = .ok (.iload_n 3, 1) := by decide +kernel
theorem dX12_isSo_103 : decode cX12_isSo 103 = .ok (.iconst 1, 1) := by decide +kernel
theorem dX12_isSo_104 : decode cX12_isSo 104 = .ok (.if_icmp .ne 7, 3) := by decide +kernel
theorem dX12_isSo_107 : decode cX12_isSo 107 = .ok (.iconst 1, 1) := by decide +kernel
theorem dX12_isSo_108 : decode cX12_isSo 108 = .ok (.goto 4, 3) := by decide +kernel
theorem dX12_isSo_111 : decode cX12_isSo 111 = .ok (.iconst 0, 1) := by decide +kernel
theorem dX12_isSo_112 : decode cX12_isSo 112 = .ok (.if_icmp .ne 7, 3) := by decide +kernel
theorem dX12_isSo_115 : decode cX12_isSo 115 = .ok (.iconst 1, 1) := by decide +kernel
theorem dX12_isSo_116 : decode cX12_isSo 116 = .ok (.goto 4, 3) := by decide +kernel
theorem dX12_isSo_119 : decode cX12_isSo 119 = .ok (.iconst 0, 1) := by decide +kernel
theorem dX12_isSo_120 : decode cX12_isSo 120 = .ok (.ireturn, 1) := by decide +kernel
theorem dX12_isSo_121 : decode cX12_isSo 121 = .ok (.aload_n 0, 1) := by decide +kernel
theorem dX12_isSo_122 : decode cX12_isSo 122 = .ok (.iload_n 3, 1) := by decide +kernel
theorem dX12_isSo_123 : decode cX12_isSo 123 = .ok (.iload 4, 2) := by decide +kernel
theorem dX12_isSo_125 : decode cX12_isSo 125 = .ok (.invokevirtual 501, 3) := by decide +kernel
theorem dX12_isSo_128 : decode cX12_isSo 128 = .ok (.ireturn, 1) := by decide +kernel
theorem dX12_isSo_129 : decode cX12_isSo 129 = .ok (.aload_n 0, 1) := by decide +kernel
theorem dX12_isSo_130 : decode cX12_isSo 130 = .ok (.getfield 51, 3) := by decide +kernel
theorem dX12_isSo_133 : decode cX12_isSo 133 = .ok (.iconst 4, 1) := by decide +kernel
theorem dX12_isSo_134 : decode cX12_isSo 134 = .ok (.iload 5, 2) := by decide +kernel
theorem dX12_isSo_136 : decode cX12_isSo 136 = .ok (.imul, 1) := by decide +kernel
theorem dX12_isSo_137 : decode cX12_isSo 137 = .ok (.aload_n 0, 1) := by decide +kernel
theorem dX12_isSo_138 : decode cX12_isSo 138 = .ok (.getfield 54, 3) := by decide +kernel
theorem dX12_isSo_141 : decode cX12_isSo 141 = .ok (.iload_n 1, 1) := by decide +kernel
theorem dX12_isSo_142 : decode cX12_isSo 142 = .ok (.iaload, 1) := by decide +kernel
theorem dX12_isSo_143 : decode cX12_isSo 143 = .ok (.iconst 4, 1) := by decide +kernel
theorem dX12_isSo_144 : decode cX12_isSo 144 = .ok (.idiv, 1) := by decide +kernel
theorem dX12_isSo_145 : decode cX12_isSo 145 = .ok (.iconst 4, 1) := by decide +kernel
theorem dX12_isSo_146 : decode cX12_isSo 146 = .ok (.irem, 1) := by decide +kernel
theorem dX12_isSo_147 : decode cX12_isSo 147 = .ok (.iadd, 1) := by decide +kernel
theorem dX12_isSo_148 : decode cX12_isSo 148 = .ok (.iaload, 1) := by decide +kernel
theorem dX12_isSo_149 : decode cX12_isSo 149 = .ok (.aload_n 0, 1) := by decide +kernel
theorem dX12_isSo_150 : decode cX12_isSo 150 = .ok (.getfield 51, 3) := by decide +kernel
theorem dX12_isSo_153 : decode cX12_isSo 153 = .ok (.iconst 4, 1) := by decide +kernel
theorem dX12_isSo_154 : decode cX12_isSo 154 = .ok (.iload 5, 2) := by decide +kernel
theorem dX12_isSo_156 : decode cX12_isSo 156 = .ok (.imul, 1) := by decide +kernel
theorem dX12_isSo_157 : decode cX12_isSo 157 = .ok (.aload_n 0, 1) := by decide +kernel
theorem dX12_isSo_158 : decode cX12_isSo 158 = .ok (.getfield 54, 3) := by decide +kernel
theorem dX12_isSo_161 : decode cX12_isSo 161 = .ok (.iload_n 1, 1) := by decide +kernel
theorem dX12_isSo_162 : decode cX12_isSo 162 = .ok (.iaload, 1) := by decide +kernel
theorem dX12_isSo_163 : decode cX12_isSo 163 = .ok (.iconst 4, 1) := by decide +kernel
theorem dX12_isSo_164 : decode cX12_isSo 164 = .ok (.irem, 1) := by decide +kernel
theorem dX12_isSo_165 : decode cX12_isSo 165 = .ok (.iadd, 1) := by decide +kernel
theorem dX12_isSo_166 : decode cX12_isSo 166 = .ok (.iaload, 1) := by decide +kernel
theorem dX12_isSo_167 : decode cX12_isSo 167 = .ok (.if_icmp .ne 7, 3) := by decide +kernel
theorem dX12_isSo_170 : decode cX12_isSo 170 = .ok (.iconst 1, 1) := by decide +kernel
theorem dX12_isSo_171 : decode cX12_isSo 171 = .ok (.goto 4, 3) := by decide +kernel
theorem dX12_isSo_174 : decode cX12_isSo 174 = .ok (.iconst 0, 1) := by decide +kernel
theorem dX12_isSo_175 : decode cX12_isSo 175 = .ok (.iload_n 3, 1) := by decide +kernel
theorem dX12_isSo_176 : decode cX12_isSo 176 = .ok (.iconst 1, 1) := by decide +kernel
theorem dX12_isSo_177 : decode cX12_isSo 177 = .ok (.if_icmp .ne 7, 3) := by decide +kernel
theorem dX12_isSo_180 : decode cX12_isSo 180 = .ok (.iconst 1, 1) := by decide +kernel
theorem dX12_isSo_181 : decode cX12_isSo 181 = .ok (.goto 4, 3) := by decide +kernel
theorem dX12_isSo_184 : decode cX12_isSo 184 = .ok (.iconst 0, 1) := by decide +kernel
theorem dX12_isSo_185 : decode cX12_isSo 185 = .ok (.if_icmp .ne 7, 3) := by decide +kernel
theorem dX12_isSo_188 : decode cX12_isSo 188 = .ok (.iconst 1, 1) := by decide +kernel
theorem dX12_isSo_189 : decode cX12_isSo 189 = .ok (.goto 4, 3) := by decide +kernel
theorem dX12_isSo_192 : decode cX12_isSo 192 = .ok (.iconst 0, 1) := by decide +kernel
theorem dX12_isSo_193 : decode cX12_isSo 193 = .ok (.ireturn, 1) := by decide +kernel
theorem dX12_fits_0 : decode cX12_fits 0 = .ok (.aload_n 0, 1) := by decide +kernel
theorem dX12_fits_1 : decode cX12_fits 1 = .ok (.iconst 0, 1) := by decide +kernel
theorem dX12_fits_2 : decode cX12_fits 2 = .ok (.putfield 128, 3) := by decide +kernel
theorem dX12_fits_5 : decode cX12_fits 5 = .ok (.aload_n 0, 1) := by decide +kernel
theorem dX12_fits_6 : decode cX12_fits 6 = .ok (.aload_n 0, 1) := by decide +kernel
theorem dX12_fits_7 : decode cX12_fits 7 = .ok (.getfield 9, 3) := by decide +kernel
theorem dX12_fits_10 : decode cX12_fits 10 = .ok (.invokevirtual 269, 3) := by decide +kernel
theorem dX12_fits_13 : decode cX12_fits 13 = .ok (.aload_n 0, 1) := by decide +kernel
theorem dX12_fits_14 : decode cX12_fits 14 = .ok (.aload_n 0, 1) := by decide +kernel
theorem dX12_fits_15 : decode cX12_fits 15 = .ok (.getfield 9, 3) := by decide +kernel
theorem dX12_fits_18 : decode cX12_fits 18 = .ok (.invokevirtual 309, 3) := by decide +kernel
theorem dX12_fits_21 : decode cX12_fits 21 = .ok (.iconst 0, 1) := by decide +kernel
theorem dX12_fits_22 : decode cX12_fits 22 = .ok (.istore_n 1, 1) := by decide +kernel
theorem dX12_fits_23 : decode cX12_fits 23 = .ok (.aload_n 0, 1) := by decide +kernel
theorem dX12_fits_24 : decode cX12_fits 24 = .ok (.iconst 0, 1) := by decide +kernel
theorem dX12_fits_25 : decode cX12_fits 25 = .ok (.putfield 132, 3) := by decide +kernel
theorem dX12_fits_28 : decode cX12_fits 28 = .ok (.iconst 0, 1) := by decide +kernel
theorem dX12_fits_29 : decode cX12_fits 29 = .ok (.istore_n 2, 1) := by decide +kernel
theorem dX12_fits_30 : decode cX12_fits 30 = .ok (.iload_n 2, 1) := by decide +kernel
theorem dX12_fits_31 : decode cX12_fits 31 = .ok (.aload_n 0, 1) := by decide +kernel
theorem dX12_fits_32 : decode cX12_fits 32 = .ok (.getfield 300, 3) := by decide +kernel
theorem dX12_fits_35 : decode cX12_fits 35 = .ok (.if_icmp .ge 117, 3) := by decide +kernel
theorem dX12_fits_38 : decode cX12_fits 38 = .ok (.iconst 1, 1) := by decide +kernel
theorem dX12_fits_39 : decode cX12_fits 39 = .ok (.istore_n 3, 1) := by decide +kernel
theorem dX12_fits_40 : decode cX12_fits 40 = .ok (.iconst 0, 1) := by decide +kernel
theorem dX12_fits_41 : decode cX12_fits 41 = .ok (.istore 4, 2) := by decide +kernel
theorem dX12_fits_43 : decode cX12_fits 43 = .ok (.iload 4, 2) := by decide +kernel
theorem dX12_fits_45 : decode cX12_fits 45 = .ok (.aload_n 0, 1) := by decide +kernel
theorem dX12_fits_46 : decode cX12_fits 46 = .ok (.getfield 498, 3) := by decide +kernel
theorem dX12_fits_49 : decode cX12_fits 49 = .ok (.if_icmp .ge 41, 3) := by decide +kernel
theorem dX12_fits_52 : decode cX12_fits 52 = .ok (.iload_n 3, 1) := by decide +kernel
theorem dX12_fits_53 : decode cX12_fits 53 = .ok (.ifCond .eq 29, 3) := by decide +kernel
theorem dX12_fits_56 : decode cX12_fits 56 = .ok (.aload_n 0, 1) := by decide +kernel
theorem dX12_fits_57 : decode cX12_fits 57 = .ok (.iload_n 2, 1) := by decide +kernel
theorem dX12_fits_58 : decode cX12_fits 58 = .ok (.aload_n 0, 1) := by decide +kernel
theorem dX12_fits_59 : decode cX12_fits 59 = .ok (.getfield 118, 3) := by decide +kernel
theorem dX12_fits_62 : decode cX12_fits 62 = .ok (.iload 4, 2) := by decide +kernel
theorem dX12_fits_64 : decode cX12_fits 64 = .ok (.iaload, 1) := by decide +kernel
theorem dX12_fits_65 : decode cX12_fits 65 = .ok (.aload_n 0, 1) := by decide +kernel
theorem dX12_fits_66 : decode cX12_fits 66 = .ok (.getfield 121, 3) := by decide +kernel
theorem dX12_fits_69 : decode cX12_fits 69 = .ok (.iload 4, 2) := by decide +kernel
theorem dX12_fits_71 : decode cX12_fits 71 = .ok (.iaload, 1) := by decide +kernel
theorem dX12_fits_72 : decode cX12_fits 72 = .ok (.invokevirtual 504, 3) := by decide +kernel
theorem dX12_fits_75 : decode cX12_fits 75 = .ok (.ifCond .eq 7, 3) := by decide +kernel
theorem dX12_fits_78 : decode cX12_fits 78 = .ok (.iconst 1, 1) := by decide +kernel
theorem dX12_fits_79 : decode cX12_fits 79 = .ok (.goto 4, 3) := by decide +kernel
theorem dX12_fits_82 : decode cX12_fits 82 = .ok (.iconst 0, 1) := by decide +kernel
theorem dX12_fits_83 : decode cX12_fits 83 = .ok (.istore_n 3, 1) := by decide +kernel
theorem dX12_fits_84 : decode cX12_fits 84 = .ok (.iinc 4 1, 3) := by decide +kernel
theorem dX12_fits_87 : decode cX12_fits 87 = .ok (.goto (-44), 3) := by decide +kernel
theorem dX12_fits_90 : decode cX12_fits 90 = .ok (.iload_n 3, 1) := by decide +kernel
theorem dX12_fits_91 : decode cX12_fits 91 = .ok (.ifCond .ne 6, 3) := by decide +kernel
theorem dX12_fits_94 : decode cX12_fits 94 = .ok (.goto 52, 3) := by decide +kernel
theorem dX12_fits_97 : decode cX12_fits 97 = .ok (.iload_n 1, 1) := by decide +kernel
theorem dX12_fits_98 : decode cX12_fits 98 = .ok (.ifCond .ne 45, 3) := by decide +kernel
theorem dX12_fits_101 : decode cX12_fits 101 = .ok (.aload_n 0, 1) := by decide +kernel
theorem dX12_fits_102 : decode cX12_fits 102 = .ok (.aload_n 0, 1) := by decide +kernel
theorem dX12_fits_103 : decode cX12_fits 103 = .ok (.getfield 54, 3) := by decide +kernel
theorem dX12_fits_106 : decode cX12_fits 106 = .ok (.iload_n 2, 1) := by decide +kernel
theorem dX12_fits_107 : decode cX12_fits 107 = .ok (.iaload, 1) := by decide +kernel
theorem dX12_fits_108 : decode cX12_fits 108 = .ok (.bipush 16, 2) := by decide +kernel
theorem dX12_fits_110 : decode cX12_fits 110 = .ok (.idiv, 1) := by decide +kernel
theorem dX12_fits_111 : decode cX12_fits 111 = .ok (.i2l, 1) := by decide +kernel
theorem dX12_fits_112 : decode cX12_fits 112 = .ok (.invokevirtual 231, 3) := by decide +kernel
theorem dX12_fits_115 : decode cX12_fits 115 = .ok (.aload_n 0, 1) := by decide +kernel
theorem dX12_fits_116 : decode cX12_fits 116 = .ok (.aload_n 0, 1) := by decide +kernel
theorem dX12_fits_117 : decode cX12_fits 117 = .ok (.getfield 54, 3) := by decide +kernel
theorem dX12_fits_120 : decode cX12_fits 120 = .ok (.iload_n 2, 1) := by decide +kernel
theorem dX12_fits_121 : decode cX12_fits 121 = .ok (.iaload, 1) := by decide +kernel
theorem dX12_fits_122 : decode cX12_fits 122 = .ok (.iconst 4, 1) := by decide +kernel
theorem dX12_fits_123 : decode cX12_fits 123 = .ok (.idiv, 1) := by decide +kernel
theorem dX12_fits_124 : decode cX12_fits 124 = .ok (.iconst 4, 1) := by decide +kernel
theorem dX12_fits_125 : decode cX12_fits 125 = .ok (.irem, 1) := by decide +kernel
theorem dX12_fits_126 : decode cX12_fits 126 = .ok (.i2l, 1) := by decide +kernel
theorem dX12_fits_127 : decode cX12_fits 127 = .ok (.invokevirtual 231, 3) := by decide +kernel
theorem dX12_fits_130 : decode cX12_fits 130 = .ok (.aload_n 0, 1) := by decide +kernel
theorem dX12_fits_131 : decode cX12_fits 131 = .ok (.aload_n 0, 1) := by decide +kernel
theorem dX12_fits_132 : decode cX12_fits 132 = .ok (.getfield 54, 3) := by decide +kernel
theorem dX12_fits_135 : decode cX12_fits 135 = .ok (.iload_n 2, 1) := by decide +kernel
theorem dX12_fits_136 : decode cX12_fits 136 = .ok (.iaload, 1) := by decide +kernel
theorem dX12_fits_137 : decode cX12_fits 137 = .ok (.iconst 4, 1) := by decide +kernel
theorem dX12_fits_138 : decode cX12_fits 138 = .ok (.irem, 1) := by decide +kernel
theorem dX12_fits_139 : decode cX12_fits 139 = .ok (.i2l, 1) := by decide +kernel
theorem dX12_fits_140 : decode cX12_fits 140 = .ok (.invokevirtual 231, 3) := by decide +kernel
theorem dX12_fits_143 : decode cX12_fits 143 = .ok (.iinc 1 1, 3) := by decide +kernel
theorem dX12_fits_146 : decode cX12_fits 146 = .ok (.iinc 2 1, 3) := by decide +kernel
theorem dX12_fits_149 : decode cX12_fits 149 = .ok (.goto (-119), 3) := by decide +kernel
theorem dX12_fits_152 : decode cX12_fits 152 = .ok (.iload_n 1, 1) := by decide +kernel
theorem dX12_fits_153 : decode cX12_fits 153 = .ok (.ireturn, 1) := by decide +kernel
theorem dX12_keep_0 : decode cX12_keep 0 = .ok (.aload_n 0, 1) := by decide +kernel
theorem dX12_keep_1 : decode cX12_keep 1 = .ok (.iconst 0, 1) := by decide +kernel
theorem dX12_keep_2 : decode cX12_keep 2 = .ok (.putfield 128, 3) := by decide +kernel
theorem dX12_keep_5 : decode cX12_keep 5 = .ok (.iload_n 1, 1) := by decide +kernel
theorem dX12_keep_6 : decode cX12_keep 6 = .ok (.iconst 0, 1) := by decide +kernel
theorem dX12_keep_7 : decode cX12_keep 7 = .ok (.iconst 1, 1) := by decide +kernel
theorem dX12_keep_8 : decode cX12_keep 8 = .ok (.invokestatic 179, 3) := by decide +kernel
theorem dX12_keep_11 : decode cX12_keep 11 = .ok (.ifCond .ne 5, 3) := by decide +kernel
theorem dX12_keep_14 : decode cX12_keep 14 = .ok (.iconst 0, 1) := by decide +kernel
theorem dX12_keep_15 : decode cX12_keep 15 = .ok (.ireturn, 1) := by decide +kernel
theorem dX12_keep_16 : decode cX12_keep 16 = .ok (.aload_n 0, 1) := by decide +kernel
theorem dX12_keep_17 : decode cX12_keep 17 = .ok (.getfield 108, 3) := by decide +kernel
theorem dX12_keep_20 : decode cX12_keep 20 = .ok (.iload_n 1, 1) := by decide +kernel
theorem dX12_keep_21 : decode cX12_keep 21 = .ok (.iconst 1, 1) := by decide +kernel
theorem dX12_keep_22 : decode cX12_keep 22 = .ok (.bastore, 1) := by decide +kernel
theorem dX12_keep_23 : decode cX12_keep 23 = .ok (.iconst 0, 1) := by decide +kernel
theorem dX12_keep_24 : decode cX12_keep 24 = .ok (.istore_n 2, 1) := by decide +kernel
theorem dX12_keep_25 : decode cX12_keep 25 = .ok (.iload_n 2, 1) := by decide +kernel
theorem dX12_keep_26 : decode cX12_keep 26 = .ok (.bipush 33, 2) := by decide +kernel
theorem dX12_keep_28 : decode cX12_keep 28 = .ok (.if_icmp .ge 26, 3) := by decide +kernel
theorem dX12_keep_31 : decode cX12_keep 31 = .ok (.aload_n 0, 1) := by decide +kernel
theorem dX12_keep_32 : decode cX12_keep 32 = .ok (.getfield 105, 3) := by decide +kernel
theorem dX12_keep_35 : decode cX12_keep 35 = .ok (.bipush 33, 2) := by decide +kernel
theorem dX12_keep_37 : decode cX12_keep 37 = .ok (.iload_n 1, 1) := by decide +kernel
theorem dX12_keep_38 : decode cX12_keep 38 = .ok (.imul, 1) := by decide +kernel
theorem dX12_keep_39 : decode cX12_keep 39 = .ok (.iload_n 2, 1) := by decide +kernel
theorem dX12_keep_40 : decode cX12_keep 40 = .ok (.iadd, 1) := by decide +kernel
theorem dX12_keep_41 : decode cX12_keep 41 = .ok (.aload_n 0, 1) := by decide +kernel
theorem dX12_keep_42 : decode cX12_keep 42 = .ok (.getfield 9, 3) := by decide +kernel
theorem dX12_keep_45 : decode cX12_keep 45 = .ok (.iload_n 2, 1) := by decide +kernel
theorem dX12_keep_46 : decode cX12_keep 46 = .ok (.iaload, 1) := by decide +kernel
theorem dX12_keep_47 : decode cX12_keep 47 = .ok (.iastore, 1) := by decide +kernel
theorem dX12_keep_48 : decode cX12_keep 48 = .ok (.iinc 2 1, 3) := by decide +kernel
theorem dX12_keep_51 : decode cX12_keep 51 = .ok (.goto (-26), 3) := by decide +kernel
theorem dX12_keep_54 : decode cX12_keep 54 = .ok (.iconst 1, 1) := by decide +kernel
theorem dX12_keep_55 : decode cX12_keep 55 = .ok (.ireturn, 1) := by decide +kernel
theorem dX12_again_0 : decode cX12_again 0 = .ok (.aload_n 0, 1) := by decide +kernel
theorem dX12_again_1 : decode cX12_again 1 = .ok (.iconst 0, 1) := by decide +kernel
theorem dX12_again_2 : decode cX12_again 2 = .ok (.putfield 128, 3) := by decide +kernel
theorem dX12_again_5 : decode cX12_again 5 = .ok (.iload_n 1, 1) := by decide +kernel
theorem dX12_again_6 : decode cX12_again 6 = .ok (.iconst 0, 1) := by decide +kernel
theorem dX12_again_7 : decode cX12_again 7 = .ok (.iconst 1, 1) := by decide +kernel
theorem dX12_again_8 : decode cX12_again 8 = .ok (.invokestatic 179, 3) := by decide +kernel
theorem dX12_again_11 : decode cX12_again 11 = .ok (.ifCond .eq 12, 3) := by decide +kernel
theorem dX12_again_14 : decode cX12_again 14 = .ok (.aload_n 0, 1) := by decide +kernel
theorem dX12_again_15 : decode cX12_again 15 = .ok (.getfield 108, 3) := by decide +kernel
theorem dX12_again_18 : decode cX12_again 18 = .ok (.iload_n 1, 1) := by decide +kernel
theorem dX12_again_19 : decode cX12_again 19 = .ok (.baload, 1) := by decide +kernel
theorem dX12_again_20 : decode cX12_again 20 = .ok (.ifCond .ne 5, 3) := by decide +kernel
theorem dX12_again_23 : decode cX12_again 23 = .ok (.iconst 0, 1) := by decide +kernel
theorem dX12_again_24 : decode cX12_again 24 = .ok (.ireturn, 1) := by decide +kernel
theorem dX12_again_25 : decode cX12_again 25 = .ok (.iconst 0, 1) := by decide +kernel
theorem dX12_again_26 : decode cX12_again 26 = .ok (.istore_n 2, 1) := by decide +kernel
theorem dX12_again_27 : decode cX12_again 27 = .ok (.iload_n 2, 1) := by decide +kernel
theorem dX12_again_28 : decode cX12_again 28 = .ok (.bipush 33, 2) := by decide +kernel
theorem dX12_again_30 : decode cX12_again 30 = .ok (.if_icmp .ge 26, 3) := by decide +kernel
theorem dX12_again_33 : decode cX12_again 33 = .ok (.aload_n 0, 1) := by decide +kernel
theorem dX12_again_34 : decode cX12_again 34 = .ok (.getfield 9, 3) := by decide +kernel
theorem dX12_again_37 : decode cX12_again 37 = .ok (.iload_n 2, 1) := by decide +kernel
theorem dX12_again_38 : decode cX12_again 38 = .ok (.aload_n 0, 1) := by decide +kernel
theorem dX12_again_39 : decode cX12_again 39 = .ok (.getfield 105, 3) := by decide +kernel
theorem dX12_again_42 : decode cX12_again 42 = .ok (.bipush 33, 2) := by decide +kernel
theorem dX12_again_44 : decode cX12_again 44 = .ok (.iload_n 1, 1) := by decide +kernel
theorem dX12_again_45 : decode cX12_again 45 = .ok (.imul, 1) := by decide +kernel
theorem dX12_again_46 : decode cX12_again 46 = .ok (.iload_n 2, 1) := by decide +kernel
theorem dX12_again_47 : decode cX12_again 47 = .ok (.iadd, 1) := by decide +kernel
theorem dX12_again_48 : decode cX12_again 48 = .ok (.iaload, 1) := by decide +kernel
theorem dX12_again_49 : decode cX12_again 49 = .ok (.iastore, 1) := by decide +kernel
theorem dX12_again_50 : decode cX12_again 50 = .ok (.iinc 2 1, 3) := by decide +kernel
theorem dX12_again_53 : decode cX12_again 53 = .ok (.goto (-26), 3) := by decide +kernel
theorem dX12_again_56 : decode cX12_again 56 = .ok (.aload_n 0, 1) := by decide +kernel
theorem dX12_again_57 : decode cX12_again 57 = .ok (.iconst 0, 1) := by decide +kernel
theorem dX12_again_58 : decode cX12_again 58 = .ok (.putfield 437, 3) := by decide +kernel
theorem dX12_again_61 : decode cX12_again 61 = .ok (.iconst 1, 1) := by decide +kernel
theorem dX12_again_62 : decode cX12_again 62 = .ok (.ireturn, 1) := by decide +kernel
theorem dX12_same_0 : decode cX12_same 0 = .ok (.aload_n 0, 1) := by decide +kernel
theorem dX12_same_1 : decode cX12_same 1 = .ok (.iconst 0, 1) := by decide +kernel
theorem dX12_same_2 : decode cX12_same 2 = .ok (.putfield 128, 3) := by decide +kernel
theorem dX12_same_5 : decode cX12_same 5 = .ok (.iload_n 1, 1) := by decide +kernel
theorem dX12_same_6 : decode cX12_same 6 = .ok (.iconst 0, 1) := by decide +kernel
theorem dX12_same_7 : decode cX12_same 7 = .ok (.iconst 1, 1) := by decide +kernel
theorem dX12_same_8 : decode cX12_same 8 = .ok (.invokestatic 179, 3) := by decide +kernel
theorem dX12_same_11 : decode cX12_same 11 = .ok (.ifCond .ne 5, 3) := by decide +kernel
theorem dX12_same_14 : decode cX12_same 14 = .ok (.iconst (-1), 1) := by decide +kernel
theorem dX12_same_15 : decode cX12_same 15 = .ok (.ireturn, 1) := by decide +kernel
theorem dX12_same_16 : decode cX12_same 16 = .ok (.aload_n 0, 1) := by decide +kernel
theorem dX12_same_17 : decode cX12_same 17 = .ok (.getfield 108, 3) := by decide +kernel
theorem dX12_same_20 : decode cX12_same 20 = .ok (.iload_n 1, 1) := by decide +kernel
theorem dX12_same_21 : decode cX12_same 21 = .ok (.baload, 1) := by decide +kernel
theorem dX12_same_22 : decode cX12_same 22 = .ok (.ifCond .ne 6, 3) := by decide +kernel
theorem dX12_same_25 : decode cX12_same 25 = .ok (.bipush (-2), 2) := by decide +kernel
theorem dX12_same_27 : decode cX12_same 27 = .ok (.ireturn, 1) := by decide +kernel
theorem dX12_same_28 : decode cX12_same 28 = .ok (.aload_n 0, 1) := by decide +kernel
theorem dX12_same_29 : decode cX12_same 29 = .ok (.iconst 0, 1) := by decide +kernel
theorem dX12_same_30 : decode cX12_same 30 = .ok (.putfield 132, 3) := by decide +kernel
theorem dX12_same_33 : decode cX12_same 33 = .ok (.aload_n 0, 1) := by decide +kernel
theorem dX12_same_34 : decode cX12_same 34 = .ok (.aload_n 0, 1) := by decide +kernel
theorem dX12_same_35 : decode cX12_same 35 = .ok (.getfield 105, 3) := by decide +kernel
theorem dX12_same_38 : decode cX12_same 38 = .ok (.bipush 33, 2) := by decide +kernel
theorem dX12_same_40 : decode cX12_same 40 = .ok (.iload_n 1, 1) := by decide +kernel
theorem dX12_same_41 : decode cX12_same 41 = .ok (.imul, 1) := by decide +kernel
theorem dX12_same_42 : decode cX12_same 42 = .ok (.iaload, 1) := by decide +kernel
theorem dX12_same_43 : decode cX12_same 43 = .ok (.i2l, 1) := by decide +kernel
theorem dX12_same_44 : decode cX12_same 44 = .ok (.invokevirtual 231, 3) := by decide +kernel
theorem dX12_same_47 : decode cX12_same 47 = .ok (.aload_n 0, 1) := by decide +kernel
theorem dX12_same_48 : decode cX12_same 48 = .ok (.aload_n 0, 1) := by decide +kernel
theorem dX12_same_49 : decode cX12_same 49 = .ok (.getfield 9, 3) := by decide +kernel
theorem dX12_same_52 : decode cX12_same 52 = .ok (.iload_n 1, 1) := by decide +kernel
theorem dX12_same_53 : decode cX12_same 53 = .ok (.invokevirtual 485, 3) := by decide +kernel
theorem dX12_same_56 : decode cX12_same 56 = .ok (.ifCond .eq 7, 3) := by decide +kernel
theorem dX12_same_59 : decode cX12_same 59 = .ok (.iconst 1, 1) := by decide +kernel
theorem dX12_same_60 : decode cX12_same 60 = .ok (.goto 4, 3) := by decide +kernel
theorem dX12_same_63 : decode cX12_same 63 = .ok (.iconst 0, 1) := by decide +kernel
theorem dX12_same_64 : decode cX12_same 64 = .ok (.ireturn, 1) := by decide +kernel
theorem dX12_count_0 : decode cX12_count 0 = .ok (.aload_n 0, 1) := by decide +kernel
theorem dX12_count_1 : decode cX12_count 1 = .ok (.iconst 0, 1) := by decide +kernel
theorem dX12_count_2 : decode cX12_count 2 = .ok (.putfield 128, 3) := by decide +kernel
theorem dX12_count_5 : decode cX12_count 5 = .ok (.iload_n 1, 1) := by decide +kernel
theorem dX12_count_6 : decode cX12_count 6 = .ok (.tableswitch 73 0 5 #[38, 45, 53, 58, 63, 68], 38) := by decide +kernel
theorem dX12_count_44 : decode cX12_count 44 = .ok (.aload_n 0, 1) := by decide +kernel
theorem dX12_count_45 : decode cX12_count 45 = .ok (.getfield 9, 3) := by decide +kernel
theorem dX12_count_48 : decode cX12_count 48 = .ok (.iconst 0, 1) := by decide +kernel
theorem dX12_count_49 : decode cX12_count 49 = .ok (.iaload, 1) := by decide +kernel
theorem dX12_count_50 : decode cX12_count 50 = .ok (.ireturn, 1) := by decide +kernel
theorem dX12_count_51 : decode cX12_count 51 = .ok (.aload_n 0, 1) := by decide +kernel
theorem dX12_count_52 : decode cX12_count 52 = .ok (.getfield 9, 3) := by decide +kernel
theorem dX12_count_55 : decode cX12_count 55 = .ok (.invokestatic 235, 3) := by decide +kernel
theorem dX12_count_58 : decode cX12_count 58 = .ok (.ireturn, 1) := by decide +kernel
theorem dX12_count_59 : decode cX12_count 59 = .ok (.aload_n 0, 1) := by decide +kernel
theorem dX12_count_60 : decode cX12_count 60 = .ok (.getfield 437, 3) := by decide +kernel
theorem dX12_count_63 : decode cX12_count 63 = .ok (.ireturn, 1) := by decide +kernel
theorem dX12_count_64 : decode cX12_count 64 = .ok (.aload_n 0, 1) := by decide +kernel
theorem dX12_count_65 : decode cX12_count 65 = .ok (.getfield 498, 3) := by decide +kernel
theorem dX12_count_68 : decode cX12_count 68 = .ok (.ireturn, 1) := by decide +kernel
theorem dX12_count_69 : decode cX12_count 69 = .ok (.aload_n 0, 1) := by decide +kernel
theorem dX12_count_70 : decode cX12_count 70 = .ok (.getfield 132, 3) := by decide +kernel
theorem dX12_count_73 : decode cX12_count 73 = .ok (.ireturn, 1) := by decide +kernel
theorem dX12_count_74 : decode cX12_count 74 = .ok (.aload_n 0, 1) := by decide +kernel
theorem dX12_count_75 : decode cX12_count 75 = .ok (.getfield 176, 3) := by decide +kernel
theorem dX12_count_78 : decode cX12_count 78 = .ok (.ireturn, 1) := by decide +kernel
theorem dX12_count_79 : decode cX12_count 79 = .ok (.iconst (-1), 1) := by decide +kernel
theorem dX12_count_80 : decode cX12_count 80 = .ok (.ireturn, 1) := by decide +kernel
theorem dX12_row_0 : decode cX12_row 0 = .ok (.aload_n 0, 1) := by decide +kernel
theorem dX12_row_1 : decode cX12_row 1 = .ok (.iconst 0, 1) := by decide +kernel
theorem dX12_row_2 : decode cX12_row 2 = .ok (.putfield 128, 3) := by decide +kernel
theorem dX12_row_5 : decode cX12_row 5 = .ok (.iload_n 1, 1) := by decide +kernel
theorem dX12_row_6 : decode cX12_row 6 = .ok (.iconst 0, 1) := by decide +kernel
theorem dX12_row_7 : decode cX12_row 7 = .ok (.aload_n 0, 1) := by decide +kernel
theorem dX12_row_8 : decode cX12_row 8 = .ok (.getfield 132, 3) := by decide +kernel
theorem dX12_row_11 : decode cX12_row 11 = .ok (.iconst 1, 1) := by decide +kernel
theorem dX12_row_12 : decode cX12_row 12 = .ok (.isub, 1) := by decide +kernel
theorem dX12_row_13 : decode cX12_row 13 = .ok (.invokestatic 179, 3) := by decide +kernel
theorem dX12_row_16 : decode cX12_row 16 = .ok (.ifCond .eq 12, 3) := by decide +kernel
theorem dX12_row_19 : decode cX12_row 19 = .ok (.aload_n 0, 1) := by decide +kernel
theorem dX12_row_20 : decode cX12_row 20 = .ok (.getfield 17, 3) := by decide +kernel
theorem dX12_row_23 : decode cX12_row 23 = .ok (.iload_n 1, 1) := by decide +kernel
theorem dX12_row_24 : decode cX12_row 24 = .ok (.laload, 1) := by decide +kernel
theorem dX12_row_25 : decode cX12_row 25 = .ok (.goto 8, 3) := by decide +kernel
theorem dX12_row_28 : decode cX12_row 28 = .ok (.aload_n 0, 1) := by decide +kernel
theorem dX12_row_29 : decode cX12_row 29 = .ok (.invokevirtual 228, 3) := by decide +kernel
theorem dX12_row_32 : decode cX12_row 32 = .ok (.i2l, 1) := by decide +kernel
theorem dX12_row_33 : decode cX12_row 33 = .ok (.lreturn, 1) := by decide +kernel
theorem dJ6_bitCount_0f7a4_0 : decode cJ6_bitCount_0f7a4 0 = .ok (.iload_n 0, 1) := by decide +kernel
theorem dJ6_bitCount_0f7a4_1 : decode cJ6_bitCount_0f7a4 1 = .ok (.iload_n 0, 1) := by decide +kernel
theorem dJ6_bitCount_0f7a4_2 : decode cJ6_bitCount_0f7a4 2 = .ok (.iconst 1, 1) := by decide +kernel
theorem dJ6_bitCount_0f7a4_3 : decode cJ6_bitCount_0f7a4 3 = .ok (.iushr, 1) := by decide +kernel
theorem dJ6_bitCount_0f7a4_4 : decode cJ6_bitCount_0f7a4 4 = .ok (.ldc_w 265, 3) := by decide +kernel
theorem dJ6_bitCount_0f7a4_7 : decode cJ6_bitCount_0f7a4 7 = .ok (.iand, 1) := by decide +kernel
theorem dJ6_bitCount_0f7a4_8 : decode cJ6_bitCount_0f7a4 8 = .ok (.isub, 1) := by decide +kernel
theorem dJ6_bitCount_0f7a4_9 : decode cJ6_bitCount_0f7a4 9 = .ok (.istore_n 0, 1) := by decide +kernel
theorem dJ6_bitCount_0f7a4_10 : decode cJ6_bitCount_0f7a4 10 = .ok (.iload_n 0, 1) := by decide +kernel
theorem dJ6_bitCount_0f7a4_11 : decode cJ6_bitCount_0f7a4 11 = .ok (.ldc_w 266, 3) := by decide +kernel
theorem dJ6_bitCount_0f7a4_14 : decode cJ6_bitCount_0f7a4 14 = .ok (.iand, 1) := by decide +kernel
theorem dJ6_bitCount_0f7a4_15 : decode cJ6_bitCount_0f7a4 15 = .ok (.iload_n 0, 1) := by decide +kernel
theorem dJ6_bitCount_0f7a4_16 : decode cJ6_bitCount_0f7a4 16 = .ok (.iconst 2, 1) := by decide +kernel
theorem dJ6_bitCount_0f7a4_17 : decode cJ6_bitCount_0f7a4 17 = .ok (.iushr, 1) := by decide +kernel
theorem dJ6_bitCount_0f7a4_18 : decode cJ6_bitCount_0f7a4 18 = .ok (.ldc_w 266, 3) := by decide +kernel
theorem dJ6_bitCount_0f7a4_21 : decode cJ6_bitCount_0f7a4 21 = .ok (.iand, 1) := by decide +kernel
theorem dJ6_bitCount_0f7a4_22 : decode cJ6_bitCount_0f7a4 22 = .ok (.iadd, 1) := by decide +kernel
theorem dJ6_bitCount_0f7a4_23 : decode cJ6_bitCount_0f7a4 23 = .ok (.istore_n 0, 1) := by decide +kernel
theorem dJ6_bitCount_0f7a4_24 : decode cJ6_bitCount_0f7a4 24 = .ok (.iload_n 0, 1) := by decide +kernel
theorem dJ6_bitCount_0f7a4_25 : decode cJ6_bitCount_0f7a4 25 = .ok (.iload_n 0, 1) := by decide +kernel
theorem dJ6_bitCount_0f7a4_26 : decode cJ6_bitCount_0f7a4 26 = .ok (.iconst 4, 1) := by decide +kernel
theorem dJ6_bitCount_0f7a4_27 : decode cJ6_bitCount_0f7a4 27 = .ok (.iushr, 1) := by decide +kernel
theorem dJ6_bitCount_0f7a4_28 : decode cJ6_bitCount_0f7a4 28 = .ok (.iadd, 1) := by decide +kernel
theorem dJ6_bitCount_0f7a4_29 : decode cJ6_bitCount_0f7a4 29 = .ok (.ldc_w 267, 3) := by decide +kernel
theorem dJ6_bitCount_0f7a4_32 : decode cJ6_bitCount_0f7a4 32 = .ok (.iand, 1) := by decide +kernel
theorem dJ6_bitCount_0f7a4_33 : decode cJ6_bitCount_0f7a4 33 = .ok (.istore_n 0, 1) := by decide +kernel
theorem dJ6_bitCount_0f7a4_34 : decode cJ6_bitCount_0f7a4 34 = .ok (.iload_n 0, 1) := by decide +kernel
theorem dJ6_bitCount_0f7a4_35 : decode cJ6_bitCount_0f7a4 35 = .ok (.iload_n 0, 1) := by decide +kernel
theorem dJ6_bitCount_0f7a4_36 : decode cJ6_bitCount_0f7a4 36 = .ok (.bipush 8, 2) := by decide +kernel
theorem dJ6_bitCount_0f7a4_38 : decode cJ6_bitCount_0f7a4 38 = .ok (.iushr, 1) := by decide +kernel
theorem dJ6_bitCount_0f7a4_39 : decode cJ6_bitCount_0f7a4 39 = .ok (.iadd, 1) := by decide +kernel
theorem dJ6_bitCount_0f7a4_40 : decode cJ6_bitCount_0f7a4 40 = .ok (.istore_n 0, 1) := by decide +kernel
theorem dJ6_bitCount_0f7a4_41 : decode cJ6_bitCount_0f7a4 41 = .ok (.iload_n 0, 1) := by decide +kernel
theorem dJ6_bitCount_0f7a4_42 : decode cJ6_bitCount_0f7a4 42 = .ok (.iload_n 0, 1) := by decide +kernel
theorem dJ6_bitCount_0f7a4_43 : decode cJ6_bitCount_0f7a4 43 = .ok (.bipush 16, 2) := by decide +kernel
theorem dJ6_bitCount_0f7a4_45 : decode cJ6_bitCount_0f7a4 45 = .ok (.iushr, 1) := by decide +kernel
theorem dJ6_bitCount_0f7a4_46 : decode cJ6_bitCount_0f7a4 46 = .ok (.iadd, 1) := by decide +kernel
theorem dJ6_bitCount_0f7a4_47 : decode cJ6_bitCount_0f7a4 47 = .ok (.istore_n 0, 1) := by decide +kernel
theorem dJ6_bitCount_0f7a4_48 : decode cJ6_bitCount_0f7a4 48 = .ok (.iload_n 0, 1) := by decide +kernel
theorem dJ6_bitCount_0f7a4_49 : decode cJ6_bitCount_0f7a4 49 = .ok (.bipush 63, 2) := by decide +kernel
theorem dJ6_bitCount_0f7a4_51 : decode cJ6_bitCount_0f7a4 51 = .ok (.iand, 1) := by decide +kernel
theorem dJ6_bitCount_0f7a4_52 : decode cJ6_bitCount_0f7a4 52 = .ok (.ireturn, 1) := by decide +kernel
theorem dJ9_abs_0f7a4_0 : decode cJ9_abs_0f7a4 0 = .ok (.iload_n 0, 1) := by decide +kernel
theorem dJ9_abs_0f7a4_1 : decode cJ9_abs_0f7a4 1 = .ok (.ifCond .ge 8, 3) := by decide +kernel
theorem dJ9_abs_0f7a4_4 : decode cJ9_abs_0f7a4 4 = .ok (.iload_n 0, 1) := by decide +kernel
theorem dJ9_abs_0f7a4_5 : decode cJ9_abs_0f7a4 5 = .ok (.ineg, 1) := by decide +kernel
theorem dJ9_abs_0f7a4_6 : decode cJ9_abs_0f7a4 6 = .ok (.goto 4, 3) := by decide +kernel
theorem dJ9_abs_0f7a4_9 : decode cJ9_abs_0f7a4 9 = .ok (.iload_n 0, 1) := by decide +kernel
theorem dJ9_abs_0f7a4_10 : decode cJ9_abs_0f7a4 10 = .ok (.ireturn, 1) := by decide +kernel
theorem dJ9_abs_067f4_0 : decode cJ9_abs_067f4 0 = .ok (.lload_n 0, 1) := by decide +kernel
theorem dJ9_abs_067f4_1 : decode cJ9_abs_067f4 1 = .ok (.lconst 0, 1) := by decide +kernel
theorem dJ9_abs_067f4_2 : decode cJ9_abs_067f4 2 = .ok (.lcmp, 1) := by decide +kernel
theorem dJ9_abs_067f4_3 : decode cJ9_abs_067f4 3 = .ok (.ifCond .ge 8, 3) := by decide +kernel
theorem dJ9_abs_067f4_6 : decode cJ9_abs_067f4 6 = .ok (.lload_n 0, 1) := by decide +kernel
theorem dJ9_abs_067f4_7 : decode cJ9_abs_067f4 7 = .ok (.lneg, 1) := by decide +kernel
theorem dJ9_abs_067f4_8 : decode cJ9_abs_067f4 8 = .ok (.goto 4, 3) := by decide +kernel
theorem dJ9_abs_067f4_11 : decode cJ9_abs_067f4 11 = .ok (.lload_n 0, 1) := by decide +kernel
theorem dJ9_abs_067f4_12 : decode cJ9_abs_067f4 12 = .ok (.lreturn, 1) := by decide +kernel
theorem dJ9_max_7cf53_0 : decode cJ9_max_7cf53 0 = .ok (.iload_n 0, 1) := by decide +kernel
theorem dJ9_max_7cf53_1 : decode cJ9_max_7cf53 1 = .ok (.iload_n 1, 1) := by decide +kernel
theorem dJ9_max_7cf53_2 : decode cJ9_max_7cf53 2 = .ok (.if_icmp .lt 7, 3) := by decide +kernel
theorem dJ9_max_7cf53_5 : decode cJ9_max_7cf53 5 = .ok (.iload_n 0, 1) := by decide +kernel
theorem dJ9_max_7cf53_6 : decode cJ9_max_7cf53 6 = .ok (.goto 4, 3) := by decide +kernel
theorem dJ9_max_7cf53_9 : decode cJ9_max_7cf53 9 = .ok (.iload_n 1, 1) := by decide +kernel
theorem dJ9_max_7cf53_10 : decode cJ9_max_7cf53 10 = .ok (.ireturn, 1) := by decide +kernel
theorem dJ9_min_7cf53_0 : decode cJ9_min_7cf53 0 = .ok (.iload_n 0, 1) := by decide +kernel
theorem dJ9_min_7cf53_1 : decode cJ9_min_7cf53 1 = .ok (.iload_n 1, 1) := by decide +kernel
theorem dJ9_min_7cf53_2 : decode cJ9_min_7cf53 2 = .ok (.if_icmp .gt 7, 3) := by decide +kernel
theorem dJ9_min_7cf53_5 : decode cJ9_min_7cf53 5 = .ok (.iload_n 0, 1) := by decide +kernel
theorem dJ9_min_7cf53_6 : decode cJ9_min_7cf53 6 = .ok (.goto 4, 3) := by decide +kernel
theorem dJ9_min_7cf53_9 : decode cJ9_min_7cf53 9 = .ok (.iload_n 1, 1) := by decide +kernel
theorem dJ9_min_7cf53_10 : decode cJ9_min_7cf53 10 = .ok (.ireturn, 1) := by decide +kernel
theorem dJ7_fill_d0a16_0 : decode cJ7_fill_d0a16 0 = .ok (.iconst 0, 1) := by decide +kernel
theorem dJ7_fill_d0a16_1 : decode cJ7_fill_d0a16 1 = .ok (.istore_n 3, 1) := by decide +kernel
theorem dJ7_fill_d0a16_2 : decode cJ7_fill_d0a16 2 = .ok (.aload_n 0, 1) := by decide +kernel
theorem dJ7_fill_d0a16_3 : decode cJ7_fill_d0a16 3 = .ok (.arraylength, 1) := by decide +kernel
theorem dJ7_fill_d0a16_4 : decode cJ7_fill_d0a16 4 = .ok (.istore 4, 2) := by decide +kernel
theorem dJ7_fill_d0a16_6 : decode cJ7_fill_d0a16 6 = .ok (.iload_n 3, 1) := by decide +kernel
theorem dJ7_fill_d0a16_7 : decode cJ7_fill_d0a16 7 = .ok (.iload 4, 2) := by decide +kernel
theorem dJ7_fill_d0a16_9 : decode cJ7_fill_d0a16 9 = .ok (.if_icmp .ge 13, 3) := by decide +kernel
theorem dJ7_fill_d0a16_12 : decode cJ7_fill_d0a16 12 = .ok (.aload_n 0, 1) := by decide +kernel
theorem dJ7_fill_d0a16_13 : decode cJ7_fill_d0a16 13 = .ok (.iload_n 3, 1) := by decide +kernel
theorem dJ7_fill_d0a16_14 : decode cJ7_fill_d0a16 14 = .ok (.lload_n 1, 1) := by decide +kernel
theorem dJ7_fill_d0a16_15 : decode cJ7_fill_d0a16 15 = .ok (.lastore, 1) := by decide +kernel
theorem dJ7_fill_d0a16_16 : decode cJ7_fill_d0a16 16 = .ok (.iinc 3 1, 3) := by decide +kernel
theorem dJ7_fill_d0a16_19 : decode cJ7_fill_d0a16 19 = .ok (.goto (-13), 3) := by decide +kernel
theorem dJ7_fill_d0a16_22 : decode cJ7_fill_d0a16 22 = .ok (.return_, 1) := by decide +kernel
theorem dJ7_fill_53178_0 : decode cJ7_fill_53178 0 = .ok (.iconst 0, 1) := by decide +kernel
theorem dJ7_fill_53178_1 : decode cJ7_fill_53178 1 = .ok (.istore_n 2, 1) := by decide +kernel
theorem dJ7_fill_53178_2 : decode cJ7_fill_53178 2 = .ok (.aload_n 0, 1) := by decide +kernel
theorem dJ7_fill_53178_3 : decode cJ7_fill_53178 3 = .ok (.arraylength, 1) := by decide +kernel
theorem dJ7_fill_53178_4 : decode cJ7_fill_53178 4 = .ok (.istore_n 3, 1) := by decide +kernel
theorem dJ7_fill_53178_5 : decode cJ7_fill_53178 5 = .ok (.iload_n 2, 1) := by decide +kernel
theorem dJ7_fill_53178_6 : decode cJ7_fill_53178 6 = .ok (.iload_n 3, 1) := by decide +kernel
theorem dJ7_fill_53178_7 : decode cJ7_fill_53178 7 = .ok (.if_icmp .ge 13, 3) := by decide +kernel
theorem dJ7_fill_53178_10 : decode cJ7_fill_53178 10 = .ok (.aload_n 0, 1) := by decide +kernel
theorem dJ7_fill_53178_11 : decode cJ7_fill_53178 11 = .ok (.iload_n 2, 1) := by decide +kernel
theorem dJ7_fill_53178_12 : decode cJ7_fill_53178 12 = .ok (.iload_n 1, 1) := by decide +kernel
theorem dJ7_fill_53178_13 : decode cJ7_fill_53178 13 = .ok (.iastore, 1) := by decide +kernel
theorem dJ7_fill_53178_14 : decode cJ7_fill_53178 14 = .ok (.iinc 2 1, 3) := by decide +kernel
theorem dJ7_fill_53178_17 : decode cJ7_fill_53178 17 = .ok (.goto (-12), 3) := by decide +kernel
theorem dJ7_fill_53178_20 : decode cJ7_fill_53178 20 = .ok (.return_, 1) := by decide +kernel
theorem dL_glued_0 : decode cL_glued 0 = .ok (.aload 4, 2) := by decide +kernel
theorem dL_glued_2 : decode cL_glued 2 = .ok (.iconst 0, 1) := by decide +kernel
theorem dL_glued_3 : decode cL_glued 3 = .ok (.aload_n 0, 1) := by decide +kernel
theorem dL_glued_4 : decode cL_glued 4 = .ok (.iload_n 1, 1) := by decide +kernel
theorem dL_glued_5 : decode cL_glued 5 = .ok (.iload_n 2, 1) := by decide +kernel
theorem dL_glued_6 : decode cL_glued 6 = .ok (.iload_n 3, 1) := by decide +kernel
theorem dL_glued_7 : decode cL_glued 7 = .ok (.invokevirtual 7, 3) := by decide +kernel
theorem dL_glued_10 : decode cL_glued 10 = .ok (.i2l, 1) := by decide +kernel
theorem dL_glued_11 : decode cL_glued 11 = .ok (.lastore, 1) := by decide +kernel
theorem dL_glued_12 : decode cL_glued 12 = .ok (.goto 7, 3) := by decide +kernel
theorem dL_glued_15 : decode cL_glued 15 = .ok (.astore 5, 2) := by decide +kernel
theorem dL_glued_17 : decode cL_glued 17 = .ok (.iconst 1, 1) := by decide +kernel
theorem dL_glued_18 : decode cL_glued 18 = .ok (.ireturn, 1) := by decide +kernel
theorem dL_glued_19 : decode cL_glued 19 = .ok (.iconst 0, 1) := by decide +kernel
theorem dL_glued_20 : decode cL_glued 20 = .ok (.ireturn, 1) := by decide +kernel
theorem dL_row_0 : decode cL_row 0 = .ok (.aload_n 2, 1) := by decide +kernel
theorem dL_row_1 : decode cL_row 1 = .ok (.iconst 0, 1) := by decide +kernel
theorem dL_row_2 : decode cL_row 2 = .ok (.aload_n 0, 1) := by decide +kernel
theorem dL_row_3 : decode cL_row 3 = .ok (.iload_n 1, 1) := by decide +kernel
theorem dL_row_4 : decode cL_row 4 = .ok (.invokevirtual 15, 3) := by decide +kernel
theorem dL_row_7 : decode cL_row 7 = .ok (.lastore, 1) := by decide +kernel
theorem dL_row_8 : decode cL_row 8 = .ok (.goto 6, 3) := by decide +kernel
theorem dL_row_11 : decode cL_row 11 = .ok (.astore_n 3, 1) := by decide +kernel
theorem dL_row_12 : decode cL_row 12 = .ok (.iconst 1, 1) := by decide +kernel
theorem dL_row_13 : decode cL_row 13 = .ok (.ireturn, 1) := by decide +kernel
theorem dL_row_14 : decode cL_row 14 = .ok (.iconst 0, 1) := by decide +kernel
theorem dL_row_15 : decode cL_row 15 = .ok (.ireturn, 1) := by decide +kernel
theorem dL_law_0 : decode cL_law 0 = .ok (.new 8, 3) := by decide +kernel
theorem dL_law_3 : decode cL_law 3 = .ok (.dup, 1) := by decide +kernel
theorem dL_law_4 : decode cL_law 4 = .ok (.invokespecial 19, 3) := by decide +kernel
theorem dL_law_7 : decode cL_law 7 = .ok (.astore_n 1, 1) := by decide +kernel
theorem dL_law_8 : decode cL_law 8 = .ok (.new 20, 3) := by decide +kernel
theorem dL_law_11 : decode cL_law 11 = .ok (.dup, 1) := by decide +kernel
theorem dL_law_12 : decode cL_law 12 = .ok (.invokespecial 22, 3) := by decide +kernel
theorem dL_law_15 : decode cL_law 15 = .ok (.astore_n 2, 1) := by decide +kernel
theorem dL_law_16 : decode cL_law 16 = .ok (.iconst 1, 1) := by decide +kernel
theorem dL_law_17 : decode cL_law 17 = .ok (.newarray .long, 2) := by decide +kernel
theorem dL_law_19 : decode cL_law 19 = .ok (.astore_n 3, 1) := by decide +kernel
theorem dL_law_20 : decode cL_law 20 = .ok (.iconst 0, 1) := by decide +kernel
theorem dL_law_21 : decode cL_law 21 = .ok (.istore 4, 2) := by decide +kernel
theorem dL_law_23 : decode cL_law 23 = .ok (.iload 4, 2) := by decide +kernel
theorem dL_law_25 : decode cL_law 25 = .ok (.aload_n 0, 1) := by decide +kernel
theorem dL_law_26 : decode cL_law 26 = .ok (.arraylength, 1) := by decide +kernel
theorem dL_law_27 : decode cL_law 27 = .ok (.iconst 5, 1) := by decide +kernel
theorem dL_law_28 : decode cL_law 28 = .ok (.isub, 1) := by decide +kernel
theorem dL_law_29 : decode cL_law 29 = .ok (.if_icmp .gt 1105, 3) := by decide +kernel
theorem dL_law_32 : decode cL_law 32 = .ok (.aload_n 0, 1) := by decide +kernel
theorem dL_law_33 : decode cL_law 33 = .ok (.iload 4, 2) := by decide +kernel
theorem dL_law_35 : decode cL_law 35 = .ok (.iaload, 1) := by decide +kernel
theorem dL_law_36 : decode cL_law 36 = .ok (.bipush 63, 2) := by decide +kernel
theorem dL_law_38 : decode cL_law 38 = .ok (.iand, 1) := by decide +kernel
theorem dL_law_39 : decode cL_law 39 = .ok (.tableswitch 1089 0 34 #[153, 178, 203, 216, 296, 309, 370, 419, 456, 469, 482, 495, 508, 521, 534, 547, 584, 633, 658, 695, 708, 721, 734, 759, 772, 821, 858, 871, 908, 921, 934, 959, 984, 1009, 1034], 153) := by decide +kernel
theorem dL_law_192 : decode cL_law 192 = .ok (.aload_n 1, 1) := by decide +kernel
theorem dL_law_193 : decode cL_law 193 = .ok (.aload_n 0, 1) := by decide +kernel
theorem dL_law_194 : decode cL_law 194 = .ok (.iload 4, 2) := by decide +kernel
theorem dL_law_196 : decode cL_law 196 = .ok (.iconst 1, 1) := by decide +kernel
theorem dL_law_197 : decode cL_law 197 = .ok (.iadd, 1) := by decide +kernel
theorem dL_law_198 : decode cL_law 198 = .ok (.iaload, 1) := by decide +kernel
theorem dL_law_199 : decode cL_law 199 = .ok (.invokevirtual 23, 3) := by decide +kernel
theorem dL_law_202 : decode cL_law 202 = .ok (.aload_n 2, 1) := by decide +kernel
theorem dL_law_203 : decode cL_law 203 = .ok (.aload_n 0, 1) := by decide +kernel
theorem dL_law_204 : decode cL_law 204 = .ok (.iload 4, 2) := by decide +kernel
theorem dL_law_206 : decode cL_law 206 = .ok (.iconst 1, 1) := by decide +kernel
theorem dL_law_207 : decode cL_law 207 = .ok (.iadd, 1) := by decide +kernel
theorem dL_law_208 : decode cL_law 208 = .ok (.iaload, 1) := by decide +kernel
theorem dL_law_209 : decode cL_law 209 = .ok (.invokevirtual 27, 3) := by decide +kernel
theorem dL_law_212 : decode cL_law 212 = .ok (.if_icmp .eq 916, 3) := by decide +kernel
theorem dL_law_215 : decode cL_law 215 = .ok (.iconst 0, 1) := by decide +kernel
theorem dL_law_216 : decode cL_law 216 = .ok (.ireturn, 1) := by decide +kernel
theorem dL_law_217 : decode cL_law 217 = .ok (.aload_n 1, 1) := by decide +kernel
theorem dL_law_218 : decode cL_law 218 = .ok (.aload_n 0, 1) := by decide +kernel
theorem dL_law_219 : decode cL_law 219 = .ok (.iload 4, 2) := by decide +kernel
theorem dL_law_221 : decode cL_law 221 = .ok (.iconst 1, 1) := by decide +kernel
theorem dL_law_222 : decode cL_law 222 = .ok (.iadd, 1) := by decide +kernel
theorem dL_law_223 : decode cL_law 223 = .ok (.iaload, 1) := by decide +kernel
theorem dL_law_224 : decode cL_law 224 = .ok (.invokevirtual 28, 3) := by decide +kernel
theorem dL_law_227 : decode cL_law 227 = .ok (.aload_n 2, 1) := by decide +kernel
theorem dL_law_228 : decode cL_law 228 = .ok (.aload_n 0, 1) := by decide +kernel
theorem dL_law_229 : decode cL_law 229 = .ok (.iload 4, 2) := by decide +kernel
theorem dL_law_231 : decode cL_law 231 = .ok (.iconst 1, 1) := by decide +kernel
theorem dL_law_232 : decode cL_law 232 = .ok (.iadd, 1) := by decide +kernel
theorem dL_law_233 : decode cL_law 233 = .ok (.iaload, 1) := by decide +kernel
theorem dL_law_234 : decode cL_law 234 = .ok (.invokevirtual 32, 3) := by decide +kernel
theorem dL_law_237 : decode cL_law 237 = .ok (.if_icmp .eq 891, 3) := by decide +kernel
theorem dL_law_240 : decode cL_law 240 = .ok (.iconst 0, 1) := by decide +kernel
theorem dL_law_241 : decode cL_law 241 = .ok (.ireturn, 1) := by decide +kernel
theorem dL_law_242 : decode cL_law 242 = .ok (.aload_n 1, 1) := by decide +kernel
theorem dL_law_243 : decode cL_law 243 = .ok (.invokevirtual 33, 3) := by decide +kernel
theorem dL_law_246 : decode cL_law 246 = .ok (.aload_n 2, 1) := by decide +kernel
theorem dL_law_247 : decode cL_law 247 = .ok (.invokevirtual 37, 3) := by decide +kernel
theorem dL_law_250 : decode cL_law 250 = .ok (.if_icmp .eq 878, 3) := by decide +kernel
theorem dL_law_253 : decode cL_law 253 = .ok (.iconst 0, 1) := by decide +kernel
theorem dL_law_254 : decode cL_law 254 = .ok (.ireturn, 1) := by decide +kernel
theorem dL_law_255 : decode cL_law 255 = .ok (.aload_n 1, 1) := by decide +kernel
theorem dL_law_256 : decode cL_law 256 = .ok (.aload_n 0, 1) := by decide +kernel
theorem dL_law_257 : decode cL_law 257 = .ok (.iload 4, 2) := by decide +kernel
theorem dL_law_259 : decode cL_law 259 = .ok (.iconst 1, 1) := by decide +kernel
theorem dL_law_260 : decode cL_law 260 = .ok (.iadd, 1) := by decide +kernel
theorem dL_law_261 : decode cL_law 261 = .ok (.iaload, 1) := by decide +kernel
theorem dL_law_262 : decode cL_law 262 = .ok (.aload_n 0, 1) := by decide +kernel
theorem dL_law_263 : decode cL_law 263 = .ok (.iload 4, 2) := by decide +kernel
theorem dL_law_265 : decode cL_law 265 = .ok (.iconst 2, 1) := by decide +kernel
theorem dL_law_266 : decode cL_law 266 = .ok (.iadd, 1) := by decide +kernel
theorem dL_law_267 : decode cL_law 267 = .ok (.iaload, 1) := by decide +kernel
theorem dL_law_268 : decode cL_law 268 = .ok (.aload_n 0, 1) := by decide +kernel
theorem dL_law_269 : decode cL_law 269 = .ok (.iload 4, 2) := by decide +kernel
theorem dL_law_271 : decode cL_law 271 = .ok (.iconst 3, 1) := by decide +kernel
theorem dL_law_272 : decode cL_law 272 = .ok (.iadd, 1) := by decide +kernel
theorem dL_law_273 : decode cL_law 273 = .ok (.iaload, 1) := by decide +kernel
theorem dL_law_274 : decode cL_law 274 = .ok (.aload_n 3, 1) := by decide +kernel
theorem dL_law_275 : decode cL_law 275 = .ok (.invokestatic 38, 3) := by decide +kernel
theorem dL_law_278 : decode cL_law 278 = .ok (.istore 5, 2) := by decide +kernel
theorem dL_law_280 : decode cL_law 280 = .ok (.aload_n 2, 1) := by decide +kernel
theorem dL_law_281 : decode cL_law 281 = .ok (.aload_n 0, 1) := by decide +kernel
theorem dL_law_282 : decode cL_law 282 = .ok (.iload 4, 2) := by decide +kernel
theorem dL_law_284 : decode cL_law 284 = .ok (.iconst 1, 1) := by decide +kernel
theorem dL_law_285 : decode cL_law 285 = .ok (.iadd, 1) := by decide +kernel
theorem dL_law_286 : decode cL_law 286 = .ok (.iaload, 1) := by decide +kernel
theorem dL_law_287 : decode cL_law 287 = .ok (.aload_n 0, 1) := by decide +kernel
theorem dL_law_288 : decode cL_law 288 = .ok (.iload 4, 2) := by decide +kernel
theorem dL_law_290 : decode cL_law 290 = .ok (.iconst 2, 1) := by decide +kernel
theorem dL_law_291 : decode cL_law 291 = .ok (.iadd, 1) := by decide +kernel
theorem dL_law_292 : decode cL_law 292 = .ok (.iaload, 1) := by decide +kernel
theorem dL_law_293 : decode cL_law 293 = .ok (.aload_n 0, 1) := by decide +kernel
theorem dL_law_294 : decode cL_law 294 = .ok (.iload 4, 2) := by decide +kernel
theorem dL_law_296 : decode cL_law 296 = .ok (.iconst 3, 1) := by decide +kernel
theorem dL_law_297 : decode cL_law 297 = .ok (.iadd, 1) := by decide +kernel
theorem dL_law_298 : decode cL_law 298 = .ok (.iaload, 1) := by decide +kernel
theorem dL_law_299 : decode cL_law 299 = .ok (.invokevirtual 43, 3) := by decide +kernel
theorem dL_law_302 : decode cL_law 302 = .ok (.istore 6, 2) := by decide +kernel
theorem dL_law_304 : decode cL_law 304 = .ok (.aload_n 2, 1) := by decide +kernel
theorem dL_law_305 : decode cL_law 305 = .ok (.invokevirtual 44, 3) := by decide +kernel
theorem dL_law_308 : decode cL_law 308 = .ok (.iload 5, 2) := by decide +kernel
theorem dL_law_310 : decode cL_law 310 = .ok (.if_icmp .eq 5, 3) := by decide +kernel
theorem dL_law_313 : decode cL_law 313 = .ok (.iconst 0, 1) := by decide +kernel
theorem dL_law_314 : decode cL_law 314 = .ok (.ireturn, 1) := by decide +kernel
theorem dL_law_315 : decode cL_law 315 = .ok (.iload 5, 2) := by decide +kernel
theorem dL_law_317 : decode cL_law 317 = .ok (.ifCond .ne 15, 3) := by decide +kernel
theorem dL_law_320 : decode cL_law 320 = .ok (.aload_n 3, 1) := by decide +kernel
theorem dL_law_321 : decode cL_law 321 = .ok (.iconst 0, 1) := by decide +kernel
theorem dL_law_322 : decode cL_law 322 = .ok (.laload, 1) := by decide +kernel
theorem dL_law_323 : decode cL_law 323 = .ok (.iload 6, 2) := by decide +kernel
theorem dL_law_325 : decode cL_law 325 = .ok (.i2l, 1) := by decide +kernel
theorem dL_law_326 : decode cL_law 326 = .ok (.lcmp, 1) := by decide +kernel
theorem dL_law_327 : decode cL_law 327 = .ok (.ifCond .eq 5, 3) := by decide +kernel
theorem dL_law_330 : decode cL_law 330 = .ok (.iconst 0, 1) := by decide +kernel
theorem dL_law_331 : decode cL_law 331 = .ok (.ireturn, 1) := by decide +kernel
theorem dL_law_332 : decode cL_law 332 = .ok (.goto 796, 3) := by decide +kernel
theorem dL_law_335 : decode cL_law 335 = .ok (.aload_n 1, 1) := by decide +kernel
theorem dL_law_336 : decode cL_law 336 = .ok (.invokevirtual 47, 3) := by decide +kernel
theorem dL_law_339 : decode cL_law 339 = .ok (.aload_n 2, 1) := by decide +kernel
theorem dL_law_340 : decode cL_law 340 = .ok (.invokevirtual 50, 3) := by decide +kernel
theorem dL_law_343 : decode cL_law 343 = .ok (.if_icmp .eq 785, 3) := by decide +kernel
theorem dL_law_346 : decode cL_law 346 = .ok (.iconst 0, 1) := by decide +kernel
theorem dL_law_347 : decode cL_law 347 = .ok (.ireturn, 1) := by decide +kernel
theorem dL_law_348 : decode cL_law 348 = .ok (.aload_n 1, 1) := by decide +kernel
theorem dL_law_349 : decode cL_law 349 = .ok (.aload_n 0, 1) := by decide +kernel
theorem dL_law_350 : decode cL_law 350 = .ok (.iload 4, 2) := by decide +kernel
theorem dL_law_352 : decode cL_law 352 = .ok (.iconst 1, 1) := by decide +kernel
theorem dL_law_353 : decode cL_law 353 = .ok (.iadd, 1) := by decide +kernel
theorem dL_law_354 : decode cL_law 354 = .ok (.iaload, 1) := by decide +kernel
theorem dL_law_355 : decode cL_law 355 = .ok (.aload_n 0, 1) := by decide +kernel
theorem dL_law_356 : decode cL_law 356 = .ok (.iload 4, 2) := by decide +kernel
theorem dL_law_358 : decode cL_law 358 = .ok (.iconst 2, 1) := by decide +kernel
theorem dL_law_359 : decode cL_law 359 = .ok (.iadd, 1) := by decide +kernel
theorem dL_law_360 : decode cL_law 360 = .ok (.iaload, 1) := by decide +kernel
theorem dL_law_361 : decode cL_law 361 = .ok (.aload_n 0, 1) := by decide +kernel
theorem dL_law_362 : decode cL_law 362 = .ok (.iload 4, 2) := by decide +kernel
theorem dL_law_364 : decode cL_law 364 = .ok (.iconst 3, 1) := by decide +kernel
theorem dL_law_365 : decode cL_law 365 = .ok (.iadd, 1) := by decide +kernel
theorem dL_law_366 : decode cL_law 366 = .ok (.iaload, 1) := by decide +kernel
theorem dL_law_367 : decode cL_law 367 = .ok (.aload_n 0, 1) := by decide +kernel
theorem dL_law_368 : decode cL_law 368 = .ok (.iload 4, 2) := by decide +kernel
theorem dL_law_370 : decode cL_law 370 = .ok (.iconst 4, 1) := by decide +kernel
theorem dL_law_371 : decode cL_law 371 = .ok (.iadd, 1) := by decide +kernel
theorem dL_law_372 : decode cL_law 372 = .ok (.iaload, 1) := by decide +kernel
theorem dL_law_373 : decode cL_law 373 = .ok (.invokevirtual 51, 3) := by decide +kernel
theorem dL_law_376 : decode cL_law 376 = .ok (.aload_n 2, 1) := by decide +kernel
theorem dL_law_377 : decode cL_law 377 = .ok (.aload_n 0, 1) := by decide +kernel
theorem dL_law_378 : decode cL_law 378 = .ok (.iload 4, 2) := by decide +kernel
theorem dL_law_380 : decode cL_law 380 = .ok (.iconst 1, 1) := by decide +kernel
theorem dL_law_381 : decode cL_law 381 = .ok (.iadd, 1) := by decide +kernel
theorem dL_law_382 : decode cL_law 382 = .ok (.iaload, 1) := by decide +kernel
theorem dL_law_383 : decode cL_law 383 = .ok (.aload_n 0, 1) := by decide +kernel
theorem dL_law_384 : decode cL_law 384 = .ok (.iload 4, 2) := by decide +kernel
theorem dL_law_386 : decode cL_law 386 = .ok (.iconst 2, 1) := by decide +kernel
theorem dL_law_387 : decode cL_law 387 = .ok (.iadd, 1) := by decide +kernel
theorem dL_law_388 : decode cL_law 388 = .ok (.iaload, 1) := by decide +kernel
theorem dL_law_389 : decode cL_law 389 = .ok (.aload_n 0, 1) := by decide +kernel
theorem dL_law_390 : decode cL_law 390 = .ok (.iload 4, 2) := by decide +kernel
theorem dL_law_392 : decode cL_law 392 = .ok (.iconst 3, 1) := by decide +kernel
theorem dL_law_393 : decode cL_law 393 = .ok (.iadd, 1) := by decide +kernel
theorem dL_law_394 : decode cL_law 394 = .ok (.iaload, 1) := by decide +kernel
theorem dL_law_395 : decode cL_law 395 = .ok (.aload_n 0, 1) := by decide +kernel
theorem dL_law_396 : decode cL_law 396 = .ok (.iload 4, 2) := by decide +kernel
theorem dL_law_398 : decode cL_law 398 = .ok (.iconst 4, 1) := by decide +kernel
theorem dL_law_399 : decode cL_law 399 = .ok (.iadd, 1) := by decide +kernel
theorem dL_law_400 : decode cL_law 400 = .ok (.iaload, 1) := by decide +kernel
theorem dL_law_401 : decode cL_law 401 = .ok (.invokevirtual 55, 3) := by decide +kernel
theorem dL_law_404 : decode cL_law 404 = .ok (.if_icmp .eq 724, 3) := by decide +kernel
theorem dL_law_407 : decode cL_law 407 = .ok (.iconst 0, 1) := by decide +kernel
theorem dL_law_408 : decode cL_law 408 = .ok (.ireturn, 1) := by decide +kernel
theorem dL_law_409 : decode cL_law 409 = .ok (.aload_n 1, 1) := by decide +kernel
theorem dL_law_410 : decode cL_law 410 = .ok (.aload_n 0, 1) := by decide +kernel
theorem dL_law_411 : decode cL_law 411 = .ok (.iload 4, 2) := by decide +kernel
theorem dL_law_413 : decode cL_law 413 = .ok (.iconst 1, 1) := by decide +kernel
theorem dL_law_414 : decode cL_law 414 = .ok (.iadd, 1) := by decide +kernel
theorem dL_law_415 : decode cL_law 415 = .ok (.iaload, 1) := by decide +kernel
theorem dL_law_416 : decode cL_law 416 = .ok (.aload_n 0, 1) := by decide +kernel
theorem dL_law_417 : decode cL_law 417 = .ok (.iload 4, 2) := by decide +kernel
theorem dL_law_419 : decode cL_law 419 = .ok (.iconst 2, 1) := by decide +kernel
theorem dL_law_420 : decode cL_law 420 = .ok (.iadd, 1) := by decide +kernel
theorem dL_law_421 : decode cL_law 421 = .ok (.iaload, 1) := by decide +kernel
theorem dL_law_422 : decode cL_law 422 = .ok (.aload_n 0, 1) := by decide +kernel
theorem dL_law_423 : decode cL_law 423 = .ok (.iload 4, 2) := by decide +kernel
theorem dL_law_425 : decode cL_law 425 = .ok (.iconst 3, 1) := by decide +kernel
theorem dL_law_426 : decode cL_law 426 = .ok (.iadd, 1) := by decide +kernel
theorem dL_law_427 : decode cL_law 427 = .ok (.iaload, 1) := by decide +kernel
theorem dL_law_428 : decode cL_law 428 = .ok (.invokevirtual 56, 3) := by decide +kernel
theorem dL_law_431 : decode cL_law 431 = .ok (.aload_n 2, 1) := by decide +kernel
theorem dL_law_432 : decode cL_law 432 = .ok (.aload_n 0, 1) := by decide +kernel
theorem dL_law_433 : decode cL_law 433 = .ok (.iload 4, 2) := by decide +kernel
theorem dL_law_435 : decode cL_law 435 = .ok (.iconst 1, 1) := by decide +kernel
theorem dL_law_436 : decode cL_law 436 = .ok (.iadd, 1) := by decide +kernel
theorem dL_law_437 : decode cL_law 437 = .ok (.iaload, 1) := by decide +kernel
theorem dL_law_438 : decode cL_law 438 = .ok (.aload_n 0, 1) := by decide +kernel
theorem dL_law_439 : decode cL_law 439 = .ok (.iload 4, 2) := by decide +kernel
theorem dL_law_441 : decode cL_law 441 = .ok (.iconst 2, 1) := by decide +kernel
theorem dL_law_442 : decode cL_law 442 = .ok (.iadd, 1) := by decide +kernel
theorem dL_law_443 : decode cL_law 443 = .ok (.iaload, 1) := by decide +kernel
theorem dL_law_444 : decode cL_law 444 = .ok (.aload_n 0, 1) := by decide +kernel
theorem dL_law_445 : decode cL_law 445 = .ok (.iload 4, 2) := by decide +kernel
theorem dL_law_447 : decode cL_law 447 = .ok (.iconst 3, 1) := by decide +kernel
theorem dL_law_448 : decode cL_law 448 = .ok (.iadd, 1) := by decide +kernel
theorem dL_law_449 : decode cL_law 449 = .ok (.iaload, 1) := by decide +kernel
theorem dL_law_450 : decode cL_law 450 = .ok (.invokevirtual 59, 3) := by decide +kernel
theorem dL_law_453 : decode cL_law 453 = .ok (.if_icmp .eq 675, 3) := by decide +kernel
theorem dL_law_456 : decode cL_law 456 = .ok (.iconst 0, 1) := by decide +kernel
theorem dL_law_457 : decode cL_law 457 = .ok (.ireturn, 1) := by decide +kernel
theorem dL_law_458 : decode cL_law 458 = .ok (.aload_n 1, 1) := by decide +kernel
theorem dL_law_459 : decode cL_law 459 = .ok (.aload_n 0, 1) := by decide +kernel
theorem dL_law_460 : decode cL_law 460 = .ok (.iload 4, 2) := by decide +kernel
theorem dL_law_462 : decode cL_law 462 = .ok (.iconst 1, 1) := by decide +kernel
theorem dL_law_463 : decode cL_law 463 = .ok (.iadd, 1) := by decide +kernel
theorem dL_law_464 : decode cL_law 464 = .ok (.iaload, 1) := by decide +kernel
theorem dL_law_465 : decode cL_law 465 = .ok (.aload_n 0, 1) := by decide +kernel
theorem dL_law_466 : decode cL_law 466 = .ok (.iload 4, 2) := by decide +kernel
theorem dL_law_468 : decode cL_law 468 = .ok (.iconst 2, 1) := by decide +kernel
theorem dL_law_469 : decode cL_law 469 = .ok (.iadd, 1) := by decide +kernel
theorem dL_law_470 : decode cL_law 470 = .ok (.iaload, 1) := by decide +kernel
theorem dL_law_471 : decode cL_law 471 = .ok (.invokevirtual 60, 3) := by decide +kernel
theorem dL_law_474 : decode cL_law 474 = .ok (.aload_n 2, 1) := by decide +kernel
theorem dL_law_475 : decode cL_law 475 = .ok (.aload_n 0, 1) := by decide +kernel
theorem dL_law_476 : decode cL_law 476 = .ok (.iload 4, 2) := by decide +kernel
theorem dL_law_478 : decode cL_law 478 = .ok (.iconst 1, 1) := by decide +kernel
theorem dL_law_479 : decode cL_law 479 = .ok (.iadd, 1) := by decide +kernel
theorem dL_law_480 : decode cL_law 480 = .ok (.iaload, 1) := by decide +kernel
theorem dL_law_481 : decode cL_law 481 = .ok (.aload_n 0, 1) := by decide +kernel
theorem dL_law_482 : decode cL_law 482 = .ok (.iload 4, 2) := by decide +kernel
theorem dL_law_484 : decode cL_law 484 = .ok (.iconst 2, 1) := by decide +kernel
theorem dL_law_485 : decode cL_law 485 = .ok (.iadd, 1) := by decide +kernel
theorem dL_law_486 : decode cL_law 486 = .ok (.iaload, 1) := by decide +kernel
theorem dL_law_487 : decode cL_law 487 = .ok (.invokevirtual 64, 3) := by decide +kernel
theorem dL_law_490 : decode cL_law 490 = .ok (.if_icmp .eq 638, 3) := by decide +kernel
theorem dL_law_493 : decode cL_law 493 = .ok (.iconst 0, 1) := by decide +kernel
theorem dL_law_494 : decode cL_law 494 = .ok (.ireturn, 1) := by decide +kernel
theorem dL_law_495 : decode cL_law 495 = .ok (.aload_n 1, 1) := by decide +kernel
theorem dL_law_496 : decode cL_law 496 = .ok (.invokevirtual 65, 3) := by decide +kernel
theorem dL_law_499 : decode cL_law 499 = .ok (.aload_n 2, 1) := by decide +kernel
theorem dL_law_500 : decode cL_law 500 = .ok (.invokevirtual 68, 3) := by decide +kernel
theorem dL_law_503 : decode cL_law 503 = .ok (.if_icmp .eq 625, 3) := by decide +kernel
theorem dL_law_506 : decode cL_law 506 = .ok (.iconst 0, 1) := by decide +kernel
theorem dL_law_507 : decode cL_law 507 = .ok (.ireturn, 1) := by decide +kernel
theorem dL_law_508 : decode cL_law 508 = .ok (.aload_n 1, 1) := by decide +kernel
theorem dL_law_509 : decode cL_law 509 = .ok (.invokevirtual 69, 3) := by decide +kernel
theorem dL_law_512 : decode cL_law 512 = .ok (.aload_n 2, 1) := by decide +kernel
theorem dL_law_513 : decode cL_law 513 = .ok (.invokevirtual 72, 3) := by decide +kernel
theorem dL_law_516 : decode cL_law 516 = .ok (.if_icmp .eq 612, 3) := by decide +kernel
theorem dL_law_519 : decode cL_law 519 = .ok (.iconst 0, 1) := by decide +kernel
theorem dL_law_520 : decode cL_law 520 = .ok (.ireturn, 1) := by decide +kernel
theorem dL_law_521 : decode cL_law 521 = .ok (.aload_n 1, 1) := by decide +kernel
theorem dL_law_522 : decode cL_law 522 = .ok (.invokevirtual 73, 3) := by decide +kernel
theorem dL_law_525 : decode cL_law 525 = .ok (.aload_n 2, 1) := by decide +kernel
theorem dL_law_526 : decode cL_law 526 = .ok (.invokevirtual 76, 3) := by decide +kernel
theorem dL_law_529 : decode cL_law 529 = .ok (.if_icmp .eq 599, 3) := by decide +kernel
theorem dL_law_532 : decode cL_law 532 = .ok (.iconst 0, 1) := by decide +kernel
theorem dL_law_533 : decode cL_law 533 = .ok (.ireturn, 1) := by decide +kernel
theorem dL_law_534 : decode cL_law 534 = .ok (.aload_n 1, 1) := by decide +kernel
theorem dL_law_535 : decode cL_law 535 = .ok (.invokevirtual 77, 3) := by decide +kernel
theorem dL_law_538 : decode cL_law 538 = .ok (.aload_n 2, 1) := by decide +kernel
theorem dL_law_539 : decode cL_law 539 = .ok (.invokevirtual 80, 3) := by decide +kernel
theorem dL_law_542 : decode cL_law 542 = .ok (.if_icmp .eq 586, 3) := by decide +kernel
theorem dL_law_545 : decode cL_law 545 = .ok (.iconst 0, 1) := by decide +kernel
theorem dL_law_546 : decode cL_law 546 = .ok (.ireturn, 1) := by decide +kernel
theorem dL_law_547 : decode cL_law 547 = .ok (.aload_n 1, 1) := by decide +kernel
theorem dL_law_548 : decode cL_law 548 = .ok (.invokevirtual 81, 3) := by decide +kernel
theorem dL_law_551 : decode cL_law 551 = .ok (.aload_n 2, 1) := by decide +kernel
theorem dL_law_552 : decode cL_law 552 = .ok (.invokevirtual 84, 3) := by decide +kernel
theorem dL_law_555 : decode cL_law 555 = .ok (.if_icmp .eq 573, 3) := by decide +kernel
theorem dL_law_558 : decode cL_law 558 = .ok (.iconst 0, 1) := by decide +kernel
theorem dL_law_559 : decode cL_law 559 = .ok (.ireturn, 1) := by decide +kernel
theorem dL_law_560 : decode cL_law 560 = .ok (.aload_n 1, 1) := by decide +kernel
theorem dL_law_561 : decode cL_law 561 = .ok (.invokevirtual 85, 3) := by decide +kernel
theorem dL_law_564 : decode cL_law 564 = .ok (.aload_n 2, 1) := by decide +kernel
theorem dL_law_565 : decode cL_law 565 = .ok (.invokevirtual 88, 3) := by decide +kernel
theorem dL_law_568 : decode cL_law 568 = .ok (.if_icmp .eq 560, 3) := by decide +kernel
theorem dL_law_571 : decode cL_law 571 = .ok (.iconst 0, 1) := by decide +kernel
theorem dL_law_572 : decode cL_law 572 = .ok (.ireturn, 1) := by decide +kernel
theorem dL_law_573 : decode cL_law 573 = .ok (.aload_n 1, 1) := by decide +kernel
theorem dL_law_574 : decode cL_law 574 = .ok (.invokevirtual 89, 3) := by decide +kernel
theorem dL_law_577 : decode cL_law 577 = .ok (.aload_n 2, 1) := by decide +kernel
theorem dL_law_578 : decode cL_law 578 = .ok (.invokevirtual 92, 3) := by decide +kernel
theorem dL_law_581 : decode cL_law 581 = .ok (.if_icmp .eq 547, 3) := by decide +kernel
theorem dL_law_584 : decode cL_law 584 = .ok (.iconst 0, 1) := by decide +kernel
theorem dL_law_585 : decode cL_law 585 = .ok (.ireturn, 1) := by decide +kernel
theorem dL_law_586 : decode cL_law 586 = .ok (.aload_n 1, 1) := by decide +kernel
theorem dL_law_587 : decode cL_law 587 = .ok (.aload_n 0, 1) := by decide +kernel
theorem dL_law_588 : decode cL_law 588 = .ok (.iload 4, 2) := by decide +kernel
theorem dL_law_590 : decode cL_law 590 = .ok (.iconst 1, 1) := by decide +kernel
theorem dL_law_591 : decode cL_law 591 = .ok (.iadd, 1) := by decide +kernel
theorem dL_law_592 : decode cL_law 592 = .ok (.iaload, 1) := by decide +kernel
theorem dL_law_593 : decode cL_law 593 = .ok (.aload_n 0, 1) := by decide +kernel
theorem dL_law_594 : decode cL_law 594 = .ok (.iload 4, 2) := by decide +kernel
theorem dL_law_596 : decode cL_law 596 = .ok (.iconst 2, 1) := by decide +kernel
theorem dL_law_597 : decode cL_law 597 = .ok (.iadd, 1) := by decide +kernel
theorem dL_law_598 : decode cL_law 598 = .ok (.iaload, 1) := by decide +kernel
theorem dL_law_599 : decode cL_law 599 = .ok (.invokevirtual 93, 3) := by decide +kernel
theorem dL_law_602 : decode cL_law 602 = .ok (.aload_n 2, 1) := by decide +kernel
theorem dL_law_603 : decode cL_law 603 = .ok (.aload_n 0, 1) := by decide +kernel
theorem dL_law_604 : decode cL_law 604 = .ok (.iload 4, 2) := by decide +kernel
theorem dL_law_606 : decode cL_law 606 = .ok (.iconst 1, 1) := by decide +kernel
theorem dL_law_607 : decode cL_law 607 = .ok (.iadd, 1) := by decide +kernel
theorem dL_law_608 : decode cL_law 608 = .ok (.iaload, 1) := by decide +kernel
theorem dL_law_609 : decode cL_law 609 = .ok (.aload_n 0, 1) := by decide +kernel
theorem dL_law_610 : decode cL_law 610 = .ok (.iload 4, 2) := by decide +kernel
theorem dL_law_612 : decode cL_law 612 = .ok (.iconst 2, 1) := by decide +kernel
theorem dL_law_613 : decode cL_law 613 = .ok (.iadd, 1) := by decide +kernel
theorem dL_law_614 : decode cL_law 614 = .ok (.iaload, 1) := by decide +kernel
theorem dL_law_615 : decode cL_law 615 = .ok (.invokevirtual 96, 3) := by decide +kernel
theorem dL_law_618 : decode cL_law 618 = .ok (.if_icmp .eq 510, 3) := by decide +kernel
theorem dL_law_621 : decode cL_law 621 = .ok (.iconst 0, 1) := by decide +kernel
theorem dL_law_622 : decode cL_law 622 = .ok (.ireturn, 1) := by decide +kernel
theorem dL_law_623 : decode cL_law 623 = .ok (.aload_n 1, 1) := by decide +kernel
theorem dL_law_624 : decode cL_law 624 = .ok (.aload_n 0, 1) := by decide +kernel
theorem dL_law_625 : decode cL_law 625 = .ok (.iload 4, 2) := by decide +kernel
theorem dL_law_627 : decode cL_law 627 = .ok (.iconst 1, 1) := by decide +kernel
theorem dL_law_628 : decode cL_law 628 = .ok (.iadd, 1) := by decide +kernel
theorem dL_law_629 : decode cL_law 629 = .ok (.iaload, 1) := by decide +kernel
theorem dL_law_630 : decode cL_law 630 = .ok (.aload_n 0, 1) := by decide +kernel
theorem dL_law_631 : decode cL_law 631 = .ok (.iload 4, 2) := by decide +kernel
theorem dL_law_633 : decode cL_law 633 = .ok (.iconst 2, 1) := by decide +kernel
theorem dL_law_634 : decode cL_law 634 = .ok (.iadd, 1) := by decide +kernel
theorem dL_law_635 : decode cL_law 635 = .ok (.iaload, 1) := by decide +kernel
theorem dL_law_636 : decode cL_law 636 = .ok (.aload_n 0, 1) := by decide +kernel
theorem dL_law_637 : decode cL_law 637 = .ok (.iload 4, 2) := by decide +kernel
theorem dL_law_639 : decode cL_law 639 = .ok (.iconst 3, 1) := by decide +kernel
theorem dL_law_640 : decode cL_law 640 = .ok (.iadd, 1) := by decide +kernel
theorem dL_law_641 : decode cL_law 641 = .ok (.iaload, 1) := by decide +kernel
theorem dL_law_642 : decode cL_law 642 = .ok (.invokevirtual 97, 3) := by decide +kernel
theorem dL_law_645 : decode cL_law 645 = .ok (.aload_n 2, 1) := by decide +kernel
theorem dL_law_646 : decode cL_law 646 = .ok (.aload_n 0, 1) := by decide +kernel
theorem dL_law_647 : decode cL_law 647 = .ok (.iload 4, 2) := by decide +kernel
theorem dL_law_649 : decode cL_law 649 = .ok (.iconst 1, 1) := by decide +kernel
theorem dL_law_650 : decode cL_law 650 = .ok (.iadd, 1) := by decide +kernel
theorem dL_law_651 : decode cL_law 651 = .ok (.iaload, 1) := by decide +kernel
theorem dL_law_652 : decode cL_law 652 = .ok (.aload_n 0, 1) := by decide +kernel
theorem dL_law_653 : decode cL_law 653 = .ok (.iload 4, 2) := by decide +kernel
theorem dL_law_655 : decode cL_law 655 = .ok (.iconst 2, 1) := by decide +kernel
theorem dL_law_656 : decode cL_law 656 = .ok (.iadd, 1) := by decide +kernel
theorem dL_law_657 : decode cL_law 657 = .ok (.iaload, 1) := by decide +kernel
theorem dL_law_658 : decode cL_law 658 = .ok (.aload_n 0, 1) := by decide +kernel
theorem dL_law_659 : decode cL_law 659 = .ok (.iload 4, 2) := by decide +kernel
theorem dL_law_661 : decode cL_law 661 = .ok (.iconst 3, 1) := by decide +kernel
theorem dL_law_662 : decode cL_law 662 = .ok (.iadd, 1) := by decide +kernel
theorem dL_law_663 : decode cL_law 663 = .ok (.iaload, 1) := by decide +kernel
theorem dL_law_664 : decode cL_law 664 = .ok (.invokevirtual 100, 3) := by decide +kernel
theorem dL_law_667 : decode cL_law 667 = .ok (.if_icmp .eq 461, 3) := by decide +kernel
theorem dL_law_670 : decode cL_law 670 = .ok (.iconst 0, 1) := by decide +kernel
theorem dL_law_671 : decode cL_law 671 = .ok (.ireturn, 1) := by decide +kernel
theorem dL_law_672 : decode cL_law 672 = .ok (.aload_n 1, 1) := by decide +kernel
theorem dL_law_673 : decode cL_law 673 = .ok (.aload_n 0, 1) := by decide +kernel
theorem dL_law_674 : decode cL_law 674 = .ok (.iload 4, 2) := by decide +kernel
theorem dL_law_676 : decode cL_law 676 = .ok (.iconst 1, 1) := by decide +kernel
theorem dL_law_677 : decode cL_law 677 = .ok (.iadd, 1) := by decide +kernel
theorem dL_law_678 : decode cL_law 678 = .ok (.iaload, 1) := by decide +kernel
theorem dL_law_679 : decode cL_law 679 = .ok (.invokevirtual 101, 3) := by decide +kernel
theorem dL_law_682 : decode cL_law 682 = .ok (.aload_n 2, 1) := by decide +kernel
theorem dL_law_683 : decode cL_law 683 = .ok (.aload_n 0, 1) := by decide +kernel
theorem dL_law_684 : decode cL_law 684 = .ok (.iload 4, 2) := by decide +kernel
theorem dL_law_686 : decode cL_law 686 = .ok (.iconst 1, 1) := by decide +kernel
theorem dL_law_687 : decode cL_law 687 = .ok (.iadd, 1) := by decide +kernel
theorem dL_law_688 : decode cL_law 688 = .ok (.iaload, 1) := by decide +kernel
theorem dL_law_689 : decode cL_law 689 = .ok (.invokevirtual 104, 3) := by decide +kernel
theorem dL_law_692 : decode cL_law 692 = .ok (.if_icmp .eq 436, 3) := by decide +kernel
theorem dL_law_695 : decode cL_law 695 = .ok (.iconst 0, 1) := by decide +kernel
theorem dL_law_696 : decode cL_law 696 = .ok (.ireturn, 1) := by decide +kernel
theorem dL_law_697 : decode cL_law 697 = .ok (.aload_n 1, 1) := by decide +kernel
theorem dL_law_698 : decode cL_law 698 = .ok (.aload_n 0, 1) := by decide +kernel
theorem dL_law_699 : decode cL_law 699 = .ok (.iload 4, 2) := by decide +kernel
theorem dL_law_701 : decode cL_law 701 = .ok (.iconst 1, 1) := by decide +kernel
theorem dL_law_702 : decode cL_law 702 = .ok (.iadd, 1) := by decide +kernel
theorem dL_law_703 : decode cL_law 703 = .ok (.iaload, 1) := by decide +kernel
theorem dL_law_704 : decode cL_law 704 = .ok (.aload_n 0, 1) := by decide +kernel
theorem dL_law_705 : decode cL_law 705 = .ok (.iload 4, 2) := by decide +kernel
theorem dL_law_707 : decode cL_law 707 = .ok (.iconst 2, 1) := by decide +kernel
theorem dL_law_708 : decode cL_law 708 = .ok (.iadd, 1) := by decide +kernel
theorem dL_law_709 : decode cL_law 709 = .ok (.iaload, 1) := by decide +kernel
theorem dL_law_710 : decode cL_law 710 = .ok (.invokevirtual 105, 3) := by decide +kernel
theorem dL_law_713 : decode cL_law 713 = .ok (.aload_n 2, 1) := by decide +kernel
theorem dL_law_714 : decode cL_law 714 = .ok (.aload_n 0, 1) := by decide +kernel
theorem dL_law_715 : decode cL_law 715 = .ok (.iload 4, 2) := by decide +kernel
theorem dL_law_717 : decode cL_law 717 = .ok (.iconst 1, 1) := by decide +kernel
theorem dL_law_718 : decode cL_law 718 = .ok (.iadd, 1) := by decide +kernel
theorem dL_law_719 : decode cL_law 719 = .ok (.iaload, 1) := by decide +kernel
theorem dL_law_720 : decode cL_law 720 = .ok (.aload_n 0, 1) := by decide +kernel
theorem dL_law_721 : decode cL_law 721 = .ok (.iload 4, 2) := by decide +kernel
theorem dL_law_723 : decode cL_law 723 = .ok (.iconst 2, 1) := by decide +kernel
theorem dL_law_724 : decode cL_law 724 = .ok (.iadd, 1) := by decide +kernel
theorem dL_law_725 : decode cL_law 725 = .ok (.iaload, 1) := by decide +kernel
theorem dL_law_726 : decode cL_law 726 = .ok (.invokevirtual 108, 3) := by decide +kernel
theorem dL_law_729 : decode cL_law 729 = .ok (.if_icmp .eq 399, 3) := by decide +kernel
theorem dL_law_732 : decode cL_law 732 = .ok (.iconst 0, 1) := by decide +kernel
theorem dL_law_733 : decode cL_law 733 = .ok (.ireturn, 1) := by decide +kernel
theorem dL_law_734 : decode cL_law 734 = .ok (.aload_n 1, 1) := by decide +kernel
theorem dL_law_735 : decode cL_law 735 = .ok (.invokevirtual 109, 3) := by decide +kernel
theorem dL_law_738 : decode cL_law 738 = .ok (.aload_n 2, 1) := by decide +kernel
theorem dL_law_739 : decode cL_law 739 = .ok (.invokevirtual 112, 3) := by decide +kernel
theorem dL_law_742 : decode cL_law 742 = .ok (.if_icmp .eq 386, 3) := by decide +kernel
theorem dL_law_745 : decode cL_law 745 = .ok (.iconst 0, 1) := by decide +kernel
theorem dL_law_746 : decode cL_law 746 = .ok (.ireturn, 1) := by decide +kernel
theorem dL_law_747 : decode cL_law 747 = .ok (.aload_n 1, 1) := by decide +kernel
theorem dL_law_748 : decode cL_law 748 = .ok (.invokevirtual 113, 3) := by decide +kernel
theorem dL_law_751 : decode cL_law 751 = .ok (.aload_n 2, 1) := by decide +kernel
theorem dL_law_752 : decode cL_law 752 = .ok (.invokevirtual 116, 3) := by decide +kernel
theorem dL_law_755 : decode cL_law 755 = .ok (.if_icmp .eq 373, 3) := by decide +kernel
theorem dL_law_758 : decode cL_law 758 = .ok (.iconst 0, 1) := by decide +kernel
theorem dL_law_759 : decode cL_law 759 = .ok (.ireturn, 1) := by decide +kernel
theorem dL_law_760 : decode cL_law 760 = .ok (.aload_n 1, 1) := by decide +kernel
theorem dL_law_761 : decode cL_law 761 = .ok (.invokevirtual 117, 3) := by decide +kernel
theorem dL_law_764 : decode cL_law 764 = .ok (.aload_n 2, 1) := by decide +kernel
theorem dL_law_765 : decode cL_law 765 = .ok (.invokevirtual 120, 3) := by decide +kernel
theorem dL_law_768 : decode cL_law 768 = .ok (.if_icmp .eq 360, 3) := by decide +kernel
theorem dL_law_771 : decode cL_law 771 = .ok (.iconst 0, 1) := by decide +kernel
theorem dL_law_772 : decode cL_law 772 = .ok (.ireturn, 1) := by decide +kernel
theorem dL_law_773 : decode cL_law 773 = .ok (.aload_n 1, 1) := by decide +kernel
theorem dL_law_774 : decode cL_law 774 = .ok (.aload_n 0, 1) := by decide +kernel
theorem dL_law_775 : decode cL_law 775 = .ok (.iload 4, 2) := by decide +kernel
theorem dL_law_777 : decode cL_law 777 = .ok (.iconst 1, 1) := by decide +kernel
theorem dL_law_778 : decode cL_law 778 = .ok (.iadd, 1) := by decide +kernel
theorem dL_law_779 : decode cL_law 779 = .ok (.iaload, 1) := by decide +kernel
theorem dL_law_780 : decode cL_law 780 = .ok (.invokevirtual 121, 3) := by decide +kernel
theorem dL_law_783 : decode cL_law 783 = .ok (.aload_n 2, 1) := by decide +kernel
theorem dL_law_784 : decode cL_law 784 = .ok (.aload_n 0, 1) := by decide +kernel
theorem dL_law_785 : decode cL_law 785 = .ok (.iload 4, 2) := by decide +kernel
theorem dL_law_787 : decode cL_law 787 = .ok (.iconst 1, 1) := by decide +kernel
theorem dL_law_788 : decode cL_law 788 = .ok (.iadd, 1) := by decide +kernel
theorem dL_law_789 : decode cL_law 789 = .ok (.iaload, 1) := by decide +kernel
theorem dL_law_790 : decode cL_law 790 = .ok (.invokevirtual 124, 3) := by decide +kernel
theorem dL_law_793 : decode cL_law 793 = .ok (.if_icmp .eq 335, 3) := by decide +kernel
theorem dL_law_796 : decode cL_law 796 = .ok (.iconst 0, 1) := by decide +kernel
theorem dL_law_797 : decode cL_law 797 = .ok (.ireturn, 1) := by decide +kernel
theorem dL_law_798 : decode cL_law 798 = .ok (.aload_n 1, 1) := by decide +kernel
theorem dL_law_799 : decode cL_law 799 = .ok (.invokevirtual 125, 3) := by decide +kernel
theorem dL_law_802 : decode cL_law 802 = .ok (.aload_n 2, 1) := by decide +kernel
theorem dL_law_803 : decode cL_law 803 = .ok (.invokevirtual 128, 3) := by decide +kernel
theorem dL_law_806 : decode cL_law 806 = .ok (.if_icmp .eq 322, 3) := by decide +kernel
theorem dL_law_809 : decode cL_law 809 = .ok (.iconst 0, 1) := by decide +kernel
theorem dL_law_810 : decode cL_law 810 = .ok (.ireturn, 1) := by decide +kernel
theorem dL_law_811 : decode cL_law 811 = .ok (.aload_n 1, 1) := by decide +kernel
theorem dL_law_812 : decode cL_law 812 = .ok (.aload_n 0, 1) := by decide +kernel
theorem dL_law_813 : decode cL_law 813 = .ok (.iload 4, 2) := by decide +kernel
theorem dL_law_815 : decode cL_law 815 = .ok (.iconst 1, 1) := by decide +kernel
theorem dL_law_816 : decode cL_law 816 = .ok (.iadd, 1) := by decide +kernel
theorem dL_law_817 : decode cL_law 817 = .ok (.iaload, 1) := by decide +kernel
theorem dL_law_818 : decode cL_law 818 = .ok (.aload_n 0, 1) := by decide +kernel
theorem dL_law_819 : decode cL_law 819 = .ok (.iload 4, 2) := by decide +kernel
theorem dL_law_821 : decode cL_law 821 = .ok (.iconst 2, 1) := by decide +kernel
theorem dL_law_822 : decode cL_law 822 = .ok (.iadd, 1) := by decide +kernel
theorem dL_law_823 : decode cL_law 823 = .ok (.iaload, 1) := by decide +kernel
theorem dL_law_824 : decode cL_law 824 = .ok (.aload_n 0, 1) := by decide +kernel
theorem dL_law_825 : decode cL_law 825 = .ok (.iload 4, 2) := by decide +kernel
theorem dL_law_827 : decode cL_law 827 = .ok (.iconst 3, 1) := by decide +kernel
theorem dL_law_828 : decode cL_law 828 = .ok (.iadd, 1) := by decide +kernel
theorem dL_law_829 : decode cL_law 829 = .ok (.iaload, 1) := by decide +kernel
theorem dL_law_830 : decode cL_law 830 = .ok (.invokevirtual 129, 3) := by decide +kernel
theorem dL_law_833 : decode cL_law 833 = .ok (.aload_n 2, 1) := by decide +kernel
theorem dL_law_834 : decode cL_law 834 = .ok (.aload_n 0, 1) := by decide +kernel
theorem dL_law_835 : decode cL_law 835 = .ok (.iload 4, 2) := by decide +kernel
theorem dL_law_837 : decode cL_law 837 = .ok (.iconst 1, 1) := by decide +kernel
theorem dL_law_838 : decode cL_law 838 = .ok (.iadd, 1) := by decide +kernel
theorem dL_law_839 : decode cL_law 839 = .ok (.iaload, 1) := by decide +kernel
theorem dL_law_840 : decode cL_law 840 = .ok (.aload_n 0, 1) := by decide +kernel
theorem dL_law_841 : decode cL_law 841 = .ok (.iload 4, 2) := by decide +kernel
theorem dL_law_843 : decode cL_law 843 = .ok (.iconst 2, 1) := by decide +kernel
theorem dL_law_844 : decode cL_law 844 = .ok (.iadd, 1) := by decide +kernel
theorem dL_law_845 : decode cL_law 845 = .ok (.iaload, 1) := by decide +kernel
theorem dL_law_846 : decode cL_law 846 = .ok (.aload_n 0, 1) := by decide +kernel
theorem dL_law_847 : decode cL_law 847 = .ok (.iload 4, 2) := by decide +kernel
theorem dL_law_849 : decode cL_law 849 = .ok (.iconst 3, 1) := by decide +kernel
theorem dL_law_850 : decode cL_law 850 = .ok (.iadd, 1) := by decide +kernel
theorem dL_law_851 : decode cL_law 851 = .ok (.iaload, 1) := by decide +kernel
theorem dL_law_852 : decode cL_law 852 = .ok (.invokevirtual 132, 3) := by decide +kernel
theorem dL_law_855 : decode cL_law 855 = .ok (.if_icmp .eq 273, 3) := by decide +kernel
theorem dL_law_858 : decode cL_law 858 = .ok (.iconst 0, 1) := by decide +kernel
theorem dL_law_859 : decode cL_law 859 = .ok (.ireturn, 1) := by decide +kernel
theorem dL_law_860 : decode cL_law 860 = .ok (.aload_n 1, 1) := by decide +kernel
theorem dL_law_861 : decode cL_law 861 = .ok (.aload_n 0, 1) := by decide +kernel
theorem dL_law_862 : decode cL_law 862 = .ok (.iload 4, 2) := by decide +kernel
theorem dL_law_864 : decode cL_law 864 = .ok (.iconst 1, 1) := by decide +kernel
theorem dL_law_865 : decode cL_law 865 = .ok (.iadd, 1) := by decide +kernel
theorem dL_law_866 : decode cL_law 866 = .ok (.iaload, 1) := by decide +kernel
theorem dL_law_867 : decode cL_law 867 = .ok (.aload_n 0, 1) := by decide +kernel
theorem dL_law_868 : decode cL_law 868 = .ok (.iload 4, 2) := by decide +kernel
theorem dL_law_870 : decode cL_law 870 = .ok (.iconst 2, 1) := by decide +kernel
theorem dL_law_871 : decode cL_law 871 = .ok (.iadd, 1) := by decide +kernel
theorem dL_law_872 : decode cL_law 872 = .ok (.iaload, 1) := by decide +kernel
theorem dL_law_873 : decode cL_law 873 = .ok (.invokevirtual 133, 3) := by decide +kernel
theorem dL_law_876 : decode cL_law 876 = .ok (.aload_n 2, 1) := by decide +kernel
theorem dL_law_877 : decode cL_law 877 = .ok (.aload_n 0, 1) := by decide +kernel
theorem dL_law_878 : decode cL_law 878 = .ok (.iload 4, 2) := by decide +kernel
theorem dL_law_880 : decode cL_law 880 = .ok (.iconst 1, 1) := by decide +kernel
theorem dL_law_881 : decode cL_law 881 = .ok (.iadd, 1) := by decide +kernel
theorem dL_law_882 : decode cL_law 882 = .ok (.iaload, 1) := by decide +kernel
theorem dL_law_883 : decode cL_law 883 = .ok (.aload_n 0, 1) := by decide +kernel
theorem dL_law_884 : decode cL_law 884 = .ok (.iload 4, 2) := by decide +kernel
theorem dL_law_886 : decode cL_law 886 = .ok (.iconst 2, 1) := by decide +kernel
theorem dL_law_887 : decode cL_law 887 = .ok (.iadd, 1) := by decide +kernel
theorem dL_law_888 : decode cL_law 888 = .ok (.iaload, 1) := by decide +kernel
theorem dL_law_889 : decode cL_law 889 = .ok (.invokevirtual 136, 3) := by decide +kernel
theorem dL_law_892 : decode cL_law 892 = .ok (.if_icmp .eq 236, 3) := by decide +kernel
theorem dL_law_895 : decode cL_law 895 = .ok (.iconst 0, 1) := by decide +kernel
theorem dL_law_896 : decode cL_law 896 = .ok (.ireturn, 1) := by decide +kernel
theorem dL_law_897 : decode cL_law 897 = .ok (.aload_n 1, 1) := by decide +kernel
theorem dL_law_898 : decode cL_law 898 = .ok (.invokevirtual 137, 3) := by decide +kernel
theorem dL_law_901 : decode cL_law 901 = .ok (.aload_n 2, 1) := by decide +kernel
theorem dL_law_902 : decode cL_law 902 = .ok (.invokevirtual 140, 3) := by decide +kernel
theorem dL_law_905 : decode cL_law 905 = .ok (.if_icmp .eq 223, 3) := by decide +kernel
theorem dL_law_908 : decode cL_law 908 = .ok (.iconst 0, 1) := by decide +kernel
theorem dL_law_909 : decode cL_law 909 = .ok (.ireturn, 1) := by decide +kernel
theorem dL_law_910 : decode cL_law 910 = .ok (.aload_n 1, 1) := by decide +kernel
theorem dL_law_911 : decode cL_law 911 = .ok (.aload_n 0, 1) := by decide +kernel
theorem dL_law_912 : decode cL_law 912 = .ok (.iload 4, 2) := by decide +kernel
theorem dL_law_914 : decode cL_law 914 = .ok (.iconst 1, 1) := by decide +kernel
theorem dL_law_915 : decode cL_law 915 = .ok (.iadd, 1) := by decide +kernel
theorem dL_law_916 : decode cL_law 916 = .ok (.iaload, 1) := by decide +kernel
theorem dL_law_917 : decode cL_law 917 = .ok (.aload_n 0, 1) := by decide +kernel
theorem dL_law_918 : decode cL_law 918 = .ok (.iload 4, 2) := by decide +kernel
theorem dL_law_920 : decode cL_law 920 = .ok (.iconst 2, 1) := by decide +kernel
theorem dL_law_921 : decode cL_law 921 = .ok (.iadd, 1) := by decide +kernel
theorem dL_law_922 : decode cL_law 922 = .ok (.iaload, 1) := by decide +kernel
theorem dL_law_923 : decode cL_law 923 = .ok (.invokevirtual 141, 3) := by decide +kernel
theorem dL_law_926 : decode cL_law 926 = .ok (.aload_n 2, 1) := by decide +kernel
theorem dL_law_927 : decode cL_law 927 = .ok (.aload_n 0, 1) := by decide +kernel
theorem dL_law_928 : decode cL_law 928 = .ok (.iload 4, 2) := by decide +kernel
theorem dL_law_930 : decode cL_law 930 = .ok (.iconst 1, 1) := by decide +kernel
theorem dL_law_931 : decode cL_law 931 = .ok (.iadd, 1) := by decide +kernel
theorem dL_law_932 : decode cL_law 932 = .ok (.iaload, 1) := by decide +kernel
theorem dL_law_933 : decode cL_law 933 = .ok (.aload_n 0, 1) := by decide +kernel
theorem dL_law_934 : decode cL_law 934 = .ok (.iload 4, 2) := by decide +kernel
theorem dL_law_936 : decode cL_law 936 = .ok (.iconst 2, 1) := by decide +kernel
theorem dL_law_937 : decode cL_law 937 = .ok (.iadd, 1) := by decide +kernel
theorem dL_law_938 : decode cL_law 938 = .ok (.iaload, 1) := by decide +kernel
theorem dL_law_939 : decode cL_law 939 = .ok (.invokevirtual 144, 3) := by decide +kernel
theorem dL_law_942 : decode cL_law 942 = .ok (.if_icmp .eq 186, 3) := by decide +kernel
theorem dL_law_945 : decode cL_law 945 = .ok (.iconst 0, 1) := by decide +kernel
theorem dL_law_946 : decode cL_law 946 = .ok (.ireturn, 1) := by decide +kernel
theorem dL_law_947 : decode cL_law 947 = .ok (.aload_n 1, 1) := by decide +kernel
theorem dL_law_948 : decode cL_law 948 = .ok (.invokevirtual 145, 3) := by decide +kernel
theorem dL_law_951 : decode cL_law 951 = .ok (.aload_n 2, 1) := by decide +kernel
theorem dL_law_952 : decode cL_law 952 = .ok (.invokevirtual 148, 3) := by decide +kernel
theorem dL_law_955 : decode cL_law 955 = .ok (.if_icmp .eq 173, 3) := by decide +kernel
theorem dL_law_958 : decode cL_law 958 = .ok (.iconst 0, 1) := by decide +kernel
theorem dL_law_959 : decode cL_law 959 = .ok (.ireturn, 1) := by decide +kernel
theorem dL_law_960 : decode cL_law 960 = .ok (.aload_n 1, 1) := by decide +kernel
theorem dL_law_961 : decode cL_law 961 = .ok (.invokevirtual 149, 3) := by decide +kernel
theorem dL_law_964 : decode cL_law 964 = .ok (.aload_n 2, 1) := by decide +kernel
theorem dL_law_965 : decode cL_law 965 = .ok (.invokevirtual 152, 3) := by decide +kernel
theorem dL_law_968 : decode cL_law 968 = .ok (.if_icmp .eq 160, 3) := by decide +kernel
theorem dL_law_971 : decode cL_law 971 = .ok (.iconst 0, 1) := by decide +kernel
theorem dL_law_972 : decode cL_law 972 = .ok (.ireturn, 1) := by decide +kernel
theorem dL_law_973 : decode cL_law 973 = .ok (.aload_n 1, 1) := by decide +kernel
theorem dL_law_974 : decode cL_law 974 = .ok (.aload_n 0, 1) := by decide +kernel
theorem dL_law_975 : decode cL_law 975 = .ok (.iload 4, 2) := by decide +kernel
theorem dL_law_977 : decode cL_law 977 = .ok (.iconst 1, 1) := by decide +kernel
theorem dL_law_978 : decode cL_law 978 = .ok (.iadd, 1) := by decide +kernel
theorem dL_law_979 : decode cL_law 979 = .ok (.iaload, 1) := by decide +kernel
theorem dL_law_980 : decode cL_law 980 = .ok (.invokevirtual 153, 3) := by decide +kernel
theorem dL_law_983 : decode cL_law 983 = .ok (.aload_n 2, 1) := by decide +kernel
theorem dL_law_984 : decode cL_law 984 = .ok (.aload_n 0, 1) := by decide +kernel
theorem dL_law_985 : decode cL_law 985 = .ok (.iload 4, 2) := by decide +kernel
theorem dL_law_987 : decode cL_law 987 = .ok (.iconst 1, 1) := by decide +kernel
theorem dL_law_988 : decode cL_law 988 = .ok (.iadd, 1) := by decide +kernel
theorem dL_law_989 : decode cL_law 989 = .ok (.iaload, 1) := by decide +kernel
theorem dL_law_990 : decode cL_law 990 = .ok (.invokevirtual 156, 3) := by decide +kernel
theorem dL_law_993 : decode cL_law 993 = .ok (.if_icmp .eq 135, 3) := by decide +kernel
theorem dL_law_996 : decode cL_law 996 = .ok (.iconst 0, 1) := by decide +kernel
theorem dL_law_997 : decode cL_law 997 = .ok (.ireturn, 1) := by decide +kernel
theorem dL_law_998 : decode cL_law 998 = .ok (.aload_n 1, 1) := by decide +kernel
theorem dL_law_999 : decode cL_law 999 = .ok (.aload_n 0, 1) := by decide +kernel
theorem dL_law_1000 : decode cL_law 1000 = .ok (.iload 4, 2) := by decide +kernel
theorem dL_law_1002 : decode cL_law 1002 = .ok (.iconst 1, 1) := by decide +kernel
theorem dL_law_1003 : decode cL_law 1003 = .ok (.iadd, 1) := by decide +kernel
theorem dL_law_1004 : decode cL_law 1004 = .ok (.iaload, 1) := by decide +kernel
theorem dL_law_1005 : decode cL_law 1005 = .ok (.invokevirtual 157, 3) := by decide +kernel
theorem dL_law_1008 : decode cL_law 1008 = .ok (.aload_n 2, 1) := by decide +kernel
theorem dL_law_1009 : decode cL_law 1009 = .ok (.aload_n 0, 1) := by decide +kernel
theorem dL_law_1010 : decode cL_law 1010 = .ok (.iload 4, 2) := by decide +kernel
theorem dL_law_1012 : decode cL_law 1012 = .ok (.iconst 1, 1) := by decide +kernel
theorem dL_law_1013 : decode cL_law 1013 = .ok (.iadd, 1) := by decide +kernel
theorem dL_law_1014 : decode cL_law 1014 = .ok (.iaload, 1) := by decide +kernel
theorem dL_law_1015 : decode cL_law 1015 = .ok (.invokevirtual 160, 3) := by decide +kernel
theorem dL_law_1018 : decode cL_law 1018 = .ok (.if_icmp .eq 110, 3) := by decide +kernel
theorem dL_law_1021 : decode cL_law 1021 = .ok (.iconst 0, 1) := by decide +kernel
theorem dL_law_1022 : decode cL_law 1022 = .ok (.ireturn, 1) := by decide +kernel
theorem dL_law_1023 : decode cL_law 1023 = .ok (.aload_n 1, 1) := by decide +kernel
theorem dL_law_1024 : decode cL_law 1024 = .ok (.aload_n 0, 1) := by decide +kernel
theorem dL_law_1025 : decode cL_law 1025 = .ok (.iload 4, 2) := by decide +kernel
theorem dL_law_1027 : decode cL_law 1027 = .ok (.iconst 1, 1) := by decide +kernel
theorem dL_law_1028 : decode cL_law 1028 = .ok (.iadd, 1) := by decide +kernel
theorem dL_law_1029 : decode cL_law 1029 = .ok (.iaload, 1) := by decide +kernel
theorem dL_law_1030 : decode cL_law 1030 = .ok (.invokevirtual 161, 3) := by decide +kernel
theorem dL_law_1033 : decode cL_law 1033 = .ok (.aload_n 2, 1) := by decide +kernel
theorem dL_law_1034 : decode cL_law 1034 = .ok (.aload_n 0, 1) := by decide +kernel
theorem dL_law_1035 : decode cL_law 1035 = .ok (.iload 4, 2) := by decide +kernel
theorem dL_law_1037 : decode cL_law 1037 = .ok (.iconst 1, 1) := by decide +kernel
theorem dL_law_1038 : decode cL_law 1038 = .ok (.iadd, 1) := by decide +kernel
theorem dL_law_1039 : decode cL_law 1039 = .ok (.iaload, 1) := by decide +kernel
theorem dL_law_1040 : decode cL_law 1040 = .ok (.invokevirtual 164, 3) := by decide +kernel
theorem dL_law_1043 : decode cL_law 1043 = .ok (.if_icmp .eq 85, 3) := by decide +kernel
theorem dL_law_1046 : decode cL_law 1046 = .ok (.iconst 0, 1) := by decide +kernel
theorem dL_law_1047 : decode cL_law 1047 = .ok (.ireturn, 1) := by decide +kernel
theorem dL_law_1048 : decode cL_law 1048 = .ok (.aload_n 1, 1) := by decide +kernel
theorem dL_law_1049 : decode cL_law 1049 = .ok (.aload_n 0, 1) := by decide +kernel
theorem dL_law_1050 : decode cL_law 1050 = .ok (.iload 4, 2) := by decide +kernel
theorem dL_law_1052 : decode cL_law 1052 = .ok (.iconst 1, 1) := by decide +kernel
theorem dL_law_1053 : decode cL_law 1053 = .ok (.iadd, 1) := by decide +kernel
theorem dL_law_1054 : decode cL_law 1054 = .ok (.iaload, 1) := by decide +kernel
theorem dL_law_1055 : decode cL_law 1055 = .ok (.invokevirtual 165, 3) := by decide +kernel
theorem dL_law_1058 : decode cL_law 1058 = .ok (.aload_n 2, 1) := by decide +kernel
theorem dL_law_1059 : decode cL_law 1059 = .ok (.aload_n 0, 1) := by decide +kernel
theorem dL_law_1060 : decode cL_law 1060 = .ok (.iload 4, 2) := by decide +kernel
theorem dL_law_1062 : decode cL_law 1062 = .ok (.iconst 1, 1) := by decide +kernel
theorem dL_law_1063 : decode cL_law 1063 = .ok (.iadd, 1) := by decide +kernel
theorem dL_law_1064 : decode cL_law 1064 = .ok (.iaload, 1) := by decide +kernel
theorem dL_law_1065 : decode cL_law 1065 = .ok (.invokevirtual 168, 3) := by decide +kernel
theorem dL_law_1068 : decode cL_law 1068 = .ok (.if_icmp .eq 60, 3) := by decide +kernel
theorem dL_law_1071 : decode cL_law 1071 = .ok (.iconst 0, 1) := by decide +kernel
theorem dL_law_1072 : decode cL_law 1072 = .ok (.ireturn, 1) := by decide +kernel
theorem dL_law_1073 : decode cL_law 1073 = .ok (.aload_n 1, 1) := by decide +kernel
theorem dL_law_1074 : decode cL_law 1074 = .ok (.aload_n 0, 1) := by decide +kernel
theorem dL_law_1075 : decode cL_law 1075 = .ok (.iload 4, 2) := by decide +kernel
theorem dL_law_1077 : decode cL_law 1077 = .ok (.iconst 1, 1) := by decide +kernel
theorem dL_law_1078 : decode cL_law 1078 = .ok (.iadd, 1) := by decide +kernel
theorem dL_law_1079 : decode cL_law 1079 = .ok (.iaload, 1) := by decide +kernel
theorem dL_law_1080 : decode cL_law 1080 = .ok (.aload_n 3, 1) := by decide +kernel
theorem dL_law_1081 : decode cL_law 1081 = .ok (.invokestatic 169, 3) := by decide +kernel
theorem dL_law_1084 : decode cL_law 1084 = .ok (.istore 5, 2) := by decide +kernel
theorem dL_law_1086 : decode cL_law 1086 = .ok (.aload_n 2, 1) := by decide +kernel
theorem dL_law_1087 : decode cL_law 1087 = .ok (.aload_n 0, 1) := by decide +kernel
theorem dL_law_1088 : decode cL_law 1088 = .ok (.iload 4, 2) := by decide +kernel
theorem dL_law_1090 : decode cL_law 1090 = .ok (.iconst 1, 1) := by decide +kernel
theorem dL_law_1091 : decode cL_law 1091 = .ok (.iadd, 1) := by decide +kernel
theorem dL_law_1092 : decode cL_law 1092 = .ok (.iaload, 1) := by decide +kernel
theorem dL_law_1093 : decode cL_law 1093 = .ok (.invokevirtual 172, 3) := by decide +kernel
theorem dL_law_1096 : decode cL_law 1096 = .ok (.lstore 6, 2) := by decide +kernel
theorem dL_law_1098 : decode cL_law 1098 = .ok (.aload_n 2, 1) := by decide +kernel
theorem dL_law_1099 : decode cL_law 1099 = .ok (.invokevirtual 44, 3) := by decide +kernel
theorem dL_law_1102 : decode cL_law 1102 = .ok (.iload 5, 2) := by decide +kernel
theorem dL_law_1104 : decode cL_law 1104 = .ok (.if_icmp .eq 5, 3) := by decide +kernel
theorem dL_law_1107 : decode cL_law 1107 = .ok (.iconst 0, 1) := by decide +kernel
theorem dL_law_1108 : decode cL_law 1108 = .ok (.ireturn, 1) := by decide +kernel
theorem dL_law_1109 : decode cL_law 1109 = .ok (.iload 5, 2) := by decide +kernel
theorem dL_law_1111 : decode cL_law 1111 = .ok (.ifCond .ne 14, 3) := by decide +kernel
theorem dL_law_1114 : decode cL_law 1114 = .ok (.aload_n 3, 1) := by decide +kernel
theorem dL_law_1115 : decode cL_law 1115 = .ok (.iconst 0, 1) := by decide +kernel
theorem dL_law_1116 : decode cL_law 1116 = .ok (.laload, 1) := by decide +kernel
theorem dL_law_1117 : decode cL_law 1117 = .ok (.lload 6, 2) := by decide +kernel
theorem dL_law_1119 : decode cL_law 1119 = .ok (.lcmp, 1) := by decide +kernel
theorem dL_law_1120 : decode cL_law 1120 = .ok (.ifCond .eq 5, 3) := by decide +kernel
theorem dL_law_1123 : decode cL_law 1123 = .ok (.iconst 0, 1) := by decide +kernel
theorem dL_law_1124 : decode cL_law 1124 = .ok (.ireturn, 1) := by decide +kernel
theorem dL_law_1125 : decode cL_law 1125 = .ok (.goto 3, 3) := by decide +kernel
theorem dL_law_1128 : decode cL_law 1128 = .ok (.iinc 4 5, 3) := by decide +kernel
theorem dL_law_1131 : decode cL_law 1131 = .ok (.goto (-1108), 3) := by decide +kernel
theorem dL_law_1134 : decode cL_law 1134 = .ok (.iconst 1, 1) := by decide +kernel
theorem dL_law_1135 : decode cL_law 1135 = .ok (.ireturn, 1) := by decide +kernel
