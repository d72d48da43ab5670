theorem dM_step_222 : decode bM_step 222 = .ok (.lsub, 1) := by decide +kernel
theorem dM_step_223 : decode bM_step 223 = .ok (.lstore 9, 2) := by decide +kernel
theorem dM_step_225 : decode bM_step 225 = .ok (.lload 9, 2) := by decide +kernel
theorem dM_step_227 : decode bM_step 227 = .ok (.lconst 0, 1) := by decide +kernel
theorem dM_step_228 : decode bM_step 228 = .ok (.lcmp, 1) := by decide +kernel
theorem dM_step_229 : decode bM_step 229 = .ok (.ifCond .ge 7, 3) := by decide +kernel
theorem dM_step_232 : decode bM_step 232 = .ok (.lconst 0, 1) := by decide +kernel
theorem dM_step_233 : decode bM_step 233 = .ok (.goto 28, 3) := by decide +kernel
theorem dM_step_236 : decode bM_step 236 = .ok (.lload 9, 2) := by decide +kernel
theorem dM_step_238 : decode bM_step 238 = .ok (.aload_n 0, 1) := by decide +kernel
theorem dM_step_239 : decode bM_step 239 = .ok (.getfield 32, 3) := by decide +kernel
theorem dM_step_242 : decode bM_step 242 = .ok (.iload_n 2, 1) := by decide +kernel
theorem dM_step_243 : decode bM_step 243 = .ok (.iaload, 1) := by decide +kernel
theorem dM_step_244 : decode bM_step 244 = .ok (.i2l, 1) := by decide +kernel
theorem dM_step_245 : decode bM_step 245 = .ok (.lcmp, 1) := by decide +kernel
theorem dM_step_246 : decode bM_step 246 = .ok (.ifCond .le 13, 3) := by decide +kernel
theorem dM_step_249 : decode bM_step 249 = .ok (.aload_n 0, 1) := by decide +kernel
theorem dM_step_250 : decode bM_step 250 = .ok (.getfield 32, 3) := by decide +kernel
theorem dM_step_253 : decode bM_step 253 = .ok (.iload_n 2, 1) := by decide +kernel
theorem dM_step_254 : decode bM_step 254 = .ok (.iaload, 1) := by decide +kernel
theorem dM_step_255 : decode bM_step 255 = .ok (.i2l, 1) := by decide +kernel
theorem dM_step_256 : decode bM_step 256 = .ok (.goto 5, 3) := by decide +kernel
theorem dM_step_259 : decode bM_step 259 = .ok (.lload 9, 2) := by decide +kernel
theorem dM_step_261 : decode bM_step 261 = .ok (.lstore 11, 2) := by decide +kernel
theorem dM_step_263 : decode bM_step 263 = .ok (.aload_n 0, 1) := by decide +kernel
theorem dM_step_264 : decode bM_step 264 = .ok (.getfield 13, 3) := by decide +kernel
theorem dM_step_267 : decode bM_step 267 = .ok (.iload_n 2, 1) := by decide +kernel
theorem dM_step_268 : decode bM_step 268 = .ok (.dup2, 1) := by decide +kernel
theorem dM_step_269 : decode bM_step 269 = .ok (.laload, 1) := by decide +kernel
theorem dM_step_270 : decode bM_step 270 = .ok (.lload 11, 2) := by decide +kernel
theorem dM_step_272 : decode bM_step 272 = .ok (.lsub, 1) := by decide +kernel
theorem dM_step_273 : decode bM_step 273 = .ok (.lastore, 1) := by decide +kernel
theorem dM_step_274 : decode bM_step 274 = .ok (.aload_n 0, 1) := by decide +kernel
theorem dM_step_275 : decode bM_step 275 = .ok (.getfield 23, 3) := by decide +kernel
theorem dM_step_278 : decode bM_step 278 = .ok (.iload_n 2, 1) := by decide +kernel
theorem dM_step_279 : decode bM_step 279 = .ok (.dup2, 1) := by decide +kernel
theorem dM_step_280 : decode bM_step 280 = .ok (.laload, 1) := by decide +kernel
theorem dM_step_281 : decode bM_step 281 = .ok (.lload 11, 2) := by decide +kernel
theorem dM_step_283 : decode bM_step 283 = .ok (.ladd, 1) := by decide +kernel
theorem dM_step_284 : decode bM_step 284 = .ok (.lastore, 1) := by decide +kernel
theorem dM_step_285 : decode bM_step 285 = .ok (.iinc 2 1, 3) := by decide +kernel
theorem dM_step_288 : decode bM_step 288 = .ok (.goto (-271), 3) := by decide +kernel
theorem dM_step_291 : decode bM_step 291 = .ok (.aload_n 0, 1) := by decide +kernel
theorem dM_step_292 : decode bM_step 292 = .ok (.dup, 1) := by decide +kernel
theorem dM_step_293 : decode bM_step 293 = .ok (.getfield 139, 3) := by decide +kernel
theorem dM_step_296 : decode bM_step 296 = .ok (.iconst 1, 1) := by decide +kernel
theorem dM_step_297 : decode bM_step 297 = .ok (.iadd, 1) := by decide +kernel
theorem dM_step_298 : decode bM_step 298 = .ok (.putfield 139, 3) := by decide +kernel
theorem dM_step_301 : decode bM_step 301 = .ok (.aload_n 0, 1) := by decide +kernel
theorem dM_step_302 : decode bM_step 302 = .ok (.getfield 139, 3) := by decide +kernel
theorem dM_step_305 : decode bM_step 305 = .ok (.iconst 4, 1) := by decide +kernel
theorem dM_step_306 : decode bM_step 306 = .ok (.irem, 1) := by decide +kernel
theorem dM_step_307 : decode bM_step 307 = .ok (.ifCond .ne 121, 3) := by decide +kernel
theorem dM_step_310 : decode bM_step 310 = .ok (.iconst 0, 1) := by decide +kernel
theorem dM_step_311 : decode bM_step 311 = .ok (.istore_n 2, 1) := by decide +kernel
theorem dM_step_312 : decode bM_step 312 = .ok (.iload_n 2, 1) := by decide +kernel
theorem dM_step_313 : decode bM_step 313 = .ok (.aload_n 0, 1) := by decide +kernel
theorem dM_step_314 : decode bM_step 314 = .ok (.getfield 89, 3) := by decide +kernel
theorem dM_step_317 : decode bM_step 317 = .ok (.if_icmp .ge 111, 3) := by decide +kernel
theorem dM_step_320 : decode bM_step 320 = .ok (.aload_n 0, 1) := by decide +kernel
theorem dM_step_321 : decode bM_step 321 = .ok (.iload_n 2, 1) := by decide +kernel
theorem dM_step_322 : decode bM_step 322 = .ok (.invokevirtual 126, 3) := by decide +kernel
theorem dM_step_325 : decode bM_step 325 = .ok (.lstore_n 3, 1) := by decide +kernel
theorem dM_step_326 : decode bM_step 326 = .ok (.aload_n 0, 1) := by decide +kernel
theorem dM_step_327 : decode bM_step 327 = .ok (.getfield 17, 3) := by decide +kernel
theorem dM_step_330 : decode bM_step 330 = .ok (.iload_n 2, 1) := by decide +kernel
theorem dM_step_331 : decode bM_step 331 = .ok (.dup2, 1) := by decide +kernel
theorem dM_step_332 : decode bM_step 332 = .ok (.iaload, 1) := by decide +kernel
theorem dM_step_333 : decode bM_step 333 = .ok (.aload_n 0, 1) := by decide +kernel
theorem dM_step_334 : decode bM_step 334 = .ok (.getfield 62, 3) := by decide +kernel
theorem dM_step_337 : decode bM_step 337 = .ok (.bipush 24, 2) := by decide +kernel
theorem dM_step_339 : decode bM_step 339 = .ok (.iload_n 2, 1) := by decide +kernel
theorem dM_step_340 : decode bM_step 340 = .ok (.imul, 1) := by decide +kernel
theorem dM_step_341 : decode bM_step 341 = .ok (.iload_n 1, 1) := by decide +kernel
theorem dM_step_342 : decode bM_step 342 = .ok (.iadd, 1) := by decide +kernel
theorem dM_step_343 : decode bM_step 343 = .ok (.iaload, 1) := by decide +kernel
theorem dM_step_344 : decode bM_step 344 = .ok (.ifCond .le 27, 3) := by decide +kernel
theorem dM_step_347 : decode bM_step 347 = .ok (.lload_n 3, 1) := by decide +kernel
theorem dM_step_348 : decode bM_step 348 = .ok (.aload_n 0, 1) := by decide +kernel
theorem dM_step_349 : decode bM_step 349 = .ok (.getfield 116, 3) := by decide +kernel
theorem dM_step_352 : decode bM_step 352 = .ok (.i2l, 1) := by decide +kernel
theorem dM_step_353 : decode bM_step 353 = .ok (.lcmp, 1) := by decide +kernel
theorem dM_step_354 : decode bM_step 354 = .ok (.ifCond .lt 13, 3) := by decide +kernel
theorem dM_step_357 : decode bM_step 357 = .ok (.lload_n 3, 1) := by decide +kernel
theorem dM_step_358 : decode bM_step 358 = .ok (.aload_n 0, 1) := by decide +kernel
theorem dM_step_359 : decode bM_step 359 = .ok (.getfield 119, 3) := by decide +kernel
theorem dM_step_362 : decode bM_step 362 = .ok (.i2l, 1) := by decide +kernel
theorem dM_step_363 : decode bM_step 363 = .ok (.lcmp, 1) := by decide +kernel
theorem dM_step_364 : decode bM_step 364 = .ok (.ifCond .le 7, 3) := by decide +kernel
theorem dM_step_367 : decode bM_step 367 = .ok (.iconst 1, 1) := by decide +kernel
theorem dM_step_368 : decode bM_step 368 = .ok (.goto 4, 3) := by decide +kernel
theorem dM_step_371 : decode bM_step 371 = .ok (.iconst 0, 1) := by decide +kernel
theorem dM_step_372 : decode bM_step 372 = .ok (.iadd, 1) := by decide +kernel
theorem dM_step_373 : decode bM_step 373 = .ok (.iastore, 1) := by decide +kernel
theorem dM_step_374 : decode bM_step 374 = .ok (.aload_n 0, 1) := by decide +kernel
theorem dM_step_375 : decode bM_step 375 = .ok (.aload_n 0, 1) := by decide +kernel
theorem dM_step_376 : decode bM_step 376 = .ok (.getfield 152, 3) := by decide +kernel
theorem dM_step_379 : decode bM_step 379 = .ok (.ifCond .ne 35, 3) := by decide +kernel
theorem dM_step_382 : decode bM_step 382 = .ok (.iload_n 2, 1) := by decide +kernel
theorem dM_step_383 : decode bM_step 383 = .ok (.aload_n 0, 1) := by decide +kernel
theorem dM_step_384 : decode bM_step 384 = .ok (.getfield 74, 3) := by decide +kernel
theorem dM_step_387 : decode bM_step 387 = .ok (.if_icmp .ne 31, 3) := by decide +kernel
theorem dM_step_390 : decode bM_step 390 = .ok (.aload_n 0, 1) := by decide +kernel
theorem dM_step_391 : decode bM_step 391 = .ok (.getfield 62, 3) := by decide +kernel
theorem dM_step_394 : decode bM_step 394 = .ok (.bipush 24, 2) := by decide +kernel
theorem dM_step_396 : decode bM_step 396 = .ok (.iload_n 2, 1) := by decide +kernel
theorem dM_step_397 : decode bM_step 397 = .ok (.imul, 1) := by decide +kernel
theorem dM_step_398 : decode bM_step 398 = .ok (.iload_n 1, 1) := by decide +kernel
theorem dM_step_399 : decode bM_step 399 = .ok (.iadd, 1) := by decide +kernel
theorem dM_step_400 : decode bM_step 400 = .ok (.iaload, 1) := by decide +kernel
theorem dM_step_401 : decode bM_step 401 = .ok (.ifCond .le 17, 3) := by decide +kernel
theorem dM_step_404 : decode bM_step 404 = .ok (.lload_n 3, 1) := by decide +kernel
theorem dM_step_405 : decode bM_step 405 = .ok (.aload_n 0, 1) := by decide +kernel
theorem dM_step_406 : decode bM_step 406 = .ok (.getfield 116, 3) := by decide +kernel
theorem dM_step_409 : decode bM_step 409 = .ok (.i2l, 1) := by decide +kernel
theorem dM_step_410 : decode bM_step 410 = .ok (.lcmp, 1) := by decide +kernel
theorem dM_step_411 : decode bM_step 411 = .ok (.ifCond .ge 7, 3) := by decide +kernel
theorem dM_step_414 : decode bM_step 414 = .ok (.iconst 1, 1) := by decide +kernel
theorem dM_step_415 : decode bM_step 415 = .ok (.goto 4, 3) := by decide +kernel
theorem dM_step_418 : decode bM_step 418 = .ok (.iconst 0, 1) := by decide +kernel
theorem dM_step_419 : decode bM_step 419 = .ok (.putfield 152, 3) := by decide +kernel
theorem dM_step_422 : decode bM_step 422 = .ok (.iinc 2 1, 3) := by decide +kernel
theorem dM_step_425 : decode bM_step 425 = .ok (.goto (-113), 3) := by decide +kernel
theorem dM_step_428 : decode bM_step 428 = .ok (.return_, 1) := by decide +kernel
theorem dM_run_0 : decode bM_run 0 = .ok (.aload_n 0, 1) := by decide +kernel
theorem dM_run_1 : decode bM_run 1 = .ok (.iload_n 1, 1) := by decide +kernel
theorem dM_run_2 : decode bM_run 2 = .ok (.iconst 1, 1) := by decide +kernel
theorem dM_run_3 : decode bM_run 3 = .ok (.sipush 400, 3) := by decide +kernel
theorem dM_run_6 : decode bM_run 6 = .ok (.invokestatic 85, 3) := by decide +kernel
theorem dM_run_9 : decode bM_run 9 = .ok (.ifCond .ne 7, 3) := by decide +kernel
theorem dM_run_12 : decode bM_run 12 = .ok (.iconst 1, 1) := by decide +kernel
theorem dM_run_13 : decode bM_run 13 = .ok (.goto 19, 3) := by decide +kernel
theorem dM_run_16 : decode bM_run 16 = .ok (.aload_n 0, 1) := by decide +kernel
theorem dM_run_17 : decode bM_run 17 = .ok (.getfield 139, 3) := by decide +kernel
theorem dM_run_20 : decode bM_run 20 = .ok (.iload_n 1, 1) := by decide +kernel
theorem dM_run_21 : decode bM_run 21 = .ok (.iadd, 1) := by decide +kernel
theorem dM_run_22 : decode bM_run 22 = .ok (.ldc 156, 2) := by decide +kernel
theorem dM_run_24 : decode bM_run 24 = .ok (.if_icmp .le 7, 3) := by decide +kernel
theorem dM_run_27 : decode bM_run 27 = .ok (.iconst 2, 1) := by decide +kernel
theorem dM_run_28 : decode bM_run 28 = .ok (.goto 4, 3) := by decide +kernel
theorem dM_run_31 : decode bM_run 31 = .ok (.iconst 0, 1) := by decide +kernel
theorem dM_run_32 : decode bM_run 32 = .ok (.putfield 82, 3) := by decide +kernel
theorem dM_run_35 : decode bM_run 35 = .ok (.aload_n 0, 1) := by decide +kernel
theorem dM_run_36 : decode bM_run 36 = .ok (.getfield 82, 3) := by decide +kernel
theorem dM_run_39 : decode bM_run 39 = .ok (.ifCond .le 5, 3) := by decide +kernel
theorem dM_run_42 : decode bM_run 42 = .ok (.iconst 0, 1) := by decide +kernel
theorem dM_run_43 : decode bM_run 43 = .ok (.ireturn, 1) := by decide +kernel
theorem dM_run_44 : decode bM_run 44 = .ok (.iconst 0, 1) := by decide +kernel
theorem dM_run_45 : decode bM_run 45 = .ok (.istore_n 2, 1) := by decide +kernel
theorem dM_run_46 : decode bM_run 46 = .ok (.iload_n 2, 1) := by decide +kernel
theorem dM_run_47 : decode bM_run 47 = .ok (.iload_n 1, 1) := by decide +kernel
theorem dM_run_48 : decode bM_run 48 = .ok (.if_icmp .ge 13, 3) := by decide +kernel
theorem dM_run_51 : decode bM_run 51 = .ok (.aload_n 0, 1) := by decide +kernel
theorem dM_run_52 : decode bM_run 52 = .ok (.invokevirtual 157, 3) := by decide +kernel
theorem dM_run_55 : decode bM_run 55 = .ok (.iinc 2 1, 3) := by decide +kernel
theorem dM_run_58 : decode bM_run 58 = .ok (.goto (-12), 3) := by decide +kernel
theorem dM_run_61 : decode bM_run 61 = .ok (.aload_n 0, 1) := by decide +kernel
theorem dM_run_62 : decode bM_run 62 = .ok (.getfield 139, 3) := by decide +kernel
theorem dM_run_65 : decode bM_run 65 = .ok (.ireturn, 1) := by decide +kernel
theorem dM_told_0 : decode bM_told 0 = .ok (.aload_n 0, 1) := by decide +kernel
theorem dM_told_1 : decode bM_told 1 = .ok (.aload_n 0, 1) := by decide +kernel
theorem dM_told_2 : decode bM_told 2 = .ok (.iload_n 1, 1) := by decide +kernel
theorem dM_told_3 : decode bM_told 3 = .ok (.invokevirtual 105, 3) := by decide +kernel
theorem dM_told_6 : decode bM_told 6 = .ok (.ifCond .eq 16, 3) := by decide +kernel
theorem dM_told_9 : decode bM_told 9 = .ok (.iload_n 2, 1) := by decide +kernel
theorem dM_told_10 : decode bM_told 10 = .ok (.iconst 0, 1) := by decide +kernel
theorem dM_told_11 : decode bM_told 11 = .ok (.iconst 5, 1) := by decide +kernel
theorem dM_told_12 : decode bM_told 12 = .ok (.invokestatic 85, 3) := by decide +kernel
theorem dM_told_15 : decode bM_told 15 = .ok (.ifCond .eq 7, 3) := by decide +kernel
theorem dM_told_18 : decode bM_told 18 = .ok (.iconst 0, 1) := by decide +kernel
theorem dM_told_19 : decode bM_told 19 = .ok (.goto 4, 3) := by decide +kernel
theorem dM_told_22 : decode bM_told 22 = .ok (.iconst 1, 1) := by decide +kernel
theorem dM_told_23 : decode bM_told 23 = .ok (.putfield 82, 3) := by decide +kernel
theorem dM_told_26 : decode bM_told 26 = .ok (.aload_n 0, 1) := by decide +kernel
theorem dM_told_27 : decode bM_told 27 = .ok (.getfield 82, 3) := by decide +kernel
theorem dM_told_30 : decode bM_told 30 = .ok (.ifCond .le 5, 3) := by decide +kernel
theorem dM_told_33 : decode bM_told 33 = .ok (.lconst 0, 1) := by decide +kernel
theorem dM_told_34 : decode bM_told 34 = .ok (.lreturn, 1) := by decide +kernel
theorem dM_told_35 : decode bM_told 35 = .ok (.iload_n 2, 1) := by decide +kernel
theorem dM_told_36 : decode bM_told 36 = .ok (.tableswitch 71 0 4 #[36, 42, 49, 57, 64], 36) := by decide +kernel
theorem dM_told_72 : decode bM_told 72 = .ok (.aload_n 0, 1) := by decide +kernel
theorem dM_told_73 : decode bM_told 73 = .ok (.iload_n 1, 1) := by decide +kernel
theorem dM_told_74 : decode bM_told 74 = .ok (.invokevirtual 126, 3) := by decide +kernel
theorem dM_told_77 : decode bM_told 77 = .ok (.lreturn, 1) := by decide +kernel
theorem dM_told_78 : decode bM_told 78 = .ok (.aload_n 0, 1) := by decide +kernel
theorem dM_told_79 : decode bM_told 79 = .ok (.getfield 13, 3) := by decide +kernel
theorem dM_told_82 : decode bM_told 82 = .ok (.iload_n 1, 1) := by decide +kernel
theorem dM_told_83 : decode bM_told 83 = .ok (.laload, 1) := by decide +kernel
theorem dM_told_84 : decode bM_told 84 = .ok (.lreturn, 1) := by decide +kernel
theorem dM_told_85 : decode bM_told 85 = .ok (.aload_n 0, 1) := by decide +kernel
theorem dM_told_86 : decode bM_told 86 = .ok (.getfield 17, 3) := by decide +kernel
theorem dM_told_89 : decode bM_told 89 = .ok (.iload_n 1, 1) := by decide +kernel
theorem dM_told_90 : decode bM_told 90 = .ok (.iaload, 1) := by decide +kernel
theorem dM_told_91 : decode bM_told 91 = .ok (.i2l, 1) := by decide +kernel
theorem dM_told_92 : decode bM_told 92 = .ok (.lreturn, 1) := by decide +kernel
theorem dM_told_93 : decode bM_told 93 = .ok (.aload_n 0, 1) := by decide +kernel
theorem dM_told_94 : decode bM_told 94 = .ok (.getfield 20, 3) := by decide +kernel
theorem dM_told_97 : decode bM_told 97 = .ok (.iload_n 1, 1) := by decide +kernel
theorem dM_told_98 : decode bM_told 98 = .ok (.laload, 1) := by decide +kernel
theorem dM_told_99 : decode bM_told 99 = .ok (.lreturn, 1) := by decide +kernel
theorem dM_told_100 : decode bM_told 100 = .ok (.aload_n 0, 1) := by decide +kernel
theorem dM_told_101 : decode bM_told 101 = .ok (.getfield 23, 3) := by decide +kernel
theorem dM_told_104 : decode bM_told 104 = .ok (.iload_n 1, 1) := by decide +kernel
theorem dM_told_105 : decode bM_told 105 = .ok (.laload, 1) := by decide +kernel
theorem dM_told_106 : decode bM_told 106 = .ok (.lreturn, 1) := by decide +kernel
theorem dM_told_107 : decode bM_told 107 = .ok (.aload_n 0, 1) := by decide +kernel
theorem dM_told_108 : decode bM_told 108 = .ok (.getfield 26, 3) := by decide +kernel
theorem dM_told_111 : decode bM_told 111 = .ok (.iload_n 1, 1) := by decide +kernel
theorem dM_told_112 : decode bM_told 112 = .ok (.laload, 1) := by decide +kernel
theorem dM_told_113 : decode bM_told 113 = .ok (.lreturn, 1) := by decide +kernel
theorem dM_balance_0 : decode bM_balance 0 = .ok (.aload_n 0, 1) := by decide +kernel
theorem dM_balance_1 : decode bM_balance 1 = .ok (.iload_n 1, 1) := by decide +kernel
theorem dM_balance_2 : decode bM_balance 2 = .ok (.iconst 0, 1) := by decide +kernel
theorem dM_balance_3 : decode bM_balance 3 = .ok (.bipush 6, 2) := by decide +kernel
theorem dM_balance_5 : decode bM_balance 5 = .ok (.invokestatic 85, 3) := by decide +kernel
theorem dM_balance_8 : decode bM_balance 8 = .ok (.ifCond .eq 7, 3) := by decide +kernel
theorem dM_balance_11 : decode bM_balance 11 = .ok (.iconst 0, 1) := by decide +kernel
theorem dM_balance_12 : decode bM_balance 12 = .ok (.goto 4, 3) := by decide +kernel
theorem dM_balance_15 : decode bM_balance 15 = .ok (.iconst 1, 1) := by decide +kernel
theorem dM_balance_16 : decode bM_balance 16 = .ok (.putfield 82, 3) := by decide +kernel
theorem dM_balance_19 : decode bM_balance 19 = .ok (.aload_n 0, 1) := by decide +kernel
theorem dM_balance_20 : decode bM_balance 20 = .ok (.getfield 82, 3) := by decide +kernel
theorem dM_balance_23 : decode bM_balance 23 = .ok (.ifCond .le 5, 3) := by decide +kernel
theorem dM_balance_26 : decode bM_balance 26 = .ok (.lconst 0, 1) := by decide +kernel
theorem dM_balance_27 : decode bM_balance 27 = .ok (.lreturn, 1) := by decide +kernel
theorem dM_balance_28 : decode bM_balance 28 = .ok (.lconst 0, 1) := by decide +kernel
theorem dM_balance_29 : decode bM_balance 29 = .ok (.lstore_n 2, 1) := by decide +kernel
theorem dM_balance_30 : decode bM_balance 30 = .ok (.iconst 0, 1) := by decide +kernel
theorem dM_balance_31 : decode bM_balance 31 = .ok (.istore 4, 2) := by decide +kernel
theorem dM_balance_33 : decode bM_balance 33 = .ok (.iload 4, 2) := by decide +kernel
theorem dM_balance_35 : decode bM_balance 35 = .ok (.aload_n 0, 1) := by decide +kernel
theorem dM_balance_36 : decode bM_balance 36 = .ok (.getfield 89, 3) := by decide +kernel
theorem dM_balance_39 : decode bM_balance 39 = .ok (.if_icmp .ge 62, 3) := by decide +kernel
theorem dM_balance_42 : decode bM_balance 42 = .ok (.iload_n 1, 1) := by decide +kernel
theorem dM_balance_43 : decode bM_balance 43 = .ok (.ifCond .eq 13, 3) := by decide +kernel
theorem dM_balance_46 : decode bM_balance 46 = .ok (.iload_n 1, 1) := by decide +kernel
theorem dM_balance_47 : decode bM_balance 47 = .ok (.iconst 2, 1) := by decide +kernel
theorem dM_balance_48 : decode bM_balance 48 = .ok (.if_icmp .eq 8, 3) := by decide +kernel
theorem dM_balance_51 : decode bM_balance 51 = .ok (.iload_n 1, 1) := by decide +kernel
theorem dM_balance_52 : decode bM_balance 52 = .ok (.iconst 3, 1) := by decide +kernel
theorem dM_balance_53 : decode bM_balance 53 = .ok (.if_icmp .ne 48, 3) := by decide +kernel
theorem dM_balance_56 : decode bM_balance 56 = .ok (.lload_n 2, 1) := by decide +kernel
theorem dM_balance_57 : decode bM_balance 57 = .ok (.iload_n 1, 1) := by decide +kernel
theorem dM_balance_58 : decode bM_balance 58 = .ok (.ifCond .ne 13, 3) := by decide +kernel
theorem dM_balance_61 : decode bM_balance 61 = .ok (.aload_n 0, 1) := by decide +kernel
theorem dM_balance_62 : decode bM_balance 62 = .ok (.getfield 13, 3) := by decide +kernel
theorem dM_balance_65 : decode bM_balance 65 = .ok (.iload 4, 2) := by decide +kernel
theorem dM_balance_67 : decode bM_balance 67 = .ok (.laload, 1) := by decide +kernel
theorem dM_balance_68 : decode bM_balance 68 = .ok (.goto 25, 3) := by decide +kernel
theorem dM_balance_71 : decode bM_balance 71 = .ok (.iload_n 1, 1) := by decide +kernel
theorem dM_balance_72 : decode bM_balance 72 = .ok (.iconst 2, 1) := by decide +kernel
theorem dM_balance_73 : decode bM_balance 73 = .ok (.if_icmp .ne 13, 3) := by decide +kernel
theorem dM_balance_76 : decode bM_balance 76 = .ok (.aload_n 0, 1) := by decide +kernel
theorem dM_balance_77 : decode bM_balance 77 = .ok (.getfield 20, 3) := by decide +kernel
theorem dM_balance_80 : decode bM_balance 80 = .ok (.iload 4, 2) := by decide +kernel
theorem dM_balance_82 : decode bM_balance 82 = .ok (.laload, 1) := by decide +kernel
theorem dM_balance_83 : decode bM_balance 83 = .ok (.goto 10, 3) := by decide +kernel
theorem dM_balance_86 : decode bM_balance 86 = .ok (.aload_n 0, 1) := by decide +kernel
theorem dM_balance_87 : decode bM_balance 87 = .ok (.getfield 23, 3) := by decide +kernel
theorem dM_balance_90 : decode bM_balance 90 = .ok (.iload 4, 2) := by decide +kernel
theorem dM_balance_92 : decode bM_balance 92 = .ok (.laload, 1) := by decide +kernel
theorem dM_balance_93 : decode bM_balance 93 = .ok (.ladd, 1) := by decide +kernel
theorem dM_balance_94 : decode bM_balance 94 = .ok (.lstore_n 2, 1) := by decide +kernel
theorem dM_balance_95 : decode bM_balance 95 = .ok (.iinc 4 1, 3) := by decide +kernel
theorem dM_balance_98 : decode bM_balance 98 = .ok (.goto (-65), 3) := by decide +kernel
theorem dM_balance_101 : decode bM_balance 101 = .ok (.iload_n 1, 1) := by decide +kernel
theorem dM_balance_102 : decode bM_balance 102 = .ok (.iconst 1, 1) := by decide +kernel
theorem dM_balance_103 : decode bM_balance 103 = .ok (.if_icmp .ne 10, 3) := by decide +kernel
theorem dM_balance_106 : decode bM_balance 106 = .ok (.aload_n 0, 1) := by decide +kernel
theorem dM_balance_107 : decode bM_balance 107 = .ok (.getfield 96, 3) := by decide +kernel
theorem dM_balance_110 : decode bM_balance 110 = .ok (.goto 41, 3) := by decide +kernel
theorem dM_balance_113 : decode bM_balance 113 = .ok (.iload_n 1, 1) := by decide +kernel
theorem dM_balance_114 : decode bM_balance 114 = .ok (.iconst 4, 1) := by decide +kernel
theorem dM_balance_115 : decode bM_balance 115 = .ok (.if_icmp .ne 10, 3) := by decide +kernel
theorem dM_balance_118 : decode bM_balance 118 = .ok (.aload_n 0, 1) := by decide +kernel
theorem dM_balance_119 : decode bM_balance 119 = .ok (.getfield 133, 3) := by decide +kernel
theorem dM_balance_122 : decode bM_balance 122 = .ok (.goto 29, 3) := by decide +kernel
theorem dM_balance_125 : decode bM_balance 125 = .ok (.iload_n 1, 1) := by decide +kernel
theorem dM_balance_126 : decode bM_balance 126 = .ok (.iconst 5, 1) := by decide +kernel
theorem dM_balance_127 : decode bM_balance 127 = .ok (.if_icmp .ne 10, 3) := by decide +kernel
theorem dM_balance_130 : decode bM_balance 130 = .ok (.aload_n 0, 1) := by decide +kernel
theorem dM_balance_131 : decode bM_balance 131 = .ok (.getfield 136, 3) := by decide +kernel
theorem dM_balance_134 : decode bM_balance 134 = .ok (.goto 17, 3) := by decide +kernel
theorem dM_balance_137 : decode bM_balance 137 = .ok (.iload_n 1, 1) := by decide +kernel
theorem dM_balance_138 : decode bM_balance 138 = .ok (.bipush 6, 2) := by decide +kernel
theorem dM_balance_140 : decode bM_balance 140 = .ok (.if_icmp .ne 10, 3) := by decide +kernel
theorem dM_balance_143 : decode bM_balance 143 = .ok (.aload_n 0, 1) := by decide +kernel
theorem dM_balance_144 : decode bM_balance 144 = .ok (.getfield 130, 3) := by decide +kernel
theorem dM_balance_147 : decode bM_balance 147 = .ok (.goto 4, 3) := by decide +kernel
theorem dM_balance_150 : decode bM_balance 150 = .ok (.lload_n 2, 1) := by decide +kernel
theorem dM_balance_151 : decode bM_balance 151 = .ok (.lreturn, 1) := by decide +kernel
theorem dM_keep_0 : decode bM_keep 0 = .ok (.iconst 0, 1) := by decide +kernel
theorem dM_keep_1 : decode bM_keep 1 = .ok (.istore_n 1, 1) := by decide +kernel
theorem dM_keep_2 : decode bM_keep 2 = .ok (.iload_n 1, 1) := by decide +kernel
theorem dM_keep_3 : decode bM_keep 3 = .ok (.bipush 8, 2) := by decide +kernel
theorem dM_keep_5 : decode bM_keep 5 = .ok (.if_icmp .ge 82, 3) := by decide +kernel
theorem dM_keep_8 : decode bM_keep 8 = .ok (.aload_n 0, 1) := by decide +kernel
theorem dM_keep_9 : decode bM_keep 9 = .ok (.getfield 78, 3) := by decide +kernel
theorem dM_keep_12 : decode bM_keep 12 = .ok (.iload_n 1, 1) := by decide +kernel
theorem dM_keep_13 : decode bM_keep 13 = .ok (.aload_n 0, 1) := by decide +kernel
theorem dM_keep_14 : decode bM_keep 14 = .ok (.getfield 13, 3) := by decide +kernel
theorem dM_keep_17 : decode bM_keep 17 = .ok (.iload_n 1, 1) := by decide +kernel
theorem dM_keep_18 : decode bM_keep 18 = .ok (.laload, 1) := by decide +kernel
theorem dM_keep_19 : decode bM_keep 19 = .ok (.lastore, 1) := by decide +kernel
theorem dM_keep_20 : decode bM_keep 20 = .ok (.aload_n 0, 1) := by decide +kernel
theorem dM_keep_21 : decode bM_keep 21 = .ok (.getfield 78, 3) := by decide +kernel
theorem dM_keep_24 : decode bM_keep 24 = .ok (.bipush 8, 2) := by decide +kernel
theorem dM_keep_26 : decode bM_keep 26 = .ok (.iload_n 1, 1) := by decide +kernel
theorem dM_keep_27 : decode bM_keep 27 = .ok (.iadd, 1) := by decide +kernel
theorem dM_keep_28 : decode bM_keep 28 = .ok (.aload_n 0, 1) := by decide +kernel
theorem dM_keep_29 : decode bM_keep 29 = .ok (.getfield 17, 3) := by decide +kernel
theorem dM_keep_32 : decode bM_keep 32 = .ok (.iload_n 1, 1) := by decide +kernel
theorem dM_keep_33 : decode bM_keep 33 = .ok (.iaload, 1) := by decide +kernel
theorem dM_keep_34 : decode bM_keep 34 = .ok (.i2l, 1) := by decide +kernel
theorem dM_keep_35 : decode bM_keep 35 = .ok (.lastore, 1) := by decide +kernel
theorem dM_keep_36 : decode bM_keep 36 = .ok (.aload_n 0, 1) := by decide +kernel
theorem dM_keep_37 : decode bM_keep 37 = .ok (.getfield 78, 3) := by decide +kernel
theorem dM_keep_40 : decode bM_keep 40 = .ok (.bipush 16, 2) := by decide +kernel
theorem dM_keep_42 : decode bM_keep 42 = .ok (.iload_n 1, 1) := by decide +kernel
theorem dM_keep_43 : decode bM_keep 43 = .ok (.iadd, 1) := by decide +kernel
theorem dM_keep_44 : decode bM_keep 44 = .ok (.aload_n 0, 1) := by decide +kernel
theorem dM_keep_45 : decode bM_keep 45 = .ok (.getfield 20, 3) := by decide +kernel
theorem dM_keep_48 : decode bM_keep 48 = .ok (.iload_n 1, 1) := by decide +kernel
theorem dM_keep_49 : decode bM_keep 49 = .ok (.laload, 1) := by decide +kernel
theorem dM_keep_50 : decode bM_keep 50 = .ok (.lastore, 1) := by decide +kernel
theorem dM_keep_51 : decode bM_keep 51 = .ok (.aload_n 0, 1) := by decide +kernel
theorem dM_keep_52 : decode bM_keep 52 = .ok (.getfield 78, 3) := by decide +kernel
theorem dM_keep_55 : decode bM_keep 55 = .ok (.bipush 24, 2) := by decide +kernel
theorem dM_keep_57 : decode bM_keep 57 = .ok (.iload_n 1, 1) := by decide +kernel
theorem dM_keep_58 : decode bM_keep 58 = .ok (.iadd, 1) := by decide +kernel
theorem dM_keep_59 : decode bM_keep 59 = .ok (.aload_n 0, 1) := by decide +kernel
theorem dM_keep_60 : decode bM_keep 60 = .ok (.getfield 23, 3) := by decide +kernel
theorem dM_keep_63 : decode bM_keep 63 = .ok (.iload_n 1, 1) := by decide +kernel
theorem dM_keep_64 : decode bM_keep 64 = .ok (.laload, 1) := by decide +kernel
theorem dM_keep_65 : decode bM_keep 65 = .ok (.lastore, 1) := by decide +kernel
theorem dM_keep_66 : decode bM_keep 66 = .ok (.aload_n 0, 1) := by decide +kernel
theorem dM_keep_67 : decode bM_keep 67 = .ok (.getfield 78, 3) := by decide +kernel
theorem dM_keep_70 : decode bM_keep 70 = .ok (.bipush 32, 2) := by decide +kernel
theorem dM_keep_72 : decode bM_keep 72 = .ok (.iload_n 1, 1) := by decide +kernel
theorem dM_keep_73 : decode bM_keep 73 = .ok (.iadd, 1) := by decide +kernel
theorem dM_keep_74 : decode bM_keep 74 = .ok (.aload_n 0, 1) := by decide +kernel
theorem dM_keep_75 : decode bM_keep 75 = .ok (.getfield 26, 3) := by decide +kernel
theorem dM_keep_78 : decode bM_keep 78 = .ok (.iload_n 1, 1) := by decide +kernel
theorem dM_keep_79 : decode bM_keep 79 = .ok (.laload, 1) := by decide +kernel
theorem dM_keep_80 : decode bM_keep 80 = .ok (.lastore, 1) := by decide +kernel
theorem dM_keep_81 : decode bM_keep 81 = .ok (.iinc 1 1, 3) := by decide +kernel
theorem dM_keep_84 : decode bM_keep 84 = .ok (.goto (-82), 3) := by decide +kernel
theorem dM_keep_87 : decode bM_keep 87 = .ok (.aload_n 0, 1) := by decide +kernel
theorem dM_keep_88 : decode bM_keep 88 = .ok (.getfield 78, 3) := by decide +kernel
theorem dM_keep_91 : decode bM_keep 91 = .ok (.bipush 40, 2) := by decide +kernel
theorem dM_keep_93 : decode bM_keep 93 = .ok (.aload_n 0, 1) := by decide +kernel
theorem dM_keep_94 : decode bM_keep 94 = .ok (.getfield 139, 3) := by decide +kernel
theorem dM_keep_97 : decode bM_keep 97 = .ok (.i2l, 1) := by decide +kernel
theorem dM_keep_98 : decode bM_keep 98 = .ok (.lastore, 1) := by decide +kernel
theorem dM_keep_99 : decode bM_keep 99 = .ok (.aload_n 0, 1) := by decide +kernel
theorem dM_keep_100 : decode bM_keep 100 = .ok (.getfield 78, 3) := by decide +kernel
theorem dM_keep_103 : decode bM_keep 103 = .ok (.bipush 41, 2) := by decide +kernel
theorem dM_keep_105 : decode bM_keep 105 = .ok (.aload_n 0, 1) := by decide +kernel
theorem dM_keep_106 : decode bM_keep 106 = .ok (.getfield 133, 3) := by decide +kernel
theorem dM_keep_109 : decode bM_keep 109 = .ok (.lastore, 1) := by decide +kernel
theorem dM_keep_110 : decode bM_keep 110 = .ok (.aload_n 0, 1) := by decide +kernel
theorem dM_keep_111 : decode bM_keep 111 = .ok (.getfield 78, 3) := by decide +kernel
theorem dM_keep_114 : decode bM_keep 114 = .ok (.bipush 42, 2) := by decide +kernel
theorem dM_keep_116 : decode bM_keep 116 = .ok (.aload_n 0, 1) := by decide +kernel
theorem dM_keep_117 : decode bM_keep 117 = .ok (.getfield 136, 3) := by decide +kernel
theorem dM_keep_120 : decode bM_keep 120 = .ok (.lastore, 1) := by decide +kernel
theorem dM_keep_121 : decode bM_keep 121 = .ok (.aload_n 0, 1) := by decide +kernel
theorem dM_keep_122 : decode bM_keep 122 = .ok (.getfield 78, 3) := by decide +kernel
theorem dM_keep_125 : decode bM_keep 125 = .ok (.bipush 43, 2) := by decide +kernel
theorem dM_keep_127 : decode bM_keep 127 = .ok (.aload_n 0, 1) := by decide +kernel
theorem dM_keep_128 : decode bM_keep 128 = .ok (.getfield 130, 3) := by decide +kernel
theorem dM_keep_131 : decode bM_keep 131 = .ok (.lastore, 1) := by decide +kernel
theorem dM_keep_132 : decode bM_keep 132 = .ok (.return_, 1) := by decide +kernel
theorem dM_putBack_0 : decode bM_putBack 0 = .ok (.iconst 0, 1) := by decide +kernel
theorem dM_putBack_1 : decode bM_putBack 1 = .ok (.istore_n 1, 1) := by decide +kernel
theorem dM_putBack_2 : decode bM_putBack 2 = .ok (.iload_n 1, 1) := by decide +kernel
theorem dM_putBack_3 : decode bM_putBack 3 = .ok (.bipush 8, 2) := by decide +kernel
theorem dM_putBack_5 : decode bM_putBack 5 = .ok (.if_icmp .ge 82, 3) := by decide +kernel
theorem dM_putBack_8 : decode bM_putBack 8 = .ok (.aload_n 0, 1) := by decide +kernel
theorem dM_putBack_9 : decode bM_putBack 9 = .ok (.getfield 13, 3) := by decide +kernel
theorem dM_putBack_12 : decode bM_putBack 12 = .ok (.iload_n 1, 1) := by decide +kernel
theorem dM_putBack_13 : decode bM_putBack 13 = .ok (.aload_n 0, 1) := by decide +kernel
theorem dM_putBack_14 : decode bM_putBack 14 = .ok (.getfield 78, 3) := by decide +kernel
theorem dM_putBack_17 : decode bM_putBack 17 = .ok (.iload_n 1, 1) := by decide +kernel
theorem dM_putBack_18 : decode bM_putBack 18 = .ok (.laload, 1) := by decide +kernel
theorem dM_putBack_19 : decode bM_putBack 19 = .ok (.lastore, 1) := by decide +kernel
theorem dM_putBack_20 : decode bM_putBack 20 = .ok (.aload_n 0, 1) := by decide +kernel
theorem dM_putBack_21 : decode bM_putBack 21 = .ok (.getfield 17, 3) := by decide +kernel
theorem dM_putBack_24 : decode bM_putBack 24 = .ok (.iload_n 1, 1) := by decide +kernel
theorem dM_putBack_25 : decode bM_putBack 25 = .ok (.aload_n 0, 1) := by decide +kernel
theorem dM_putBack_26 : decode bM_putBack 26 = .ok (.getfield 78, 3) := by decide +kernel
theorem dM_putBack_29 : decode bM_putBack 29 = .ok (.bipush 8, 2) := by decide +kernel
theorem dM_putBack_31 : decode bM_putBack 31 = .ok (.iload_n 1, 1) := by decide +kernel
theorem dM_putBack_32 : decode bM_putBack 32 = .ok (.iadd, 1) := by decide +kernel
theorem dM_putBack_33 : decode bM_putBack 33 = .ok (.laload, 1) := by decide +kernel
theorem dM_putBack_34 : decode bM_putBack 34 = .ok (.l2i, 1) := by decide +kernel
theorem dM_putBack_35 : decode bM_putBack 35 = .ok (.iastore, 1) := by decide +kernel
theorem dM_putBack_36 : decode bM_putBack 36 = .ok (.aload_n 0, 1) := by decide +kernel
theorem dM_putBack_37 : decode bM_putBack 37 = .ok (.getfield 20, 3) := by decide +kernel
theorem dM_putBack_40 : decode bM_putBack 40 = .ok (.iload_n 1, 1) := by decide +kernel
theorem dM_putBack_41 : decode bM_putBack 41 = .ok (.aload_n 0, 1) := by decide +kernel
theorem dM_putBack_42 : decode bM_putBack 42 = .ok (.getfield 78, 3) := by decide +kernel
theorem dM_putBack_45 : decode bM_putBack 45 = .ok (.bipush 16, 2) := by decide +kernel
theorem dM_putBack_47 : decode bM_putBack 47 = .ok (.iload_n 1, 1) := by decide +kernel
theorem dM_putBack_48 : decode bM_putBack 48 = .ok (.iadd, 1) := by decide +kernel
theorem dM_putBack_49 : decode bM_putBack 49 = .ok (.laload, 1) := by decide +kernel
theorem dM_putBack_50 : decode bM_putBack 50 = .ok (.lastore, 1) := by decide +kernel
theorem dM_putBack_51 : decode bM_putBack 51 = .ok (.aload_n 0, 1) := by decide +kernel
theorem dM_putBack_52 : decode bM_putBack 52 = .ok (.getfield 23, 3) := by decide +kernel
theorem dM_putBack_55 : decode bM_putBack 55 = .ok (.iload_n 1, 1) := by decide +kernel
theorem dM_putBack_56 : decode bM_putBack 56 = .ok (.aload_n 0, 1) := by decide +kernel
theorem dM_putBack_57 : decode bM_putBack 57 = .ok (.getfield 78, 3) := by decide +kernel
theorem dM_putBack_60 : decode bM_putBack 60 = .ok (.bipush 24, 2) := by decide +kernel
theorem dM_putBack_62 : decode bM_putBack 62 = .ok (.iload_n 1, 1) := by decide +kernel
theorem dM_putBack_63 : decode bM_putBack 63 = .ok (.iadd, 1) := by decide +kernel
theorem dM_putBack_64 : decode bM_putBack 64 = .ok (.laload, 1) := by decide +kernel
theorem dM_putBack_65 : decode bM_putBack 65 = .ok (.lastore, 1) := by decide +kernel
theorem dM_putBack_66 : decode bM_putBack 66 = .ok (.aload_n 0, 1) := by decide +kernel
theorem dM_putBack_67 : decode bM_putBack 67 = .ok (.getfield 26, 3) := by decide +kernel
theorem dM_putBack_70 : decode bM_putBack 70 = .ok (.iload_n 1, 1) := by decide +kernel
theorem dM_putBack_71 : decode bM_putBack 71 = .ok (.aload_n 0, 1) := by decide +kernel
theorem dM_putBack_72 : decode bM_putBack 72 = .ok (.getfield 78, 3) := by decide +kernel
theorem dM_putBack_75 : decode bM_putBack 75 = .ok (.bipush 32, 2) := by decide +kernel
theorem dM_putBack_77 : decode bM_putBack 77 = .ok (.iload_n 1, 1) := by decide +kernel
theorem dM_putBack_78 : decode bM_putBack 78 = .ok (.iadd, 1) := by decide +kernel
theorem dM_putBack_79 : decode bM_putBack 79 = .ok (.laload, 1) := by decide +kernel
theorem dM_putBack_80 : decode bM_putBack 80 = .ok (.lastore, 1) := by decide +kernel
theorem dM_putBack_81 : decode bM_putBack 81 = .ok (.iinc 1 1, 3) := by decide +kernel
theorem dM_putBack_84 : decode bM_putBack 84 = .ok (.goto (-82), 3) := by decide +kernel
theorem dM_putBack_87 : decode bM_putBack 87 = .ok (.aload_n 0, 1) := by decide +kernel
theorem dM_putBack_88 : decode bM_putBack 88 = .ok (.aload_n 0, 1) := by decide +kernel
theorem dM_putBack_89 : decode bM_putBack 89 = .ok (.getfield 78, 3) := by decide +kernel
theorem dM_putBack_92 : decode bM_putBack 92 = .ok (.bipush 40, 2) := by decide +kernel
theorem dM_putBack_94 : decode bM_putBack 94 = .ok (.laload, 1) := by decide +kernel
theorem dM_putBack_95 : decode bM_putBack 95 = .ok (.l2i, 1) := by decide +kernel
theorem dM_putBack_96 : decode bM_putBack 96 = .ok (.putfield 139, 3) := by decide +kernel
theorem dM_putBack_99 : decode bM_putBack 99 = .ok (.aload_n 0, 1) := by decide +kernel
theorem dM_putBack_100 : decode bM_putBack 100 = .ok (.aload_n 0, 1) := by decide +kernel
theorem dM_putBack_101 : decode bM_putBack 101 = .ok (.getfield 78, 3) := by decide +kernel
theorem dM_putBack_104 : decode bM_putBack 104 = .ok (.bipush 41, 2) := by decide +kernel
theorem dM_putBack_106 : decode bM_putBack 106 = .ok (.laload, 1) := by decide +kernel
theorem dM_putBack_107 : decode bM_putBack 107 = .ok (.putfield 133, 3) := by decide +kernel
theorem dM_putBack_110 : decode bM_putBack 110 = .ok (.aload_n 0, 1) := by decide +kernel
theorem dM_putBack_111 : decode bM_putBack 111 = .ok (.aload_n 0, 1) := by decide +kernel
theorem dM_putBack_112 : decode bM_putBack 112 = .ok (.getfield 78, 3) := by decide +kernel
theorem dM_putBack_115 : decode bM_putBack 115 = .ok (.bipush 42, 2) := by decide +kernel
theorem dM_putBack_117 : decode bM_putBack 117 = .ok (.laload, 1) := by decide +kernel
theorem dM_putBack_118 : decode bM_putBack 118 = .ok (.putfield 136, 3) := by decide +kernel
theorem dM_putBack_121 : decode bM_putBack 121 = .ok (.aload_n 0, 1) := by decide +kernel
theorem dM_putBack_122 : decode bM_putBack 122 = .ok (.aload_n 0, 1) := by decide +kernel
theorem dM_putBack_123 : decode bM_putBack 123 = .ok (.getfield 78, 3) := by decide +kernel
theorem dM_putBack_126 : decode bM_putBack 126 = .ok (.bipush 43, 2) := by decide +kernel
theorem dM_putBack_128 : decode bM_putBack 128 = .ok (.laload, 1) := by decide +kernel
theorem dM_putBack_129 : decode bM_putBack 129 = .ok (.putfield 130, 3) := by decide +kernel
theorem dM_putBack_132 : decode bM_putBack 132 = .ok (.aload_n 0, 1) := by decide +kernel
theorem dM_putBack_133 : decode bM_putBack 133 = .ok (.iconst (-1), 1) := by decide +kernel
theorem dM_putBack_134 : decode bM_putBack 134 = .ok (.putfield 74, 3) := by decide +kernel
theorem dM_putBack_137 : decode bM_putBack 137 = .ok (.aload_n 0, 1) := by decide +kernel
theorem dM_putBack_138 : decode bM_putBack 138 = .ok (.iconst 0, 1) := by decide +kernel
theorem dM_putBack_139 : decode bM_putBack 139 = .ok (.putfield 152, 3) := by decide +kernel
theorem dM_putBack_142 : decode bM_putBack 142 = .ok (.return_, 1) := by decide +kernel
theorem dM_early_0 : decode bM_early 0 = .ok (.aload_n 0, 1) := by decide +kernel
theorem dM_early_1 : decode bM_early 1 = .ok (.aload_n 0, 1) := by decide +kernel
theorem dM_early_2 : decode bM_early 2 = .ok (.iload_n 1, 1) := by decide +kernel
theorem dM_early_3 : decode bM_early 3 = .ok (.invokevirtual 105, 3) := by decide +kernel
theorem dM_early_6 : decode bM_early 6 = .ok (.ifCond .eq 24, 3) := by decide +kernel
theorem dM_early_9 : decode bM_early 9 = .ok (.iload_n 2, 1) := by decide +kernel
theorem dM_early_10 : decode bM_early 10 = .ok (.iconst 0, 1) := by decide +kernel
theorem dM_early_11 : decode bM_early 11 = .ok (.bipush 23, 2) := by decide +kernel
theorem dM_early_13 : decode bM_early 13 = .ok (.invokestatic 85, 3) := by decide +kernel
theorem dM_early_16 : decode bM_early 16 = .ok (.ifCond .eq 14, 3) := by decide +kernel
theorem dM_early_19 : decode bM_early 19 = .ok (.iload_n 3, 1) := by decide +kernel
theorem dM_early_20 : decode bM_early 20 = .ok (.invokestatic 92, 3) := by decide +kernel
theorem dM_early_23 : decode bM_early 23 = .ok (.ifCond .eq 7, 3) := by decide +kernel
theorem dM_early_26 : decode bM_early 26 = .ok (.iconst 0, 1) := by decide +kernel
theorem dM_early_27 : decode bM_early 27 = .ok (.goto 4, 3) := by decide +kernel
theorem dM_early_30 : decode bM_early 30 = .ok (.iconst 1, 1) := by decide +kernel
theorem dM_early_31 : decode bM_early 31 = .ok (.putfield 82, 3) := by decide +kernel
theorem dM_early_34 : decode bM_early 34 = .ok (.aload_n 0, 1) := by decide +kernel
theorem dM_early_35 : decode bM_early 35 = .ok (.getfield 82, 3) := by decide +kernel
theorem dM_early_38 : decode bM_early 38 = .ok (.ifCond .le 5, 3) := by decide +kernel
theorem dM_early_41 : decode bM_early 41 = .ok (.iconst 0, 1) := by decide +kernel
theorem dM_early_42 : decode bM_early 42 = .ok (.ireturn, 1) := by decide +kernel
theorem dM_early_43 : decode bM_early 43 = .ok (.aload_n 0, 1) := by decide +kernel
theorem dM_early_44 : decode bM_early 44 = .ok (.getfield 139, 3) := by decide +kernel
theorem dM_early_47 : decode bM_early 47 = .ok (.iconst 1, 1) := by decide +kernel
theorem dM_early_48 : decode bM_early 48 = .ok (.iadd, 1) := by decide +kernel
theorem dM_early_49 : decode bM_early 49 = .ok (.istore 4, 2) := by decide +kernel
theorem dM_early_51 : decode bM_early 51 = .ok (.iload 4, 2) := by decide +kernel
theorem dM_early_53 : decode bM_early 53 = .ok (.iconst 4, 1) := by decide +kernel
theorem dM_early_54 : decode bM_early 54 = .ok (.irem, 1) := by decide +kernel
theorem dM_early_55 : decode bM_early 55 = .ok (.ifCond .ne 14, 3) := by decide +kernel
theorem dM_early_58 : decode bM_early 58 = .ok (.iload 4, 2) := by decide +kernel
theorem dM_early_60 : decode bM_early 60 = .ok (.iconst 4, 1) := by decide +kernel
theorem dM_early_61 : decode bM_early 61 = .ok (.idiv, 1) := by decide +kernel
theorem dM_early_62 : decode bM_early 62 = .ok (.bipush 24, 2) := by decide +kernel
theorem dM_early_64 : decode bM_early 64 = .ok (.irem, 1) := by decide +kernel
theorem dM_early_65 : decode bM_early 65 = .ok (.iload_n 2, 1) := by decide +kernel
theorem dM_early_66 : decode bM_early 66 = .ok (.if_icmp .eq 9, 3) := by decide +kernel
theorem dM_early_69 : decode bM_early 69 = .ok (.iinc 4 1, 3) := by decide +kernel
theorem dM_early_72 : decode bM_early 72 = .ok (.goto (-21), 3) := by decide +kernel
theorem dM_early_75 : decode bM_early 75 = .ok (.ldc 81, 2) := by decide +kernel
theorem dM_early_77 : decode bM_early 77 = .ok (.istore 5, 2) := by decide +kernel
theorem dM_early_79 : decode bM_early 79 = .ok (.iconst 0, 1) := by decide +kernel
theorem dM_early_80 : decode bM_early 80 = .ok (.istore 6, 2) := by decide +kernel
theorem dM_early_82 : decode bM_early 82 = .ok (.iload 6, 2) := by decide +kernel
theorem dM_early_84 : decode bM_early 84 = .ok (.bipush 24, 2) := by decide +kernel
theorem dM_early_86 : decode bM_early 86 = .ok (.if_icmp .gt 81, 3) := by decide +kernel
theorem dM_early_89 : decode bM_early 89 = .ok (.iload 5, 2) := by decide +kernel
theorem dM_early_91 : decode bM_early 91 = .ok (.ldc 81, 2) := by decide +kernel
theorem dM_early_93 : decode bM_early 93 = .ok (.if_icmp .ne 74, 3) := by decide +kernel
theorem dM_early_96 : decode bM_early 96 = .ok (.aload_n 0, 1) := by decide +kernel
theorem dM_early_97 : decode bM_early 97 = .ok (.invokevirtual 160, 3) := by decide +kernel
theorem dM_early_100 : decode bM_early 100 = .ok (.aload_n 0, 1) := by decide +kernel
theorem dM_early_101 : decode bM_early 101 = .ok (.iload_n 1, 1) := by decide +kernel
theorem dM_early_102 : decode bM_early 102 = .ok (.putfield 74, 3) := by decide +kernel
theorem dM_early_105 : decode bM_early 105 = .ok (.aload_n 0, 1) := by decide +kernel
theorem dM_early_106 : decode bM_early 106 = .ok (.iload_n 3, 1) := by decide +kernel
theorem dM_early_107 : decode bM_early 107 = .ok (.putfield 149, 3) := by decide +kernel
theorem dM_early_110 : decode bM_early 110 = .ok (.aload_n 0, 1) := by decide +kernel
theorem dM_early_111 : decode bM_early 111 = .ok (.iload 4, 2) := by decide +kernel
theorem dM_early_113 : decode bM_early 113 = .ok (.iconst 4, 1) := by decide +kernel
theorem dM_early_114 : decode bM_early 114 = .ok (.iload 6, 2) := by decide +kernel
theorem dM_early_116 : decode bM_early 116 = .ok (.imul, 1) := by decide +kernel
theorem dM_early_117 : decode bM_early 117 = .ok (.isub, 1) := by decide +kernel
theorem dM_early_118 : decode bM_early 118 = .ok (.putfield 146, 3) := by decide +kernel
theorem dM_early_121 : decode bM_early 121 = .ok (.aload_n 0, 1) := by decide +kernel
theorem dM_early_122 : decode bM_early 122 = .ok (.getfield 139, 3) := by decide +kernel
theorem dM_early_125 : decode bM_early 125 = .ok (.iload 4, 2) := by decide +kernel
theorem dM_early_127 : decode bM_early 127 = .ok (.if_icmp .ge 10, 3) := by decide +kernel
theorem dM_early_130 : decode bM_early 130 = .ok (.aload_n 0, 1) := by decide +kernel
theorem dM_early_131 : decode bM_early 131 = .ok (.invokevirtual 157, 3) := by decide +kernel
theorem dM_early_134 : decode bM_early 134 = .ok (.goto (-13), 3) := by decide +kernel
theorem dM_early_137 : decode bM_early 137 = .ok (.aload_n 0, 1) := by decide +kernel
theorem dM_early_138 : decode bM_early 138 = .ok (.iload_n 1, 1) := by decide +kernel
theorem dM_early_139 : decode bM_early 139 = .ok (.invokevirtual 126, 3) := by decide +kernel
theorem dM_early_142 : decode bM_early 142 = .ok (.iload_n 3, 1) := by decide +kernel
theorem dM_early_143 : decode bM_early 143 = .ok (.i2l, 1) := by decide +kernel
theorem dM_early_144 : decode bM_early 144 = .ok (.lcmp, 1) := by decide +kernel
theorem dM_early_145 : decode bM_early 145 = .ok (.ifCond .lt 8, 3) := by decide +kernel
theorem dM_early_148 : decode bM_early 148 = .ok (.iload 6, 2) := by decide +kernel
theorem dM_early_150 : decode bM_early 150 = .ok (.goto 5, 3) := by decide +kernel
theorem dM_early_153 : decode bM_early 153 = .ok (.ldc 81, 2) := by decide +kernel
theorem dM_early_155 : decode bM_early 155 = .ok (.istore 5, 2) := by decide +kernel
theorem dM_early_157 : decode bM_early 157 = .ok (.aload_n 0, 1) := by decide +kernel
theorem dM_early_158 : decode bM_early 158 = .ok (.invokevirtual 163, 3) := by decide +kernel
theorem dM_early_161 : decode bM_early 161 = .ok (.iinc 6 1, 3) := by decide +kernel
theorem dM_early_164 : decode bM_early 164 = .ok (.goto (-82), 3) := by decide +kernel
theorem dM_early_167 : decode bM_early 167 = .ok (.iload 5, 2) := by decide +kernel
theorem dM_early_169 : decode bM_early 169 = .ok (.ireturn, 1) := by decide +kernel
theorem dM_strong_0 : decode bM_strong 0 = .ok (.aload_n 0, 1) := by decide +kernel
theorem dM_strong_1 : decode bM_strong 1 = .ok (.aload_n 0, 1) := by decide +kernel
theorem dM_strong_2 : decode bM_strong 2 = .ok (.iload_n 1, 1) := by decide +kernel
theorem dM_strong_3 : decode bM_strong 3 = .ok (.invokevirtual 105, 3) := by decide +kernel
theorem dM_strong_6 : decode bM_strong 6 = .ok (.ifCond .eq 18, 3) := by decide +kernel
theorem dM_strong_9 : decode bM_strong 9 = .ok (.iload_n 2, 1) := by decide +kernel
theorem dM_strong_10 : decode bM_strong 10 = .ok (.iconst 1, 1) := by decide +kernel
theorem dM_strong_11 : decode bM_strong 11 = .ok (.sipush 192, 3) := by decide +kernel
theorem dM_strong_14 : decode bM_strong 14 = .ok (.invokestatic 85, 3) := by decide +kernel
theorem dM_strong_17 : decode bM_strong 17 = .ok (.ifCond .eq 7, 3) := by decide +kernel
theorem dM_strong_20 : decode bM_strong 20 = .ok (.iconst 0, 1) := by decide +kernel
theorem dM_strong_21 : decode bM_strong 21 = .ok (.goto 4, 3) := by decide +kernel
theorem dM_strong_24 : decode bM_strong 24 = .ok (.iconst 1, 1) := by decide +kernel
theorem dM_strong_25 : decode bM_strong 25 = .ok (.putfield 82, 3) := by decide +kernel
theorem dM_strong_28 : decode bM_strong 28 = .ok (.aload_n 0, 1) := by decide +kernel
theorem dM_strong_29 : decode bM_strong 29 = .ok (.getfield 82, 3) := by decide +kernel
theorem dM_strong_32 : decode bM_strong 32 = .ok (.ifCond .le 5, 3) := by decide +kernel
theorem dM_strong_35 : decode bM_strong 35 = .ok (.iconst 0, 1) := by decide +kernel
theorem dM_strong_36 : decode bM_strong 36 = .ok (.ireturn, 1) := by decide +kernel
theorem dM_strong_37 : decode bM_strong 37 = .ok (.aload_n 0, 1) := by decide +kernel
theorem dM_strong_38 : decode bM_strong 38 = .ok (.getfield 29, 3) := by decide +kernel
theorem dM_strong_41 : decode bM_strong 41 = .ok (.iload_n 1, 1) := by decide +kernel
theorem dM_strong_42 : decode bM_strong 42 = .ok (.iaload, 1) := by decide +kernel
theorem dM_strong_43 : decode bM_strong 43 = .ok (.istore_n 3, 1) := by decide +kernel
theorem dM_strong_44 : decode bM_strong 44 = .ok (.ldc 81, 2) := by decide +kernel
theorem dM_strong_46 : decode bM_strong 46 = .ok (.istore 4, 2) := by decide +kernel
theorem dM_strong_48 : decode bM_strong 48 = .ok (.iconst 0, 1) := by decide +kernel
theorem dM_strong_49 : decode bM_strong 49 = .ok (.istore 5, 2) := by decide +kernel
theorem dM_strong_51 : decode bM_strong 51 = .ok (.iload 5, 2) := by decide +kernel
theorem dM_strong_53 : decode bM_strong 53 = .ok (.ldc 156, 2) := by decide +kernel
theorem dM_strong_55 : decode bM_strong 55 = .ok (.if_icmp .gt 85, 3) := by decide +kernel
theorem dM_strong_58 : decode bM_strong 58 = .ok (.iload 4, 2) := by decide +kernel
theorem dM_strong_60 : decode bM_strong 60 = .ok (.ldc 81, 2) := by decide +kernel
theorem dM_strong_62 : decode bM_strong 62 = .ok (.if_icmp .ne 78, 3) := by decide +kernel
theorem dM_strong_65 : decode bM_strong 65 = .ok (.aload_n 0, 1) := by decide +kernel
theorem dM_strong_66 : decode bM_strong 66 = .ok (.invokevirtual 160, 3) := by decide +kernel
theorem dM_strong_69 : decode bM_strong 69 = .ok (.aload_n 0, 1) := by decide +kernel
theorem dM_strong_70 : decode bM_strong 70 = .ok (.getfield 29, 3) := by decide +kernel
theorem dM_strong_73 : decode bM_strong 73 = .ok (.iload_n 1, 1) := by decide +kernel
theorem dM_strong_74 : decode bM_strong 74 = .ok (.iload 5, 2) := by decide +kernel
theorem dM_strong_76 : decode bM_strong 76 = .ok (.iastore, 1) := by decide +kernel
theorem dM_strong_77 : decode bM_strong 77 = .ok (.aload_n 0, 1) := by decide +kernel
theorem dM_strong_78 : decode bM_strong 78 = .ok (.iload_n 1, 1) := by decide +kernel
theorem dM_strong_79 : decode bM_strong 79 = .ok (.putfield 74, 3) := by decide +kernel
theorem dM_strong_82 : decode bM_strong 82 = .ok (.aload_n 0, 1) := by decide +kernel
theorem dM_strong_83 : decode bM_strong 83 = .ok (.aload_n 0, 1) := by decide +kernel
theorem dM_strong_84 : decode bM_strong 84 = .ok (.getfield 139, 3) := by decide +kernel
theorem dM_strong_87 : decode bM_strong 87 = .ok (.iload_n 2, 1) := by decide +kernel
theorem dM_strong_88 : decode bM_strong 88 = .ok (.iadd, 1) := by decide +kernel
theorem dM_strong_89 : decode bM_strong 89 = .ok (.putfield 146, 3) := by decide +kernel
