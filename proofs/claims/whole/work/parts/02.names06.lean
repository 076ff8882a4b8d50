theorem dX4_findPolynomial_283 : decode cX4_findPolynomial 283 = .ok (.iload 4, 2) := by decide +kernel
theorem dX4_findPolynomial_285 : decode cX4_findPolynomial 285 = .ok (.sipush 220, 3) := by decide +kernel
theorem dX4_findPolynomial_288 : decode cX4_findPolynomial 288 = .ok (.if_icmp .ge 31, 3) := by decide +kernel
theorem dX4_findPolynomial_291 : decode cX4_findPolynomial 291 = .ok (.aload_n 0, 1) := by decide +kernel
theorem dX4_findPolynomial_292 : decode cX4_findPolynomial 292 = .ok (.getfield 41, 3) := by decide +kernel
theorem dX4_findPolynomial_295 : decode cX4_findPolynomial 295 = .ok (.iload 4, 2) := by decide +kernel
theorem dX4_findPolynomial_297 : decode cX4_findPolynomial 297 = .ok (.aload_n 0, 1) := by decide +kernel
theorem dX4_findPolynomial_298 : decode cX4_findPolynomial 298 = .ok (.getfield 22, 3) := by decide +kernel
theorem dX4_findPolynomial_301 : decode cX4_findPolynomial 301 = .ok (.sipush 220, 3) := by decide +kernel
theorem dX4_findPolynomial_304 : decode cX4_findPolynomial 304 = .ok (.iload_n 2, 1) := by decide +kernel
theorem dX4_findPolynomial_305 : decode cX4_findPolynomial 305 = .ok (.imul, 1) := by decide +kernel
theorem dX4_findPolynomial_306 : decode cX4_findPolynomial 306 = .ok (.iload 4, 2) := by decide +kernel
theorem dX4_findPolynomial_308 : decode cX4_findPolynomial 308 = .ok (.iadd, 1) := by decide +kernel
theorem dX4_findPolynomial_309 : decode cX4_findPolynomial 309 = .ok (.iaload, 1) := by decide +kernel
theorem dX4_findPolynomial_310 : decode cX4_findPolynomial 310 = .ok (.ineg, 1) := by decide +kernel
theorem dX4_findPolynomial_311 : decode cX4_findPolynomial 311 = .ok (.i2l, 1) := by decide +kernel
theorem dX4_findPolynomial_312 : decode cX4_findPolynomial 312 = .ok (.lastore, 1) := by decide +kernel
theorem dX4_findPolynomial_313 : decode cX4_findPolynomial 313 = .ok (.iinc 4 1, 3) := by decide +kernel
theorem dX4_findPolynomial_316 : decode cX4_findPolynomial 316 = .ok (.goto (-33), 3) := by decide +kernel
theorem dX4_findPolynomial_319 : decode cX4_findPolynomial 319 = .ok (.goto 75, 3) := by decide +kernel
theorem dX4_findPolynomial_322 : decode cX4_findPolynomial 322 = .ok (.aload_n 0, 1) := by decide +kernel
theorem dX4_findPolynomial_323 : decode cX4_findPolynomial 323 = .ok (.iload_n 2, 1) := by decide +kernel
theorem dX4_findPolynomial_324 : decode cX4_findPolynomial 324 = .ok (.iload_n 2, 1) := by decide +kernel
theorem dX4_findPolynomial_325 : decode cX4_findPolynomial 325 = .ok (.invokevirtual 103, 3) := by decide +kernel
theorem dX4_findPolynomial_328 : decode cX4_findPolynomial 328 = .ok (.aload_n 0, 1) := by decide +kernel
theorem dX4_findPolynomial_329 : decode cX4_findPolynomial 329 = .ok (.invokevirtual 107, 3) := by decide +kernel
theorem dX4_findPolynomial_332 : decode cX4_findPolynomial 332 = .ok (.iconst 0, 1) := by decide +kernel
theorem dX4_findPolynomial_333 : decode cX4_findPolynomial 333 = .ok (.istore 4, 2) := by decide +kernel
theorem dX4_findPolynomial_335 : decode cX4_findPolynomial 335 = .ok (.iload 4, 2) := by decide +kernel
theorem dX4_findPolynomial_337 : decode cX4_findPolynomial 337 = .ok (.sipush 220, 3) := by decide +kernel
theorem dX4_findPolynomial_340 : decode cX4_findPolynomial 340 = .ok (.if_icmp .ge 41, 3) := by decide +kernel
theorem dX4_findPolynomial_343 : decode cX4_findPolynomial 343 = .ok (.aload_n 0, 1) := by decide +kernel
theorem dX4_findPolynomial_344 : decode cX4_findPolynomial 344 = .ok (.getfield 22, 3) := by decide +kernel
theorem dX4_findPolynomial_347 : decode cX4_findPolynomial 347 = .ok (.sipush 220, 3) := by decide +kernel
theorem dX4_findPolynomial_350 : decode cX4_findPolynomial 350 = .ok (.iload_n 1, 1) := by decide +kernel
theorem dX4_findPolynomial_351 : decode cX4_findPolynomial 351 = .ok (.imul, 1) := by decide +kernel
theorem dX4_findPolynomial_352 : decode cX4_findPolynomial 352 = .ok (.iload 4, 2) := by decide +kernel
theorem dX4_findPolynomial_354 : decode cX4_findPolynomial 354 = .ok (.iadd, 1) := by decide +kernel
theorem dX4_findPolynomial_355 : decode cX4_findPolynomial 355 = .ok (.aload_n 0, 1) := by decide +kernel
theorem dX4_findPolynomial_356 : decode cX4_findPolynomial 356 = .ok (.getfield 95, 3) := by decide +kernel
theorem dX4_findPolynomial_359 : decode cX4_findPolynomial 359 = .ok (.ifCond .eq 7, 3) := by decide +kernel
theorem dX4_findPolynomial_362 : decode cX4_findPolynomial 362 = .ok (.iconst 0, 1) := by decide +kernel
theorem dX4_findPolynomial_363 : decode cX4_findPolynomial 363 = .ok (.goto 11, 3) := by decide +kernel
theorem dX4_findPolynomial_366 : decode cX4_findPolynomial 366 = .ok (.aload_n 0, 1) := by decide +kernel
theorem dX4_findPolynomial_367 : decode cX4_findPolynomial 367 = .ok (.getfield 41, 3) := by decide +kernel
theorem dX4_findPolynomial_370 : decode cX4_findPolynomial 370 = .ok (.iload 4, 2) := by decide +kernel
theorem dX4_findPolynomial_372 : decode cX4_findPolynomial 372 = .ok (.laload, 1) := by decide +kernel
theorem dX4_findPolynomial_373 : decode cX4_findPolynomial 373 = .ok (.l2i, 1) := by decide +kernel
theorem dX4_findPolynomial_374 : decode cX4_findPolynomial 374 = .ok (.iastore, 1) := by decide +kernel
theorem dX4_findPolynomial_375 : decode cX4_findPolynomial 375 = .ok (.iinc 4 1, 3) := by decide +kernel
theorem dX4_findPolynomial_378 : decode cX4_findPolynomial 378 = .ok (.goto (-43), 3) := by decide +kernel
theorem dX4_findPolynomial_381 : decode cX4_findPolynomial 381 = .ok (.aload_n 0, 1) := by decide +kernel
theorem dX4_findPolynomial_382 : decode cX4_findPolynomial 382 = .ok (.getfield 95, 3) := by decide +kernel
theorem dX4_findPolynomial_385 : decode cX4_findPolynomial 385 = .ok (.ifCond .ne 9, 3) := by decide +kernel
theorem dX4_findPolynomial_388 : decode cX4_findPolynomial 388 = .ok (.aload_n 0, 1) := by decide +kernel
theorem dX4_findPolynomial_389 : decode cX4_findPolynomial 389 = .ok (.iload_n 1, 1) := by decide +kernel
theorem dX4_findPolynomial_390 : decode cX4_findPolynomial 390 = .ok (.iload_n 2, 1) := by decide +kernel
theorem dX4_findPolynomial_391 : decode cX4_findPolynomial 391 = .ok (.invokevirtual 103, 3) := by decide +kernel
theorem dX4_findPolynomial_394 : decode cX4_findPolynomial 394 = .ok (.aload_n 0, 1) := by decide +kernel
theorem dX4_findPolynomial_395 : decode cX4_findPolynomial 395 = .ok (.invokevirtual 107, 3) := by decide +kernel
theorem dX4_findPolynomial_398 : decode cX4_findPolynomial 398 = .ok (.aload_n 0, 1) := by decide +kernel
theorem dX4_findPolynomial_399 : decode cX4_findPolynomial 399 = .ok (.getfield 25, 3) := by decide +kernel
theorem dX4_findPolynomial_402 : decode cX4_findPolynomial 402 = .ok (.iload_n 1, 1) := by decide +kernel
theorem dX4_findPolynomial_403 : decode cX4_findPolynomial 403 = .ok (.aload_n 0, 1) := by decide +kernel
theorem dX4_findPolynomial_404 : decode cX4_findPolynomial 404 = .ok (.getfield 95, 3) := by decide +kernel
theorem dX4_findPolynomial_407 : decode cX4_findPolynomial 407 = .ok (.bastore, 1) := by decide +kernel
theorem dX4_findPolynomial_408 : decode cX4_findPolynomial 408 = .ok (.iconst 0, 1) := by decide +kernel
theorem dX4_findPolynomial_409 : decode cX4_findPolynomial 409 = .ok (.istore 4, 2) := by decide +kernel
theorem dX4_findPolynomial_411 : decode cX4_findPolynomial 411 = .ok (.iload 4, 2) := by decide +kernel
theorem dX4_findPolynomial_413 : decode cX4_findPolynomial 413 = .ok (.sipush 220, 3) := by decide +kernel
theorem dX4_findPolynomial_416 : decode cX4_findPolynomial 416 = .ok (.if_icmp .ge 41, 3) := by decide +kernel
theorem dX4_findPolynomial_419 : decode cX4_findPolynomial 419 = .ok (.aload_n 0, 1) := by decide +kernel
theorem dX4_findPolynomial_420 : decode cX4_findPolynomial 420 = .ok (.getfield 22, 3) := by decide +kernel
theorem dX4_findPolynomial_423 : decode cX4_findPolynomial 423 = .ok (.sipush 220, 3) := by decide +kernel
theorem dX4_findPolynomial_426 : decode cX4_findPolynomial 426 = .ok (.iload_n 1, 1) := by decide +kernel
theorem dX4_findPolynomial_427 : decode cX4_findPolynomial 427 = .ok (.imul, 1) := by decide +kernel
theorem dX4_findPolynomial_428 : decode cX4_findPolynomial 428 = .ok (.iload 4, 2) := by decide +kernel
theorem dX4_findPolynomial_430 : decode cX4_findPolynomial 430 = .ok (.iadd, 1) := by decide +kernel
theorem dX4_findPolynomial_431 : decode cX4_findPolynomial 431 = .ok (.aload_n 0, 1) := by decide +kernel
theorem dX4_findPolynomial_432 : decode cX4_findPolynomial 432 = .ok (.getfield 95, 3) := by decide +kernel
theorem dX4_findPolynomial_435 : decode cX4_findPolynomial 435 = .ok (.ifCond .eq 7, 3) := by decide +kernel
theorem dX4_findPolynomial_438 : decode cX4_findPolynomial 438 = .ok (.iconst 0, 1) := by decide +kernel
theorem dX4_findPolynomial_439 : decode cX4_findPolynomial 439 = .ok (.goto 11, 3) := by decide +kernel
theorem dX4_findPolynomial_442 : decode cX4_findPolynomial 442 = .ok (.aload_n 0, 1) := by decide +kernel
theorem dX4_findPolynomial_443 : decode cX4_findPolynomial 443 = .ok (.getfield 41, 3) := by decide +kernel
theorem dX4_findPolynomial_446 : decode cX4_findPolynomial 446 = .ok (.iload 4, 2) := by decide +kernel
theorem dX4_findPolynomial_448 : decode cX4_findPolynomial 448 = .ok (.laload, 1) := by decide +kernel
theorem dX4_findPolynomial_449 : decode cX4_findPolynomial 449 = .ok (.l2i, 1) := by decide +kernel
theorem dX4_findPolynomial_450 : decode cX4_findPolynomial 450 = .ok (.iastore, 1) := by decide +kernel
theorem dX4_findPolynomial_451 : decode cX4_findPolynomial 451 = .ok (.iinc 4 1, 3) := by decide +kernel
theorem dX4_findPolynomial_454 : decode cX4_findPolynomial 454 = .ok (.goto (-43), 3) := by decide +kernel
theorem dX4_findPolynomial_457 : decode cX4_findPolynomial 457 = .ok (.return_, 1) := by decide +kernel
set_option maxRecDepth 20000 in
theorem ggX4_bound_X4_in : GoodIn wsX4_bound wsX4_in := goodIn_r _ [8] (by decide +kernel) (by decide +kernel)
set_option maxRecDepth 20000 in
theorem gX4_bound_X4_in : GoodIn wsX4_bound (va_wsS RX4 58 yX4_in wsX4_in) := goodIn_app (goodIn_of _ (by decide +kernel)) ggX4_bound_X4_in
theorem dX4_bound_0 : decode cX4_bound 0 = .ok (.iconst 0, 1) := by decide +kernel
theorem dX4_bound_1 : decode cX4_bound 1 = .ok (.istore_n 1, 1) := by decide +kernel
theorem dX4_bound_2 : decode cX4_bound 2 = .ok (.iconst 0, 1) := by decide +kernel
theorem dX4_bound_3 : decode cX4_bound 3 = .ok (.istore_n 2, 1) := by decide +kernel
theorem dX4_bound_4 : decode cX4_bound 4 = .ok (.iload_n 2, 1) := by decide +kernel
theorem dX4_bound_5 : decode cX4_bound 5 = .ok (.sipush 220, 3) := by decide +kernel
theorem dX4_bound_8 : decode cX4_bound 8 = .ok (.if_icmp .ge 51, 3) := by decide +kernel
theorem dX4_bound_11 : decode cX4_bound 11 = .ok (.aload_n 0, 1) := by decide +kernel
theorem dX4_bound_12 : decode cX4_bound 12 = .ok (.getfield 41, 3) := by decide +kernel
theorem dX4_bound_15 : decode cX4_bound 15 = .ok (.iload_n 2, 1) := by decide +kernel
theorem dX4_bound_16 : decode cX4_bound 16 = .ok (.laload, 1) := by decide +kernel
theorem dX4_bound_17 : decode cX4_bound 17 = .ok (.ldc2_w 82, 3) := by decide +kernel
theorem dX4_bound_20 : decode cX4_bound 20 = .ok (.ldc2_w 84, 3) := by decide +kernel
theorem dX4_bound_23 : decode cX4_bound 23 = .ok (.invokestatic 58, 3) := by decide +kernel
theorem dX4_bound_26 : decode cX4_bound 26 = .ok (.ifCond .ne 8, 3) := by decide +kernel
theorem dX4_bound_29 : decode cX4_bound 29 = .ok (.aload_n 0, 1) := by decide +kernel
theorem dX4_bound_30 : decode cX4_bound 30 = .ok (.iconst 1, 1) := by decide +kernel
theorem dX4_bound_31 : decode cX4_bound 31 = .ok (.putfield 95, 3) := by decide +kernel
theorem dX4_bound_34 : decode cX4_bound 34 = .ok (.iload_n 1, 1) := by decide +kernel
theorem dX4_bound_35 : decode cX4_bound 35 = .ok (.aload_n 0, 1) := by decide +kernel
theorem dX4_bound_36 : decode cX4_bound 36 = .ok (.getfield 41, 3) := by decide +kernel
theorem dX4_bound_39 : decode cX4_bound 39 = .ok (.iload_n 2, 1) := by decide +kernel
theorem dX4_bound_40 : decode cX4_bound 40 = .ok (.laload, 1) := by decide +kernel
theorem dX4_bound_41 : decode cX4_bound 41 = .ok (.lconst 0, 1) := by decide +kernel
theorem dX4_bound_42 : decode cX4_bound 42 = .ok (.lcmp, 1) := by decide +kernel
theorem dX4_bound_43 : decode cX4_bound 43 = .ok (.ifCond .eq 7, 3) := by decide +kernel
theorem dX4_bound_46 : decode cX4_bound 46 = .ok (.iconst 1, 1) := by decide +kernel
theorem dX4_bound_47 : decode cX4_bound 47 = .ok (.goto 4, 3) := by decide +kernel
theorem dX4_bound_50 : decode cX4_bound 50 = .ok (.iconst 0, 1) := by decide +kernel
theorem dX4_bound_51 : decode cX4_bound 51 = .ok (.iadd, 1) := by decide +kernel
theorem dX4_bound_52 : decode cX4_bound 52 = .ok (.istore_n 1, 1) := by decide +kernel
theorem dX4_bound_53 : decode cX4_bound 53 = .ok (.iinc 2 1, 3) := by decide +kernel
theorem dX4_bound_56 : decode cX4_bound 56 = .ok (.goto (-52), 3) := by decide +kernel
theorem dX4_bound_59 : decode cX4_bound 59 = .ok (.iload_n 1, 1) := by decide +kernel
theorem dX4_bound_60 : decode cX4_bound 60 = .ok (.bipush 40, 2) := by decide +kernel
theorem dX4_bound_62 : decode cX4_bound 62 = .ok (.if_icmp .le 8, 3) := by decide +kernel
theorem dX4_bound_65 : decode cX4_bound 65 = .ok (.aload_n 0, 1) := by decide +kernel
theorem dX4_bound_66 : decode cX4_bound 66 = .ok (.iconst 1, 1) := by decide +kernel
theorem dX4_bound_67 : decode cX4_bound 67 = .ok (.putfield 95, 3) := by decide +kernel
theorem dX4_bound_70 : decode cX4_bound 70 = .ok (.return_, 1) := by decide +kernel
set_option maxRecDepth 20000 in
theorem ggX4_multiply_X4_high : GoodIn wsX4_multiply wsX4_high := goodIn_r _ [8, 3, 9, 10, 7, 11, 22, 23, 24, 25, 26, 27, 28, 29, 30, 31, 32, 33, 34, 35, 36, 37, 38] (by decide +kernel) (by decide +kernel)
set_option maxRecDepth 20000 in
theorem gX4_multiply_X4_high : GoodIn wsX4_multiply (wsV RX4 110 RX4 yX4_high wsX4_high) := goodIn_app (goodIn_of _ (by decide +kernel)) ggX4_multiply_X4_high
set_option maxRecDepth 20000 in
theorem ggX4_multiply_X4_place : GoodIn wsX4_multiply wsX4_place := goodIn_r _ [14, 9, 10, 7, 11, 15, 16, 17] (by decide +kernel) (by decide +kernel)
set_option maxRecDepth 20000 in
theorem gX4_multiply_X4_place : GoodIn wsX4_multiply (va_wsS RX4 99 yX4_place wsX4_place) := goodIn_app (goodIn_of _ (by decide +kernel)) ggX4_multiply_X4_place
set_option maxRecDepth 20000 in
theorem ggX4_multiply_X4_onto : GoodIn wsX4_multiply wsX4_onto := goodIn_r _ [21, 1, 3, 12, 13, 7, 14, 9, 10, 11, 15, 16, 17, 22, 23, 24, 25, 26, 27, 28, 29, 30, 31, 32, 33, 34, 35, 36, 37, 38] (by decide +kernel) (by decide +kernel)
set_option maxRecDepth 20000 in
theorem gX4_multiply_X4_onto : GoodIn wsX4_multiply (wsV RX4 113 RX4 yX4_onto wsX4_onto) := goodIn_app (goodIn_of _ (by decide +kernel)) ggX4_multiply_X4_onto
theorem dX4_multiply_0 : decode cX4_multiply 0 = .ok (.iconst 0, 1) := by decide +kernel
theorem dX4_multiply_1 : decode cX4_multiply 1 = .ok (.istore_n 3, 1) := by decide +kernel
theorem dX4_multiply_2 : decode cX4_multiply 2 = .ok (.iload_n 3, 1) := by decide +kernel
theorem dX4_multiply_3 : decode cX4_multiply 3 = .ok (.sipush 220, 3) := by decide +kernel
theorem dX4_multiply_6 : decode cX4_multiply 6 = .ok (.if_icmp .ge 16, 3) := by decide +kernel
theorem dX4_multiply_9 : decode cX4_multiply 9 = .ok (.aload_n 0, 1) := by decide +kernel
theorem dX4_multiply_10 : decode cX4_multiply 10 = .ok (.getfield 41, 3) := by decide +kernel
theorem dX4_multiply_13 : decode cX4_multiply 13 = .ok (.iload_n 3, 1) := by decide +kernel
theorem dX4_multiply_14 : decode cX4_multiply 14 = .ok (.lconst 0, 1) := by decide +kernel
theorem dX4_multiply_15 : decode cX4_multiply 15 = .ok (.lastore, 1) := by decide +kernel
theorem dX4_multiply_16 : decode cX4_multiply 16 = .ok (.iinc 3 1, 3) := by decide +kernel
theorem dX4_multiply_19 : decode cX4_multiply 19 = .ok (.goto (-17), 3) := by decide +kernel
theorem dX4_multiply_22 : decode cX4_multiply 22 = .ok (.aload_n 0, 1) := by decide +kernel
theorem dX4_multiply_23 : decode cX4_multiply 23 = .ok (.iload_n 1, 1) := by decide +kernel
theorem dX4_multiply_24 : decode cX4_multiply 24 = .ok (.invokevirtual 110, 3) := by decide +kernel
theorem dX4_multiply_27 : decode cX4_multiply 27 = .ok (.aload_n 0, 1) := by decide +kernel
theorem dX4_multiply_28 : decode cX4_multiply 28 = .ok (.iload_n 2, 1) := by decide +kernel
theorem dX4_multiply_29 : decode cX4_multiply 29 = .ok (.invokevirtual 110, 3) := by decide +kernel
theorem dX4_multiply_32 : decode cX4_multiply 32 = .ok (.iadd, 1) := by decide +kernel
theorem dX4_multiply_33 : decode cX4_multiply 33 = .ok (.istore_n 3, 1) := by decide +kernel
theorem dX4_multiply_34 : decode cX4_multiply 34 = .ok (.iload_n 3, 1) := by decide +kernel
theorem dX4_multiply_35 : decode cX4_multiply 35 = .ok (.bipush 9, 2) := by decide +kernel
theorem dX4_multiply_37 : decode cX4_multiply 37 = .ok (.if_icmp .le 8, 3) := by decide +kernel
theorem dX4_multiply_40 : decode cX4_multiply 40 = .ok (.aload_n 0, 1) := by decide +kernel
theorem dX4_multiply_41 : decode cX4_multiply 41 = .ok (.iconst 1, 1) := by decide +kernel
theorem dX4_multiply_42 : decode cX4_multiply 42 = .ok (.putfield 95, 3) := by decide +kernel
theorem dX4_multiply_45 : decode cX4_multiply 45 = .ok (.aload_n 0, 1) := by decide +kernel
theorem dX4_multiply_46 : decode cX4_multiply 46 = .ok (.getfield 95, 3) := by decide +kernel
theorem dX4_multiply_49 : decode cX4_multiply 49 = .ok (.ifCond .eq 4, 3) := by decide +kernel
theorem dX4_multiply_52 : decode cX4_multiply 52 = .ok (.return_, 1) := by decide +kernel
theorem dX4_multiply_53 : decode cX4_multiply 53 = .ok (.iconst 0, 1) := by decide +kernel
theorem dX4_multiply_54 : decode cX4_multiply 54 = .ok (.istore 4, 2) := by decide +kernel
theorem dX4_multiply_56 : decode cX4_multiply 56 = .ok (.iload 4, 2) := by decide +kernel
theorem dX4_multiply_58 : decode cX4_multiply 58 = .ok (.bipush 10, 2) := by decide +kernel
theorem dX4_multiply_60 : decode cX4_multiply 60 = .ok (.if_icmp .ge 93, 3) := by decide +kernel
theorem dX4_multiply_63 : decode cX4_multiply 63 = .ok (.iconst 0, 1) := by decide +kernel
theorem dX4_multiply_64 : decode cX4_multiply 64 = .ok (.istore 5, 2) := by decide +kernel
theorem dX4_multiply_66 : decode cX4_multiply 66 = .ok (.iload 4, 2) := by decide +kernel
theorem dX4_multiply_68 : decode cX4_multiply 68 = .ok (.iload 5, 2) := by decide +kernel
theorem dX4_multiply_70 : decode cX4_multiply 70 = .ok (.iadd, 1) := by decide +kernel
theorem dX4_multiply_71 : decode cX4_multiply 71 = .ok (.bipush 10, 2) := by decide +kernel
theorem dX4_multiply_73 : decode cX4_multiply 73 = .ok (.if_icmp .ge 74, 3) := by decide +kernel
theorem dX4_multiply_76 : decode cX4_multiply 76 = .ok (.iconst 0, 1) := by decide +kernel
theorem dX4_multiply_77 : decode cX4_multiply 77 = .ok (.istore 6, 2) := by decide +kernel
theorem dX4_multiply_79 : decode cX4_multiply 79 = .ok (.iload 4, 2) := by decide +kernel
theorem dX4_multiply_81 : decode cX4_multiply 81 = .ok (.iload 5, 2) := by decide +kernel
theorem dX4_multiply_83 : decode cX4_multiply 83 = .ok (.iadd, 1) := by decide +kernel
theorem dX4_multiply_84 : decode cX4_multiply 84 = .ok (.iload 6, 2) := by decide +kernel
theorem dX4_multiply_86 : decode cX4_multiply 86 = .ok (.iadd, 1) := by decide +kernel
theorem dX4_multiply_87 : decode cX4_multiply 87 = .ok (.bipush 10, 2) := by decide +kernel
theorem dX4_multiply_89 : decode cX4_multiply 89 = .ok (.if_icmp .ge 52, 3) := by decide +kernel
theorem dX4_multiply_92 : decode cX4_multiply 92 = .ok (.aload_n 0, 1) := by decide +kernel
theorem dX4_multiply_93 : decode cX4_multiply 93 = .ok (.getfield 22, 3) := by decide +kernel
theorem dX4_multiply_96 : decode cX4_multiply 96 = .ok (.sipush 220, 3) := by decide +kernel
theorem dX4_multiply_99 : decode cX4_multiply 99 = .ok (.iload_n 1, 1) := by decide +kernel
theorem dX4_multiply_100 : decode cX4_multiply 100 = .ok (.imul, 1) := by decide +kernel
theorem dX4_multiply_101 : decode cX4_multiply 101 = .ok (.iload 4, 2) := by decide +kernel
theorem dX4_multiply_103 : decode cX4_multiply 103 = .ok (.iload 5, 2) := by decide +kernel
theorem dX4_multiply_105 : decode cX4_multiply 105 = .ok (.iload 6, 2) := by decide +kernel
theorem dX4_multiply_107 : decode cX4_multiply 107 = .ok (.invokestatic 99, 3) := by decide +kernel
theorem dX4_multiply_110 : decode cX4_multiply 110 = .ok (.iadd, 1) := by decide +kernel
theorem dX4_multiply_111 : decode cX4_multiply 111 = .ok (.iaload, 1) := by decide +kernel
theorem dX4_multiply_112 : decode cX4_multiply 112 = .ok (.i2l, 1) := by decide +kernel
theorem dX4_multiply_113 : decode cX4_multiply 113 = .ok (.lstore 7, 2) := by decide +kernel
theorem dX4_multiply_115 : decode cX4_multiply 115 = .ok (.lload 7, 2) := by decide +kernel
theorem dX4_multiply_117 : decode cX4_multiply 117 = .ok (.lconst 0, 1) := by decide +kernel
theorem dX4_multiply_118 : decode cX4_multiply 118 = .ok (.lcmp, 1) := by decide +kernel
theorem dX4_multiply_119 : decode cX4_multiply 119 = .ok (.ifCond .eq 16, 3) := by decide +kernel
theorem dX4_multiply_122 : decode cX4_multiply 122 = .ok (.aload_n 0, 1) := by decide +kernel
theorem dX4_multiply_123 : decode cX4_multiply 123 = .ok (.lload 7, 2) := by decide +kernel
theorem dX4_multiply_125 : decode cX4_multiply 125 = .ok (.iload 4, 2) := by decide +kernel
theorem dX4_multiply_127 : decode cX4_multiply 127 = .ok (.iload 5, 2) := by decide +kernel
theorem dX4_multiply_129 : decode cX4_multiply 129 = .ok (.iload 6, 2) := by decide +kernel
theorem dX4_multiply_131 : decode cX4_multiply 131 = .ok (.iload_n 2, 1) := by decide +kernel
theorem dX4_multiply_132 : decode cX4_multiply 132 = .ok (.invokevirtual 113, 3) := by decide +kernel
theorem dX4_multiply_135 : decode cX4_multiply 135 = .ok (.iinc 6 1, 3) := by decide +kernel
theorem dX4_multiply_138 : decode cX4_multiply 138 = .ok (.goto (-59), 3) := by decide +kernel
theorem dX4_multiply_141 : decode cX4_multiply 141 = .ok (.iinc 5 1, 3) := by decide +kernel
theorem dX4_multiply_144 : decode cX4_multiply 144 = .ok (.goto (-78), 3) := by decide +kernel
theorem dX4_multiply_147 : decode cX4_multiply 147 = .ok (.iinc 4 1, 3) := by decide +kernel
theorem dX4_multiply_150 : decode cX4_multiply 150 = .ok (.goto (-94), 3) := by decide +kernel
theorem dX4_multiply_153 : decode cX4_multiply 153 = .ok (.return_, 1) := by decide +kernel
set_option maxRecDepth 20000 in
theorem ggX4_onto_X4_place : GoodIn wsX4_onto wsX4_place := goodIn_r _ [6, 7, 8, 5, 9, 10, 11, 12] (by decide +kernel) (by decide +kernel)
set_option maxRecDepth 20000 in
theorem gX4_onto_X4_place : GoodIn wsX4_onto (va_wsS RX4 99 yX4_place wsX4_place) := goodIn_app (goodIn_of _ (by decide +kernel)) ggX4_onto_X4_place
theorem dX4_onto_0 : decode cX4_onto 0 = .ok (.iconst 0, 1) := by decide +kernel
theorem dX4_onto_1 : decode cX4_onto 1 = .ok (.istore 7, 2) := by decide +kernel
theorem dX4_onto_3 : decode cX4_onto 3 = .ok (.iload_n 3, 1) := by decide +kernel
theorem dX4_onto_4 : decode cX4_onto 4 = .ok (.iload 4, 2) := by decide +kernel
theorem dX4_onto_6 : decode cX4_onto 6 = .ok (.iadd, 1) := by decide +kernel
theorem dX4_onto_7 : decode cX4_onto 7 = .ok (.iload 5, 2) := by decide +kernel
theorem dX4_onto_9 : decode cX4_onto 9 = .ok (.iadd, 1) := by decide +kernel
theorem dX4_onto_10 : decode cX4_onto 10 = .ok (.iload 7, 2) := by decide +kernel
theorem dX4_onto_12 : decode cX4_onto 12 = .ok (.iadd, 1) := by decide +kernel
theorem dX4_onto_13 : decode cX4_onto 13 = .ok (.bipush 10, 2) := by decide +kernel
theorem dX4_onto_15 : decode cX4_onto 15 = .ok (.if_icmp .ge 115, 3) := by decide +kernel
theorem dX4_onto_18 : decode cX4_onto 18 = .ok (.iconst 0, 1) := by decide +kernel
theorem dX4_onto_19 : decode cX4_onto 19 = .ok (.istore 8, 2) := by decide +kernel
theorem dX4_onto_21 : decode cX4_onto 21 = .ok (.iload_n 3, 1) := by decide +kernel
theorem dX4_onto_22 : decode cX4_onto 22 = .ok (.iload 4, 2) := by decide +kernel
theorem dX4_onto_24 : decode cX4_onto 24 = .ok (.iadd, 1) := by decide +kernel
theorem dX4_onto_25 : decode cX4_onto 25 = .ok (.iload 5, 2) := by decide +kernel
theorem dX4_onto_27 : decode cX4_onto 27 = .ok (.iadd, 1) := by decide +kernel
theorem dX4_onto_28 : decode cX4_onto 28 = .ok (.iload 7, 2) := by decide +kernel
theorem dX4_onto_30 : decode cX4_onto 30 = .ok (.iadd, 1) := by decide +kernel
theorem dX4_onto_31 : decode cX4_onto 31 = .ok (.iload 8, 2) := by decide +kernel
theorem dX4_onto_33 : decode cX4_onto 33 = .ok (.iadd, 1) := by decide +kernel
theorem dX4_onto_34 : decode cX4_onto 34 = .ok (.bipush 10, 2) := by decide +kernel
theorem dX4_onto_36 : decode cX4_onto 36 = .ok (.if_icmp .ge 88, 3) := by decide +kernel
theorem dX4_onto_39 : decode cX4_onto 39 = .ok (.iconst 0, 1) := by decide +kernel
theorem dX4_onto_40 : decode cX4_onto 40 = .ok (.istore 9, 2) := by decide +kernel
theorem dX4_onto_42 : decode cX4_onto 42 = .ok (.iload_n 3, 1) := by decide +kernel
theorem dX4_onto_43 : decode cX4_onto 43 = .ok (.iload 4, 2) := by decide +kernel
theorem dX4_onto_45 : decode cX4_onto 45 = .ok (.iadd, 1) := by decide +kernel
theorem dX4_onto_46 : decode cX4_onto 46 = .ok (.iload 5, 2) := by decide +kernel
theorem dX4_onto_48 : decode cX4_onto 48 = .ok (.iadd, 1) := by decide +kernel
theorem dX4_onto_49 : decode cX4_onto 49 = .ok (.iload 7, 2) := by decide +kernel
theorem dX4_onto_51 : decode cX4_onto 51 = .ok (.iadd, 1) := by decide +kernel
theorem dX4_onto_52 : decode cX4_onto 52 = .ok (.iload 8, 2) := by decide +kernel
theorem dX4_onto_54 : decode cX4_onto 54 = .ok (.iadd, 1) := by decide +kernel
theorem dX4_onto_55 : decode cX4_onto 55 = .ok (.iload 9, 2) := by decide +kernel
theorem dX4_onto_57 : decode cX4_onto 57 = .ok (.iadd, 1) := by decide +kernel
theorem dX4_onto_58 : decode cX4_onto 58 = .ok (.bipush 10, 2) := by decide +kernel
theorem dX4_onto_60 : decode cX4_onto 60 = .ok (.if_icmp .ge 58, 3) := by decide +kernel
theorem dX4_onto_63 : decode cX4_onto 63 = .ok (.aload_n 0, 1) := by decide +kernel
theorem dX4_onto_64 : decode cX4_onto 64 = .ok (.getfield 41, 3) := by decide +kernel
theorem dX4_onto_67 : decode cX4_onto 67 = .ok (.iload_n 3, 1) := by decide +kernel
theorem dX4_onto_68 : decode cX4_onto 68 = .ok (.iload 7, 2) := by decide +kernel
theorem dX4_onto_70 : decode cX4_onto 70 = .ok (.iadd, 1) := by decide +kernel
theorem dX4_onto_71 : decode cX4_onto 71 = .ok (.iload 4, 2) := by decide +kernel
theorem dX4_onto_73 : decode cX4_onto 73 = .ok (.iload 8, 2) := by decide +kernel
theorem dX4_onto_75 : decode cX4_onto 75 = .ok (.iadd, 1) := by decide +kernel
theorem dX4_onto_76 : decode cX4_onto 76 = .ok (.iload 5, 2) := by decide +kernel
theorem dX4_onto_78 : decode cX4_onto 78 = .ok (.iload 9, 2) := by decide +kernel
theorem dX4_onto_80 : decode cX4_onto 80 = .ok (.iadd, 1) := by decide +kernel
theorem dX4_onto_81 : decode cX4_onto 81 = .ok (.invokestatic 99, 3) := by decide +kernel
theorem dX4_onto_84 : decode cX4_onto 84 = .ok (.dup2, 1) := by decide +kernel
theorem dX4_onto_85 : decode cX4_onto 85 = .ok (.laload, 1) := by decide +kernel
theorem dX4_onto_86 : decode cX4_onto 86 = .ok (.lload_n 1, 1) := by decide +kernel
theorem dX4_onto_87 : decode cX4_onto 87 = .ok (.aload_n 0, 1) := by decide +kernel
theorem dX4_onto_88 : decode cX4_onto 88 = .ok (.getfield 22, 3) := by decide +kernel
theorem dX4_onto_91 : decode cX4_onto 91 = .ok (.sipush 220, 3) := by decide +kernel
theorem dX4_onto_94 : decode cX4_onto 94 = .ok (.iload 6, 2) := by decide +kernel
theorem dX4_onto_96 : decode cX4_onto 96 = .ok (.imul, 1) := by decide +kernel
theorem dX4_onto_97 : decode cX4_onto 97 = .ok (.iload 7, 2) := by decide +kernel
theorem dX4_onto_99 : decode cX4_onto 99 = .ok (.iload 8, 2) := by decide +kernel
theorem dX4_onto_101 : decode cX4_onto 101 = .ok (.iload 9, 2) := by decide +kernel
theorem dX4_onto_103 : decode cX4_onto 103 = .ok (.invokestatic 99, 3) := by decide +kernel
theorem dX4_onto_106 : decode cX4_onto 106 = .ok (.iadd, 1) := by decide +kernel
theorem dX4_onto_107 : decode cX4_onto 107 = .ok (.iaload, 1) := by decide +kernel
theorem dX4_onto_108 : decode cX4_onto 108 = .ok (.i2l, 1) := by decide +kernel
theorem dX4_onto_109 : decode cX4_onto 109 = .ok (.lmul, 1) := by decide +kernel
theorem dX4_onto_110 : decode cX4_onto 110 = .ok (.ladd, 1) := by decide +kernel
theorem dX4_onto_111 : decode cX4_onto 111 = .ok (.lastore, 1) := by decide +kernel
theorem dX4_onto_112 : decode cX4_onto 112 = .ok (.iinc 9 1, 3) := by decide +kernel
theorem dX4_onto_115 : decode cX4_onto 115 = .ok (.goto (-73), 3) := by decide +kernel
theorem dX4_onto_118 : decode cX4_onto 118 = .ok (.iinc 8 1, 3) := by decide +kernel
theorem dX4_onto_121 : decode cX4_onto 121 = .ok (.goto (-100), 3) := by decide +kernel
theorem dX4_onto_124 : decode cX4_onto 124 = .ok (.iinc 7 1, 3) := by decide +kernel
theorem dX4_onto_127 : decode cX4_onto 127 = .ok (.goto (-124), 3) := by decide +kernel
theorem dX4_onto_130 : decode cX4_onto 130 = .ok (.return_, 1) := by decide +kernel
set_option maxRecDepth 20000 in
theorem ggX4_high_X4_threes : GoodIn wsX4_high wsX4_threes := goodIn_r _ [5] (by decide +kernel) (by decide +kernel)
set_option maxRecDepth 20000 in
theorem gX4_high_X4_threes : GoodIn wsX4_high (va_wsS RX4 65 yX4_threes wsX4_threes) := goodIn_app (goodIn_of _ (by decide +kernel)) ggX4_high_X4_threes
theorem dX4_high_0 : decode cX4_high 0 = .ok (.bipush (-20), 2) := by decide +kernel
theorem dX4_high_2 : decode cX4_high 2 = .ok (.istore_n 2, 1) := by decide +kernel
theorem dX4_high_3 : decode cX4_high 3 = .ok (.iconst 0, 1) := by decide +kernel
theorem dX4_high_4 : decode cX4_high 4 = .ok (.istore_n 3, 1) := by decide +kernel
theorem dX4_high_5 : decode cX4_high 5 = .ok (.iload_n 3, 1) := by decide +kernel
theorem dX4_high_6 : decode cX4_high 6 = .ok (.bipush 10, 2) := by decide +kernel
theorem dX4_high_8 : decode cX4_high 8 = .ok (.if_icmp .ge 50, 3) := by decide +kernel
theorem dX4_high_11 : decode cX4_high 11 = .ok (.iload_n 3, 1) := by decide +kernel
theorem dX4_high_12 : decode cX4_high 12 = .ok (.invokestatic 65, 3) := by decide +kernel
theorem dX4_high_15 : decode cX4_high 15 = .ok (.istore 4, 2) := by decide +kernel
theorem dX4_high_17 : decode cX4_high 17 = .ok (.iload 4, 2) := by decide +kernel
theorem dX4_high_19 : decode cX4_high 19 = .ok (.iload_n 3, 1) := by decide +kernel
theorem dX4_high_20 : decode cX4_high 20 = .ok (.iconst 1, 1) := by decide +kernel
theorem dX4_high_21 : decode cX4_high 21 = .ok (.iadd, 1) := by decide +kernel
theorem dX4_high_22 : decode cX4_high 22 = .ok (.invokestatic 65, 3) := by decide +kernel
theorem dX4_high_25 : decode cX4_high 25 = .ok (.if_icmp .ge 27, 3) := by decide +kernel
theorem dX4_high_28 : decode cX4_high 28 = .ok (.aload_n 0, 1) := by decide +kernel
theorem dX4_high_29 : decode cX4_high 29 = .ok (.getfield 22, 3) := by decide +kernel
theorem dX4_high_32 : decode cX4_high 32 = .ok (.sipush 220, 3) := by decide +kernel
theorem dX4_high_35 : decode cX4_high 35 = .ok (.iload_n 1, 1) := by decide +kernel
theorem dX4_high_36 : decode cX4_high 36 = .ok (.imul, 1) := by decide +kernel
theorem dX4_high_37 : decode cX4_high 37 = .ok (.iload 4, 2) := by decide +kernel
theorem dX4_high_39 : decode cX4_high 39 = .ok (.iadd, 1) := by decide +kernel
theorem dX4_high_40 : decode cX4_high 40 = .ok (.iaload, 1) := by decide +kernel
theorem dX4_high_41 : decode cX4_high 41 = .ok (.ifCond .eq 5, 3) := by decide +kernel
theorem dX4_high_44 : decode cX4_high 44 = .ok (.iload_n 3, 1) := by decide +kernel
theorem dX4_high_45 : decode cX4_high 45 = .ok (.istore_n 2, 1) := by decide +kernel
theorem dX4_high_46 : decode cX4_high 46 = .ok (.iinc 4 1, 3) := by decide +kernel
theorem dX4_high_49 : decode cX4_high 49 = .ok (.goto (-32), 3) := by decide +kernel
theorem dX4_high_52 : decode cX4_high 52 = .ok (.iinc 3 1, 3) := by decide +kernel
theorem dX4_high_55 : decode cX4_high 55 = .ok (.goto (-50), 3) := by decide +kernel
theorem dX4_high_58 : decode cX4_high 58 = .ok (.iload_n 2, 1) := by decide +kernel
theorem dX4_high_59 : decode cX4_high 59 = .ok (.ireturn, 1) := by decide +kernel
set_option maxRecDepth 20000 in
theorem ggX4_isNone_X4_high : GoodIn wsX4_isNone wsX4_high := goodIn_r _ [5, 6, 7, 8, 4, 9, 10, 11, 12, 13, 14, 15, 16, 17, 18, 19, 20, 21, 22, 23, 24, 25, 26] (by decide +kernel) (by decide +kernel)
set_option maxRecDepth 20000 in
theorem gX4_isNone_X4_high : GoodIn wsX4_isNone (wsV RX4 110 RX4 yX4_high wsX4_high) := goodIn_app (goodIn_of _ (by decide +kernel)) ggX4_isNone_X4_high
theorem dX4_isNone_0 : decode cX4_isNone 0 = .ok (.aload_n 0, 1) := by decide +kernel
theorem dX4_isNone_1 : decode cX4_isNone 1 = .ok (.iload_n 1, 1) := by decide +kernel
theorem dX4_isNone_2 : decode cX4_isNone 2 = .ok (.invokevirtual 110, 3) := by decide +kernel
theorem dX4_isNone_5 : decode cX4_isNone 5 = .ok (.ifCond .ge 7, 3) := by decide +kernel
theorem dX4_isNone_8 : decode cX4_isNone 8 = .ok (.iconst 1, 1) := by decide +kernel
theorem dX4_isNone_9 : decode cX4_isNone 9 = .ok (.goto 4, 3) := by decide +kernel
theorem dX4_isNone_12 : decode cX4_isNone 12 = .ok (.iconst 0, 1) := by decide +kernel
theorem dX4_isNone_13 : decode cX4_isNone 13 = .ok (.ireturn, 1) := by decide +kernel
theorem dX4_treesIn_0 : decode cX4_treesIn 0 = .ok (.iload_n 0, 1) := by decide +kernel
theorem dX4_treesIn_1 : decode cX4_treesIn 1 = .ok (.iconst 2, 1) := by decide +kernel
theorem dX4_treesIn_2 : decode cX4_treesIn 2 = .ok (.if_icmp .ne 7, 3) := by decide +kernel
theorem dX4_treesIn_5 : decode cX4_treesIn 5 = .ok (.iconst 3, 1) := by decide +kernel
theorem dX4_treesIn_6 : decode cX4_treesIn 6 = .ok (.goto 18, 3) := by decide +kernel
theorem dX4_treesIn_9 : decode cX4_treesIn 9 = .ok (.iload_n 0, 1) := by decide +kernel
theorem dX4_treesIn_10 : decode cX4_treesIn 10 = .ok (.iconst 3, 1) := by decide +kernel
theorem dX4_treesIn_11 : decode cX4_treesIn 11 = .ok (.if_icmp .eq 8, 3) := by decide +kernel
theorem dX4_treesIn_14 : decode cX4_treesIn 14 = .ok (.iload_n 0, 1) := by decide +kernel
theorem dX4_treesIn_15 : decode cX4_treesIn 15 = .ok (.iconst 5, 1) := by decide +kernel
theorem dX4_treesIn_16 : decode cX4_treesIn 16 = .ok (.if_icmp .ne 7, 3) := by decide +kernel
theorem dX4_treesIn_19 : decode cX4_treesIn 19 = .ok (.iconst 1, 1) := by decide +kernel
theorem dX4_treesIn_20 : decode cX4_treesIn 20 = .ok (.goto 4, 3) := by decide +kernel
theorem dX4_treesIn_23 : decode cX4_treesIn 23 = .ok (.iconst 2, 1) := by decide +kernel
theorem dX4_treesIn_24 : decode cX4_treesIn 24 = .ok (.ireturn, 1) := by decide +kernel
set_option maxRecDepth 20000 in
theorem ggX4_load_X4_in : GoodIn wsX4_load wsX4_in := goodIn_r _ [14] (by decide +kernel) (by decide +kernel)
set_option maxRecDepth 20000 in
theorem gX4_load_X4_in : GoodIn wsX4_load (va_wsS RX4 58 yX4_in wsX4_in) := goodIn_app (goodIn_of _ (by decide +kernel)) ggX4_load_X4_in
set_option maxRecDepth 20000 in
theorem ggX4_load_X4_treesIn : GoodIn wsX4_load wsX4_treesIn := goodIn_r _ [17] (by decide +kernel) (by decide +kernel)
set_option maxRecDepth 20000 in
theorem gX4_load_X4_treesIn : GoodIn wsX4_load (va_wsS RX4 119 yX4_treesIn wsX4_treesIn) := goodIn_app (goodIn_of _ (by decide +kernel)) ggX4_load_X4_treesIn
set_option maxRecDepth 20000 in
theorem ggX4_load_X4_isTree : GoodIn wsX4_load wsX4_isTree := goodIn_r _ [21, 22, 11, 12, 13, 14, 27, 28, 29, 30, 31, 32, 33, 34, 35, 36, 37, 38, 39, 40, 41, 42, 43] (by decide +kernel) (by decide +kernel)
set_option maxRecDepth 20000 in
theorem gX4_load_X4_isTree : GoodIn wsX4_load (wsV RX4 86 RX4 yX4_isTree wsX4_isTree) := goodIn_app (goodIn_of _ (by decide +kernel)) ggX4_load_X4_isTree
set_option maxRecDepth 20000 in
theorem ggX4_load_X4_raise : GoodIn wsX4_load wsX4_raise := goodIn_r _ [26, 6, 27, 28, 29, 30, 31, 32, 33, 34, 35, 36, 37, 38, 39, 40, 41, 42, 43] (by decide +kernel) (by decide +kernel)
set_option maxRecDepth 20000 in
theorem gX4_load_X4_raise : GoodIn wsX4_load (wsV RX4 90 RX4 yX4_raise wsX4_raise) := goodIn_app (goodIn_of _ (by decide +kernel)) ggX4_load_X4_raise
theorem dX4_load_0 : decode cX4_load 0 = .ok (.iload_n 1, 1) := by decide +kernel
theorem dX4_load_1 : decode cX4_load 1 = .ok (.i2l, 1) := by decide +kernel
theorem dX4_load_2 : decode cX4_load 2 = .ok (.lconst 0, 1) := by decide +kernel
theorem dX4_load_3 : decode cX4_load 3 = .ok (.ldc2_w 117, 3) := by decide +kernel
theorem dX4_load_6 : decode cX4_load 6 = .ok (.invokestatic 58, 3) := by decide +kernel
theorem dX4_load_9 : decode cX4_load 9 = .ok (.istore 5, 2) := by decide +kernel
theorem dX4_load_11 : decode cX4_load 11 = .ok (.iload 5, 2) := by decide +kernel
theorem dX4_load_13 : decode cX4_load 13 = .ok (.ifCond .eq 10, 3) := by decide +kernel
theorem dX4_load_16 : decode cX4_load 16 = .ok (.iload_n 1, 1) := by decide +kernel
theorem dX4_load_17 : decode cX4_load 17 = .ok (.invokestatic 119, 3) := by decide +kernel
theorem dX4_load_20 : decode cX4_load 20 = .ok (.goto 4, 3) := by decide +kernel
theorem dX4_load_23 : decode cX4_load 23 = .ok (.iconst 1, 1) := by decide +kernel
theorem dX4_load_24 : decode cX4_load 24 = .ok (.istore 6, 2) := by decide +kernel
theorem dX4_load_26 : decode cX4_load 26 = .ok (.aload_n 0, 1) := by decide +kernel
theorem dX4_load_27 : decode cX4_load 27 = .ok (.iload_n 2, 1) := by decide +kernel
theorem dX4_load_28 : decode cX4_load 28 = .ok (.invokevirtual 86, 3) := by decide +kernel
theorem dX4_load_31 : decode cX4_load 31 = .ok (.ifCond .eq 32, 3) := by decide +kernel
theorem dX4_load_34 : decode cX4_load 34 = .ok (.iload 6, 2) := by decide +kernel
theorem dX4_load_36 : decode cX4_load 36 = .ok (.iconst 1, 1) := by decide +kernel
theorem dX4_load_37 : decode cX4_load 37 = .ok (.if_icmp .le 11, 3) := by decide +kernel
theorem dX4_load_40 : decode cX4_load 40 = .ok (.aload_n 0, 1) := by decide +kernel
theorem dX4_load_41 : decode cX4_load 41 = .ok (.iload_n 3, 1) := by decide +kernel
theorem dX4_load_42 : decode cX4_load 42 = .ok (.invokevirtual 86, 3) := by decide +kernel
theorem dX4_load_45 : decode cX4_load 45 = .ok (.ifCond .eq 18, 3) := by decide +kernel
theorem dX4_load_48 : decode cX4_load 48 = .ok (.iload 6, 2) := by decide +kernel
theorem dX4_load_50 : decode cX4_load 50 = .ok (.iconst 2, 1) := by decide +kernel
theorem dX4_load_51 : decode cX4_load 51 = .ok (.if_icmp .le 18, 3) := by decide +kernel
theorem dX4_load_54 : decode cX4_load 54 = .ok (.aload_n 0, 1) := by decide +kernel
theorem dX4_load_55 : decode cX4_load 55 = .ok (.iload 4, 2) := by decide +kernel
theorem dX4_load_57 : decode cX4_load 57 = .ok (.invokevirtual 86, 3) := by decide +kernel
theorem dX4_load_60 : decode cX4_load 60 = .ok (.ifCond .ne 9, 3) := by decide +kernel
theorem dX4_load_63 : decode cX4_load 63 = .ok (.aload_n 0, 1) := by decide +kernel
theorem dX4_load_64 : decode cX4_load 64 = .ok (.iconst 1, 1) := by decide +kernel
theorem dX4_load_65 : decode cX4_load 65 = .ok (.invokevirtual 90, 3) := by decide +kernel
theorem dX4_load_68 : decode cX4_load 68 = .ok (.ireturn, 1) := by decide +kernel
theorem dX4_load_69 : decode cX4_load 69 = .ok (.iload 5, 2) := by decide +kernel
theorem dX4_load_71 : decode cX4_load 71 = .ok (.ifCond .ne 9, 3) := by decide +kernel
theorem dX4_load_74 : decode cX4_load 74 = .ok (.aload_n 0, 1) := by decide +kernel
theorem dX4_load_75 : decode cX4_load 75 = .ok (.iconst 2, 1) := by decide +kernel
theorem dX4_load_76 : decode cX4_load 76 = .ok (.invokevirtual 90, 3) := by decide +kernel
theorem dX4_load_79 : decode cX4_load 79 = .ok (.ireturn, 1) := by decide +kernel
theorem dX4_load_80 : decode cX4_load 80 = .ok (.iload_n 1, 1) := by decide +kernel
theorem dX4_load_81 : decode cX4_load 81 = .ok (.iconst 1, 1) := by decide +kernel
theorem dX4_load_82 : decode cX4_load 82 = .ok (.if_icmp .ne 16, 3) := by decide +kernel
theorem dX4_load_85 : decode cX4_load 85 = .ok (.iload 4, 2) := by decide +kernel
theorem dX4_load_87 : decode cX4_load 87 = .ok (.i2l, 1) := by decide +kernel
theorem dX4_load_88 : decode cX4_load 88 = .ok (.lconst 0, 1) := by decide +kernel
theorem dX4_load_89 : decode cX4_load 89 = .ok (.ldc2_w 76, 3) := by decide +kernel
theorem dX4_load_92 : decode cX4_load 92 = .ok (.invokestatic 58, 3) := by decide +kernel
theorem dX4_load_95 : decode cX4_load 95 = .ok (.goto 73, 3) := by decide +kernel
theorem dX4_load_98 : decode cX4_load 98 = .ok (.iload_n 1, 1) := by decide +kernel
theorem dX4_load_99 : decode cX4_load 99 = .ok (.iconst 2, 1) := by decide +kernel
theorem dX4_load_100 : decode cX4_load 100 = .ok (.if_icmp .eq 63, 3) := by decide +kernel
theorem dX4_load_103 : decode cX4_load 103 = .ok (.iload_n 1, 1) := by decide +kernel
theorem dX4_load_104 : decode cX4_load 104 = .ok (.iconst 3, 1) := by decide +kernel
theorem dX4_load_105 : decode cX4_load 105 = .ok (.if_icmp .ne 33, 3) := by decide +kernel
theorem dX4_load_108 : decode cX4_load 108 = .ok (.iload_n 3, 1) := by decide +kernel
theorem dX4_load_109 : decode cX4_load 109 = .ok (.i2l, 1) := by decide +kernel
theorem dX4_load_110 : decode cX4_load 110 = .ok (.ldc2_w 122, 3) := by decide +kernel
theorem dX4_load_113 : decode cX4_load 113 = .ok (.ldc2_w 124, 3) := by decide +kernel
theorem dX4_load_116 : decode cX4_load 116 = .ok (.invokestatic 58, 3) := by decide +kernel
theorem dX4_load_119 : decode cX4_load 119 = .ok (.ifCond .eq 48, 3) := by decide +kernel
theorem dX4_load_122 : decode cX4_load 122 = .ok (.iload 4, 2) := by decide +kernel
theorem dX4_load_124 : decode cX4_load 124 = .ok (.i2l, 1) := by decide +kernel
theorem dX4_load_125 : decode cX4_load 125 = .ok (.lconst 0, 1) := by decide +kernel
theorem dX4_load_126 : decode cX4_load 126 = .ok (.ldc2_w 76, 3) := by decide +kernel
theorem dX4_load_129 : decode cX4_load 129 = .ok (.invokestatic 58, 3) := by decide +kernel
theorem dX4_load_132 : decode cX4_load 132 = .ok (.ifCond .eq 35, 3) := by decide +kernel
theorem dX4_load_135 : decode cX4_load 135 = .ok (.goto 28, 3) := by decide +kernel
theorem dX4_load_138 : decode cX4_load 138 = .ok (.iload_n 1, 1) := by decide +kernel
theorem dX4_load_139 : decode cX4_load 139 = .ok (.iconst 5, 1) := by decide +kernel
theorem dX4_load_140 : decode cX4_load 140 = .ok (.if_icmp .ne 17, 3) := by decide +kernel
theorem dX4_load_143 : decode cX4_load 143 = .ok (.iload_n 3, 1) := by decide +kernel
theorem dX4_load_144 : decode cX4_load 144 = .ok (.iconst (-1), 1) := by decide +kernel
theorem dX4_load_145 : decode cX4_load 145 = .ok (.if_icmp .ne 22, 3) := by decide +kernel
theorem dX4_load_148 : decode cX4_load 148 = .ok (.iload 4, 2) := by decide +kernel
theorem dX4_load_150 : decode cX4_load 150 = .ok (.iconst (-1), 1) := by decide +kernel
theorem dX4_load_151 : decode cX4_load 151 = .ok (.if_icmp .ne 16, 3) := by decide +kernel
theorem dX4_load_154 : decode cX4_load 154 = .ok (.goto 9, 3) := by decide +kernel
theorem dX4_load_157 : decode cX4_load 157 = .ok (.iload 4, 2) := by decide +kernel
theorem dX4_load_159 : decode cX4_load 159 = .ok (.iconst (-1), 1) := by decide +kernel
theorem dX4_load_160 : decode cX4_load 160 = .ok (.if_icmp .ne 7, 3) := by decide +kernel
theorem dX4_load_163 : decode cX4_load 163 = .ok (.iconst 1, 1) := by decide +kernel
theorem dX4_load_164 : decode cX4_load 164 = .ok (.goto 4, 3) := by decide +kernel
theorem dX4_load_167 : decode cX4_load 167 = .ok (.iconst 0, 1) := by decide +kernel
theorem dX4_load_168 : decode cX4_load 168 = .ok (.istore 7, 2) := by decide +kernel
theorem dX4_load_170 : decode cX4_load 170 = .ok (.iload 7, 2) := by decide +kernel
theorem dX4_load_172 : decode cX4_load 172 = .ok (.ifCond .ne 9, 3) := by decide +kernel
theorem dX4_load_175 : decode cX4_load 175 = .ok (.aload_n 0, 1) := by decide +kernel
theorem dX4_load_176 : decode cX4_load 176 = .ok (.iconst 2, 1) := by decide +kernel
theorem dX4_load_177 : decode cX4_load 177 = .ok (.invokevirtual 90, 3) := by decide +kernel
theorem dX4_load_180 : decode cX4_load 180 = .ok (.ireturn, 1) := by decide +kernel
theorem dX4_load_181 : decode cX4_load 181 = .ok (.aload_n 0, 1) := by decide +kernel
theorem dX4_load_182 : decode cX4_load 182 = .ok (.getfield 62, 3) := by decide +kernel
theorem dX4_load_185 : decode cX4_load 185 = .ok (.bipush 60, 2) := by decide +kernel
theorem dX4_load_187 : decode cX4_load 187 = .ok (.if_icmp .ne 9, 3) := by decide +kernel
theorem dX4_load_190 : decode cX4_load 190 = .ok (.aload_n 0, 1) := by decide +kernel
theorem dX4_load_191 : decode cX4_load 191 = .ok (.iconst 3, 1) := by decide +kernel
theorem dX4_load_192 : decode cX4_load 192 = .ok (.invokevirtual 90, 3) := by decide +kernel
theorem dX4_load_195 : decode cX4_load 195 = .ok (.ireturn, 1) := by decide +kernel
theorem dX4_load_196 : decode cX4_load 196 = .ok (.aload_n 0, 1) := by decide +kernel
theorem dX4_load_197 : decode cX4_load 197 = .ok (.iconst 0, 1) := by decide +kernel
theorem dX4_load_198 : decode cX4_load 198 = .ok (.putfield 51, 3) := by decide +kernel
theorem dX4_load_201 : decode cX4_load 201 = .ok (.aload_n 0, 1) := by decide +kernel
theorem dX4_load_202 : decode cX4_load 202 = .ok (.getfield 29, 3) := by decide +kernel
theorem dX4_load_205 : decode cX4_load 205 = .ok (.aload_n 0, 1) := by decide +kernel
theorem dX4_load_206 : decode cX4_load 206 = .ok (.getfield 62, 3) := by decide +kernel
theorem dX4_load_209 : decode cX4_load 209 = .ok (.iload_n 1, 1) := by decide +kernel
theorem dX4_load_210 : decode cX4_load 210 = .ok (.iastore, 1) := by decide +kernel
theorem dX4_load_211 : decode cX4_load 211 = .ok (.aload_n 0, 1) := by decide +kernel
