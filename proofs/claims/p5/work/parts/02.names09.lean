theorem dX12_init_299 : decode cX12_init 299 = .ok (.aload_n 0, 1) := by decide +kernel
theorem dX12_init_300 : decode cX12_init 300 = .ok (.sipush 300, 3) := by decide +kernel
theorem dX12_init_303 : decode cX12_init 303 = .ok (.newarray .int, 2) := by decide +kernel
theorem dX12_init_305 : decode cX12_init 305 = .ok (.putfield 117, 3) := by decide +kernel
theorem dX12_init_308 : decode cX12_init 308 = .ok (.aload_n 0, 1) := by decide +kernel
theorem dX12_init_309 : decode cX12_init 309 = .ok (.sipush 900, 3) := by decide +kernel
theorem dX12_init_312 : decode cX12_init 312 = .ok (.newarray .int, 2) := by decide +kernel
theorem dX12_init_314 : decode cX12_init 314 = .ok (.putfield 120, 3) := by decide +kernel
theorem dX12_init_317 : decode cX12_init 317 = .ok (.aload_n 0, 1) := by decide +kernel
theorem dX12_init_318 : decode cX12_init 318 = .ok (.sipush 900, 3) := by decide +kernel
theorem dX12_init_321 : decode cX12_init 321 = .ok (.newarray .int, 2) := by decide +kernel
theorem dX12_init_323 : decode cX12_init 323 = .ok (.putfield 123, 3) := by decide +kernel
theorem dX12_init_326 : decode cX12_init 326 = .ok (.aload_n 0, 1) := by decide +kernel
theorem dX12_init_327 : decode cX12_init 327 = .ok (.bipush 30, 2) := by decide +kernel
theorem dX12_init_329 : decode cX12_init 329 = .ok (.newarray .int, 2) := by decide +kernel
theorem dX12_init_331 : decode cX12_init 331 = .ok (.putfield 126, 3) := by decide +kernel
theorem dX12_init_334 : decode cX12_init 334 = .ok (.aload_n 0, 1) := by decide +kernel
theorem dX12_init_335 : decode cX12_init 335 = .ok (.bipush 30, 2) := by decide +kernel
theorem dX12_init_337 : decode cX12_init 337 = .ok (.newarray .int, 2) := by decide +kernel
theorem dX12_init_339 : decode cX12_init 339 = .ok (.putfield 129, 3) := by decide +kernel
theorem dX12_init_342 : decode cX12_init 342 = .ok (.aload_n 0, 1) := by decide +kernel
theorem dX12_init_343 : decode cX12_init 343 = .ok (.sipush 360, 3) := by decide +kernel
theorem dX12_init_346 : decode cX12_init 346 = .ok (.newarray .long, 2) := by decide +kernel
theorem dX12_init_348 : decode cX12_init 348 = .ok (.putfield 132, 3) := by decide +kernel
theorem dX12_init_351 : decode cX12_init 351 = .ok (.aload_n 0, 1) := by decide +kernel
theorem dX12_init_352 : decode cX12_init 352 = .ok (.bipush 30, 2) := by decide +kernel
theorem dX12_init_354 : decode cX12_init 354 = .ok (.newarray .boolean, 2) := by decide +kernel
theorem dX12_init_356 : decode cX12_init 356 = .ok (.putfield 136, 3) := by decide +kernel
theorem dX12_init_359 : decode cX12_init 359 = .ok (.aload_n 0, 1) := by decide +kernel
theorem dX12_init_360 : decode cX12_init 360 = .ok (.bipush 10, 2) := by decide +kernel
theorem dX12_init_362 : decode cX12_init 362 = .ok (.newarray .int, 2) := by decide +kernel
theorem dX12_init_364 : decode cX12_init 364 = .ok (.putfield 139, 3) := by decide +kernel
theorem dX12_init_367 : decode cX12_init 367 = .ok (.aload_n 0, 1) := by decide +kernel
theorem dX12_init_368 : decode cX12_init 368 = .ok (.bipush 10, 2) := by decide +kernel
theorem dX12_init_370 : decode cX12_init 370 = .ok (.newarray .int, 2) := by decide +kernel
theorem dX12_init_372 : decode cX12_init 372 = .ok (.putfield 142, 3) := by decide +kernel
theorem dX12_init_375 : decode cX12_init 375 = .ok (.aload_n 0, 1) := by decide +kernel
theorem dX12_init_376 : decode cX12_init 376 = .ok (.bipush 120, 2) := by decide +kernel
theorem dX12_init_378 : decode cX12_init 378 = .ok (.newarray .int, 2) := by decide +kernel
theorem dX12_init_380 : decode cX12_init 380 = .ok (.putfield 145, 3) := by decide +kernel
theorem dX12_init_383 : decode cX12_init 383 = .ok (.aload_n 0, 1) := by decide +kernel
theorem dX12_init_384 : decode cX12_init 384 = .ok (.bipush 12, 2) := by decide +kernel
theorem dX12_init_386 : decode cX12_init 386 = .ok (.newarray .long, 2) := by decide +kernel
theorem dX12_init_388 : decode cX12_init 388 = .ok (.putfield 148, 3) := by decide +kernel
theorem dX12_init_391 : decode cX12_init 391 = .ok (.aload_n 0, 1) := by decide +kernel
theorem dX12_init_392 : decode cX12_init 392 = .ok (.getfield 13, 3) := by decide +kernel
theorem dX12_init_395 : decode cX12_init 395 = .ok (.iconst 0, 1) := by decide +kernel
theorem dX12_init_396 : decode cX12_init 396 = .ok (.bipush (-9), 2) := by decide +kernel
theorem dX12_init_398 : decode cX12_init 398 = .ok (.iastore, 1) := by decide +kernel
theorem dX12_init_399 : decode cX12_init 399 = .ok (.aload_n 0, 1) := by decide +kernel
theorem dX12_init_400 : decode cX12_init 400 = .ok (.getfield 13, 3) := by decide +kernel
theorem dX12_init_403 : decode cX12_init 403 = .ok (.iconst 1, 1) := by decide +kernel
theorem dX12_init_404 : decode cX12_init 404 = .ok (.bipush (-9), 2) := by decide +kernel
theorem dX12_init_406 : decode cX12_init 406 = .ok (.iastore, 1) := by decide +kernel
theorem dX12_init_407 : decode cX12_init 407 = .ok (.iconst 2, 1) := by decide +kernel
theorem dX12_init_408 : decode cX12_init 408 = .ok (.istore_n 1, 1) := by decide +kernel
theorem dX12_init_409 : decode cX12_init 409 = .ok (.iload_n 1, 1) := by decide +kernel
theorem dX12_init_410 : decode cX12_init 410 = .ok (.bipush 6, 2) := by decide +kernel
theorem dX12_init_412 : decode cX12_init 412 = .ok (.if_icmp .ge 16, 3) := by decide +kernel
theorem dX12_init_415 : decode cX12_init 415 = .ok (.aload_n 0, 1) := by decide +kernel
theorem dX12_init_416 : decode cX12_init 416 = .ok (.getfield 13, 3) := by decide +kernel
theorem dX12_init_419 : decode cX12_init 419 = .ok (.iload_n 1, 1) := by decide +kernel
theorem dX12_init_420 : decode cX12_init 420 = .ok (.iconst 1, 1) := by decide +kernel
theorem dX12_init_421 : decode cX12_init 421 = .ok (.iastore, 1) := by decide +kernel
theorem dX12_init_422 : decode cX12_init 422 = .ok (.iinc 1 1, 3) := by decide +kernel
theorem dX12_init_425 : decode cX12_init 425 = .ok (.goto (-16), 3) := by decide +kernel
theorem dX12_init_428 : decode cX12_init 428 = .ok (.aload_n 0, 1) := by decide +kernel
theorem dX12_init_429 : decode cX12_init 429 = .ok (.bipush 6, 2) := by decide +kernel
theorem dX12_init_431 : decode cX12_init 431 = .ok (.putfield 151, 3) := by decide +kernel
theorem dX12_init_434 : decode cX12_init 434 = .ok (.iconst 0, 1) := by decide +kernel
theorem dX12_init_435 : decode cX12_init 435 = .ok (.istore_n 1, 1) := by decide +kernel
theorem dX12_init_436 : decode cX12_init 436 = .ok (.iload_n 1, 1) := by decide +kernel
theorem dX12_init_437 : decode cX12_init 437 = .ok (.sipush 144, 3) := by decide +kernel
theorem dX12_init_440 : decode cX12_init 440 = .ok (.if_icmp .ge 17, 3) := by decide +kernel
theorem dX12_init_443 : decode cX12_init 443 = .ok (.aload_n 0, 1) := by decide +kernel
theorem dX12_init_444 : decode cX12_init 444 = .ok (.getfield 16, 3) := by decide +kernel
theorem dX12_init_447 : decode cX12_init 447 = .ok (.iload_n 1, 1) := by decide +kernel
theorem dX12_init_448 : decode cX12_init 448 = .ok (.bipush (-9), 2) := by decide +kernel
theorem dX12_init_450 : decode cX12_init 450 = .ok (.iastore, 1) := by decide +kernel
theorem dX12_init_451 : decode cX12_init 451 = .ok (.iinc 1 1, 3) := by decide +kernel
theorem dX12_init_454 : decode cX12_init 454 = .ok (.goto (-18), 3) := by decide +kernel
theorem dX12_init_457 : decode cX12_init 457 = .ok (.aload_n 0, 1) := by decide +kernel
theorem dX12_init_458 : decode cX12_init 458 = .ok (.bipush (-9), 2) := by decide +kernel
theorem dX12_init_460 : decode cX12_init 460 = .ok (.putfield 155, 3) := by decide +kernel
theorem dX12_init_463 : decode cX12_init 463 = .ok (.aload_n 0, 1) := by decide +kernel
theorem dX12_init_464 : decode cX12_init 464 = .ok (.bipush (-9), 2) := by decide +kernel
theorem dX12_init_466 : decode cX12_init 466 = .ok (.putfield 158, 3) := by decide +kernel
theorem dX12_init_469 : decode cX12_init 469 = .ok (.return_, 1) := by decide +kernel
theorem dX12_in_0 : decode cX12_in 0 = .ok (.lload_n 0, 1) := by decide +kernel
theorem dX12_in_1 : decode cX12_in 1 = .ok (.lload_n 2, 1) := by decide +kernel
theorem dX12_in_2 : decode cX12_in 2 = .ok (.lcmp, 1) := by decide +kernel
theorem dX12_in_3 : decode cX12_in 3 = .ok (.ifCond .lt 14, 3) := by decide +kernel
theorem dX12_in_6 : decode cX12_in 6 = .ok (.lload_n 0, 1) := by decide +kernel
theorem dX12_in_7 : decode cX12_in 7 = .ok (.lload 4, 2) := by decide +kernel
theorem dX12_in_9 : decode cX12_in 9 = .ok (.lcmp, 1) := by decide +kernel
theorem dX12_in_10 : decode cX12_in 10 = .ok (.ifCond .gt 7, 3) := by decide +kernel
theorem dX12_in_13 : decode cX12_in 13 = .ok (.iconst 1, 1) := by decide +kernel
theorem dX12_in_14 : decode cX12_in 14 = .ok (.goto 4, 3) := by decide +kernel
theorem dX12_in_17 : decode cX12_in 17 = .ok (.iconst 0, 1) := by decide +kernel
theorem dX12_in_18 : decode cX12_in 18 = .ok (.ireturn, 1) := by decide +kernel
theorem dX12_meets_0 : decode cX12_meets 0 = .ok (.aload_n 0, 1) := by decide +kernel
theorem dX12_meets_1 : decode cX12_meets 1 = .ok (.iload_n 1, 1) := by decide +kernel
theorem dX12_meets_2 : decode cX12_meets 2 = .ok (.putfield 161, 3) := by decide +kernel
theorem dX12_meets_5 : decode cX12_meets 5 = .ok (.aload_n 0, 1) := by decide +kernel
theorem dX12_meets_6 : decode cX12_meets 6 = .ok (.getfield 7, 3) := by decide +kernel
theorem dX12_meets_9 : decode cX12_meets 9 = .ok (.iload_n 1, 1) := by decide +kernel
theorem dX12_meets_10 : decode cX12_meets 10 = .ok (.dup2, 1) := by decide +kernel
theorem dX12_meets_11 : decode cX12_meets 11 = .ok (.iaload, 1) := by decide +kernel
theorem dX12_meets_12 : decode cX12_meets 12 = .ok (.iconst 1, 1) := by decide +kernel
theorem dX12_meets_13 : decode cX12_meets 13 = .ok (.iadd, 1) := by decide +kernel
theorem dX12_meets_14 : decode cX12_meets 14 = .ok (.iastore, 1) := by decide +kernel
theorem dX12_meets_15 : decode cX12_meets 15 = .ok (.bipush (-3), 2) := by decide +kernel
theorem dX12_meets_17 : decode cX12_meets 17 = .ok (.ireturn, 1) := by decide +kernel
theorem dX12_finding_0 : decode cX12_finding 0 = .ok (.aload_n 0, 1) := by decide +kernel
theorem dX12_finding_1 : decode cX12_finding 1 = .ok (.getfield 161, 3) := by decide +kernel
theorem dX12_finding_4 : decode cX12_finding 4 = .ok (.ireturn, 1) := by decide +kernel
theorem dX12_findings_0 : decode cX12_findings 0 = .ok (.iload_n 1, 1) := by decide +kernel
theorem dX12_findings_1 : decode cX12_findings 1 = .ok (.i2l, 1) := by decide +kernel
theorem dX12_findings_2 : decode cX12_findings 2 = .ok (.lconst 1, 1) := by decide +kernel
theorem dX12_findings_3 : decode cX12_findings 3 = .ok (.ldc2_w 164, 3) := by decide +kernel
theorem dX12_findings_6 : decode cX12_findings 6 = .ok (.invokestatic 166, 3) := by decide +kernel
theorem dX12_findings_9 : decode cX12_findings 9 = .ok (.ifCond .eq 12, 3) := by decide +kernel
theorem dX12_findings_12 : decode cX12_findings 12 = .ok (.aload_n 0, 1) := by decide +kernel
theorem dX12_findings_13 : decode cX12_findings 13 = .ok (.getfield 7, 3) := by decide +kernel
theorem dX12_findings_16 : decode cX12_findings 16 = .ok (.iload_n 1, 1) := by decide +kernel
theorem dX12_findings_17 : decode cX12_findings 17 = .ok (.iaload, 1) := by decide +kernel
theorem dX12_findings_18 : decode cX12_findings 18 = .ok (.goto 4, 3) := by decide +kernel
theorem dX12_findings_21 : decode cX12_findings 21 = .ok (.iconst (-1), 1) := by decide +kernel
theorem dX12_findings_22 : decode cX12_findings 22 = .ok (.ireturn, 1) := by decide +kernel
theorem dX12_kind_0 : decode cX12_kind 0 = .ok (.iload_n 1, 1) := by decide +kernel
theorem dX12_kind_1 : decode cX12_kind 1 = .ok (.i2l, 1) := by decide +kernel
theorem dX12_kind_2 : decode cX12_kind 2 = .ok (.lconst 0, 1) := by decide +kernel
theorem dX12_kind_3 : decode cX12_kind 3 = .ok (.aload_n 0, 1) := by decide +kernel
theorem dX12_kind_4 : decode cX12_kind 4 = .ok (.getfield 151, 3) := by decide +kernel
theorem dX12_kind_7 : decode cX12_kind 7 = .ok (.iconst 1, 1) := by decide +kernel
theorem dX12_kind_8 : decode cX12_kind 8 = .ok (.isub, 1) := by decide +kernel
theorem dX12_kind_9 : decode cX12_kind 9 = .ok (.i2l, 1) := by decide +kernel
theorem dX12_kind_10 : decode cX12_kind 10 = .ok (.invokestatic 166, 3) := by decide +kernel
theorem dX12_kind_13 : decode cX12_kind 13 = .ok (.ifCond .ne 5, 3) := by decide +kernel
theorem dX12_kind_16 : decode cX12_kind 16 = .ok (.iconst (-1), 1) := by decide +kernel
theorem dX12_kind_17 : decode cX12_kind 17 = .ok (.ireturn, 1) := by decide +kernel
theorem dX12_kind_18 : decode cX12_kind 18 = .ok (.aload_n 0, 1) := by decide +kernel
theorem dX12_kind_19 : decode cX12_kind 19 = .ok (.getfield 151, 3) := by decide +kernel
theorem dX12_kind_22 : decode cX12_kind 22 = .ok (.bipush 24, 2) := by decide +kernel
theorem dX12_kind_24 : decode cX12_kind 24 = .ok (.if_icmp .ne 6, 3) := by decide +kernel
theorem dX12_kind_27 : decode cX12_kind 27 = .ok (.bipush (-2), 2) := by decide +kernel
theorem dX12_kind_29 : decode cX12_kind 29 = .ok (.ireturn, 1) := by decide +kernel
theorem dX12_kind_30 : decode cX12_kind 30 = .ok (.aload_n 0, 1) := by decide +kernel
theorem dX12_kind_31 : decode cX12_kind 31 = .ok (.getfield 13, 3) := by decide +kernel
theorem dX12_kind_34 : decode cX12_kind 34 = .ok (.aload_n 0, 1) := by decide +kernel
theorem dX12_kind_35 : decode cX12_kind 35 = .ok (.getfield 151, 3) := by decide +kernel
theorem dX12_kind_38 : decode cX12_kind 38 = .ok (.iload_n 1, 1) := by decide +kernel
theorem dX12_kind_39 : decode cX12_kind 39 = .ok (.iastore, 1) := by decide +kernel
theorem dX12_kind_40 : decode cX12_kind 40 = .ok (.aload_n 0, 1) := by decide +kernel
theorem dX12_kind_41 : decode cX12_kind 41 = .ok (.dup, 1) := by decide +kernel
theorem dX12_kind_42 : decode cX12_kind 42 = .ok (.getfield 151, 3) := by decide +kernel
theorem dX12_kind_45 : decode cX12_kind 45 = .ok (.iconst 1, 1) := by decide +kernel
theorem dX12_kind_46 : decode cX12_kind 46 = .ok (.iadd, 1) := by decide +kernel
theorem dX12_kind_47 : decode cX12_kind 47 = .ok (.putfield 151, 3) := by decide +kernel
theorem dX12_kind_50 : decode cX12_kind 50 = .ok (.aload_n 0, 1) := by decide +kernel
theorem dX12_kind_51 : decode cX12_kind 51 = .ok (.getfield 151, 3) := by decide +kernel
theorem dX12_kind_54 : decode cX12_kind 54 = .ok (.iconst 1, 1) := by decide +kernel
theorem dX12_kind_55 : decode cX12_kind 55 = .ok (.isub, 1) := by decide +kernel
theorem dX12_kind_56 : decode cX12_kind 56 = .ok (.ireturn, 1) := by decide +kernel
theorem dX12_standard_0 : decode cX12_standard 0 = .ok (.iload_n 1, 1) := by decide +kernel
theorem dX12_standard_1 : decode cX12_standard 1 = .ok (.i2l, 1) := by decide +kernel
theorem dX12_standard_2 : decode cX12_standard 2 = .ok (.lconst 0, 1) := by decide +kernel
theorem dX12_standard_3 : decode cX12_standard 3 = .ok (.aload_n 0, 1) := by decide +kernel
theorem dX12_standard_4 : decode cX12_standard 4 = .ok (.getfield 151, 3) := by decide +kernel
theorem dX12_standard_7 : decode cX12_standard 7 = .ok (.iconst 1, 1) := by decide +kernel
theorem dX12_standard_8 : decode cX12_standard 8 = .ok (.isub, 1) := by decide +kernel
theorem dX12_standard_9 : decode cX12_standard 9 = .ok (.i2l, 1) := by decide +kernel
theorem dX12_standard_10 : decode cX12_standard 10 = .ok (.invokestatic 166, 3) := by decide +kernel
theorem dX12_standard_13 : decode cX12_standard 13 = .ok (.ifCond .eq 31, 3) := by decide +kernel
theorem dX12_standard_16 : decode cX12_standard 16 = .ok (.iload_n 2, 1) := by decide +kernel
theorem dX12_standard_17 : decode cX12_standard 17 = .ok (.i2l, 1) := by decide +kernel
theorem dX12_standard_18 : decode cX12_standard 18 = .ok (.lconst 0, 1) := by decide +kernel
theorem dX12_standard_19 : decode cX12_standard 19 = .ok (.ldc2_w 170, 3) := by decide +kernel
theorem dX12_standard_22 : decode cX12_standard 22 = .ok (.invokestatic 166, 3) := by decide +kernel
theorem dX12_standard_25 : decode cX12_standard 25 = .ok (.ifCond .eq 19, 3) := by decide +kernel
theorem dX12_standard_28 : decode cX12_standard 28 = .ok (.iload_n 3, 1) := by decide +kernel
theorem dX12_standard_29 : decode cX12_standard 29 = .ok (.i2l, 1) := by decide +kernel
theorem dX12_standard_30 : decode cX12_standard 30 = .ok (.lconst 0, 1) := by decide +kernel
theorem dX12_standard_31 : decode cX12_standard 31 = .ok (.lconst 1, 1) := by decide +kernel
theorem dX12_standard_32 : decode cX12_standard 32 = .ok (.invokestatic 166, 3) := by decide +kernel
theorem dX12_standard_35 : decode cX12_standard 35 = .ok (.ifCond .ne 11, 3) := by decide +kernel
theorem dX12_standard_38 : decode cX12_standard 38 = .ok (.iload_n 3, 1) := by decide +kernel
theorem dX12_standard_39 : decode cX12_standard 39 = .ok (.bipush (-9), 2) := by decide +kernel
theorem dX12_standard_41 : decode cX12_standard 41 = .ok (.if_icmp .eq 5, 3) := by decide +kernel
theorem dX12_standard_44 : decode cX12_standard 44 = .ok (.iconst (-1), 1) := by decide +kernel
theorem dX12_standard_45 : decode cX12_standard 45 = .ok (.ireturn, 1) := by decide +kernel
theorem dX12_standard_46 : decode cX12_standard 46 = .ok (.aload_n 0, 1) := by decide +kernel
theorem dX12_standard_47 : decode cX12_standard 47 = .ok (.getfield 16, 3) := by decide +kernel
theorem dX12_standard_50 : decode cX12_standard 50 = .ok (.bipush 6, 2) := by decide +kernel
theorem dX12_standard_52 : decode cX12_standard 52 = .ok (.iload_n 1, 1) := by decide +kernel
theorem dX12_standard_53 : decode cX12_standard 53 = .ok (.imul, 1) := by decide +kernel
theorem dX12_standard_54 : decode cX12_standard 54 = .ok (.iload_n 2, 1) := by decide +kernel
theorem dX12_standard_55 : decode cX12_standard 55 = .ok (.iadd, 1) := by decide +kernel
theorem dX12_standard_56 : decode cX12_standard 56 = .ok (.iaload, 1) := by decide +kernel
theorem dX12_standard_57 : decode cX12_standard 57 = .ok (.istore 4, 2) := by decide +kernel
theorem dX12_standard_59 : decode cX12_standard 59 = .ok (.aload_n 0, 1) := by decide +kernel
theorem dX12_standard_60 : decode cX12_standard 60 = .ok (.getfield 16, 3) := by decide +kernel
theorem dX12_standard_63 : decode cX12_standard 63 = .ok (.bipush 6, 2) := by decide +kernel
theorem dX12_standard_65 : decode cX12_standard 65 = .ok (.iload_n 1, 1) := by decide +kernel
theorem dX12_standard_66 : decode cX12_standard 66 = .ok (.imul, 1) := by decide +kernel
theorem dX12_standard_67 : decode cX12_standard 67 = .ok (.iload_n 2, 1) := by decide +kernel
theorem dX12_standard_68 : decode cX12_standard 68 = .ok (.iadd, 1) := by decide +kernel
theorem dX12_standard_69 : decode cX12_standard 69 = .ok (.iload_n 3, 1) := by decide +kernel
theorem dX12_standard_70 : decode cX12_standard 70 = .ok (.iastore, 1) := by decide +kernel
theorem dX12_standard_71 : decode cX12_standard 71 = .ok (.aload_n 0, 1) := by decide +kernel
theorem dX12_standard_72 : decode cX12_standard 72 = .ok (.invokevirtual 172, 3) := by decide +kernel
theorem dX12_standard_75 : decode cX12_standard 75 = .ok (.iload 4, 2) := by decide +kernel
theorem dX12_standard_77 : decode cX12_standard 77 = .ok (.ireturn, 1) := by decide +kernel
theorem dX12_make_0 : decode cX12_make 0 = .ok (.iload_n 1, 1) := by decide +kernel
theorem dX12_make_1 : decode cX12_make 1 = .ok (.i2l, 1) := by decide +kernel
theorem dX12_make_2 : decode cX12_make 2 = .ok (.lconst 0, 1) := by decide +kernel
theorem dX12_make_3 : decode cX12_make 3 = .ok (.aload_n 0, 1) := by decide +kernel
theorem dX12_make_4 : decode cX12_make 4 = .ok (.getfield 151, 3) := by decide +kernel
theorem dX12_make_7 : decode cX12_make 7 = .ok (.iconst 1, 1) := by decide +kernel
theorem dX12_make_8 : decode cX12_make 8 = .ok (.isub, 1) := by decide +kernel
theorem dX12_make_9 : decode cX12_make 9 = .ok (.i2l, 1) := by decide +kernel
theorem dX12_make_10 : decode cX12_make 10 = .ok (.invokestatic 166, 3) := by decide +kernel
theorem dX12_make_13 : decode cX12_make 13 = .ok (.ifCond .eq 15, 3) := by decide +kernel
theorem dX12_make_16 : decode cX12_make 16 = .ok (.iload_n 2, 1) := by decide +kernel
theorem dX12_make_17 : decode cX12_make 17 = .ok (.i2l, 1) := by decide +kernel
theorem dX12_make_18 : decode cX12_make 18 = .ok (.lconst 0, 1) := by decide +kernel
theorem dX12_make_19 : decode cX12_make 19 = .ok (.ldc2_w 175, 3) := by decide +kernel
theorem dX12_make_22 : decode cX12_make 22 = .ok (.invokestatic 166, 3) := by decide +kernel
theorem dX12_make_25 : decode cX12_make 25 = .ok (.ifCond .ne 5, 3) := by decide +kernel
theorem dX12_make_28 : decode cX12_make 28 = .ok (.iconst (-1), 1) := by decide +kernel
theorem dX12_make_29 : decode cX12_make 29 = .ok (.ireturn, 1) := by decide +kernel
theorem dX12_make_30 : decode cX12_make 30 = .ok (.aload_n 0, 1) := by decide +kernel
theorem dX12_make_31 : decode cX12_make 31 = .ok (.getfield 177, 3) := by decide +kernel
theorem dX12_make_34 : decode cX12_make 34 = .ok (.bipush 30, 2) := by decide +kernel
theorem dX12_make_36 : decode cX12_make 36 = .ok (.if_icmp .ne 6, 3) := by decide +kernel
theorem dX12_make_39 : decode cX12_make 39 = .ok (.bipush (-2), 2) := by decide +kernel
theorem dX12_make_41 : decode cX12_make 41 = .ok (.ireturn, 1) := by decide +kernel
theorem dX12_make_42 : decode cX12_make 42 = .ok (.aload_n 0, 1) := by decide +kernel
theorem dX12_make_43 : decode cX12_make 43 = .ok (.getfield 19, 3) := by decide +kernel
theorem dX12_make_46 : decode cX12_make 46 = .ok (.aload_n 0, 1) := by decide +kernel
theorem dX12_make_47 : decode cX12_make 47 = .ok (.getfield 177, 3) := by decide +kernel
theorem dX12_make_50 : decode cX12_make 50 = .ok (.iload_n 1, 1) := by decide +kernel
theorem dX12_make_51 : decode cX12_make 51 = .ok (.iastore, 1) := by decide +kernel
theorem dX12_make_52 : decode cX12_make 52 = .ok (.aload_n 0, 1) := by decide +kernel
theorem dX12_make_53 : decode cX12_make 53 = .ok (.getfield 22, 3) := by decide +kernel
theorem dX12_make_56 : decode cX12_make 56 = .ok (.aload_n 0, 1) := by decide +kernel
theorem dX12_make_57 : decode cX12_make 57 = .ok (.getfield 177, 3) := by decide +kernel
theorem dX12_make_60 : decode cX12_make 60 = .ok (.iload_n 2, 1) := by decide +kernel
theorem dX12_make_61 : decode cX12_make 61 = .ok (.iastore, 1) := by decide +kernel
theorem dX12_make_62 : decode cX12_make 62 = .ok (.aload_n 0, 1) := by decide +kernel
theorem dX12_make_63 : decode cX12_make 63 = .ok (.dup, 1) := by decide +kernel
theorem dX12_make_64 : decode cX12_make 64 = .ok (.getfield 177, 3) := by decide +kernel
theorem dX12_make_67 : decode cX12_make 67 = .ok (.iconst 1, 1) := by decide +kernel
theorem dX12_make_68 : decode cX12_make 68 = .ok (.iadd, 1) := by decide +kernel
theorem dX12_make_69 : decode cX12_make 69 = .ok (.putfield 177, 3) := by decide +kernel
theorem dX12_make_72 : decode cX12_make 72 = .ok (.aload_n 0, 1) := by decide +kernel
theorem dX12_make_73 : decode cX12_make 73 = .ok (.invokevirtual 172, 3) := by decide +kernel
theorem dX12_make_76 : decode cX12_make 76 = .ok (.aload_n 0, 1) := by decide +kernel
theorem dX12_make_77 : decode cX12_make 77 = .ok (.getfield 177, 3) := by decide +kernel
theorem dX12_make_80 : decode cX12_make 80 = .ok (.iconst 1, 1) := by decide +kernel
theorem dX12_make_81 : decode cX12_make 81 = .ok (.isub, 1) := by decide +kernel
theorem dX12_make_82 : decode cX12_make 82 = .ok (.ireturn, 1) := by decide +kernel
theorem dX12_isObject_0 : decode cX12_isObject 0 = .ok (.iload_n 1, 1) := by decide +kernel
theorem dX12_isObject_1 : decode cX12_isObject 1 = .ok (.i2l, 1) := by decide +kernel
theorem dX12_isObject_2 : decode cX12_isObject 2 = .ok (.lconst 0, 1) := by decide +kernel
theorem dX12_isObject_3 : decode cX12_isObject 3 = .ok (.aload_n 0, 1) := by decide +kernel
theorem dX12_isObject_4 : decode cX12_isObject 4 = .ok (.getfield 177, 3) := by decide +kernel
theorem dX12_isObject_7 : decode cX12_isObject 7 = .ok (.iconst 1, 1) := by decide +kernel
theorem dX12_isObject_8 : decode cX12_isObject 8 = .ok (.isub, 1) := by decide +kernel
theorem dX12_isObject_9 : decode cX12_isObject 9 = .ok (.i2l, 1) := by decide +kernel
theorem dX12_isObject_10 : decode cX12_isObject 10 = .ok (.invokestatic 166, 3) := by decide +kernel
theorem dX12_isObject_13 : decode cX12_isObject 13 = .ok (.ireturn, 1) := by decide +kernel
theorem dX12_isOf_0 : decode cX12_isOf 0 = .ok (.aload_n 0, 1) := by decide +kernel
theorem dX12_isOf_1 : decode cX12_isOf 1 = .ok (.getfield 19, 3) := by decide +kernel
theorem dX12_isOf_4 : decode cX12_isOf 4 = .ok (.iload_n 1, 1) := by decide +kernel
theorem dX12_isOf_5 : decode cX12_isOf 5 = .ok (.iaload, 1) := by decide +kernel
theorem dX12_isOf_6 : decode cX12_isOf 6 = .ok (.istore_n 3, 1) := by decide +kernel
theorem dX12_isOf_7 : decode cX12_isOf 7 = .ok (.iload_n 3, 1) := by decide +kernel
theorem dX12_isOf_8 : decode cX12_isOf 8 = .ok (.bipush (-9), 2) := by decide +kernel
theorem dX12_isOf_10 : decode cX12_isOf 10 = .ok (.if_icmp .eq 18, 3) := by decide +kernel
theorem dX12_isOf_13 : decode cX12_isOf 13 = .ok (.iload_n 3, 1) := by decide +kernel
theorem dX12_isOf_14 : decode cX12_isOf 14 = .ok (.iload_n 2, 1) := by decide +kernel
theorem dX12_isOf_15 : decode cX12_isOf 15 = .ok (.if_icmp .eq 13, 3) := by decide +kernel
theorem dX12_isOf_18 : decode cX12_isOf 18 = .ok (.aload_n 0, 1) := by decide +kernel
theorem dX12_isOf_19 : decode cX12_isOf 19 = .ok (.getfield 13, 3) := by decide +kernel
theorem dX12_isOf_22 : decode cX12_isOf 22 = .ok (.iload_n 3, 1) := by decide +kernel
theorem dX12_isOf_23 : decode cX12_isOf 23 = .ok (.iaload, 1) := by decide +kernel
theorem dX12_isOf_24 : decode cX12_isOf 24 = .ok (.istore_n 3, 1) := by decide +kernel
theorem dX12_isOf_25 : decode cX12_isOf 25 = .ok (.goto (-18), 3) := by decide +kernel
theorem dX12_isOf_28 : decode cX12_isOf 28 = .ok (.iload_n 3, 1) := by decide +kernel
theorem dX12_isOf_29 : decode cX12_isOf 29 = .ok (.iload_n 2, 1) := by decide +kernel
theorem dX12_isOf_30 : decode cX12_isOf 30 = .ok (.if_icmp .ne 7, 3) := by decide +kernel
theorem dX12_isOf_33 : decode cX12_isOf 33 = .ok (.iconst 1, 1) := by decide +kernel
theorem dX12_isOf_34 : decode cX12_isOf 34 = .ok (.goto 4, 3) := by decide +kernel
theorem dX12_isOf_37 : decode cX12_isOf 37 = .ok (.iconst 0, 1) := by decide +kernel
theorem dX12_isOf_38 : decode cX12_isOf 38 = .ok (.ireturn, 1) := by decide +kernel
theorem dX12_is_0 : decode cX12_is 0 = .ok (.aload_n 0, 1) := by decide +kernel
theorem dX12_is_1 : decode cX12_is 1 = .ok (.iload_n 1, 1) := by decide +kernel
theorem dX12_is_2 : decode cX12_is 2 = .ok (.invokevirtual 180, 3) := by decide +kernel
theorem dX12_is_5 : decode cX12_is 5 = .ok (.ifCond .eq 19, 3) := by decide +kernel
theorem dX12_is_8 : decode cX12_is 8 = .ok (.iload_n 2, 1) := by decide +kernel
theorem dX12_is_9 : decode cX12_is 9 = .ok (.i2l, 1) := by decide +kernel
theorem dX12_is_10 : decode cX12_is 10 = .ok (.lconst 0, 1) := by decide +kernel
theorem dX12_is_11 : decode cX12_is 11 = .ok (.aload_n 0, 1) := by decide +kernel
theorem dX12_is_12 : decode cX12_is 12 = .ok (.getfield 151, 3) := by decide +kernel
theorem dX12_is_15 : decode cX12_is 15 = .ok (.iconst 1, 1) := by decide +kernel
theorem dX12_is_16 : decode cX12_is 16 = .ok (.isub, 1) := by decide +kernel
theorem dX12_is_17 : decode cX12_is 17 = .ok (.i2l, 1) := by decide +kernel
theorem dX12_is_18 : decode cX12_is 18 = .ok (.invokestatic 166, 3) := by decide +kernel
theorem dX12_is_21 : decode cX12_is 21 = .ok (.ifCond .ne 7, 3) := by decide +kernel
theorem dX12_is_24 : decode cX12_is 24 = .ok (.iconst (-1), 1) := by decide +kernel
theorem dX12_is_25 : decode cX12_is 25 = .ok (.goto 17, 3) := by decide +kernel
theorem dX12_is_28 : decode cX12_is 28 = .ok (.aload_n 0, 1) := by decide +kernel
theorem dX12_is_29 : decode cX12_is 29 = .ok (.iload_n 1, 1) := by decide +kernel
theorem dX12_is_30 : decode cX12_is 30 = .ok (.iload_n 2, 1) := by decide +kernel
theorem dX12_is_31 : decode cX12_is 31 = .ok (.invokevirtual 184, 3) := by decide +kernel
theorem dX12_is_34 : decode cX12_is 34 = .ok (.ifCond .eq 7, 3) := by decide +kernel
theorem dX12_is_37 : decode cX12_is 37 = .ok (.iconst 1, 1) := by decide +kernel
theorem dX12_is_38 : decode cX12_is 38 = .ok (.goto 4, 3) := by decide +kernel
theorem dX12_is_41 : decode cX12_is 41 = .ok (.iconst 0, 1) := by decide +kernel
theorem dX12_is_42 : decode cX12_is 42 = .ok (.ireturn, 1) := by decide +kernel
theorem dX12_isMovable_0 : decode cX12_isMovable 0 = .ok (.aload_n 0, 1) := by decide +kernel
theorem dX12_isMovable_1 : decode cX12_isMovable 1 = .ok (.iload_n 1, 1) := by decide +kernel
theorem dX12_isMovable_2 : decode cX12_isMovable 2 = .ok (.iconst 1, 1) := by decide +kernel
theorem dX12_isMovable_3 : decode cX12_isMovable 3 = .ok (.invokevirtual 184, 3) := by decide +kernel
theorem dX12_isMovable_6 : decode cX12_isMovable 6 = .ok (.ifCond .eq 16, 3) := by decide +kernel
theorem dX12_isMovable_9 : decode cX12_isMovable 9 = .ok (.aload_n 0, 1) := by decide +kernel
theorem dX12_isMovable_10 : decode cX12_isMovable 10 = .ok (.iload_n 1, 1) := by decide +kernel
theorem dX12_isMovable_11 : decode cX12_isMovable 11 = .ok (.iconst 2, 1) := by decide +kernel
theorem dX12_isMovable_12 : decode cX12_isMovable 12 = .ok (.invokevirtual 184, 3) := by decide +kernel
theorem dX12_isMovable_15 : decode cX12_isMovable 15 = .ok (.ifCond .ne 7, 3) := by decide +kernel
theorem dX12_isMovable_18 : decode cX12_isMovable 18 = .ok (.iconst 1, 1) := by decide +kernel
theorem dX12_isMovable_19 : decode cX12_isMovable 19 = .ok (.goto 4, 3) := by decide +kernel
theorem dX12_isMovable_22 : decode cX12_isMovable 22 = .ok (.iconst 0, 1) := by decide +kernel
theorem dX12_isMovable_23 : decode cX12_isMovable 23 = .ok (.ireturn, 1) := by decide +kernel
theorem dX12_isGoods_0 : decode cX12_isGoods 0 = .ok (.aload_n 0, 1) := by decide +kernel
theorem dX12_isGoods_1 : decode cX12_isGoods 1 = .ok (.iload_n 1, 1) := by decide +kernel
theorem dX12_isGoods_2 : decode cX12_isGoods 2 = .ok (.invokevirtual 188, 3) := by decide +kernel
theorem dX12_isGoods_5 : decode cX12_isGoods 5 = .ok (.ifCond .eq 16, 3) := by decide +kernel
theorem dX12_isGoods_8 : decode cX12_isGoods 8 = .ok (.aload_n 0, 1) := by decide +kernel
theorem dX12_isGoods_9 : decode cX12_isGoods 9 = .ok (.iload_n 1, 1) := by decide +kernel
theorem dX12_isGoods_10 : decode cX12_isGoods 10 = .ok (.iconst 5, 1) := by decide +kernel
theorem dX12_isGoods_11 : decode cX12_isGoods 11 = .ok (.invokevirtual 184, 3) := by decide +kernel
theorem dX12_isGoods_14 : decode cX12_isGoods 14 = .ok (.ifCond .ne 7, 3) := by decide +kernel
theorem dX12_isGoods_17 : decode cX12_isGoods 17 = .ok (.iconst 1, 1) := by decide +kernel
theorem dX12_isGoods_18 : decode cX12_isGoods 18 = .ok (.goto 4, 3) := by decide +kernel
theorem dX12_isGoods_21 : decode cX12_isGoods 21 = .ok (.iconst 0, 1) := by decide +kernel
theorem dX12_isGoods_22 : decode cX12_isGoods 22 = .ok (.ireturn, 1) := by decide +kernel
theorem dX12_isShutter_0 : decode cX12_isShutter 0 = .ok (.aload_n 0, 1) := by decide +kernel
theorem dX12_isShutter_1 : decode cX12_isShutter 1 = .ok (.iload_n 1, 1) := by decide +kernel
theorem dX12_isShutter_2 : decode cX12_isShutter 2 = .ok (.iconst 2, 1) := by decide +kernel
theorem dX12_isShutter_3 : decode cX12_isShutter 3 = .ok (.invokevirtual 184, 3) := by decide +kernel
theorem dX12_isShutter_6 : decode cX12_isShutter 6 = .ok (.ifCond .ne 12, 3) := by decide +kernel
theorem dX12_isShutter_9 : decode cX12_isShutter 9 = .ok (.aload_n 0, 1) := by decide +kernel
theorem dX12_isShutter_10 : decode cX12_isShutter 10 = .ok (.iload_n 1, 1) := by decide +kernel
theorem dX12_isShutter_11 : decode cX12_isShutter 11 = .ok (.iconst 3, 1) := by decide +kernel
theorem dX12_isShutter_12 : decode cX12_isShutter 12 = .ok (.invokevirtual 184, 3) := by decide +kernel
theorem dX12_isShutter_15 : decode cX12_isShutter 15 = .ok (.ifCond .eq 7, 3) := by decide +kernel
theorem dX12_isShutter_18 : decode cX12_isShutter 18 = .ok (.iconst 1, 1) := by decide +kernel
theorem dX12_isShutter_19 : decode cX12_isShutter 19 = .ok (.goto 4, 3) := by decide +kernel
theorem dX12_isShutter_22 : decode cX12_isShutter 22 = .ok (.iconst 0, 1) := by decide +kernel
theorem dX12_isShutter_23 : decode cX12_isShutter 23 = .ok (.ireturn, 1) := by decide +kernel
theorem dX12_mayHave_0 : decode cX12_mayHave 0 = .ok (.iload_n 2, 1) := by decide +kernel
theorem dX12_mayHave_1 : decode cX12_mayHave 1 = .ok (.tableswitch 55 0 4 #[35, 35, 41, 43, 49], 35) := by decide +kernel
theorem dX12_mayHave_36 : decode cX12_mayHave 36 = .ok (.aload_n 0, 1) := by decide +kernel
theorem dX12_mayHave_37 : decode cX12_mayHave 37 = .ok (.iload_n 1, 1) := by decide +kernel
theorem dX12_mayHave_38 : decode cX12_mayHave 38 = .ok (.invokevirtual 191, 3) := by decide +kernel
theorem dX12_mayHave_41 : decode cX12_mayHave 41 = .ok (.ireturn, 1) := by decide +kernel
theorem dX12_mayHave_42 : decode cX12_mayHave 42 = .ok (.iconst 1, 1) := by decide +kernel
theorem dX12_mayHave_43 : decode cX12_mayHave 43 = .ok (.ireturn, 1) := by decide +kernel
theorem dX12_mayHave_44 : decode cX12_mayHave 44 = .ok (.aload_n 0, 1) := by decide +kernel
theorem dX12_mayHave_45 : decode cX12_mayHave 45 = .ok (.iload_n 1, 1) := by decide +kernel
theorem dX12_mayHave_46 : decode cX12_mayHave 46 = .ok (.invokevirtual 188, 3) := by decide +kernel
theorem dX12_mayHave_49 : decode cX12_mayHave 49 = .ok (.ireturn, 1) := by decide +kernel
theorem dX12_mayHave_50 : decode cX12_mayHave 50 = .ok (.aload_n 0, 1) := by decide +kernel
theorem dX12_mayHave_51 : decode cX12_mayHave 51 = .ok (.iload_n 1, 1) := by decide +kernel
theorem dX12_mayHave_52 : decode cX12_mayHave 52 = .ok (.invokevirtual 194, 3) := by decide +kernel
theorem dX12_mayHave_55 : decode cX12_mayHave 55 = .ok (.ireturn, 1) := by decide +kernel
theorem dX12_mayHave_56 : decode cX12_mayHave 56 = .ok (.aload_n 0, 1) := by decide +kernel
theorem dX12_mayHave_57 : decode cX12_mayHave 57 = .ok (.iload_n 1, 1) := by decide +kernel
theorem dX12_mayHave_58 : decode cX12_mayHave 58 = .ok (.iconst 3, 1) := by decide +kernel
theorem dX12_mayHave_59 : decode cX12_mayHave 59 = .ok (.invokevirtual 184, 3) := by decide +kernel
theorem dX12_mayHave_62 : decode cX12_mayHave 62 = .ok (.ireturn, 1) := by decide +kernel
theorem dX12_areNumbers_0 : decode cX12_areNumbers 0 = .ok (.iload_n 1, 1) := by decide +kernel
theorem dX12_areNumbers_1 : decode cX12_areNumbers 1 = .ok (.bipush 6, 2) := by decide +kernel
theorem dX12_areNumbers_3 : decode cX12_areNumbers 3 = .ok (.if_icmp .ne 40, 3) := by decide +kernel
theorem dX12_areNumbers_6 : decode cX12_areNumbers 6 = .ok (.aload_n 0, 1) := by decide +kernel
theorem dX12_areNumbers_7 : decode cX12_areNumbers 7 = .ok (.iload_n 2, 1) := by decide +kernel
theorem dX12_areNumbers_8 : decode cX12_areNumbers 8 = .ok (.invokevirtual 180, 3) := by decide +kernel
theorem dX12_areNumbers_11 : decode cX12_areNumbers 11 = .ok (.ifCond .eq 30, 3) := by decide +kernel
theorem dX12_areNumbers_14 : decode cX12_areNumbers 14 = .ok (.iload_n 3, 1) := by decide +kernel
theorem dX12_areNumbers_15 : decode cX12_areNumbers 15 = .ok (.i2l, 1) := by decide +kernel
theorem dX12_areNumbers_16 : decode cX12_areNumbers 16 = .ok (.lconst 0, 1) := by decide +kernel
theorem dX12_areNumbers_17 : decode cX12_areNumbers 17 = .ok (.ldc2_w 170, 3) := by decide +kernel
theorem dX12_areNumbers_20 : decode cX12_areNumbers 20 = .ok (.invokestatic 166, 3) := by decide +kernel
theorem dX12_areNumbers_23 : decode cX12_areNumbers 23 = .ok (.ifCond .eq 18, 3) := by decide +kernel
theorem dX12_areNumbers_26 : decode cX12_areNumbers 26 = .ok (.iload 4, 2) := by decide +kernel
theorem dX12_areNumbers_28 : decode cX12_areNumbers 28 = .ok (.i2l, 1) := by decide +kernel
theorem dX12_areNumbers_29 : decode cX12_areNumbers 29 = .ok (.lconst 0, 1) := by decide +kernel
theorem dX12_areNumbers_30 : decode cX12_areNumbers 30 = .ok (.lconst 1, 1) := by decide +kernel
theorem dX12_areNumbers_31 : decode cX12_areNumbers 31 = .ok (.invokestatic 166, 3) := by decide +kernel
theorem dX12_areNumbers_34 : decode cX12_areNumbers 34 = .ok (.ifCond .eq 7, 3) := by decide +kernel
theorem dX12_areNumbers_37 : decode cX12_areNumbers 37 = .ok (.iconst 1, 1) := by decide +kernel
theorem dX12_areNumbers_38 : decode cX12_areNumbers 38 = .ok (.goto 4, 3) := by decide +kernel
theorem dX12_areNumbers_41 : decode cX12_areNumbers 41 = .ok (.iconst 0, 1) := by decide +kernel
theorem dX12_areNumbers_42 : decode cX12_areNumbers 42 = .ok (.ireturn, 1) := by decide +kernel
theorem dX12_areNumbers_43 : decode cX12_areNumbers 43 = .ok (.aload_n 0, 1) := by decide +kernel
theorem dX12_areNumbers_44 : decode cX12_areNumbers 44 = .ok (.iload_n 2, 1) := by decide +kernel
theorem dX12_areNumbers_45 : decode cX12_areNumbers 45 = .ok (.invokevirtual 180, 3) := by decide +kernel
theorem dX12_areNumbers_48 : decode cX12_areNumbers 48 = .ok (.ifCond .eq 33, 3) := by decide +kernel
theorem dX12_areNumbers_51 : decode cX12_areNumbers 51 = .ok (.aload_n 0, 1) := by decide +kernel
theorem dX12_areNumbers_52 : decode cX12_areNumbers 52 = .ok (.iload_n 3, 1) := by decide +kernel
theorem dX12_areNumbers_53 : decode cX12_areNumbers 53 = .ok (.invokevirtual 180, 3) := by decide +kernel
theorem dX12_areNumbers_56 : decode cX12_areNumbers 56 = .ok (.ifCond .eq 25, 3) := by decide +kernel
theorem dX12_areNumbers_59 : decode cX12_areNumbers 59 = .ok (.iload_n 1, 1) := by decide +kernel
theorem dX12_areNumbers_60 : decode cX12_areNumbers 60 = .ok (.iconst 5, 1) := by decide +kernel
theorem dX12_areNumbers_61 : decode cX12_areNumbers 61 = .ok (.if_icmp .ne 16, 3) := by decide +kernel
theorem dX12_areNumbers_64 : decode cX12_areNumbers 64 = .ok (.iload 4, 2) := by decide +kernel
theorem dX12_areNumbers_66 : decode cX12_areNumbers 66 = .ok (.i2l, 1) := by decide +kernel
theorem dX12_areNumbers_67 : decode cX12_areNumbers 67 = .ok (.lconst 0, 1) := by decide +kernel
theorem dX12_areNumbers_68 : decode cX12_areNumbers 68 = .ok (.ldc2_w 197, 3) := by decide +kernel
theorem dX12_areNumbers_71 : decode cX12_areNumbers 71 = .ok (.invokestatic 166, 3) := by decide +kernel
theorem dX12_areNumbers_74 : decode cX12_areNumbers 74 = .ok (.ifCond .eq 7, 3) := by decide +kernel
theorem dX12_areNumbers_77 : decode cX12_areNumbers 77 = .ok (.iconst 1, 1) := by decide +kernel
theorem dX12_areNumbers_78 : decode cX12_areNumbers 78 = .ok (.goto 4, 3) := by decide +kernel
theorem dX12_areNumbers_81 : decode cX12_areNumbers 81 = .ok (.iconst 0, 1) := by decide +kernel
theorem dX12_areNumbers_82 : decode cX12_areNumbers 82 = .ok (.ireturn, 1) := by decide +kernel
theorem dX12_fitsLeft_0 : decode cX12_fitsLeft 0 = .ok (.iload_n 1, 1) := by decide +kernel
theorem dX12_fitsLeft_1 : decode cX12_fitsLeft 1 = .ok (.tableswitch 63 0 6 #[43, 43, 63, 63, 63, 49, 56], 43) := by decide +kernel
theorem dX12_fitsLeft_44 : decode cX12_fitsLeft 44 = .ok (.aload_n 0, 1) := by decide +kernel
theorem dX12_fitsLeft_45 : decode cX12_fitsLeft 45 = .ok (.iload_n 2, 1) := by decide +kernel
theorem dX12_fitsLeft_46 : decode cX12_fitsLeft 46 = .ok (.invokevirtual 188, 3) := by decide +kernel
theorem dX12_fitsLeft_49 : decode cX12_fitsLeft 49 = .ok (.ireturn, 1) := by decide +kernel
theorem dX12_fitsLeft_50 : decode cX12_fitsLeft 50 = .ok (.aload_n 0, 1) := by decide +kernel
theorem dX12_fitsLeft_51 : decode cX12_fitsLeft 51 = .ok (.iload_n 2, 1) := by decide +kernel
theorem dX12_fitsLeft_52 : decode cX12_fitsLeft 52 = .ok (.iconst 0, 1) := by decide +kernel
theorem dX12_fitsLeft_53 : decode cX12_fitsLeft 53 = .ok (.invokevirtual 184, 3) := by decide +kernel
theorem dX12_fitsLeft_56 : decode cX12_fitsLeft 56 = .ok (.ireturn, 1) := by decide +kernel
theorem dX12_fitsLeft_57 : decode cX12_fitsLeft 57 = .ok (.aload_n 0, 1) := by decide +kernel
theorem dX12_fitsLeft_58 : decode cX12_fitsLeft 58 = .ok (.iload_n 2, 1) := by decide +kernel
theorem dX12_fitsLeft_59 : decode cX12_fitsLeft 59 = .ok (.iload_n 3, 1) := by decide +kernel
theorem dX12_fitsLeft_60 : decode cX12_fitsLeft 60 = .ok (.invokevirtual 199, 3) := by decide +kernel
theorem dX12_fitsLeft_63 : decode cX12_fitsLeft 63 = .ok (.ireturn, 1) := by decide +kernel
theorem dX12_fitsLeft_64 : decode cX12_fitsLeft 64 = .ok (.aload_n 0, 1) := by decide +kernel
theorem dX12_fitsLeft_65 : decode cX12_fitsLeft 65 = .ok (.iload_n 2, 1) := by decide +kernel
theorem dX12_fitsLeft_66 : decode cX12_fitsLeft 66 = .ok (.invokevirtual 194, 3) := by decide +kernel
theorem dX12_fitsLeft_69 : decode cX12_fitsLeft 69 = .ok (.ireturn, 1) := by decide +kernel
theorem dX12_fitsRight_0 : decode cX12_fitsRight 0 = .ok (.iload_n 1, 1) := by decide +kernel
theorem dX12_fitsRight_1 : decode cX12_fitsRight 1 = .ok (.tableswitch 122 0 7 #[47, 71, 78, 78, 85, 92, 122, 116], 47) := by decide +kernel
theorem dX12_fitsRight_48 : decode cX12_fitsRight 48 = .ok (.aload_n 0, 1) := by decide +kernel
theorem dX12_fitsRight_49 : decode cX12_fitsRight 49 = .ok (.iload_n 2, 1) := by decide +kernel
theorem dX12_fitsRight_50 : decode cX12_fitsRight 50 = .ok (.iconst 0, 1) := by decide +kernel
theorem dX12_fitsRight_51 : decode cX12_fitsRight 51 = .ok (.invokevirtual 184, 3) := by decide +kernel
theorem dX12_fitsRight_54 : decode cX12_fitsRight 54 = .ok (.ifCond .ne 12, 3) := by decide +kernel
theorem dX12_fitsRight_57 : decode cX12_fitsRight 57 = .ok (.aload_n 0, 1) := by decide +kernel
theorem dX12_fitsRight_58 : decode cX12_fitsRight 58 = .ok (.iload_n 2, 1) := by decide +kernel
theorem dX12_fitsRight_59 : decode cX12_fitsRight 59 = .ok (.iconst 3, 1) := by decide +kernel
theorem dX12_fitsRight_60 : decode cX12_fitsRight 60 = .ok (.invokevirtual 184, 3) := by decide +kernel
theorem dX12_fitsRight_63 : decode cX12_fitsRight 63 = .ok (.ifCond .eq 7, 3) := by decide +kernel
theorem dX12_fitsRight_66 : decode cX12_fitsRight 66 = .ok (.iconst 1, 1) := by decide +kernel
theorem dX12_fitsRight_67 : decode cX12_fitsRight 67 = .ok (.goto 4, 3) := by decide +kernel
theorem dX12_fitsRight_70 : decode cX12_fitsRight 70 = .ok (.iconst 0, 1) := by decide +kernel
theorem dX12_fitsRight_71 : decode cX12_fitsRight 71 = .ok (.ireturn, 1) := by decide +kernel
theorem dX12_fitsRight_72 : decode cX12_fitsRight 72 = .ok (.aload_n 0, 1) := by decide +kernel
theorem dX12_fitsRight_73 : decode cX12_fitsRight 73 = .ok (.iload_n 2, 1) := by decide +kernel
theorem dX12_fitsRight_74 : decode cX12_fitsRight 74 = .ok (.iconst 4, 1) := by decide +kernel
theorem dX12_fitsRight_75 : decode cX12_fitsRight 75 = .ok (.invokevirtual 184, 3) := by decide +kernel
theorem dX12_fitsRight_78 : decode cX12_fitsRight 78 = .ok (.ireturn, 1) := by decide +kernel
theorem dX12_fitsRight_79 : decode cX12_fitsRight 79 = .ok (.aload_n 0, 1) := by decide +kernel
theorem dX12_fitsRight_80 : decode cX12_fitsRight 80 = .ok (.iload_n 2, 1) := by decide +kernel
theorem dX12_fitsRight_81 : decode cX12_fitsRight 81 = .ok (.iconst 5, 1) := by decide +kernel
theorem dX12_fitsRight_82 : decode cX12_fitsRight 82 = .ok (.invokevirtual 184, 3) := by decide +kernel
theorem dX12_fitsRight_85 : decode cX12_fitsRight 85 = .ok (.ireturn, 1) := by decide +kernel
theorem dX12_fitsRight_86 : decode cX12_fitsRight 86 = .ok (.aload_n 0, 1) := by decide +kernel
theorem dX12_fitsRight_87 : decode cX12_fitsRight 87 = .ok (.iload_n 2, 1) := by decide +kernel
theorem dX12_fitsRight_88 : decode cX12_fitsRight 88 = .ok (.iconst 1, 1) := by decide +kernel
theorem dX12_fitsRight_89 : decode cX12_fitsRight 89 = .ok (.invokevirtual 184, 3) := by decide +kernel
theorem dX12_fitsRight_92 : decode cX12_fitsRight 92 = .ok (.ireturn, 1) := by decide +kernel
theorem dX12_fitsRight_93 : decode cX12_fitsRight 93 = .ok (.aload_n 0, 1) := by decide +kernel
theorem dX12_fitsRight_94 : decode cX12_fitsRight 94 = .ok (.iload_n 2, 1) := by decide +kernel
theorem dX12_fitsRight_95 : decode cX12_fitsRight 95 = .ok (.iconst 0, 1) := by decide +kernel
theorem dX12_fitsRight_96 : decode cX12_fitsRight 96 = .ok (.invokevirtual 184, 3) := by decide +kernel
theorem dX12_fitsRight_99 : decode cX12_fitsRight 99 = .ok (.ifCond .ne 12, 3) := by decide +kernel
theorem dX12_fitsRight_102 : decode cX12_fitsRight 102 = .ok (.aload_n 0, 1) := by decide +kernel
theorem dX12_fitsRight_103 : decode cX12_fitsRight 103 = .ok (.iload_n 2, 1) := by decide +kernel
theorem dX12_fitsRight_104 : decode cX12_fitsRight 104 = .ok (.iconst 2, 1) := by decide +kernel
theorem dX12_fitsRight_105 : decode cX12_fitsRight 105 = .ok (.invokevirtual 184, 3) := by decide +kernel
theorem dX12_fitsRight_108 : decode cX12_fitsRight 108 = .ok (.ifCond .eq 7, 3) := by decide +kernel
theorem dX12_fitsRight_111 : decode cX12_fitsRight 111 = .ok (.iconst 1, 1) := by decide +kernel
theorem dX12_fitsRight_112 : decode cX12_fitsRight 112 = .ok (.goto 4, 3) := by decide +kernel
theorem dX12_fitsRight_115 : decode cX12_fitsRight 115 = .ok (.iconst 0, 1) := by decide +kernel
theorem dX12_fitsRight_116 : decode cX12_fitsRight 116 = .ok (.ireturn, 1) := by decide +kernel
theorem dX12_fitsRight_117 : decode cX12_fitsRight 117 = .ok (.aload_n 0, 1) := by decide +kernel
theorem dX12_fitsRight_118 : decode cX12_fitsRight 118 = .ok (.iload_n 2, 1) := by decide +kernel
theorem dX12_fitsRight_119 : decode cX12_fitsRight 119 = .ok (.invokevirtual 191, 3) := by decide +kernel
theorem dX12_fitsRight_122 : decode cX12_fitsRight 122 = .ok (.ireturn, 1) := by decide +kernel
theorem dX12_fitsRight_123 : decode cX12_fitsRight 123 = .ok (.iconst 1, 1) := by decide +kernel
theorem dX12_fitsRight_124 : decode cX12_fitsRight 124 = .ok (.ireturn, 1) := by decide +kernel
theorem dX12_saidSo_0 : decode cX12_saidSo 0 = .ok (.iconst 0, 1) := by decide +kernel
theorem dX12_saidSo_1 : decode cX12_saidSo 1 = .ok (.istore 5, 2) := by decide +kernel
theorem dX12_saidSo_3 : decode cX12_saidSo 3 = .ok (.iload 5, 2) := by decide +kernel
theorem dX12_saidSo_5 : decode cX12_saidSo 5 = .ok (.aload_n 0, 1) := by decide +kernel
theorem dX12_saidSo_6 : decode cX12_saidSo 6 = .ok (.getfield 202, 3) := by decide +kernel
theorem dX12_saidSo_9 : decode cX12_saidSo 9 = .ok (.if_icmp .ge 67, 3) := by decide +kernel
theorem dX12_saidSo_12 : decode cX12_saidSo 12 = .ok (.aload_n 0, 1) := by decide +kernel
theorem dX12_saidSo_13 : decode cX12_saidSo 13 = .ok (.getfield 37, 3) := by decide +kernel
theorem dX12_saidSo_16 : decode cX12_saidSo 16 = .ok (.iload 5, 2) := by decide +kernel
theorem dX12_saidSo_18 : decode cX12_saidSo 18 = .ok (.baload, 1) := by decide +kernel
theorem dX12_saidSo_19 : decode cX12_saidSo 19 = .ok (.ifCond .eq 51, 3) := by decide +kernel
theorem dX12_saidSo_22 : decode cX12_saidSo 22 = .ok (.aload_n 0, 1) := by decide +kernel
theorem dX12_saidSo_23 : decode cX12_saidSo 23 = .ok (.getfield 25, 3) := by decide +kernel
theorem dX12_saidSo_26 : decode cX12_saidSo 26 = .ok (.iload 5, 2) := by decide +kernel
theorem dX12_saidSo_28 : decode cX12_saidSo 28 = .ok (.iaload, 1) := by decide +kernel
theorem dX12_saidSo_29 : decode cX12_saidSo 29 = .ok (.iload_n 1, 1) := by decide +kernel
theorem dX12_saidSo_30 : decode cX12_saidSo 30 = .ok (.if_icmp .ne 40, 3) := by decide +kernel
theorem dX12_saidSo_33 : decode cX12_saidSo 33 = .ok (.aload_n 0, 1) := by decide +kernel
theorem dX12_saidSo_34 : decode cX12_saidSo 34 = .ok (.getfield 28, 3) := by decide +kernel
theorem dX12_saidSo_37 : decode cX12_saidSo 37 = .ok (.iload 5, 2) := by decide +kernel
theorem dX12_saidSo_39 : decode cX12_saidSo 39 = .ok (.iaload, 1) := by decide +kernel
theorem dX12_saidSo_40 : decode cX12_saidSo 40 = .ok (.iload_n 2, 1) := by decide +kernel
theorem dX12_saidSo_41 : decode cX12_saidSo 41 = .ok (.if_icmp .ne 29, 3) := by decide +kernel
theorem dX12_saidSo_44 : decode cX12_saidSo 44 = .ok (.aload_n 0, 1) := by decide +kernel
theorem dX12_saidSo_45 : decode cX12_saidSo 45 = .ok (.getfield 31, 3) := by decide +kernel
theorem dX12_saidSo_48 : decode cX12_saidSo 48 = .ok (.iload 5, 2) := by decide +kernel
theorem dX12_saidSo_50 : decode cX12_saidSo 50 = .ok (.iaload, 1) := by decide +kernel
theorem dX12_saidSo_51 : decode cX12_saidSo 51 = .ok (.iload_n 3, 1) := by decide +kernel
theorem dX12_saidSo_52 : decode cX12_saidSo 52 = .ok (.if_icmp .ne 18, 3) := by decide +kernel
theorem dX12_saidSo_55 : decode cX12_saidSo 55 = .ok (.aload_n 0, 1) := by decide +kernel
theorem dX12_saidSo_56 : decode cX12_saidSo 56 = .ok (.getfield 34, 3) := by decide +kernel
theorem dX12_saidSo_59 : decode cX12_saidSo 59 = .ok (.iload 5, 2) := by decide +kernel
theorem dX12_saidSo_61 : decode cX12_saidSo 61 = .ok (.iaload, 1) := by decide +kernel
theorem dX12_saidSo_62 : decode cX12_saidSo 62 = .ok (.iload 4, 2) := by decide +kernel
theorem dX12_saidSo_64 : decode cX12_saidSo 64 = .ok (.if_icmp .ne 6, 3) := by decide +kernel
theorem dX12_saidSo_67 : decode cX12_saidSo 67 = .ok (.iload 5, 2) := by decide +kernel
theorem dX12_saidSo_69 : decode cX12_saidSo 69 = .ok (.ireturn, 1) := by decide +kernel
theorem dX12_saidSo_70 : decode cX12_saidSo 70 = .ok (.iinc 5 1, 3) := by decide +kernel
theorem dX12_saidSo_73 : decode cX12_saidSo 73 = .ok (.goto (-70), 3) := by decide +kernel
theorem dX12_saidSo_76 : decode cX12_saidSo 76 = .ok (.bipush (-9), 2) := by decide +kernel
theorem dX12_saidSo_78 : decode cX12_saidSo 78 = .ok (.ireturn, 1) := by decide +kernel
theorem dX12_clashes_0 : decode cX12_clashes 0 = .ok (.aload_n 0, 1) := by decide +kernel
theorem dX12_clashes_1 : decode cX12_clashes 1 = .ok (.getfield 41, 3) := by decide +kernel
theorem dX12_clashes_4 : decode cX12_clashes 4 = .ok (.aload_n 0, 1) := by decide +kernel
theorem dX12_clashes_5 : decode cX12_clashes 5 = .ok (.getfield 205, 3) := by decide +kernel
theorem dX12_clashes_8 : decode cX12_clashes 8 = .ok (.iload_n 1, 1) := by decide +kernel
theorem dX12_clashes_9 : decode cX12_clashes 9 = .ok (.iastore, 1) := by decide +kernel
theorem dX12_clashes_10 : decode cX12_clashes 10 = .ok (.aload_n 0, 1) := by decide +kernel
theorem dX12_clashes_11 : decode cX12_clashes 11 = .ok (.dup, 1) := by decide +kernel
theorem dX12_clashes_12 : decode cX12_clashes 12 = .ok (.getfield 205, 3) := by decide +kernel
theorem dX12_clashes_15 : decode cX12_clashes 15 = .ok (.iconst 1, 1) := by decide +kernel
theorem dX12_clashes_16 : decode cX12_clashes 16 = .ok (.iadd, 1) := by decide +kernel
theorem dX12_clashes_17 : decode cX12_clashes 17 = .ok (.putfield 205, 3) := by decide +kernel
theorem dX12_clashes_20 : decode cX12_clashes 20 = .ok (.return_, 1) := by decide +kernel
theorem dX12_placing_0 : decode cX12_placing 0 = .ok (.iconst 0, 1) := by decide +kernel
theorem dX12_placing_1 : decode cX12_placing 1 = .ok (.istore_n 2, 1) := by decide +kernel
theorem dX12_placing_2 : decode cX12_placing 2 = .ok (.iload_n 2, 1) := by decide +kernel
theorem dX12_placing_3 : decode cX12_placing 3 = .ok (.aload_n 0, 1) := by decide +kernel
theorem dX12_placing_4 : decode cX12_placing 4 = .ok (.getfield 202, 3) := by decide +kernel
theorem dX12_placing_7 : decode cX12_placing 7 = .ok (.if_icmp .ge 40, 3) := by decide +kernel
theorem dX12_placing_10 : decode cX12_placing 10 = .ok (.aload_n 0, 1) := by decide +kernel
theorem dX12_placing_11 : decode cX12_placing 11 = .ok (.getfield 37, 3) := by decide +kernel
theorem dX12_placing_14 : decode cX12_placing 14 = .ok (.iload_n 2, 1) := by decide +kernel
theorem dX12_placing_15 : decode cX12_placing 15 = .ok (.baload, 1) := by decide +kernel
theorem dX12_placing_16 : decode cX12_placing 16 = .ok (.ifCond .eq 25, 3) := by decide +kernel
theorem dX12_placing_19 : decode cX12_placing 19 = .ok (.aload_n 0, 1) := by decide +kernel
theorem dX12_placing_20 : decode cX12_placing 20 = .ok (.getfield 25, 3) := by decide +kernel
theorem dX12_placing_23 : decode cX12_placing 23 = .ok (.iload_n 2, 1) := by decide +kernel
theorem dX12_placing_24 : decode cX12_placing 24 = .ok (.iaload, 1) := by decide +kernel
theorem dX12_placing_25 : decode cX12_placing 25 = .ok (.iconst 5, 1) := by decide +kernel
theorem dX12_placing_26 : decode cX12_placing 26 = .ok (.if_icmp .ge 15, 3) := by decide +kernel
theorem dX12_placing_29 : decode cX12_placing 29 = .ok (.aload_n 0, 1) := by decide +kernel
theorem dX12_placing_30 : decode cX12_placing 30 = .ok (.getfield 28, 3) := by decide +kernel
theorem dX12_placing_33 : decode cX12_placing 33 = .ok (.iload_n 2, 1) := by decide +kernel
theorem dX12_placing_34 : decode cX12_placing 34 = .ok (.iaload, 1) := by decide +kernel
theorem dX12_placing_35 : decode cX12_placing 35 = .ok (.iload_n 1, 1) := by decide +kernel
theorem dX12_placing_36 : decode cX12_placing 36 = .ok (.if_icmp .ne 5, 3) := by decide +kernel
theorem dX12_placing_39 : decode cX12_placing 39 = .ok (.iload_n 2, 1) := by decide +kernel
theorem dX12_placing_40 : decode cX12_placing 40 = .ok (.ireturn, 1) := by decide +kernel
theorem dX12_placing_41 : decode cX12_placing 41 = .ok (.iinc 2 1, 3) := by decide +kernel
theorem dX12_placing_44 : decode cX12_placing 44 = .ok (.goto (-42), 3) := by decide +kernel
theorem dX12_placing_47 : decode cX12_placing 47 = .ok (.bipush (-9), 2) := by decide +kernel
theorem dX12_placing_49 : decode cX12_placing 49 = .ok (.ireturn, 1) := by decide +kernel
theorem dX12_isPlaceBarred_0 : decode cX12_isPlaceBarred 0 = .ok (.aload_n 0, 1) := by decide +kernel
theorem dX12_isPlaceBarred_1 : decode cX12_isPlaceBarred 1 = .ok (.iload_n 2, 1) := by decide +kernel
theorem dX12_isPlaceBarred_2 : decode cX12_isPlaceBarred 2 = .ok (.invokevirtual 208, 3) := by decide +kernel
theorem dX12_isPlaceBarred_5 : decode cX12_isPlaceBarred 5 = .ok (.istore 4, 2) := by decide +kernel
theorem dX12_isPlaceBarred_7 : decode cX12_isPlaceBarred 7 = .ok (.iload 4, 2) := by decide +kernel
theorem dX12_isPlaceBarred_9 : decode cX12_isPlaceBarred 9 = .ok (.bipush (-9), 2) := by decide +kernel
theorem dX12_isPlaceBarred_11 : decode cX12_isPlaceBarred 11 = .ok (.if_icmp .eq 11, 3) := by decide +kernel
theorem dX12_isPlaceBarred_14 : decode cX12_isPlaceBarred 14 = .ok (.aload_n 0, 1) := by decide +kernel
theorem dX12_isPlaceBarred_15 : decode cX12_isPlaceBarred 15 = .ok (.iload 4, 2) := by decide +kernel
theorem dX12_isPlaceBarred_17 : decode cX12_isPlaceBarred 17 = .ok (.invokevirtual 212, 3) := by decide +kernel
theorem dX12_isPlaceBarred_20 : decode cX12_isPlaceBarred 20 = .ok (.iconst 1, 1) := by decide +kernel
theorem dX12_isPlaceBarred_21 : decode cX12_isPlaceBarred 21 = .ok (.ireturn, 1) := by decide +kernel
theorem dX12_isPlaceBarred_22 : decode cX12_isPlaceBarred 22 = .ok (.iload_n 3, 1) := by decide +kernel
theorem dX12_isPlaceBarred_23 : decode cX12_isPlaceBarred 23 = .ok (.istore 5, 2) := by decide +kernel
theorem dX12_isPlaceBarred_25 : decode cX12_isPlaceBarred 25 = .ok (.iload 5, 2) := by decide +kernel
theorem dX12_isPlaceBarred_27 : decode cX12_isPlaceBarred 27 = .ok (.iload_n 2, 1) := by decide +kernel
theorem dX12_isPlaceBarred_28 : decode cX12_isPlaceBarred 28 = .ok (.if_icmp .eq 40, 3) := by decide +kernel
theorem dX12_isPlaceBarred_31 : decode cX12_isPlaceBarred 31 = .ok (.aload_n 0, 1) := by decide +kernel
theorem dX12_isPlaceBarred_32 : decode cX12_isPlaceBarred 32 = .ok (.iload 5, 2) := by decide +kernel
theorem dX12_isPlaceBarred_34 : decode cX12_isPlaceBarred 34 = .ok (.invokevirtual 208, 3) := by decide +kernel
theorem dX12_isPlaceBarred_37 : decode cX12_isPlaceBarred 37 = .ok (.bipush (-9), 2) := by decide +kernel
theorem dX12_isPlaceBarred_39 : decode cX12_isPlaceBarred 39 = .ok (.if_icmp .eq 29, 3) := by decide +kernel
theorem dX12_isPlaceBarred_42 : decode cX12_isPlaceBarred 42 = .ok (.aload_n 0, 1) := by decide +kernel
theorem dX12_isPlaceBarred_43 : decode cX12_isPlaceBarred 43 = .ok (.aload_n 0, 1) := by decide +kernel
theorem dX12_isPlaceBarred_44 : decode cX12_isPlaceBarred 44 = .ok (.iload 5, 2) := by decide +kernel
theorem dX12_isPlaceBarred_46 : decode cX12_isPlaceBarred 46 = .ok (.invokevirtual 208, 3) := by decide +kernel
theorem dX12_isPlaceBarred_49 : decode cX12_isPlaceBarred 49 = .ok (.invokevirtual 212, 3) := by decide +kernel
theorem dX12_isPlaceBarred_52 : decode cX12_isPlaceBarred 52 = .ok (.aload_n 0, 1) := by decide +kernel
theorem dX12_isPlaceBarred_53 : decode cX12_isPlaceBarred 53 = .ok (.getfield 31, 3) := by decide +kernel
theorem dX12_isPlaceBarred_56 : decode cX12_isPlaceBarred 56 = .ok (.aload_n 0, 1) := by decide +kernel
theorem dX12_isPlaceBarred_57 : decode cX12_isPlaceBarred 57 = .ok (.iload 5, 2) := by decide +kernel
theorem dX12_isPlaceBarred_59 : decode cX12_isPlaceBarred 59 = .ok (.invokevirtual 208, 3) := by decide +kernel
theorem dX12_isPlaceBarred_62 : decode cX12_isPlaceBarred 62 = .ok (.iaload, 1) := by decide +kernel
theorem dX12_isPlaceBarred_63 : decode cX12_isPlaceBarred 63 = .ok (.istore 5, 2) := by decide +kernel
theorem dX12_isPlaceBarred_65 : decode cX12_isPlaceBarred 65 = .ok (.goto (-40), 3) := by decide +kernel
theorem dX12_isPlaceBarred_68 : decode cX12_isPlaceBarred 68 = .ok (.iload 5, 2) := by decide +kernel
theorem dX12_isPlaceBarred_70 : decode cX12_isPlaceBarred 70 = .ok (.iload_n 2, 1) := by decide +kernel
theorem dX12_isPlaceBarred_71 : decode cX12_isPlaceBarred 71 = .ok (.if_icmp .ne 5, 3) := by decide +kernel
theorem dX12_isPlaceBarred_74 : decode cX12_isPlaceBarred 74 = .ok (.iconst 1, 1) := by decide +kernel
theorem dX12_isPlaceBarred_75 : decode cX12_isPlaceBarred 75 = .ok (.ireturn, 1) := by decide +kernel
theorem dX12_isPlaceBarred_76 : decode cX12_isPlaceBarred 76 = .ok (.aload_n 0, 1) := by decide +kernel
theorem dX12_isPlaceBarred_77 : decode cX12_isPlaceBarred 77 = .ok (.iconst 0, 1) := by decide +kernel
theorem dX12_isPlaceBarred_78 : decode cX12_isPlaceBarred 78 = .ok (.putfield 205, 3) := by decide +kernel
theorem dX12_isPlaceBarred_81 : decode cX12_isPlaceBarred 81 = .ok (.iload_n 1, 1) := by decide +kernel
theorem dX12_isPlaceBarred_82 : decode cX12_isPlaceBarred 82 = .ok (.iconst 3, 1) := by decide +kernel
theorem dX12_isPlaceBarred_83 : decode cX12_isPlaceBarred 83 = .ok (.if_icmp .ne 15, 3) := by decide +kernel
theorem dX12_isPlaceBarred_86 : decode cX12_isPlaceBarred 86 = .ok (.aload_n 0, 1) := by decide +kernel
theorem dX12_isPlaceBarred_87 : decode cX12_isPlaceBarred 87 = .ok (.bipush 6, 2) := by decide +kernel
theorem dX12_isPlaceBarred_89 : decode cX12_isPlaceBarred 89 = .ok (.iload_n 2, 1) := by decide +kernel
theorem dX12_isPlaceBarred_90 : decode cX12_isPlaceBarred 90 = .ok (.iconst 4, 1) := by decide +kernel
theorem dX12_isPlaceBarred_91 : decode cX12_isPlaceBarred 91 = .ok (.iconst 0, 1) := by decide +kernel
theorem dX12_isPlaceBarred_92 : decode cX12_isPlaceBarred 92 = .ok (.invokevirtual 216, 3) := by decide +kernel
theorem dX12_isPlaceBarred_95 : decode cX12_isPlaceBarred 95 = .ok (.goto 5, 3) := by decide +kernel
theorem dX12_isPlaceBarred_98 : decode cX12_isPlaceBarred 98 = .ok (.bipush (-9), 2) := by decide +kernel
theorem dX12_isPlaceBarred_100 : decode cX12_isPlaceBarred 100 = .ok (.istore 6, 2) := by decide +kernel
theorem dX12_isPlaceBarred_102 : decode cX12_isPlaceBarred 102 = .ok (.iload 6, 2) := by decide +kernel
theorem dX12_isPlaceBarred_104 : decode cX12_isPlaceBarred 104 = .ok (.bipush (-9), 2) := by decide +kernel
theorem dX12_isPlaceBarred_106 : decode cX12_isPlaceBarred 106 = .ok (.if_icmp .eq 9, 3) := by decide +kernel
theorem dX12_isPlaceBarred_109 : decode cX12_isPlaceBarred 109 = .ok (.aload_n 0, 1) := by decide +kernel
theorem dX12_isPlaceBarred_110 : decode cX12_isPlaceBarred 110 = .ok (.iload 6, 2) := by decide +kernel
theorem dX12_isPlaceBarred_112 : decode cX12_isPlaceBarred 112 = .ok (.invokevirtual 212, 3) := by decide +kernel
theorem dX12_isPlaceBarred_115 : decode cX12_isPlaceBarred 115 = .ok (.iload 6, 2) := by decide +kernel
theorem dX12_isPlaceBarred_117 : decode cX12_isPlaceBarred 117 = .ok (.bipush (-9), 2) := by decide +kernel
theorem dX12_isPlaceBarred_119 : decode cX12_isPlaceBarred 119 = .ok (.if_icmp .eq 7, 3) := by decide +kernel
theorem dX12_isPlaceBarred_122 : decode cX12_isPlaceBarred 122 = .ok (.iconst 1, 1) := by decide +kernel
theorem dX12_isPlaceBarred_123 : decode cX12_isPlaceBarred 123 = .ok (.goto 4, 3) := by decide +kernel
theorem dX12_isPlaceBarred_126 : decode cX12_isPlaceBarred 126 = .ok (.iconst 0, 1) := by decide +kernel
theorem dX12_isPlaceBarred_127 : decode cX12_isPlaceBarred 127 = .ok (.ireturn, 1) := by decide +kernel
theorem dX12_isExitBarred_0 : decode cX12_isExitBarred 0 = .ok (.iconst 0, 1) := by decide +kernel
theorem dX12_isExitBarred_1 : decode cX12_isExitBarred 1 = .ok (.istore 4, 2) := by decide +kernel
theorem dX12_isExitBarred_3 : decode cX12_isExitBarred 3 = .ok (.iload 4, 2) := by decide +kernel
theorem dX12_isExitBarred_5 : decode cX12_isExitBarred 5 = .ok (.aload_n 0, 1) := by decide +kernel
theorem dX12_isExitBarred_6 : decode cX12_isExitBarred 6 = .ok (.getfield 202, 3) := by decide +kernel
theorem dX12_isExitBarred_9 : decode cX12_isExitBarred 9 = .ok (.if_icmp .ge 60, 3) := by decide +kernel
