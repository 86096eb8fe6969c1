theorem dX15_read_333 : decode cX15_read 333 = .ok (.if_icmp .ne 12, 3) := by decide +kernel
theorem dX15_read_336 : decode cX15_read 336 = .ok (.aload_n 0, 1) := by decide +kernel
theorem dX15_read_337 : decode cX15_read 337 = .ok (.iconst 4, 1) := by decide +kernel
theorem dX15_read_338 : decode cX15_read 338 = .ok (.aload_n 0, 1) := by decide +kernel
theorem dX15_read_339 : decode cX15_read 339 = .ok (.getfield 80, 3) := by decide +kernel
theorem dX15_read_342 : decode cX15_read 342 = .ok (.invokevirtual 150, 3) := by decide +kernel
theorem dX15_read_345 : decode cX15_read 345 = .ok (.aload_n 0, 1) := by decide +kernel
theorem dX15_read_346 : decode cX15_read 346 = .ok (.getfield 125, 3) := by decide +kernel
theorem dX15_read_349 : decode cX15_read 349 = .ok (.ifCond .le 6, 3) := by decide +kernel
theorem dX15_read_352 : decode cX15_read 352 = .ok (.goto 111, 3) := by decide +kernel
theorem dX15_read_355 : decode cX15_read 355 = .ok (.iload_n 3, 1) := by decide +kernel
theorem dX15_read_356 : decode cX15_read 356 = .ok (.ifCond .eq 10, 3) := by decide +kernel
theorem dX15_read_359 : decode cX15_read 359 = .ok (.aload_n 0, 1) := by decide +kernel
theorem dX15_read_360 : decode cX15_read 360 = .ok (.invokevirtual 154, 3) := by decide +kernel
theorem dX15_read_363 : decode cX15_read 363 = .ok (.goto (-339), 3) := by decide +kernel
theorem dX15_read_366 : decode cX15_read 366 = .ok (.iinc 1 1, 3) := by decide +kernel
theorem dX15_read_369 : decode cX15_read 369 = .ok (.iload 5, 2) := by decide +kernel
theorem dX15_read_371 : decode cX15_read 371 = .ok (.ifCond .eq 26, 3) := by decide +kernel
theorem dX15_read_374 : decode cX15_read 374 = .ok (.aload_n 0, 1) := by decide +kernel
theorem dX15_read_375 : decode cX15_read 375 = .ok (.getfield 40, 3) := by decide +kernel
theorem dX15_read_378 : decode cX15_read 378 = .ok (.aload_n 0, 1) := by decide +kernel
theorem dX15_read_379 : decode cX15_read 379 = .ok (.getfield 128, 3) := by decide +kernel
theorem dX15_read_382 : decode cX15_read 382 = .ok (.aload_n 0, 1) := by decide +kernel
theorem dX15_read_383 : decode cX15_read 383 = .ok (.getfield 131, 3) := by decide +kernel
theorem dX15_read_386 : decode cX15_read 386 = .ok (.iastore, 1) := by decide +kernel
theorem dX15_read_387 : decode cX15_read 387 = .ok (.aload_n 0, 1) := by decide +kernel
theorem dX15_read_388 : decode cX15_read 388 = .ok (.dup, 1) := by decide +kernel
theorem dX15_read_389 : decode cX15_read 389 = .ok (.getfield 128, 3) := by decide +kernel
theorem dX15_read_392 : decode cX15_read 392 = .ok (.iconst 1, 1) := by decide +kernel
theorem dX15_read_393 : decode cX15_read 393 = .ok (.iadd, 1) := by decide +kernel
theorem dX15_read_394 : decode cX15_read 394 = .ok (.putfield 128, 3) := by decide +kernel
theorem dX15_read_397 : decode cX15_read 397 = .ok (.aload_n 0, 1) := by decide +kernel
theorem dX15_read_398 : decode cX15_read 398 = .ok (.invokevirtual 134, 3) := by decide +kernel
theorem dX15_read_401 : decode cX15_read 401 = .ok (.aload_n 0, 1) := by decide +kernel
theorem dX15_read_402 : decode cX15_read 402 = .ok (.getfield 92, 3) := by decide +kernel
theorem dX15_read_405 : decode cX15_read 405 = .ok (.bipush 6, 2) := by decide +kernel
theorem dX15_read_407 : decode cX15_read 407 = .ok (.if_icmp .eq 12, 3) := by decide +kernel
theorem dX15_read_410 : decode cX15_read 410 = .ok (.aload_n 0, 1) := by decide +kernel
theorem dX15_read_411 : decode cX15_read 411 = .ok (.getfield 92, 3) := by decide +kernel
theorem dX15_read_414 : decode cX15_read 414 = .ok (.bipush 7, 2) := by decide +kernel
theorem dX15_read_416 : decode cX15_read 416 = .ok (.if_icmp .ne 7, 3) := by decide +kernel
theorem dX15_read_419 : decode cX15_read 419 = .ok (.iconst 2, 1) := by decide +kernel
theorem dX15_read_420 : decode cX15_read 420 = .ok (.goto 39, 3) := by decide +kernel
theorem dX15_read_423 : decode cX15_read 423 = .ok (.aload_n 0, 1) := by decide +kernel
theorem dX15_read_424 : decode cX15_read 424 = .ok (.getfield 92, 3) := by decide +kernel
theorem dX15_read_427 : decode cX15_read 427 = .ok (.bipush 8, 2) := by decide +kernel
theorem dX15_read_429 : decode cX15_read 429 = .ok (.if_icmp .eq 12, 3) := by decide +kernel
theorem dX15_read_432 : decode cX15_read 432 = .ok (.aload_n 0, 1) := by decide +kernel
theorem dX15_read_433 : decode cX15_read 433 = .ok (.getfield 92, 3) := by decide +kernel
theorem dX15_read_436 : decode cX15_read 436 = .ok (.bipush 9, 2) := by decide +kernel
theorem dX15_read_438 : decode cX15_read 438 = .ok (.if_icmp .ne 7, 3) := by decide +kernel
theorem dX15_read_441 : decode cX15_read 441 = .ok (.iconst 3, 1) := by decide +kernel
theorem dX15_read_442 : decode cX15_read 442 = .ok (.goto 17, 3) := by decide +kernel
theorem dX15_read_445 : decode cX15_read 445 = .ok (.aload_n 0, 1) := by decide +kernel
theorem dX15_read_446 : decode cX15_read 446 = .ok (.getfield 92, 3) := by decide +kernel
theorem dX15_read_449 : decode cX15_read 449 = .ok (.bipush 6, 2) := by decide +kernel
theorem dX15_read_451 : decode cX15_read 451 = .ok (.if_icmp .ge 7, 3) := by decide +kernel
theorem dX15_read_454 : decode cX15_read 454 = .ok (.iconst 1, 1) := by decide +kernel
theorem dX15_read_455 : decode cX15_read 455 = .ok (.goto 4, 3) := by decide +kernel
theorem dX15_read_458 : decode cX15_read 458 = .ok (.iconst 0, 1) := by decide +kernel
theorem dX15_read_459 : decode cX15_read 459 = .ok (.istore_n 2, 1) := by decide +kernel
theorem dX15_read_460 : decode cX15_read 460 = .ok (.goto (-436), 3) := by decide +kernel
theorem dX15_read_463 : decode cX15_read 463 = .ok (.iload_n 2, 1) := by decide +kernel
theorem dX15_read_464 : decode cX15_read 464 = .ok (.iconst 1, 1) := by decide +kernel
theorem dX15_read_465 : decode cX15_read 465 = .ok (.if_icmp .ne 10, 3) := by decide +kernel
theorem dX15_read_468 : decode cX15_read 468 = .ok (.aload_n 0, 1) := by decide +kernel
theorem dX15_read_469 : decode cX15_read 469 = .ok (.getfield 128, 3) := by decide +kernel
theorem dX15_read_472 : decode cX15_read 472 = .ok (.ifCond .le 12, 3) := by decide +kernel
theorem dX15_read_475 : decode cX15_read 475 = .ok (.aload_n 0, 1) := by decide +kernel
theorem dX15_read_476 : decode cX15_read 476 = .ok (.iconst 1, 1) := by decide +kernel
theorem dX15_read_477 : decode cX15_read 477 = .ok (.aload_n 0, 1) := by decide +kernel
theorem dX15_read_478 : decode cX15_read 478 = .ok (.getfield 65, 3) := by decide +kernel
theorem dX15_read_481 : decode cX15_read 481 = .ok (.invokevirtual 150, 3) := by decide +kernel
theorem dX15_read_484 : decode cX15_read 484 = .ok (.iload_n 1, 1) := by decide +kernel
theorem dX15_read_485 : decode cX15_read 485 = .ok (.ireturn, 1) := by decide +kernel
theorem dX15_drop_0 : decode cX15_drop 0 = .ok (.aload_n 0, 1) := by decide +kernel
theorem dX15_drop_1 : decode cX15_drop 1 = .ok (.getfield 13, 3) := by decide +kernel
theorem dX15_drop_4 : decode cX15_drop 4 = .ok (.iload_n 1, 1) := by decide +kernel
theorem dX15_drop_5 : decode cX15_drop 5 = .ok (.baload, 1) := by decide +kernel
theorem dX15_drop_6 : decode cX15_drop 6 = .ok (.istore_n 2, 1) := by decide +kernel
theorem dX15_drop_7 : decode cX15_drop 7 = .ok (.aload_n 0, 1) := by decide +kernel
theorem dX15_drop_8 : decode cX15_drop 8 = .ok (.getfield 13, 3) := by decide +kernel
theorem dX15_drop_11 : decode cX15_drop 11 = .ok (.iload_n 1, 1) := by decide +kernel
theorem dX15_drop_12 : decode cX15_drop 12 = .ok (.iconst 0, 1) := by decide +kernel
theorem dX15_drop_13 : decode cX15_drop 13 = .ok (.bastore, 1) := by decide +kernel
theorem dX15_drop_14 : decode cX15_drop 14 = .ok (.iload_n 2, 1) := by decide +kernel
theorem dX15_drop_15 : decode cX15_drop 15 = .ok (.ireturn, 1) := by decide +kernel
theorem dX15_rank_0 : decode cX15_rank 0 = .ok (.iload_n 0, 1) := by decide +kernel
theorem dX15_rank_1 : decode cX15_rank 1 = .ok (.bipush 10, 2) := by decide +kernel
theorem dX15_rank_3 : decode cX15_rank 3 = .ok (.if_icmp .ne 7, 3) := by decide +kernel
theorem dX15_rank_6 : decode cX15_rank 6 = .ok (.iconst 0, 1) := by decide +kernel
theorem dX15_rank_7 : decode cX15_rank 7 = .ok (.goto 77, 3) := by decide +kernel
theorem dX15_rank_10 : decode cX15_rank 10 = .ok (.iload_n 0, 1) := by decide +kernel
theorem dX15_rank_11 : decode cX15_rank 11 = .ok (.bipush 11, 2) := by decide +kernel
theorem dX15_rank_13 : decode cX15_rank 13 = .ok (.if_icmp .ne 7, 3) := by decide +kernel
theorem dX15_rank_16 : decode cX15_rank 16 = .ok (.iconst 1, 1) := by decide +kernel
theorem dX15_rank_17 : decode cX15_rank 17 = .ok (.goto 67, 3) := by decide +kernel
theorem dX15_rank_20 : decode cX15_rank 20 = .ok (.iload_n 0, 1) := by decide +kernel
theorem dX15_rank_21 : decode cX15_rank 21 = .ok (.bipush 18, 2) := by decide +kernel
theorem dX15_rank_23 : decode cX15_rank 23 = .ok (.if_icmp .ge 7, 3) := by decide +kernel
theorem dX15_rank_26 : decode cX15_rank 26 = .ok (.iconst 2, 1) := by decide +kernel
theorem dX15_rank_27 : decode cX15_rank 27 = .ok (.goto 57, 3) := by decide +kernel
theorem dX15_rank_30 : decode cX15_rank 30 = .ok (.iload_n 0, 1) := by decide +kernel
theorem dX15_rank_31 : decode cX15_rank 31 = .ok (.bipush 18, 2) := by decide +kernel
theorem dX15_rank_33 : decode cX15_rank 33 = .ok (.if_icmp .ne 7, 3) := by decide +kernel
theorem dX15_rank_36 : decode cX15_rank 36 = .ok (.iconst 3, 1) := by decide +kernel
theorem dX15_rank_37 : decode cX15_rank 37 = .ok (.goto 47, 3) := by decide +kernel
theorem dX15_rank_40 : decode cX15_rank 40 = .ok (.iload_n 0, 1) := by decide +kernel
theorem dX15_rank_41 : decode cX15_rank 41 = .ok (.bipush 19, 2) := by decide +kernel
theorem dX15_rank_43 : decode cX15_rank 43 = .ok (.if_icmp .ne 7, 3) := by decide +kernel
theorem dX15_rank_46 : decode cX15_rank 46 = .ok (.iconst 4, 1) := by decide +kernel
theorem dX15_rank_47 : decode cX15_rank 47 = .ok (.goto 37, 3) := by decide +kernel
theorem dX15_rank_50 : decode cX15_rank 50 = .ok (.iload_n 0, 1) := by decide +kernel
theorem dX15_rank_51 : decode cX15_rank 51 = .ok (.bipush 20, 2) := by decide +kernel
theorem dX15_rank_53 : decode cX15_rank 53 = .ok (.if_icmp .ne 7, 3) := by decide +kernel
theorem dX15_rank_56 : decode cX15_rank 56 = .ok (.iconst 5, 1) := by decide +kernel
theorem dX15_rank_57 : decode cX15_rank 57 = .ok (.goto 27, 3) := by decide +kernel
theorem dX15_rank_60 : decode cX15_rank 60 = .ok (.iload_n 0, 1) := by decide +kernel
theorem dX15_rank_61 : decode cX15_rank 61 = .ok (.bipush 23, 2) := by decide +kernel
theorem dX15_rank_63 : decode cX15_rank 63 = .ok (.if_icmp .ge 8, 3) := by decide +kernel
theorem dX15_rank_66 : decode cX15_rank 66 = .ok (.bipush 6, 2) := by decide +kernel
theorem dX15_rank_68 : decode cX15_rank 68 = .ok (.goto 16, 3) := by decide +kernel
theorem dX15_rank_71 : decode cX15_rank 71 = .ok (.iload_n 0, 1) := by decide +kernel
theorem dX15_rank_72 : decode cX15_rank 72 = .ok (.bipush 25, 2) := by decide +kernel
theorem dX15_rank_74 : decode cX15_rank 74 = .ok (.if_icmp .ge 8, 3) := by decide +kernel
theorem dX15_rank_77 : decode cX15_rank 77 = .ok (.bipush 7, 2) := by decide +kernel
theorem dX15_rank_79 : decode cX15_rank 79 = .ok (.goto 5, 3) := by decide +kernel
theorem dX15_rank_82 : decode cX15_rank 82 = .ok (.bipush 8, 2) := by decide +kernel
theorem dX15_rank_84 : decode cX15_rank 84 = .ok (.ireturn, 1) := by decide +kernel
theorem dX15_least_0 : decode cX15_least 0 = .ok (.iconst (-1), 1) := by decide +kernel
theorem dX15_least_1 : decode cX15_least 1 = .ok (.istore_n 3, 1) := by decide +kernel
theorem dX15_least_2 : decode cX15_least 2 = .ok (.iconst 0, 1) := by decide +kernel
theorem dX15_least_3 : decode cX15_least 3 = .ok (.istore 4, 2) := by decide +kernel
theorem dX15_least_5 : decode cX15_least 5 = .ok (.iload_n 1, 1) := by decide +kernel
theorem dX15_least_6 : decode cX15_least 6 = .ok (.istore 5, 2) := by decide +kernel
theorem dX15_least_8 : decode cX15_least 8 = .ok (.iload 5, 2) := by decide +kernel
theorem dX15_least_10 : decode cX15_least 10 = .ok (.iload_n 2, 1) := by decide +kernel
theorem dX15_least_11 : decode cX15_least 11 = .ok (.if_icmp .ge 98, 3) := by decide +kernel
theorem dX15_least_14 : decode cX15_least 14 = .ok (.aload_n 0, 1) := by decide +kernel
theorem dX15_least_15 : decode cX15_least 15 = .ok (.getfield 21, 3) := by decide +kernel
theorem dX15_least_18 : decode cX15_least 18 = .ok (.iload 5, 2) := by decide +kernel
theorem dX15_least_20 : decode cX15_least 20 = .ok (.iaload, 1) := by decide +kernel
theorem dX15_least_21 : decode cX15_least 21 = .ok (.istore 6, 2) := by decide +kernel
theorem dX15_least_23 : decode cX15_least 23 = .ok (.iload 6, 2) := by decide +kernel
theorem dX15_least_25 : decode cX15_least 25 = .ok (.bipush 30, 2) := by decide +kernel
theorem dX15_least_27 : decode cX15_least 27 = .ok (.if_icmp .eq 10, 3) := by decide +kernel
theorem dX15_least_30 : decode cX15_least 30 = .ok (.iload 6, 2) := by decide +kernel
theorem dX15_least_32 : decode cX15_least 32 = .ok (.bipush 32, 2) := by decide +kernel
theorem dX15_least_34 : decode cX15_least 34 = .ok (.if_icmp .ne 18, 3) := by decide +kernel
theorem dX15_least_37 : decode cX15_least 37 = .ok (.aload_n 0, 1) := by decide +kernel
theorem dX15_least_38 : decode cX15_least 38 = .ok (.getfield 24, 3) := by decide +kernel
theorem dX15_least_41 : decode cX15_least 41 = .ok (.iload 5, 2) := by decide +kernel
theorem dX15_least_43 : decode cX15_least 43 = .ok (.iaload, 1) := by decide +kernel
theorem dX15_least_44 : decode cX15_least 44 = .ok (.istore 5, 2) := by decide +kernel
theorem dX15_least_46 : decode cX15_least 46 = .ok (.iconst 1, 1) := by decide +kernel
theorem dX15_least_47 : decode cX15_least 47 = .ok (.istore 4, 2) := by decide +kernel
theorem dX15_least_49 : decode cX15_least 49 = .ok (.goto 54, 3) := by decide +kernel
theorem dX15_least_52 : decode cX15_least 52 = .ok (.iload 4, 2) := by decide +kernel
theorem dX15_least_54 : decode cX15_least 54 = .ok (.ifCond .eq 35, 3) := by decide +kernel
theorem dX15_least_57 : decode cX15_least 57 = .ok (.iload 6, 2) := by decide +kernel
theorem dX15_least_59 : decode cX15_least 59 = .ok (.invokestatic 143, 3) := by decide +kernel
theorem dX15_least_62 : decode cX15_least 62 = .ok (.ifCond .eq 27, 3) := by decide +kernel
theorem dX15_least_65 : decode cX15_least 65 = .ok (.iload_n 3, 1) := by decide +kernel
theorem dX15_least_66 : decode cX15_least 66 = .ok (.ifCond .lt 20, 3) := by decide +kernel
theorem dX15_least_69 : decode cX15_least 69 = .ok (.iload 6, 2) := by decide +kernel
theorem dX15_least_71 : decode cX15_least 71 = .ok (.invokestatic 161, 3) := by decide +kernel
theorem dX15_least_74 : decode cX15_least 74 = .ok (.aload_n 0, 1) := by decide +kernel
theorem dX15_least_75 : decode cX15_least 75 = .ok (.getfield 21, 3) := by decide +kernel
theorem dX15_least_78 : decode cX15_least 78 = .ok (.iload_n 3, 1) := by decide +kernel
theorem dX15_least_79 : decode cX15_least 79 = .ok (.iaload, 1) := by decide +kernel
theorem dX15_least_80 : decode cX15_least 80 = .ok (.invokestatic 161, 3) := by decide +kernel
theorem dX15_least_83 : decode cX15_least 83 = .ok (.if_icmp .gt 6, 3) := by decide +kernel
theorem dX15_least_86 : decode cX15_least 86 = .ok (.iload 5, 2) := by decide +kernel
theorem dX15_least_88 : decode cX15_least 88 = .ok (.istore_n 3, 1) := by decide +kernel
theorem dX15_least_89 : decode cX15_least 89 = .ok (.iload 6, 2) := by decide +kernel
theorem dX15_least_91 : decode cX15_least 91 = .ok (.bipush 10, 2) := by decide +kernel
theorem dX15_least_93 : decode cX15_least 93 = .ok (.if_icmp .ge 7, 3) := by decide +kernel
theorem dX15_least_96 : decode cX15_least 96 = .ok (.iconst 1, 1) := by decide +kernel
theorem dX15_least_97 : decode cX15_least 97 = .ok (.goto 4, 3) := by decide +kernel
theorem dX15_least_100 : decode cX15_least 100 = .ok (.iconst 0, 1) := by decide +kernel
theorem dX15_least_101 : decode cX15_least 101 = .ok (.istore 4, 2) := by decide +kernel
theorem dX15_least_103 : decode cX15_least 103 = .ok (.iinc 5 1, 3) := by decide +kernel
theorem dX15_least_106 : decode cX15_least 106 = .ok (.goto (-98), 3) := by decide +kernel
theorem dX15_least_109 : decode cX15_least 109 = .ok (.iload_n 3, 1) := by decide +kernel
theorem dX15_least_110 : decode cX15_least 110 = .ok (.ireturn, 1) := by decide +kernel
theorem dX15_begin_0 : decode cX15_begin 0 = .ok (.aload_n 0, 1) := by decide +kernel
theorem dX15_begin_1 : decode cX15_begin 1 = .ok (.getfield 46, 3) := by decide +kernel
theorem dX15_begin_4 : decode cX15_begin 4 = .ok (.aload_n 0, 1) := by decide +kernel
theorem dX15_begin_5 : decode cX15_begin 5 = .ok (.getfield 164, 3) := by decide +kernel
theorem dX15_begin_8 : decode cX15_begin 8 = .ok (.iload_n 1, 1) := by decide +kernel
theorem dX15_begin_9 : decode cX15_begin 9 = .ok (.iastore, 1) := by decide +kernel
theorem dX15_begin_10 : decode cX15_begin 10 = .ok (.aload_n 0, 1) := by decide +kernel
theorem dX15_begin_11 : decode cX15_begin 11 = .ok (.getfield 49, 3) := by decide +kernel
theorem dX15_begin_14 : decode cX15_begin 14 = .ok (.aload_n 0, 1) := by decide +kernel
theorem dX15_begin_15 : decode cX15_begin 15 = .ok (.getfield 164, 3) := by decide +kernel
theorem dX15_begin_18 : decode cX15_begin 18 = .ok (.iload_n 2, 1) := by decide +kernel
theorem dX15_begin_19 : decode cX15_begin 19 = .ok (.iastore, 1) := by decide +kernel
theorem dX15_begin_20 : decode cX15_begin 20 = .ok (.aload_n 0, 1) := by decide +kernel
theorem dX15_begin_21 : decode cX15_begin 21 = .ok (.getfield 55, 3) := by decide +kernel
theorem dX15_begin_24 : decode cX15_begin 24 = .ok (.aload_n 0, 1) := by decide +kernel
theorem dX15_begin_25 : decode cX15_begin 25 = .ok (.getfield 164, 3) := by decide +kernel
theorem dX15_begin_28 : decode cX15_begin 28 = .ok (.iconst 0, 1) := by decide +kernel
theorem dX15_begin_29 : decode cX15_begin 29 = .ok (.iastore, 1) := by decide +kernel
theorem dX15_begin_30 : decode cX15_begin 30 = .ok (.aload_n 0, 1) := by decide +kernel
theorem dX15_begin_31 : decode cX15_begin 31 = .ok (.dup, 1) := by decide +kernel
theorem dX15_begin_32 : decode cX15_begin 32 = .ok (.getfield 164, 3) := by decide +kernel
theorem dX15_begin_35 : decode cX15_begin 35 = .ok (.iconst 1, 1) := by decide +kernel
theorem dX15_begin_36 : decode cX15_begin 36 = .ok (.iadd, 1) := by decide +kernel
theorem dX15_begin_37 : decode cX15_begin 37 = .ok (.putfield 164, 3) := by decide +kernel
theorem dX15_begin_40 : decode cX15_begin 40 = .ok (.return_, 1) := by decide +kernel
theorem dX15_give_0 : decode cX15_give 0 = .ok (.aload_n 0, 1) := by decide +kernel
theorem dX15_give_1 : decode cX15_give 1 = .ok (.dup, 1) := by decide +kernel
theorem dX15_give_2 : decode cX15_give 2 = .ok (.getfield 164, 3) := by decide +kernel
theorem dX15_give_5 : decode cX15_give 5 = .ok (.iconst 1, 1) := by decide +kernel
theorem dX15_give_6 : decode cX15_give 6 = .ok (.isub, 1) := by decide +kernel
theorem dX15_give_7 : decode cX15_give 7 = .ok (.putfield 164, 3) := by decide +kernel
theorem dX15_give_10 : decode cX15_give 10 = .ok (.aload_n 0, 1) := by decide +kernel
theorem dX15_give_11 : decode cX15_give 11 = .ok (.lload_n 1, 1) := by decide +kernel
theorem dX15_give_12 : decode cX15_give 12 = .ok (.putfield 167, 3) := by decide +kernel
theorem dX15_give_15 : decode cX15_give 15 = .ok (.return_, 1) := by decide +kernel
theorem dX15_fail_0 : decode cX15_fail 0 = .ok (.aload_n 0, 1) := by decide +kernel
theorem dX15_fail_1 : decode cX15_fail 1 = .ok (.iconst 1, 1) := by decide +kernel
theorem dX15_fail_2 : decode cX15_fail 2 = .ok (.putfield 170, 3) := by decide +kernel
theorem dX15_fail_5 : decode cX15_fail 5 = .ok (.aload_n 0, 1) := by decide +kernel
theorem dX15_fail_6 : decode cX15_fail 6 = .ok (.iconst 0, 1) := by decide +kernel
theorem dX15_fail_7 : decode cX15_fail 7 = .ok (.putfield 164, 3) := by decide +kernel
theorem dX15_fail_10 : decode cX15_fail 10 = .ok (.aload_n 0, 1) := by decide +kernel
theorem dX15_fail_11 : decode cX15_fail 11 = .ok (.lconst 0, 1) := by decide +kernel
theorem dX15_fail_12 : decode cX15_fail 12 = .ok (.putfield 167, 3) := by decide +kernel
theorem dX15_fail_15 : decode cX15_fail 15 = .ok (.return_, 1) := by decide +kernel
theorem dX15_work_0 : decode cX15_work 0 = .ok (.aload_n 0, 1) := by decide +kernel
theorem dX15_work_1 : decode cX15_work 1 = .ok (.iconst 0, 1) := by decide +kernel
theorem dX15_work_2 : decode cX15_work 2 = .ok (.putfield 164, 3) := by decide +kernel
theorem dX15_work_5 : decode cX15_work 5 = .ok (.aload_n 0, 1) := by decide +kernel
theorem dX15_work_6 : decode cX15_work 6 = .ok (.iconst 0, 1) := by decide +kernel
theorem dX15_work_7 : decode cX15_work 7 = .ok (.putfield 170, 3) := by decide +kernel
theorem dX15_work_10 : decode cX15_work 10 = .ok (.aload_n 0, 1) := by decide +kernel
theorem dX15_work_11 : decode cX15_work 11 = .ok (.iload_n 1, 1) := by decide +kernel
theorem dX15_work_12 : decode cX15_work 12 = .ok (.iload_n 2, 1) := by decide +kernel
theorem dX15_work_13 : decode cX15_work 13 = .ok (.invokevirtual 174, 3) := by decide +kernel
theorem dX15_work_16 : decode cX15_work 16 = .ok (.iconst 0, 1) := by decide +kernel
theorem dX15_work_17 : decode cX15_work 17 = .ok (.istore_n 3, 1) := by decide +kernel
theorem dX15_work_18 : decode cX15_work 18 = .ok (.iload_n 3, 1) := by decide +kernel
theorem dX15_work_19 : decode cX15_work 19 = .ok (.sipush 2000, 3) := by decide +kernel
theorem dX15_work_22 : decode cX15_work 22 = .ok (.if_icmp .ge 69, 3) := by decide +kernel
theorem dX15_work_25 : decode cX15_work 25 = .ok (.aload_n 0, 1) := by decide +kernel
theorem dX15_work_26 : decode cX15_work 26 = .ok (.getfield 164, 3) := by decide +kernel
theorem dX15_work_29 : decode cX15_work 29 = .ok (.ifCond .le 62, 3) := by decide +kernel
theorem dX15_work_32 : decode cX15_work 32 = .ok (.aload_n 0, 1) := by decide +kernel
theorem dX15_work_33 : decode cX15_work 33 = .ok (.getfield 164, 3) := by decide +kernel
theorem dX15_work_36 : decode cX15_work 36 = .ok (.iconst 1, 1) := by decide +kernel
theorem dX15_work_37 : decode cX15_work 37 = .ok (.isub, 1) := by decide +kernel
theorem dX15_work_38 : decode cX15_work 38 = .ok (.istore 4, 2) := by decide +kernel
theorem dX15_work_40 : decode cX15_work 40 = .ok (.aload_n 0, 1) := by decide +kernel
theorem dX15_work_41 : decode cX15_work 41 = .ok (.getfield 55, 3) := by decide +kernel
theorem dX15_work_44 : decode cX15_work 44 = .ok (.iload 4, 2) := by decide +kernel
theorem dX15_work_46 : decode cX15_work 46 = .ok (.iaload, 1) := by decide +kernel
theorem dX15_work_47 : decode cX15_work 47 = .ok (.ifCond .ne 12, 3) := by decide +kernel
theorem dX15_work_50 : decode cX15_work 50 = .ok (.aload_n 0, 1) := by decide +kernel
theorem dX15_work_51 : decode cX15_work 51 = .ok (.iload 4, 2) := by decide +kernel
theorem dX15_work_53 : decode cX15_work 53 = .ok (.invokevirtual 177, 3) := by decide +kernel
theorem dX15_work_56 : decode cX15_work 56 = .ok (.goto 29, 3) := by decide +kernel
theorem dX15_work_59 : decode cX15_work 59 = .ok (.aload_n 0, 1) := by decide +kernel
theorem dX15_work_60 : decode cX15_work 60 = .ok (.getfield 55, 3) := by decide +kernel
theorem dX15_work_63 : decode cX15_work 63 = .ok (.iload 4, 2) := by decide +kernel
theorem dX15_work_65 : decode cX15_work 65 = .ok (.iaload, 1) := by decide +kernel
theorem dX15_work_66 : decode cX15_work 66 = .ok (.iconst 1, 1) := by decide +kernel
theorem dX15_work_67 : decode cX15_work 67 = .ok (.if_icmp .ne 12, 3) := by decide +kernel
theorem dX15_work_70 : decode cX15_work 70 = .ok (.aload_n 0, 1) := by decide +kernel
theorem dX15_work_71 : decode cX15_work 71 = .ok (.iload 4, 2) := by decide +kernel
theorem dX15_work_73 : decode cX15_work 73 = .ok (.invokevirtual 181, 3) := by decide +kernel
theorem dX15_work_76 : decode cX15_work 76 = .ok (.goto 9, 3) := by decide +kernel
theorem dX15_work_79 : decode cX15_work 79 = .ok (.aload_n 0, 1) := by decide +kernel
theorem dX15_work_80 : decode cX15_work 80 = .ok (.iload 4, 2) := by decide +kernel
theorem dX15_work_82 : decode cX15_work 82 = .ok (.invokevirtual 184, 3) := by decide +kernel
theorem dX15_work_85 : decode cX15_work 85 = .ok (.iinc 3 1, 3) := by decide +kernel
theorem dX15_work_88 : decode cX15_work 88 = .ok (.goto (-70), 3) := by decide +kernel
theorem dX15_work_91 : decode cX15_work 91 = .ok (.aload_n 0, 1) := by decide +kernel
theorem dX15_work_92 : decode cX15_work 92 = .ok (.getfield 167, 3) := by decide +kernel
theorem dX15_work_95 : decode cX15_work 95 = .ok (.lreturn, 1) := by decide +kernel
theorem dX15_enter_0 : decode cX15_enter 0 = .ok (.aload_n 0, 1) := by decide +kernel
theorem dX15_enter_1 : decode cX15_enter 1 = .ok (.getfield 46, 3) := by decide +kernel
theorem dX15_enter_4 : decode cX15_enter 4 = .ok (.iload_n 1, 1) := by decide +kernel
theorem dX15_enter_5 : decode cX15_enter 5 = .ok (.iaload, 1) := by decide +kernel
theorem dX15_enter_6 : decode cX15_enter 6 = .ok (.istore_n 2, 1) := by decide +kernel
theorem dX15_enter_7 : decode cX15_enter 7 = .ok (.aload_n 0, 1) := by decide +kernel
theorem dX15_enter_8 : decode cX15_enter 8 = .ok (.getfield 21, 3) := by decide +kernel
theorem dX15_enter_11 : decode cX15_enter 11 = .ok (.iload_n 2, 1) := by decide +kernel
theorem dX15_enter_12 : decode cX15_enter 12 = .ok (.iaload, 1) := by decide +kernel
theorem dX15_enter_13 : decode cX15_enter 13 = .ok (.istore_n 3, 1) := by decide +kernel
theorem dX15_enter_14 : decode cX15_enter 14 = .ok (.iload_n 3, 1) := by decide +kernel
theorem dX15_enter_15 : decode cX15_enter 15 = .ok (.bipush 30, 2) := by decide +kernel
theorem dX15_enter_17 : decode cX15_enter 17 = .ok (.if_icmp .ne 44, 3) := by decide +kernel
theorem dX15_enter_20 : decode cX15_enter 20 = .ok (.aload_n 0, 1) := by decide +kernel
theorem dX15_enter_21 : decode cX15_enter 21 = .ok (.getfield 24, 3) := by decide +kernel
theorem dX15_enter_24 : decode cX15_enter 24 = .ok (.iload_n 2, 1) := by decide +kernel
theorem dX15_enter_25 : decode cX15_enter 25 = .ok (.iaload, 1) := by decide +kernel
theorem dX15_enter_26 : decode cX15_enter 26 = .ok (.aload_n 0, 1) := by decide +kernel
theorem dX15_enter_27 : decode cX15_enter 27 = .ok (.getfield 49, 3) := by decide +kernel
theorem dX15_enter_30 : decode cX15_enter 30 = .ok (.iload_n 1, 1) := by decide +kernel
theorem dX15_enter_31 : decode cX15_enter 31 = .ok (.iaload, 1) := by decide +kernel
theorem dX15_enter_32 : decode cX15_enter 32 = .ok (.iconst 1, 1) := by decide +kernel
theorem dX15_enter_33 : decode cX15_enter 33 = .ok (.isub, 1) := by decide +kernel
theorem dX15_enter_34 : decode cX15_enter 34 = .ok (.if_icmp .ne 27, 3) := by decide +kernel
theorem dX15_enter_37 : decode cX15_enter 37 = .ok (.aload_n 0, 1) := by decide +kernel
theorem dX15_enter_38 : decode cX15_enter 38 = .ok (.getfield 46, 3) := by decide +kernel
theorem dX15_enter_41 : decode cX15_enter 41 = .ok (.iload_n 1, 1) := by decide +kernel
theorem dX15_enter_42 : decode cX15_enter 42 = .ok (.iload_n 2, 1) := by decide +kernel
theorem dX15_enter_43 : decode cX15_enter 43 = .ok (.iconst 1, 1) := by decide +kernel
theorem dX15_enter_44 : decode cX15_enter 44 = .ok (.iadd, 1) := by decide +kernel
theorem dX15_enter_45 : decode cX15_enter 45 = .ok (.iastore, 1) := by decide +kernel
theorem dX15_enter_46 : decode cX15_enter 46 = .ok (.aload_n 0, 1) := by decide +kernel
theorem dX15_enter_47 : decode cX15_enter 47 = .ok (.getfield 49, 3) := by decide +kernel
theorem dX15_enter_50 : decode cX15_enter 50 = .ok (.iload_n 1, 1) := by decide +kernel
theorem dX15_enter_51 : decode cX15_enter 51 = .ok (.aload_n 0, 1) := by decide +kernel
theorem dX15_enter_52 : decode cX15_enter 52 = .ok (.getfield 49, 3) := by decide +kernel
theorem dX15_enter_55 : decode cX15_enter 55 = .ok (.iload_n 1, 1) := by decide +kernel
theorem dX15_enter_56 : decode cX15_enter 56 = .ok (.iaload, 1) := by decide +kernel
theorem dX15_enter_57 : decode cX15_enter 57 = .ok (.iconst 1, 1) := by decide +kernel
theorem dX15_enter_58 : decode cX15_enter 58 = .ok (.isub, 1) := by decide +kernel
theorem dX15_enter_59 : decode cX15_enter 59 = .ok (.iastore, 1) := by decide +kernel
theorem dX15_enter_60 : decode cX15_enter 60 = .ok (.return_, 1) := by decide +kernel
theorem dX15_enter_61 : decode cX15_enter 61 = .ok (.aload_n 0, 1) := by decide +kernel
theorem dX15_enter_62 : decode cX15_enter 62 = .ok (.getfield 52, 3) := by decide +kernel
theorem dX15_enter_65 : decode cX15_enter 65 = .ok (.iload_n 1, 1) := by decide +kernel
theorem dX15_enter_66 : decode cX15_enter 66 = .ok (.aload_n 0, 1) := by decide +kernel
theorem dX15_enter_67 : decode cX15_enter 67 = .ok (.iload_n 2, 1) := by decide +kernel
theorem dX15_enter_68 : decode cX15_enter 68 = .ok (.aload_n 0, 1) := by decide +kernel
theorem dX15_enter_69 : decode cX15_enter 69 = .ok (.getfield 49, 3) := by decide +kernel
theorem dX15_enter_72 : decode cX15_enter 72 = .ok (.iload_n 1, 1) := by decide +kernel
theorem dX15_enter_73 : decode cX15_enter 73 = .ok (.iaload, 1) := by decide +kernel
theorem dX15_enter_74 : decode cX15_enter 74 = .ok (.invokevirtual 187, 3) := by decide +kernel
theorem dX15_enter_77 : decode cX15_enter 77 = .ok (.iastore, 1) := by decide +kernel
theorem dX15_enter_78 : decode cX15_enter 78 = .ok (.aload_n 0, 1) := by decide +kernel
theorem dX15_enter_79 : decode cX15_enter 79 = .ok (.getfield 52, 3) := by decide +kernel
theorem dX15_enter_82 : decode cX15_enter 82 = .ok (.iload_n 1, 1) := by decide +kernel
theorem dX15_enter_83 : decode cX15_enter 83 = .ok (.iaload, 1) := by decide +kernel
theorem dX15_enter_84 : decode cX15_enter 84 = .ok (.ifCond .lt 22, 3) := by decide +kernel
theorem dX15_enter_87 : decode cX15_enter 87 = .ok (.aload_n 0, 1) := by decide +kernel
theorem dX15_enter_88 : decode cX15_enter 88 = .ok (.getfield 55, 3) := by decide +kernel
theorem dX15_enter_91 : decode cX15_enter 91 = .ok (.iload_n 1, 1) := by decide +kernel
theorem dX15_enter_92 : decode cX15_enter 92 = .ok (.iconst 1, 1) := by decide +kernel
theorem dX15_enter_93 : decode cX15_enter 93 = .ok (.iastore, 1) := by decide +kernel
theorem dX15_enter_94 : decode cX15_enter 94 = .ok (.aload_n 0, 1) := by decide +kernel
theorem dX15_enter_95 : decode cX15_enter 95 = .ok (.iload_n 2, 1) := by decide +kernel
theorem dX15_enter_96 : decode cX15_enter 96 = .ok (.aload_n 0, 1) := by decide +kernel
theorem dX15_enter_97 : decode cX15_enter 97 = .ok (.getfield 52, 3) := by decide +kernel
theorem dX15_enter_100 : decode cX15_enter 100 = .ok (.iload_n 1, 1) := by decide +kernel
theorem dX15_enter_101 : decode cX15_enter 101 = .ok (.iaload, 1) := by decide +kernel
theorem dX15_enter_102 : decode cX15_enter 102 = .ok (.invokevirtual 174, 3) := by decide +kernel
theorem dX15_enter_105 : decode cX15_enter 105 = .ok (.return_, 1) := by decide +kernel
theorem dX15_enter_106 : decode cX15_enter 106 = .ok (.aload_n 0, 1) := by decide +kernel
theorem dX15_enter_107 : decode cX15_enter 107 = .ok (.getfield 55, 3) := by decide +kernel
theorem dX15_enter_110 : decode cX15_enter 110 = .ok (.iload_n 1, 1) := by decide +kernel
theorem dX15_enter_111 : decode cX15_enter 111 = .ok (.iconst 2, 1) := by decide +kernel
theorem dX15_enter_112 : decode cX15_enter 112 = .ok (.iastore, 1) := by decide +kernel
theorem dX15_enter_113 : decode cX15_enter 113 = .ok (.aload_n 0, 1) := by decide +kernel
theorem dX15_enter_114 : decode cX15_enter 114 = .ok (.getfield 52, 3) := by decide +kernel
theorem dX15_enter_117 : decode cX15_enter 117 = .ok (.iload_n 1, 1) := by decide +kernel
theorem dX15_enter_118 : decode cX15_enter 118 = .ok (.iload_n 2, 1) := by decide +kernel
theorem dX15_enter_119 : decode cX15_enter 119 = .ok (.iastore, 1) := by decide +kernel
theorem dX15_enter_120 : decode cX15_enter 120 = .ok (.iload_n 3, 1) := by decide +kernel
theorem dX15_enter_121 : decode cX15_enter 121 = .ok (.tableswitch 272 1 32 #[143, 156, 178, 195, 210, 272, 272, 259, 272, 272, 272, 272, 272, 272, 272, 272, 272, 272, 272, 272, 272, 272, 272, 225, 272, 272, 272, 225, 225, 272, 272, 241], 143) := by decide +kernel
theorem dX15_enter_264 : decode cX15_enter 264 = .ok (.aload_n 0, 1) := by decide +kernel
theorem dX15_enter_265 : decode cX15_enter 265 = .ok (.aload_n 0, 1) := by decide +kernel
theorem dX15_enter_266 : decode cX15_enter 266 = .ok (.getfield 27, 3) := by decide +kernel
theorem dX15_enter_269 : decode cX15_enter 269 = .ok (.iload_n 2, 1) := by decide +kernel
theorem dX15_enter_270 : decode cX15_enter 270 = .ok (.laload, 1) := by decide +kernel
theorem dX15_enter_271 : decode cX15_enter 271 = .ok (.invokevirtual 191, 3) := by decide +kernel
theorem dX15_enter_274 : decode cX15_enter 274 = .ok (.goto 134, 3) := by decide +kernel
theorem dX15_enter_277 : decode cX15_enter 277 = .ok (.aload_n 0, 1) := by decide +kernel
theorem dX15_enter_278 : decode cX15_enter 278 = .ok (.aload_n 0, 1) := by decide +kernel
theorem dX15_enter_279 : decode cX15_enter 279 = .ok (.getfield 61, 3) := by decide +kernel
theorem dX15_enter_282 : decode cX15_enter 282 = .ok (.aload_n 0, 1) := by decide +kernel
theorem dX15_enter_283 : decode cX15_enter 283 = .ok (.getfield 27, 3) := by decide +kernel
theorem dX15_enter_286 : decode cX15_enter 286 = .ok (.iload_n 2, 1) := by decide +kernel
theorem dX15_enter_287 : decode cX15_enter 287 = .ok (.laload, 1) := by decide +kernel
theorem dX15_enter_288 : decode cX15_enter 288 = .ok (.l2i, 1) := by decide +kernel
theorem dX15_enter_289 : decode cX15_enter 289 = .ok (.invokevirtual 195, 3) := by decide +kernel
theorem dX15_enter_292 : decode cX15_enter 292 = .ok (.i2l, 1) := by decide +kernel
theorem dX15_enter_293 : decode cX15_enter 293 = .ok (.invokevirtual 191, 3) := by decide +kernel
theorem dX15_enter_296 : decode cX15_enter 296 = .ok (.goto 112, 3) := by decide +kernel
theorem dX15_enter_299 : decode cX15_enter 299 = .ok (.aload_n 0, 1) := by decide +kernel
theorem dX15_enter_300 : decode cX15_enter 300 = .ok (.aload_n 0, 1) := by decide +kernel
theorem dX15_enter_301 : decode cX15_enter 301 = .ok (.getfield 61, 3) := by decide +kernel
theorem dX15_enter_304 : decode cX15_enter 304 = .ok (.bipush 32, 2) := by decide +kernel
theorem dX15_enter_306 : decode cX15_enter 306 = .ok (.invokevirtual 195, 3) := by decide +kernel
theorem dX15_enter_309 : decode cX15_enter 309 = .ok (.i2l, 1) := by decide +kernel
theorem dX15_enter_310 : decode cX15_enter 310 = .ok (.invokevirtual 191, 3) := by decide +kernel
theorem dX15_enter_313 : decode cX15_enter 313 = .ok (.goto 95, 3) := by decide +kernel
theorem dX15_enter_316 : decode cX15_enter 316 = .ok (.aload_n 0, 1) := by decide +kernel
theorem dX15_enter_317 : decode cX15_enter 317 = .ok (.aload_n 0, 1) := by decide +kernel
theorem dX15_enter_318 : decode cX15_enter 318 = .ok (.getfield 61, 3) := by decide +kernel
theorem dX15_enter_321 : decode cX15_enter 321 = .ok (.iconst 2, 1) := by decide +kernel
theorem dX15_enter_322 : decode cX15_enter 322 = .ok (.invokevirtual 200, 3) := by decide +kernel
theorem dX15_enter_325 : decode cX15_enter 325 = .ok (.invokevirtual 191, 3) := by decide +kernel
theorem dX15_enter_328 : decode cX15_enter 328 = .ok (.goto 80, 3) := by decide +kernel
theorem dX15_enter_331 : decode cX15_enter 331 = .ok (.aload_n 0, 1) := by decide +kernel
theorem dX15_enter_332 : decode cX15_enter 332 = .ok (.aload_n 0, 1) := by decide +kernel
theorem dX15_enter_333 : decode cX15_enter 333 = .ok (.getfield 61, 3) := by decide +kernel
theorem dX15_enter_336 : decode cX15_enter 336 = .ok (.invokevirtual 204, 3) := by decide +kernel
theorem dX15_enter_339 : decode cX15_enter 339 = .ok (.i2l, 1) := by decide +kernel
theorem dX15_enter_340 : decode cX15_enter 340 = .ok (.invokevirtual 191, 3) := by decide +kernel
theorem dX15_enter_343 : decode cX15_enter 343 = .ok (.goto 65, 3) := by decide +kernel
theorem dX15_enter_346 : decode cX15_enter 346 = .ok (.aload_n 0, 1) := by decide +kernel
theorem dX15_enter_347 : decode cX15_enter 347 = .ok (.iload_n 2, 1) := by decide +kernel
theorem dX15_enter_348 : decode cX15_enter 348 = .ok (.iconst 1, 1) := by decide +kernel
theorem dX15_enter_349 : decode cX15_enter 349 = .ok (.iadd, 1) := by decide +kernel
theorem dX15_enter_350 : decode cX15_enter 350 = .ok (.aload_n 0, 1) := by decide +kernel
theorem dX15_enter_351 : decode cX15_enter 351 = .ok (.getfield 49, 3) := by decide +kernel
theorem dX15_enter_354 : decode cX15_enter 354 = .ok (.iload_n 1, 1) := by decide +kernel
theorem dX15_enter_355 : decode cX15_enter 355 = .ok (.iaload, 1) := by decide +kernel
theorem dX15_enter_356 : decode cX15_enter 356 = .ok (.invokevirtual 174, 3) := by decide +kernel
theorem dX15_enter_359 : decode cX15_enter 359 = .ok (.goto 49, 3) := by decide +kernel
theorem dX15_enter_362 : decode cX15_enter 362 = .ok (.aload_n 0, 1) := by decide +kernel
theorem dX15_enter_363 : decode cX15_enter 363 = .ok (.iload_n 2, 1) := by decide +kernel
theorem dX15_enter_364 : decode cX15_enter 364 = .ok (.iconst 1, 1) := by decide +kernel
theorem dX15_enter_365 : decode cX15_enter 365 = .ok (.iadd, 1) := by decide +kernel
theorem dX15_enter_366 : decode cX15_enter 366 = .ok (.aload_n 0, 1) := by decide +kernel
theorem dX15_enter_367 : decode cX15_enter 367 = .ok (.getfield 49, 3) := by decide +kernel
theorem dX15_enter_370 : decode cX15_enter 370 = .ok (.iload_n 1, 1) := by decide +kernel
theorem dX15_enter_371 : decode cX15_enter 371 = .ok (.iaload, 1) := by decide +kernel
theorem dX15_enter_372 : decode cX15_enter 372 = .ok (.iconst 1, 1) := by decide +kernel
theorem dX15_enter_373 : decode cX15_enter 373 = .ok (.isub, 1) := by decide +kernel
theorem dX15_enter_374 : decode cX15_enter 374 = .ok (.invokevirtual 174, 3) := by decide +kernel
theorem dX15_enter_377 : decode cX15_enter 377 = .ok (.goto 31, 3) := by decide +kernel
theorem dX15_enter_380 : decode cX15_enter 380 = .ok (.aload_n 0, 1) := by decide +kernel
theorem dX15_enter_381 : decode cX15_enter 381 = .ok (.aload_n 0, 1) := by decide +kernel
theorem dX15_enter_382 : decode cX15_enter 382 = .ok (.getfield 31, 3) := by decide +kernel
theorem dX15_enter_385 : decode cX15_enter 385 = .ok (.iload_n 2, 1) := by decide +kernel
theorem dX15_enter_386 : decode cX15_enter 386 = .ok (.laload, 1) := by decide +kernel
theorem dX15_enter_387 : decode cX15_enter 387 = .ok (.invokevirtual 191, 3) := by decide +kernel
theorem dX15_enter_390 : decode cX15_enter 390 = .ok (.goto 18, 3) := by decide +kernel
theorem dX15_enter_393 : decode cX15_enter 393 = .ok (.aload_n 0, 1) := by decide +kernel
theorem dX15_enter_394 : decode cX15_enter 394 = .ok (.iload_n 2, 1) := by decide +kernel
theorem dX15_enter_395 : decode cX15_enter 395 = .ok (.iconst 2, 1) := by decide +kernel
theorem dX15_enter_396 : decode cX15_enter 396 = .ok (.iadd, 1) := by decide +kernel
theorem dX15_enter_397 : decode cX15_enter 397 = .ok (.aload_n 0, 1) := by decide +kernel
theorem dX15_enter_398 : decode cX15_enter 398 = .ok (.getfield 49, 3) := by decide +kernel
theorem dX15_enter_401 : decode cX15_enter 401 = .ok (.iload_n 1, 1) := by decide +kernel
theorem dX15_enter_402 : decode cX15_enter 402 = .ok (.iaload, 1) := by decide +kernel
theorem dX15_enter_403 : decode cX15_enter 403 = .ok (.iconst 1, 1) := by decide +kernel
theorem dX15_enter_404 : decode cX15_enter 404 = .ok (.isub, 1) := by decide +kernel
theorem dX15_enter_405 : decode cX15_enter 405 = .ok (.invokevirtual 174, 3) := by decide +kernel
theorem dX15_enter_408 : decode cX15_enter 408 = .ok (.return_, 1) := by decide +kernel
theorem dX15_half_0 : decode cX15_half 0 = .ok (.aload_n 0, 1) := by decide +kernel
theorem dX15_half_1 : decode cX15_half 1 = .ok (.getfield 21, 3) := by decide +kernel
theorem dX15_half_4 : decode cX15_half 4 = .ok (.aload_n 0, 1) := by decide +kernel
theorem dX15_half_5 : decode cX15_half 5 = .ok (.getfield 52, 3) := by decide +kernel
theorem dX15_half_8 : decode cX15_half 8 = .ok (.iload_n 1, 1) := by decide +kernel
theorem dX15_half_9 : decode cX15_half 9 = .ok (.iaload, 1) := by decide +kernel
theorem dX15_half_10 : decode cX15_half 10 = .ok (.iaload, 1) := by decide +kernel
theorem dX15_half_11 : decode cX15_half 11 = .ok (.istore_n 2, 1) := by decide +kernel
theorem dX15_half_12 : decode cX15_half 12 = .ok (.aload_n 0, 1) := by decide +kernel
theorem dX15_half_13 : decode cX15_half 13 = .ok (.getfield 58, 3) := by decide +kernel
theorem dX15_half_16 : decode cX15_half 16 = .ok (.iload_n 1, 1) := by decide +kernel
theorem dX15_half_17 : decode cX15_half 17 = .ok (.aload_n 0, 1) := by decide +kernel
theorem dX15_half_18 : decode cX15_half 18 = .ok (.getfield 167, 3) := by decide +kernel
theorem dX15_half_21 : decode cX15_half 21 = .ok (.lastore, 1) := by decide +kernel
theorem dX15_half_22 : decode cX15_half 22 = .ok (.iload_n 2, 1) := by decide +kernel
theorem dX15_half_23 : decode cX15_half 23 = .ok (.bipush 10, 2) := by decide +kernel
theorem dX15_half_25 : decode cX15_half 25 = .ok (.if_icmp .ne 12, 3) := by decide +kernel
theorem dX15_half_28 : decode cX15_half 28 = .ok (.aload_n 0, 1) := by decide +kernel
theorem dX15_half_29 : decode cX15_half 29 = .ok (.getfield 167, 3) := by decide +kernel
theorem dX15_half_32 : decode cX15_half 32 = .ok (.lconst 0, 1) := by decide +kernel
theorem dX15_half_33 : decode cX15_half 33 = .ok (.lcmp, 1) := by decide +kernel
theorem dX15_half_34 : decode cX15_half 34 = .ok (.ifCond .ne 18, 3) := by decide +kernel
theorem dX15_half_37 : decode cX15_half 37 = .ok (.iload_n 2, 1) := by decide +kernel
theorem dX15_half_38 : decode cX15_half 38 = .ok (.bipush 11, 2) := by decide +kernel
theorem dX15_half_40 : decode cX15_half 40 = .ok (.if_icmp .ne 28, 3) := by decide +kernel
theorem dX15_half_43 : decode cX15_half 43 = .ok (.aload_n 0, 1) := by decide +kernel
theorem dX15_half_44 : decode cX15_half 44 = .ok (.getfield 167, 3) := by decide +kernel
theorem dX15_half_47 : decode cX15_half 47 = .ok (.lconst 0, 1) := by decide +kernel
theorem dX15_half_48 : decode cX15_half 48 = .ok (.lcmp, 1) := by decide +kernel
theorem dX15_half_49 : decode cX15_half 49 = .ok (.ifCond .ne 19, 3) := by decide +kernel
theorem dX15_half_52 : decode cX15_half 52 = .ok (.aload_n 0, 1) := by decide +kernel
theorem dX15_half_53 : decode cX15_half 53 = .ok (.iload_n 2, 1) := by decide +kernel
theorem dX15_half_54 : decode cX15_half 54 = .ok (.bipush 10, 2) := by decide +kernel
theorem dX15_half_56 : decode cX15_half 56 = .ok (.if_icmp .ne 7, 3) := by decide +kernel
theorem dX15_half_59 : decode cX15_half 59 = .ok (.lconst 1, 1) := by decide +kernel
theorem dX15_half_60 : decode cX15_half 60 = .ok (.goto 4, 3) := by decide +kernel
theorem dX15_half_63 : decode cX15_half 63 = .ok (.lconst 0, 1) := by decide +kernel
theorem dX15_half_64 : decode cX15_half 64 = .ok (.invokevirtual 191, 3) := by decide +kernel
theorem dX15_half_67 : decode cX15_half 67 = .ok (.return_, 1) := by decide +kernel
theorem dX15_half_68 : decode cX15_half 68 = .ok (.aload_n 0, 1) := by decide +kernel
theorem dX15_half_69 : decode cX15_half 69 = .ok (.getfield 55, 3) := by decide +kernel
theorem dX15_half_72 : decode cX15_half 72 = .ok (.iload_n 1, 1) := by decide +kernel
theorem dX15_half_73 : decode cX15_half 73 = .ok (.iconst 2, 1) := by decide +kernel
theorem dX15_half_74 : decode cX15_half 74 = .ok (.iastore, 1) := by decide +kernel
theorem dX15_half_75 : decode cX15_half 75 = .ok (.aload_n 0, 1) := by decide +kernel
theorem dX15_half_76 : decode cX15_half 76 = .ok (.aload_n 0, 1) := by decide +kernel
theorem dX15_half_77 : decode cX15_half 77 = .ok (.getfield 52, 3) := by decide +kernel
theorem dX15_half_80 : decode cX15_half 80 = .ok (.iload_n 1, 1) := by decide +kernel
theorem dX15_half_81 : decode cX15_half 81 = .ok (.iaload, 1) := by decide +kernel
theorem dX15_half_82 : decode cX15_half 82 = .ok (.iconst 1, 1) := by decide +kernel
theorem dX15_half_83 : decode cX15_half 83 = .ok (.iadd, 1) := by decide +kernel
theorem dX15_half_84 : decode cX15_half 84 = .ok (.aload_n 0, 1) := by decide +kernel
theorem dX15_half_85 : decode cX15_half 85 = .ok (.getfield 49, 3) := by decide +kernel
theorem dX15_half_88 : decode cX15_half 88 = .ok (.iload_n 1, 1) := by decide +kernel
theorem dX15_half_89 : decode cX15_half 89 = .ok (.iaload, 1) := by decide +kernel
theorem dX15_half_90 : decode cX15_half 90 = .ok (.invokevirtual 174, 3) := by decide +kernel
theorem dX15_half_93 : decode cX15_half 93 = .ok (.return_, 1) := by decide +kernel
theorem dX15_truth_0 : decode cX15_truth 0 = .ok (.iload_n 0, 1) := by decide +kernel
theorem dX15_truth_1 : decode cX15_truth 1 = .ok (.ifCond .eq 7, 3) := by decide +kernel
theorem dX15_truth_4 : decode cX15_truth 4 = .ok (.lconst 1, 1) := by decide +kernel
theorem dX15_truth_5 : decode cX15_truth 5 = .ok (.goto 4, 3) := by decide +kernel
theorem dX15_truth_8 : decode cX15_truth 8 = .ok (.lconst 0, 1) := by decide +kernel
theorem dX15_truth_9 : decode cX15_truth 9 = .ok (.lreturn, 1) := by decide +kernel
theorem dX15_join_0 : decode cX15_join 0 = .ok (.aload_n 0, 1) := by decide +kernel
theorem dX15_join_1 : decode cX15_join 1 = .ok (.getfield 52, 3) := by decide +kernel
theorem dX15_join_4 : decode cX15_join 4 = .ok (.iload_n 1, 1) := by decide +kernel
theorem dX15_join_5 : decode cX15_join 5 = .ok (.iaload, 1) := by decide +kernel
theorem dX15_join_6 : decode cX15_join 6 = .ok (.istore_n 2, 1) := by decide +kernel
theorem dX15_join_7 : decode cX15_join 7 = .ok (.aload_n 0, 1) := by decide +kernel
theorem dX15_join_8 : decode cX15_join 8 = .ok (.getfield 21, 3) := by decide +kernel
theorem dX15_join_11 : decode cX15_join 11 = .ok (.iload_n 2, 1) := by decide +kernel
theorem dX15_join_12 : decode cX15_join 12 = .ok (.iaload, 1) := by decide +kernel
theorem dX15_join_13 : decode cX15_join 13 = .ok (.istore_n 3, 1) := by decide +kernel
theorem dX15_join_14 : decode cX15_join 14 = .ok (.aload_n 0, 1) := by decide +kernel
theorem dX15_join_15 : decode cX15_join 15 = .ok (.getfield 58, 3) := by decide +kernel
theorem dX15_join_18 : decode cX15_join 18 = .ok (.iload_n 1, 1) := by decide +kernel
theorem dX15_join_19 : decode cX15_join 19 = .ok (.laload, 1) := by decide +kernel
theorem dX15_join_20 : decode cX15_join 20 = .ok (.lstore 4, 2) := by decide +kernel
theorem dX15_join_22 : decode cX15_join 22 = .ok (.aload_n 0, 1) := by decide +kernel
theorem dX15_join_23 : decode cX15_join 23 = .ok (.getfield 167, 3) := by decide +kernel
theorem dX15_join_26 : decode cX15_join 26 = .ok (.lstore 6, 2) := by decide +kernel
theorem dX15_join_28 : decode cX15_join 28 = .ok (.iload_n 2, 1) := by decide +kernel
theorem dX15_join_29 : decode cX15_join 29 = .ok (.aload_n 0, 1) := by decide +kernel
theorem dX15_join_30 : decode cX15_join 30 = .ok (.getfield 46, 3) := by decide +kernel
theorem dX15_join_33 : decode cX15_join 33 = .ok (.iload_n 1, 1) := by decide +kernel
theorem dX15_join_34 : decode cX15_join 34 = .ok (.iaload, 1) := by decide +kernel
theorem dX15_join_35 : decode cX15_join 35 = .ok (.if_icmp .ne 7, 3) := by decide +kernel
theorem dX15_join_38 : decode cX15_join 38 = .ok (.iconst 1, 1) := by decide +kernel
theorem dX15_join_39 : decode cX15_join 39 = .ok (.goto 4, 3) := by decide +kernel
theorem dX15_join_42 : decode cX15_join 42 = .ok (.iconst 0, 1) := by decide +kernel
theorem dX15_join_43 : decode cX15_join 43 = .ok (.istore 8, 2) := by decide +kernel
theorem dX15_join_45 : decode cX15_join 45 = .ok (.iload 8, 2) := by decide +kernel
theorem dX15_join_47 : decode cX15_join 47 = .ok (.ifCond .eq 19, 3) := by decide +kernel
theorem dX15_join_50 : decode cX15_join 50 = .ok (.iload_n 3, 1) := by decide +kernel
theorem dX15_join_51 : decode cX15_join 51 = .ok (.bipush 24, 2) := by decide +kernel
theorem dX15_join_53 : decode cX15_join 53 = .ok (.if_icmp .ne 13, 3) := by decide +kernel
theorem dX15_join_56 : decode cX15_join 56 = .ok (.aload_n 0, 1) := by decide +kernel
theorem dX15_join_57 : decode cX15_join 57 = .ok (.lload 6, 2) := by decide +kernel
theorem dX15_join_59 : decode cX15_join 59 = .ok (.lneg, 1) := by decide +kernel
theorem dX15_join_60 : decode cX15_join 60 = .ok (.invokevirtual 191, 3) := by decide +kernel
theorem dX15_join_63 : decode cX15_join 63 = .ok (.goto 149, 3) := by decide +kernel
theorem dX15_join_66 : decode cX15_join 66 = .ok (.iload_n 3, 1) := by decide +kernel
theorem dX15_join_67 : decode cX15_join 67 = .ok (.bipush 28, 2) := by decide +kernel
theorem dX15_join_69 : decode cX15_join 69 = .ok (.if_icmp .ne 25, 3) := by decide +kernel
theorem dX15_join_72 : decode cX15_join 72 = .ok (.aload_n 0, 1) := by decide +kernel
theorem dX15_join_73 : decode cX15_join 73 = .ok (.lload 6, 2) := by decide +kernel
theorem dX15_join_75 : decode cX15_join 75 = .ok (.lconst 0, 1) := by decide +kernel
theorem dX15_join_76 : decode cX15_join 76 = .ok (.lcmp, 1) := by decide +kernel
theorem dX15_join_77 : decode cX15_join 77 = .ok (.ifCond .ne 7, 3) := by decide +kernel
theorem dX15_join_80 : decode cX15_join 80 = .ok (.iconst 1, 1) := by decide +kernel
theorem dX15_join_81 : decode cX15_join 81 = .ok (.goto 4, 3) := by decide +kernel
theorem dX15_join_84 : decode cX15_join 84 = .ok (.iconst 0, 1) := by decide +kernel
theorem dX15_join_85 : decode cX15_join 85 = .ok (.invokestatic 207, 3) := by decide +kernel
theorem dX15_join_88 : decode cX15_join 88 = .ok (.invokevirtual 191, 3) := by decide +kernel
theorem dX15_join_91 : decode cX15_join 91 = .ok (.goto 121, 3) := by decide +kernel
theorem dX15_join_94 : decode cX15_join 94 = .ok (.iload_n 3, 1) := by decide +kernel
theorem dX15_join_95 : decode cX15_join 95 = .ok (.bipush 29, 2) := by decide +kernel
theorem dX15_join_97 : decode cX15_join 97 = .ok (.if_icmp .ne 16, 3) := by decide +kernel
theorem dX15_join_100 : decode cX15_join 100 = .ok (.aload_n 0, 1) := by decide +kernel
theorem dX15_join_101 : decode cX15_join 101 = .ok (.lload 6, 2) := by decide +kernel
theorem dX15_join_103 : decode cX15_join 103 = .ok (.ldc2_w 211, 3) := by decide +kernel
theorem dX15_join_106 : decode cX15_join 106 = .ok (.lxor, 1) := by decide +kernel
theorem dX15_join_107 : decode cX15_join 107 = .ok (.invokevirtual 191, 3) := by decide +kernel
theorem dX15_join_110 : decode cX15_join 110 = .ok (.goto 102, 3) := by decide +kernel
theorem dX15_join_113 : decode cX15_join 113 = .ok (.iload_n 3, 1) := by decide +kernel
theorem dX15_join_114 : decode cX15_join 114 = .ok (.bipush 32, 2) := by decide +kernel
theorem dX15_join_116 : decode cX15_join 116 = .ok (.if_icmp .eq 15, 3) := by decide +kernel
theorem dX15_join_119 : decode cX15_join 119 = .ok (.iload_n 3, 1) := by decide +kernel
theorem dX15_join_120 : decode cX15_join 120 = .ok (.bipush 6, 2) := by decide +kernel
theorem dX15_join_122 : decode cX15_join 122 = .ok (.if_icmp .eq 9, 3) := by decide +kernel
theorem dX15_join_125 : decode cX15_join 125 = .ok (.iload_n 3, 1) := by decide +kernel
theorem dX15_join_126 : decode cX15_join 126 = .ok (.bipush 7, 2) := by decide +kernel
theorem dX15_join_128 : decode cX15_join 128 = .ok (.if_icmp .ne 13, 3) := by decide +kernel
theorem dX15_join_131 : decode cX15_join 131 = .ok (.aload_n 0, 1) := by decide +kernel
theorem dX15_join_132 : decode cX15_join 132 = .ok (.iload_n 3, 1) := by decide +kernel
theorem dX15_join_133 : decode cX15_join 133 = .ok (.lload 6, 2) := by decide +kernel
theorem dX15_join_135 : decode cX15_join 135 = .ok (.invokevirtual 213, 3) := by decide +kernel
theorem dX15_join_138 : decode cX15_join 138 = .ok (.goto 74, 3) := by decide +kernel
theorem dX15_join_141 : decode cX15_join 141 = .ok (.iload_n 3, 1) := by decide +kernel
theorem dX15_join_142 : decode cX15_join 142 = .ok (.bipush 9, 2) := by decide +kernel
theorem dX15_join_144 : decode cX15_join 144 = .ok (.if_icmp .ne 30, 3) := by decide +kernel
theorem dX15_join_147 : decode cX15_join 147 = .ok (.aload_n 0, 1) := by decide +kernel
theorem dX15_join_148 : decode cX15_join 148 = .ok (.lload 6, 2) := by decide +kernel
theorem dX15_join_150 : decode cX15_join 150 = .ok (.aload_n 0, 1) := by decide +kernel
theorem dX15_join_151 : decode cX15_join 151 = .ok (.getfield 31, 3) := by decide +kernel
theorem dX15_join_154 : decode cX15_join 154 = .ok (.iload_n 2, 1) := by decide +kernel
theorem dX15_join_155 : decode cX15_join 155 = .ok (.laload, 1) := by decide +kernel
theorem dX15_join_156 : decode cX15_join 156 = .ok (.lcmp, 1) := by decide +kernel
theorem dX15_join_157 : decode cX15_join 157 = .ok (.ifCond .eq 7, 3) := by decide +kernel
theorem dX15_join_160 : decode cX15_join 160 = .ok (.iconst 1, 1) := by decide +kernel
theorem dX15_join_161 : decode cX15_join 161 = .ok (.goto 4, 3) := by decide +kernel
theorem dX15_join_164 : decode cX15_join 164 = .ok (.iconst 0, 1) := by decide +kernel
theorem dX15_join_165 : decode cX15_join 165 = .ok (.invokestatic 207, 3) := by decide +kernel
theorem dX15_join_168 : decode cX15_join 168 = .ok (.invokevirtual 191, 3) := by decide +kernel
theorem dX15_join_171 : decode cX15_join 171 = .ok (.goto 41, 3) := by decide +kernel
theorem dX15_join_174 : decode cX15_join 174 = .ok (.iload_n 3, 1) := by decide +kernel
theorem dX15_join_175 : decode cX15_join 175 = .ok (.bipush 26, 2) := by decide +kernel
theorem dX15_join_177 : decode cX15_join 177 = .ok (.if_icmp .eq 9, 3) := by decide +kernel
theorem dX15_join_180 : decode cX15_join 180 = .ok (.iload_n 3, 1) := by decide +kernel
theorem dX15_join_181 : decode cX15_join 181 = .ok (.bipush 27, 2) := by decide +kernel
theorem dX15_join_183 : decode cX15_join 183 = .ok (.if_icmp .ne 17, 3) := by decide +kernel
theorem dX15_join_186 : decode cX15_join 186 = .ok (.lload 6, 2) := by decide +kernel
theorem dX15_join_188 : decode cX15_join 188 = .ok (.lconst 0, 1) := by decide +kernel
theorem dX15_join_189 : decode cX15_join 189 = .ok (.lcmp, 1) := by decide +kernel
theorem dX15_join_190 : decode cX15_join 190 = .ok (.ifCond .ne 10, 3) := by decide +kernel
theorem dX15_join_193 : decode cX15_join 193 = .ok (.aload_n 0, 1) := by decide +kernel
theorem dX15_join_194 : decode cX15_join 194 = .ok (.invokevirtual 217, 3) := by decide +kernel
theorem dX15_join_197 : decode cX15_join 197 = .ok (.goto 15, 3) := by decide +kernel
theorem dX15_join_200 : decode cX15_join 200 = .ok (.aload_n 0, 1) := by decide +kernel
theorem dX15_join_201 : decode cX15_join 201 = .ok (.iload_n 3, 1) := by decide +kernel
theorem dX15_join_202 : decode cX15_join 202 = .ok (.lload 4, 2) := by decide +kernel
theorem dX15_join_204 : decode cX15_join 204 = .ok (.lload 6, 2) := by decide +kernel
theorem dX15_join_206 : decode cX15_join 206 = .ok (.invokestatic 220, 3) := by decide +kernel
theorem dX15_join_209 : decode cX15_join 209 = .ok (.invokevirtual 191, 3) := by decide +kernel
theorem dX15_join_212 : decode cX15_join 212 = .ok (.return_, 1) := by decide +kernel
theorem dX15_access_0 : decode cX15_access 0 = .ok (.iload_n 1, 1) := by decide +kernel
theorem dX15_access_1 : decode cX15_access 1 = .ok (.bipush 32, 2) := by decide +kernel
theorem dX15_access_3 : decode cX15_access 3 = .ok (.if_icmp .ne 7, 3) := by decide +kernel
theorem dX15_access_6 : decode cX15_access 6 = .ok (.iconst 4, 1) := by decide +kernel
theorem dX15_access_7 : decode cX15_access 7 = .ok (.goto 14, 3) := by decide +kernel
theorem dX15_access_10 : decode cX15_access 10 = .ok (.iload_n 1, 1) := by decide +kernel
theorem dX15_access_11 : decode cX15_access 11 = .ok (.bipush 7, 2) := by decide +kernel
theorem dX15_access_13 : decode cX15_access 13 = .ok (.if_icmp .ne 7, 3) := by decide +kernel
theorem dX15_access_16 : decode cX15_access 16 = .ok (.iconst 2, 1) := by decide +kernel
theorem dX15_access_17 : decode cX15_access 17 = .ok (.goto 4, 3) := by decide +kernel
theorem dX15_access_20 : decode cX15_access 20 = .ok (.iconst 1, 1) := by decide +kernel
theorem dX15_access_21 : decode cX15_access 21 = .ok (.istore 4, 2) := by decide +kernel
theorem dX15_access_23 : decode cX15_access 23 = .ok (.aload_n 0, 1) := by decide +kernel
theorem dX15_access_24 : decode cX15_access 24 = .ok (.getfield 61, 3) := by decide +kernel
theorem dX15_access_27 : decode cX15_access 27 = .ok (.lload_n 2, 1) := by decide +kernel
theorem dX15_access_28 : decode cX15_access 28 = .ok (.iload 4, 2) := by decide +kernel
theorem dX15_access_30 : decode cX15_access 30 = .ok (.invokevirtual 224, 3) := by decide +kernel
theorem dX15_access_33 : decode cX15_access 33 = .ok (.ifCond .ne 8, 3) := by decide +kernel
theorem dX15_access_36 : decode cX15_access 36 = .ok (.aload_n 0, 1) := by decide +kernel
theorem dX15_access_37 : decode cX15_access 37 = .ok (.invokevirtual 217, 3) := by decide +kernel
theorem dX15_access_40 : decode cX15_access 40 = .ok (.return_, 1) := by decide +kernel
theorem dX15_access_41 : decode cX15_access 41 = .ok (.iconst 0, 1) := by decide +kernel
theorem dX15_access_42 : decode cX15_access 42 = .ok (.istore 5, 2) := by decide +kernel
theorem dX15_access_44 : decode cX15_access 44 = .ok (.iconst 0, 1) := by decide +kernel
theorem dX15_access_45 : decode cX15_access 45 = .ok (.istore 6, 2) := by decide +kernel
theorem dX15_access_47 : decode cX15_access 47 = .ok (.iload 6, 2) := by decide +kernel
theorem dX15_access_49 : decode cX15_access 49 = .ok (.iload 4, 2) := by decide +kernel
theorem dX15_access_51 : decode cX15_access 51 = .ok (.if_icmp .ge 32, 3) := by decide +kernel
theorem dX15_access_54 : decode cX15_access 54 = .ok (.iload 5, 2) := by decide +kernel
theorem dX15_access_56 : decode cX15_access 56 = .ok (.aload_n 0, 1) := by decide +kernel
theorem dX15_access_57 : decode cX15_access 57 = .ok (.getfield 61, 3) := by decide +kernel
theorem dX15_access_60 : decode cX15_access 60 = .ok (.lload_n 2, 1) := by decide +kernel
theorem dX15_access_61 : decode cX15_access 61 = .ok (.l2i, 1) := by decide +kernel
theorem dX15_access_62 : decode cX15_access 62 = .ok (.iload 6, 2) := by decide +kernel
theorem dX15_access_64 : decode cX15_access 64 = .ok (.iadd, 1) := by decide +kernel
theorem dX15_access_65 : decode cX15_access 65 = .ok (.invokevirtual 228, 3) := by decide +kernel
theorem dX15_access_68 : decode cX15_access 68 = .ok (.bipush 8, 2) := by decide +kernel
theorem dX15_access_70 : decode cX15_access 70 = .ok (.iload 6, 2) := by decide +kernel
theorem dX15_access_72 : decode cX15_access 72 = .ok (.imul, 1) := by decide +kernel
theorem dX15_access_73 : decode cX15_access 73 = .ok (.ishl, 1) := by decide +kernel
theorem dX15_access_74 : decode cX15_access 74 = .ok (.ior, 1) := by decide +kernel
theorem dX15_access_75 : decode cX15_access 75 = .ok (.istore 5, 2) := by decide +kernel
theorem dX15_access_77 : decode cX15_access 77 = .ok (.iinc 6 1, 3) := by decide +kernel
theorem dX15_access_80 : decode cX15_access 80 = .ok (.goto (-33), 3) := by decide +kernel
theorem dX15_access_83 : decode cX15_access 83 = .ok (.aload_n 0, 1) := by decide +kernel
theorem dX15_access_84 : decode cX15_access 84 = .ok (.iload 4, 2) := by decide +kernel
theorem dX15_access_86 : decode cX15_access 86 = .ok (.iconst 2, 1) := by decide +kernel
theorem dX15_access_87 : decode cX15_access 87 = .ok (.if_icmp .ne 15, 3) := by decide +kernel
theorem dX15_access_90 : decode cX15_access 90 = .ok (.iload 5, 2) := by decide +kernel
theorem dX15_access_92 : decode cX15_access 92 = .ok (.bipush 16, 2) := by decide +kernel
theorem dX15_access_94 : decode cX15_access 94 = .ok (.ishl, 1) := by decide +kernel
theorem dX15_access_95 : decode cX15_access 95 = .ok (.bipush 16, 2) := by decide +kernel
theorem dX15_access_97 : decode cX15_access 97 = .ok (.ishr, 1) := by decide +kernel
theorem dX15_access_98 : decode cX15_access 98 = .ok (.i2l, 1) := by decide +kernel
theorem dX15_access_99 : decode cX15_access 99 = .ok (.goto 6, 3) := by decide +kernel
theorem dX15_access_102 : decode cX15_access 102 = .ok (.iload 5, 2) := by decide +kernel
theorem dX15_access_104 : decode cX15_access 104 = .ok (.i2l, 1) := by decide +kernel
theorem dX15_access_105 : decode cX15_access 105 = .ok (.invokevirtual 191, 3) := by decide +kernel
theorem dX15_access_108 : decode cX15_access 108 = .ok (.return_, 1) := by decide +kernel
theorem dX15_both_0 : decode cX15_both 0 = .ok (.iload_n 0, 1) := by decide +kernel
theorem dX15_both_1 : decode cX15_both 1 = .ok (.tableswitch 234 10 26 #[83, 83, 98, 113, 128, 143, 158, 173, 188, 192, 196, 200, 209, 218, 222, 226, 230], 83) := by decide +kernel
theorem dX15_both_84 : decode cX15_both 84 = .ok (.lload_n 3, 1) := by decide +kernel
theorem dX15_both_85 : decode cX15_both 85 = .ok (.lconst 0, 1) := by decide +kernel
theorem dX15_both_86 : decode cX15_both 86 = .ok (.lcmp, 1) := by decide +kernel
theorem dX15_both_87 : decode cX15_both 87 = .ok (.ifCond .eq 7, 3) := by decide +kernel
theorem dX15_both_90 : decode cX15_both 90 = .ok (.iconst 1, 1) := by decide +kernel
theorem dX15_both_91 : decode cX15_both 91 = .ok (.goto 4, 3) := by decide +kernel
theorem dX15_both_94 : decode cX15_both 94 = .ok (.iconst 0, 1) := by decide +kernel
theorem dX15_both_95 : decode cX15_both 95 = .ok (.invokestatic 207, 3) := by decide +kernel
theorem dX15_both_98 : decode cX15_both 98 = .ok (.lreturn, 1) := by decide +kernel
theorem dX15_both_99 : decode cX15_both 99 = .ok (.lload_n 1, 1) := by decide +kernel
theorem dX15_both_100 : decode cX15_both 100 = .ok (.lload_n 3, 1) := by decide +kernel
theorem dX15_both_101 : decode cX15_both 101 = .ok (.lcmp, 1) := by decide +kernel
theorem dX15_both_102 : decode cX15_both 102 = .ok (.ifCond .ne 7, 3) := by decide +kernel
theorem dX15_both_105 : decode cX15_both 105 = .ok (.iconst 1, 1) := by decide +kernel
theorem dX15_both_106 : decode cX15_both 106 = .ok (.goto 4, 3) := by decide +kernel
theorem dX15_both_109 : decode cX15_both 109 = .ok (.iconst 0, 1) := by decide +kernel
theorem dX15_both_110 : decode cX15_both 110 = .ok (.invokestatic 207, 3) := by decide +kernel
theorem dX15_both_113 : decode cX15_both 113 = .ok (.lreturn, 1) := by decide +kernel
theorem dX15_both_114 : decode cX15_both 114 = .ok (.lload_n 1, 1) := by decide +kernel
theorem dX15_both_115 : decode cX15_both 115 = .ok (.lload_n 3, 1) := by decide +kernel
theorem dX15_both_116 : decode cX15_both 116 = .ok (.lcmp, 1) := by decide +kernel
theorem dX15_both_117 : decode cX15_both 117 = .ok (.ifCond .eq 7, 3) := by decide +kernel
theorem dX15_both_120 : decode cX15_both 120 = .ok (.iconst 1, 1) := by decide +kernel
theorem dX15_both_121 : decode cX15_both 121 = .ok (.goto 4, 3) := by decide +kernel
theorem dX15_both_124 : decode cX15_both 124 = .ok (.iconst 0, 1) := by decide +kernel
theorem dX15_both_125 : decode cX15_both 125 = .ok (.invokestatic 207, 3) := by decide +kernel
theorem dX15_both_128 : decode cX15_both 128 = .ok (.lreturn, 1) := by decide +kernel
theorem dX15_both_129 : decode cX15_both 129 = .ok (.lload_n 1, 1) := by decide +kernel
theorem dX15_both_130 : decode cX15_both 130 = .ok (.lload_n 3, 1) := by decide +kernel
theorem dX15_both_131 : decode cX15_both 131 = .ok (.lcmp, 1) := by decide +kernel
theorem dX15_both_132 : decode cX15_both 132 = .ok (.ifCond .ge 7, 3) := by decide +kernel
theorem dX15_both_135 : decode cX15_both 135 = .ok (.iconst 1, 1) := by decide +kernel
theorem dX15_both_136 : decode cX15_both 136 = .ok (.goto 4, 3) := by decide +kernel
theorem dX15_both_139 : decode cX15_both 139 = .ok (.iconst 0, 1) := by decide +kernel
theorem dX15_both_140 : decode cX15_both 140 = .ok (.invokestatic 207, 3) := by decide +kernel
theorem dX15_both_143 : decode cX15_both 143 = .ok (.lreturn, 1) := by decide +kernel
theorem dX15_both_144 : decode cX15_both 144 = .ok (.lload_n 1, 1) := by decide +kernel
theorem dX15_both_145 : decode cX15_both 145 = .ok (.lload_n 3, 1) := by decide +kernel
theorem dX15_both_146 : decode cX15_both 146 = .ok (.lcmp, 1) := by decide +kernel
theorem dX15_both_147 : decode cX15_both 147 = .ok (.ifCond .gt 7, 3) := by decide +kernel
theorem dX15_both_150 : decode cX15_both 150 = .ok (.iconst 1, 1) := by decide +kernel
theorem dX15_both_151 : decode cX15_both 151 = .ok (.goto 4, 3) := by decide +kernel
theorem dX15_both_154 : decode cX15_both 154 = .ok (.iconst 0, 1) := by decide +kernel
theorem dX15_both_155 : decode cX15_both 155 = .ok (.invokestatic 207, 3) := by decide +kernel
theorem dX15_both_158 : decode cX15_both 158 = .ok (.lreturn, 1) := by decide +kernel
theorem dX15_both_159 : decode cX15_both 159 = .ok (.lload_n 1, 1) := by decide +kernel
theorem dX15_both_160 : decode cX15_both 160 = .ok (.lload_n 3, 1) := by decide +kernel
theorem dX15_both_161 : decode cX15_both 161 = .ok (.lcmp, 1) := by decide +kernel
theorem dX15_both_162 : decode cX15_both 162 = .ok (.ifCond .le 7, 3) := by decide +kernel
theorem dX15_both_165 : decode cX15_both 165 = .ok (.iconst 1, 1) := by decide +kernel
theorem dX15_both_166 : decode cX15_both 166 = .ok (.goto 4, 3) := by decide +kernel
theorem dX15_both_169 : decode cX15_both 169 = .ok (.iconst 0, 1) := by decide +kernel
theorem dX15_both_170 : decode cX15_both 170 = .ok (.invokestatic 207, 3) := by decide +kernel
theorem dX15_both_173 : decode cX15_both 173 = .ok (.lreturn, 1) := by decide +kernel
theorem dX15_both_174 : decode cX15_both 174 = .ok (.lload_n 1, 1) := by decide +kernel
theorem dX15_both_175 : decode cX15_both 175 = .ok (.lload_n 3, 1) := by decide +kernel
theorem dX15_both_176 : decode cX15_both 176 = .ok (.lcmp, 1) := by decide +kernel
theorem dX15_both_177 : decode cX15_both 177 = .ok (.ifCond .lt 7, 3) := by decide +kernel
theorem dX15_both_180 : decode cX15_both 180 = .ok (.iconst 1, 1) := by decide +kernel
theorem dX15_both_181 : decode cX15_both 181 = .ok (.goto 4, 3) := by decide +kernel
theorem dX15_both_184 : decode cX15_both 184 = .ok (.iconst 0, 1) := by decide +kernel
theorem dX15_both_185 : decode cX15_both 185 = .ok (.invokestatic 207, 3) := by decide +kernel
theorem dX15_both_188 : decode cX15_both 188 = .ok (.lreturn, 1) := by decide +kernel
theorem dX15_both_189 : decode cX15_both 189 = .ok (.lload_n 1, 1) := by decide +kernel
theorem dX15_both_190 : decode cX15_both 190 = .ok (.lload_n 3, 1) := by decide +kernel
theorem dX15_both_191 : decode cX15_both 191 = .ok (.lor, 1) := by decide +kernel
theorem dX15_both_192 : decode cX15_both 192 = .ok (.lreturn, 1) := by decide +kernel
theorem dX15_both_193 : decode cX15_both 193 = .ok (.lload_n 1, 1) := by decide +kernel
theorem dX15_both_194 : decode cX15_both 194 = .ok (.lload_n 3, 1) := by decide +kernel
theorem dX15_both_195 : decode cX15_both 195 = .ok (.lxor, 1) := by decide +kernel
theorem dX15_both_196 : decode cX15_both 196 = .ok (.lreturn, 1) := by decide +kernel
theorem dX15_both_197 : decode cX15_both 197 = .ok (.lload_n 1, 1) := by decide +kernel
theorem dX15_both_198 : decode cX15_both 198 = .ok (.lload_n 3, 1) := by decide +kernel
theorem dX15_both_199 : decode cX15_both 199 = .ok (.land, 1) := by decide +kernel
theorem dX15_both_200 : decode cX15_both 200 = .ok (.lreturn, 1) := by decide +kernel
theorem dX15_both_201 : decode cX15_both 201 = .ok (.lload_n 1, 1) := by decide +kernel
theorem dX15_both_202 : decode cX15_both 202 = .ok (.lload_n 3, 1) := by decide +kernel
theorem dX15_both_203 : decode cX15_both 203 = .ok (.ldc2_w 231, 3) := by decide +kernel
theorem dX15_both_206 : decode cX15_both 206 = .ok (.land, 1) := by decide +kernel
theorem dX15_both_207 : decode cX15_both 207 = .ok (.l2i, 1) := by decide +kernel
theorem dX15_both_208 : decode cX15_both 208 = .ok (.lshl, 1) := by decide +kernel
theorem dX15_both_209 : decode cX15_both 209 = .ok (.lreturn, 1) := by decide +kernel
theorem dX15_both_210 : decode cX15_both 210 = .ok (.lload_n 1, 1) := by decide +kernel
theorem dX15_both_211 : decode cX15_both 211 = .ok (.lload_n 3, 1) := by decide +kernel
theorem dX15_both_212 : decode cX15_both 212 = .ok (.ldc2_w 231, 3) := by decide +kernel
theorem dX15_both_215 : decode cX15_both 215 = .ok (.land, 1) := by decide +kernel
theorem dX15_both_216 : decode cX15_both 216 = .ok (.l2i, 1) := by decide +kernel
theorem dX15_both_217 : decode cX15_both 217 = .ok (.lshr, 1) := by decide +kernel
theorem dX15_both_218 : decode cX15_both 218 = .ok (.lreturn, 1) := by decide +kernel
theorem dX15_both_219 : decode cX15_both 219 = .ok (.lload_n 1, 1) := by decide +kernel
theorem dX15_both_220 : decode cX15_both 220 = .ok (.lload_n 3, 1) := by decide +kernel
theorem dX15_both_221 : decode cX15_both 221 = .ok (.ladd, 1) := by decide +kernel
theorem dX15_both_222 : decode cX15_both 222 = .ok (.lreturn, 1) := by decide +kernel
theorem dX15_both_223 : decode cX15_both 223 = .ok (.lload_n 1, 1) := by decide +kernel
theorem dX15_both_224 : decode cX15_both 224 = .ok (.lload_n 3, 1) := by decide +kernel
theorem dX15_both_225 : decode cX15_both 225 = .ok (.lsub, 1) := by decide +kernel
theorem dX15_both_226 : decode cX15_both 226 = .ok (.lreturn, 1) := by decide +kernel
theorem dX15_both_227 : decode cX15_both 227 = .ok (.lload_n 1, 1) := by decide +kernel
theorem dX15_both_228 : decode cX15_both 228 = .ok (.lload_n 3, 1) := by decide +kernel
theorem dX15_both_229 : decode cX15_both 229 = .ok (.lmul, 1) := by decide +kernel
theorem dX15_both_230 : decode cX15_both 230 = .ok (.lreturn, 1) := by decide +kernel
theorem dX15_both_231 : decode cX15_both 231 = .ok (.lload_n 1, 1) := by decide +kernel
theorem dX15_both_232 : decode cX15_both 232 = .ok (.lload_n 3, 1) := by decide +kernel
theorem dX15_both_233 : decode cX15_both 233 = .ok (.ldiv, 1) := by decide +kernel
theorem dX15_both_234 : decode cX15_both 234 = .ok (.lreturn, 1) := by decide +kernel
theorem dX15_both_235 : decode cX15_both 235 = .ok (.lload_n 1, 1) := by decide +kernel
theorem dX15_both_236 : decode cX15_both 236 = .ok (.lload_n 3, 1) := by decide +kernel
theorem dX15_both_237 : decode cX15_both 237 = .ok (.lrem, 1) := by decide +kernel
theorem dX15_both_238 : decode cX15_both 238 = .ok (.lreturn, 1) := by decide +kernel
theorem dX15_remember_0 : decode cX15_remember 0 = .ok (.bipush 120, 2) := by decide +kernel
theorem dX15_remember_2 : decode cX15_remember 2 = .ok (.iload_n 1, 1) := by decide +kernel
theorem dX15_remember_3 : decode cX15_remember 3 = .ok (.imul, 1) := by decide +kernel
theorem dX15_remember_4 : decode cX15_remember 4 = .ok (.istore_n 2, 1) := by decide +kernel
theorem dX15_remember_5 : decode cX15_remember 5 = .ok (.iconst 0, 1) := by decide +kernel
theorem dX15_remember_6 : decode cX15_remember 6 = .ok (.istore_n 3, 1) := by decide +kernel
theorem dX15_remember_7 : decode cX15_remember 7 = .ok (.iload_n 3, 1) := by decide +kernel
theorem dX15_remember_8 : decode cX15_remember 8 = .ok (.aload_n 0, 1) := by decide +kernel
theorem dX15_remember_9 : decode cX15_remember 9 = .ok (.getfield 17, 3) := by decide +kernel
theorem dX15_remember_12 : decode cX15_remember 12 = .ok (.iload_n 1, 1) := by decide +kernel
theorem dX15_remember_13 : decode cX15_remember 13 = .ok (.iaload, 1) := by decide +kernel
theorem dX15_remember_14 : decode cX15_remember 14 = .ok (.if_icmp .ge 62, 3) := by decide +kernel
theorem dX15_remember_17 : decode cX15_remember 17 = .ok (.aload_n 0, 1) := by decide +kernel
theorem dX15_remember_18 : decode cX15_remember 18 = .ok (.getfield 21, 3) := by decide +kernel
theorem dX15_remember_21 : decode cX15_remember 21 = .ok (.iload_n 2, 1) := by decide +kernel
theorem dX15_remember_22 : decode cX15_remember 22 = .ok (.iload_n 3, 1) := by decide +kernel
theorem dX15_remember_23 : decode cX15_remember 23 = .ok (.iadd, 1) := by decide +kernel
theorem dX15_remember_24 : decode cX15_remember 24 = .ok (.iaload, 1) := by decide +kernel
theorem dX15_remember_25 : decode cX15_remember 25 = .ok (.bipush 8, 2) := by decide +kernel
theorem dX15_remember_27 : decode cX15_remember 27 = .ok (.if_icmp .eq 16, 3) := by decide +kernel
theorem dX15_remember_30 : decode cX15_remember 30 = .ok (.aload_n 0, 1) := by decide +kernel
theorem dX15_remember_31 : decode cX15_remember 31 = .ok (.getfield 21, 3) := by decide +kernel
theorem dX15_remember_34 : decode cX15_remember 34 = .ok (.iload_n 2, 1) := by decide +kernel
theorem dX15_remember_35 : decode cX15_remember 35 = .ok (.iload_n 3, 1) := by decide +kernel
theorem dX15_remember_36 : decode cX15_remember 36 = .ok (.iadd, 1) := by decide +kernel
theorem dX15_remember_37 : decode cX15_remember 37 = .ok (.iaload, 1) := by decide +kernel
theorem dX15_remember_38 : decode cX15_remember 38 = .ok (.bipush 9, 2) := by decide +kernel
theorem dX15_remember_40 : decode cX15_remember 40 = .ok (.if_icmp .ne 30, 3) := by decide +kernel
theorem dX15_remember_43 : decode cX15_remember 43 = .ok (.aload_n 0, 1) := by decide +kernel
theorem dX15_remember_44 : decode cX15_remember 44 = .ok (.getfield 31, 3) := by decide +kernel
theorem dX15_remember_47 : decode cX15_remember 47 = .ok (.iload_n 2, 1) := by decide +kernel
theorem dX15_remember_48 : decode cX15_remember 48 = .ok (.iload_n 3, 1) := by decide +kernel
theorem dX15_remember_49 : decode cX15_remember 49 = .ok (.iadd, 1) := by decide +kernel
theorem dX15_remember_50 : decode cX15_remember 50 = .ok (.aload_n 0, 1) := by decide +kernel
theorem dX15_remember_51 : decode cX15_remember 51 = .ok (.iload_n 2, 1) := by decide +kernel
theorem dX15_remember_52 : decode cX15_remember 52 = .ok (.iload_n 3, 1) := by decide +kernel
theorem dX15_remember_53 : decode cX15_remember 53 = .ok (.iadd, 1) := by decide +kernel
theorem dX15_remember_54 : decode cX15_remember 54 = .ok (.iconst 2, 1) := by decide +kernel
theorem dX15_remember_55 : decode cX15_remember 55 = .ok (.iadd, 1) := by decide +kernel
theorem dX15_remember_56 : decode cX15_remember 56 = .ok (.aload_n 0, 1) := by decide +kernel
theorem dX15_remember_57 : decode cX15_remember 57 = .ok (.getfield 24, 3) := by decide +kernel
theorem dX15_remember_60 : decode cX15_remember 60 = .ok (.iload_n 2, 1) := by decide +kernel
theorem dX15_remember_61 : decode cX15_remember 61 = .ok (.iload_n 3, 1) := by decide +kernel
theorem dX15_remember_62 : decode cX15_remember 62 = .ok (.iadd, 1) := by decide +kernel
theorem dX15_remember_63 : decode cX15_remember 63 = .ok (.iconst 1, 1) := by decide +kernel
theorem dX15_remember_64 : decode cX15_remember 64 = .ok (.iadd, 1) := by decide +kernel
theorem dX15_remember_65 : decode cX15_remember 65 = .ok (.iaload, 1) := by decide +kernel
theorem dX15_remember_66 : decode cX15_remember 66 = .ok (.invokevirtual 233, 3) := by decide +kernel
theorem dX15_remember_69 : decode cX15_remember 69 = .ok (.lastore, 1) := by decide +kernel
theorem dX15_remember_70 : decode cX15_remember 70 = .ok (.iinc 3 1, 3) := by decide +kernel
theorem dX15_remember_73 : decode cX15_remember 73 = .ok (.goto (-66), 3) := by decide +kernel
theorem dX15_remember_76 : decode cX15_remember 76 = .ok (.return_, 1) := by decide +kernel
theorem dX15_value_0 : decode cX15_value 0 = .ok (.aload_n 0, 1) := by decide +kernel
theorem dX15_value_1 : decode cX15_value 1 = .ok (.bipush 120, 2) := by decide +kernel
theorem dX15_value_3 : decode cX15_value 3 = .ok (.iload_n 1, 1) := by decide +kernel
theorem dX15_value_4 : decode cX15_value 4 = .ok (.imul, 1) := by decide +kernel
theorem dX15_value_5 : decode cX15_value 5 = .ok (.bipush 120, 2) := by decide +kernel
theorem dX15_value_7 : decode cX15_value 7 = .ok (.iload_n 1, 1) := by decide +kernel
theorem dX15_value_8 : decode cX15_value 8 = .ok (.imul, 1) := by decide +kernel
theorem dX15_value_9 : decode cX15_value 9 = .ok (.aload_n 0, 1) := by decide +kernel
theorem dX15_value_10 : decode cX15_value 10 = .ok (.getfield 17, 3) := by decide +kernel
theorem dX15_value_13 : decode cX15_value 13 = .ok (.iload_n 1, 1) := by decide +kernel
theorem dX15_value_14 : decode cX15_value 14 = .ok (.iaload, 1) := by decide +kernel
theorem dX15_value_15 : decode cX15_value 15 = .ok (.iadd, 1) := by decide +kernel
theorem dX15_value_16 : decode cX15_value 16 = .ok (.invokevirtual 233, 3) := by decide +kernel
theorem dX15_value_19 : decode cX15_value 19 = .ok (.lreturn, 1) := by decide +kernel
theorem dX15_isThere_0 : decode cX15_isThere 0 = .ok (.aload_n 0, 1) := by decide +kernel
theorem dX15_isThere_1 : decode cX15_isThere 1 = .ok (.getfield 13, 3) := by decide +kernel
theorem dX15_isThere_4 : decode cX15_isThere 4 = .ok (.iload_n 1, 1) := by decide +kernel
theorem dX15_isThere_5 : decode cX15_isThere 5 = .ok (.baload, 1) := by decide +kernel
theorem dX15_isThere_6 : decode cX15_isThere 6 = .ok (.ireturn, 1) := by decide +kernel
theorem dX15_size_0 : decode cX15_size 0 = .ok (.iconst 0, 1) := by decide +kernel
theorem dX15_size_1 : decode cX15_size 1 = .ok (.istore_n 1, 1) := by decide +kernel
theorem dX15_size_2 : decode cX15_size 2 = .ok (.iconst 0, 1) := by decide +kernel
theorem dX15_size_3 : decode cX15_size 3 = .ok (.istore_n 2, 1) := by decide +kernel
theorem dX15_size_4 : decode cX15_size 4 = .ok (.iload_n 2, 1) := by decide +kernel
theorem dX15_size_5 : decode cX15_size 5 = .ok (.bipush 8, 2) := by decide +kernel
theorem dX15_size_7 : decode cX15_size 7 = .ok (.if_icmp .ge 26, 3) := by decide +kernel
theorem dX15_size_10 : decode cX15_size 10 = .ok (.aload_n 0, 1) := by decide +kernel
theorem dX15_size_11 : decode cX15_size 11 = .ok (.getfield 13, 3) := by decide +kernel
theorem dX15_size_14 : decode cX15_size 14 = .ok (.iload_n 2, 1) := by decide +kernel
theorem dX15_size_15 : decode cX15_size 15 = .ok (.baload, 1) := by decide +kernel
theorem dX15_size_16 : decode cX15_size 16 = .ok (.ifCond .eq 9, 3) := by decide +kernel
theorem dX15_size_19 : decode cX15_size 19 = .ok (.iload_n 1, 1) := by decide +kernel
theorem dX15_size_20 : decode cX15_size 20 = .ok (.iconst 1, 1) := by decide +kernel
theorem dX15_size_21 : decode cX15_size 21 = .ok (.iadd, 1) := by decide +kernel
theorem dX15_size_22 : decode cX15_size 22 = .ok (.goto 4, 3) := by decide +kernel
theorem dX15_size_25 : decode cX15_size 25 = .ok (.iload_n 1, 1) := by decide +kernel
theorem dX15_size_26 : decode cX15_size 26 = .ok (.istore_n 1, 1) := by decide +kernel
theorem dX15_size_27 : decode cX15_size 27 = .ok (.iinc 2 1, 3) := by decide +kernel
theorem dX15_size_30 : decode cX15_size 30 = .ok (.goto (-26), 3) := by decide +kernel
theorem dX15_size_33 : decode cX15_size 33 = .ok (.iload_n 1, 1) := by decide +kernel
theorem dX15_size_34 : decode cX15_size 34 = .ok (.ireturn, 1) := by decide +kernel
