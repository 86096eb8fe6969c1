theorem dX16_carry_274 : decode cX16_carry 274 = .ok (.bipush 21, 2) := by decide +kernel
theorem dX16_carry_276 : decode cX16_carry 276 = .ok (.bipush 10, 2) := by decide +kernel
theorem dX16_carry_278 : decode cX16_carry 278 = .ok (.iconst 1, 1) := by decide +kernel
theorem dX16_carry_279 : decode cX16_carry 279 = .ok (.invokestatic 300, 3) := by decide +kernel
theorem dX16_carry_282 : decode cX16_carry 282 = .ok (.ior, 1) := by decide +kernel
theorem dX16_carry_283 : decode cX16_carry 283 = .ok (.bipush 21, 2) := by decide +kernel
theorem dX16_carry_285 : decode cX16_carry 285 = .ok (.invokestatic 320, 3) := by decide +kernel
theorem dX16_carry_288 : decode cX16_carry 288 = .ok (.iadd, 1) := by decide +kernel
theorem dX16_carry_289 : decode cX16_carry 289 = .ok (.putfield 350, 3) := by decide +kernel
theorem dX16_carry_292 : decode cX16_carry 292 = .ok (.goto 270, 3) := by decide +kernel
theorem dX16_carry_295 : decode cX16_carry 295 = .ok (.iload_n 3, 1) := by decide +kernel
theorem dX16_carry_296 : decode cX16_carry 296 = .ok (.ifCond .eq 8, 3) := by decide +kernel
theorem dX16_carry_299 : decode cX16_carry 299 = .ok (.aload_n 0, 1) := by decide +kernel
theorem dX16_carry_300 : decode cX16_carry 300 = .ok (.invokevirtual 356, 3) := by decide +kernel
theorem dX16_carry_303 : decode cX16_carry 303 = .ok (.pop, 1) := by decide +kernel
theorem dX16_carry_304 : decode cX16_carry 304 = .ok (.aload_n 0, 1) := by decide +kernel
theorem dX16_carry_305 : decode cX16_carry 305 = .ok (.iload_n 2, 1) := by decide +kernel
theorem dX16_carry_306 : decode cX16_carry 306 = .ok (.aload_n 0, 1) := by decide +kernel
theorem dX16_carry_307 : decode cX16_carry 307 = .ok (.getfield 350, 3) := by decide +kernel
theorem dX16_carry_310 : decode cX16_carry 310 = .ok (.invokevirtual 362, 3) := by decide +kernel
theorem dX16_carry_313 : decode cX16_carry 313 = .ok (.aload_n 0, 1) := by decide +kernel
theorem dX16_carry_314 : decode cX16_carry 314 = .ok (.iload 4, 2) := by decide +kernel
theorem dX16_carry_316 : decode cX16_carry 316 = .ok (.iload 7, 2) := by decide +kernel
theorem dX16_carry_318 : decode cX16_carry 318 = .ok (.iadd, 1) := by decide +kernel
theorem dX16_carry_319 : decode cX16_carry 319 = .ok (.bipush (-2), 2) := by decide +kernel
theorem dX16_carry_321 : decode cX16_carry 321 = .ok (.iand, 1) := by decide +kernel
theorem dX16_carry_322 : decode cX16_carry 322 = .ok (.putfield 350, 3) := by decide +kernel
theorem dX16_carry_325 : decode cX16_carry 325 = .ok (.goto 237, 3) := by decide +kernel
theorem dX16_carry_328 : decode cX16_carry 328 = .ok (.aload_n 0, 1) := by decide +kernel
theorem dX16_carry_329 : decode cX16_carry 329 = .ok (.iload_n 1, 1) := by decide +kernel
theorem dX16_carry_330 : decode cX16_carry 330 = .ok (.iload_n 3, 1) := by decide +kernel
theorem dX16_carry_331 : decode cX16_carry 331 = .ok (.iload 4, 2) := by decide +kernel
theorem dX16_carry_333 : decode cX16_carry 333 = .ok (.iload 5, 2) := by decide +kernel
theorem dX16_carry_335 : decode cX16_carry 335 = .ok (.invokevirtual 365, 3) := by decide +kernel
theorem dX16_carry_338 : decode cX16_carry 338 = .ok (.goto 224, 3) := by decide +kernel
theorem dX16_carry_341 : decode cX16_carry 341 = .ok (.aload_n 0, 1) := by decide +kernel
theorem dX16_carry_342 : decode cX16_carry 342 = .ok (.iload_n 2, 1) := by decide +kernel
theorem dX16_carry_343 : decode cX16_carry 343 = .ok (.aload_n 0, 1) := by decide +kernel
theorem dX16_carry_344 : decode cX16_carry 344 = .ok (.iload_n 3, 1) := by decide +kernel
theorem dX16_carry_345 : decode cX16_carry 345 = .ok (.iload 4, 2) := by decide +kernel
theorem dX16_carry_347 : decode cX16_carry 347 = .ok (.iload 7, 2) := by decide +kernel
theorem dX16_carry_349 : decode cX16_carry 349 = .ok (.iadd, 1) := by decide +kernel
theorem dX16_carry_350 : decode cX16_carry 350 = .ok (.invokevirtual 369, 3) := by decide +kernel
theorem dX16_carry_353 : decode cX16_carry 353 = .ok (.invokevirtual 362, 3) := by decide +kernel
theorem dX16_carry_356 : decode cX16_carry 356 = .ok (.goto 206, 3) := by decide +kernel
theorem dX16_carry_359 : decode cX16_carry 359 = .ok (.aload_n 0, 1) := by decide +kernel
theorem dX16_carry_360 : decode cX16_carry 360 = .ok (.iload_n 3, 1) := by decide +kernel
theorem dX16_carry_361 : decode cX16_carry 361 = .ok (.iload 4, 2) := by decide +kernel
theorem dX16_carry_363 : decode cX16_carry 363 = .ok (.iload 7, 2) := by decide +kernel
theorem dX16_carry_365 : decode cX16_carry 365 = .ok (.bipush (-32), 2) := by decide +kernel
theorem dX16_carry_367 : decode cX16_carry 367 = .ok (.iand, 1) := by decide +kernel
theorem dX16_carry_368 : decode cX16_carry 368 = .ok (.iload_n 2, 1) := by decide +kernel
theorem dX16_carry_369 : decode cX16_carry 369 = .ok (.ior, 1) := by decide +kernel
theorem dX16_carry_370 : decode cX16_carry 370 = .ok (.iadd, 1) := by decide +kernel
theorem dX16_carry_371 : decode cX16_carry 371 = .ok (.iload 5, 2) := by decide +kernel
theorem dX16_carry_373 : decode cX16_carry 373 = .ok (.invokevirtual 372, 3) := by decide +kernel
theorem dX16_carry_376 : decode cX16_carry 376 = .ok (.goto 186, 3) := by decide +kernel
theorem dX16_carry_379 : decode cX16_carry 379 = .ok (.aload_n 0, 1) := by decide +kernel
theorem dX16_carry_380 : decode cX16_carry 380 = .ok (.iload_n 2, 1) := by decide +kernel
theorem dX16_carry_381 : decode cX16_carry 381 = .ok (.iload_n 3, 1) := by decide +kernel
theorem dX16_carry_382 : decode cX16_carry 382 = .ok (.iconst 1, 1) := by decide +kernel
theorem dX16_carry_383 : decode cX16_carry 383 = .ok (.if_icmp .eq 8, 3) := by decide +kernel
theorem dX16_carry_386 : decode cX16_carry 386 = .ok (.iload_n 3, 1) := by decide +kernel
theorem dX16_carry_387 : decode cX16_carry 387 = .ok (.iconst 5, 1) := by decide +kernel
theorem dX16_carry_388 : decode cX16_carry 388 = .ok (.if_icmp .ne 22, 3) := by decide +kernel
theorem dX16_carry_391 : decode cX16_carry 391 = .ok (.aload_n 0, 1) := by decide +kernel
theorem dX16_carry_392 : decode cX16_carry 392 = .ok (.iload_n 3, 1) := by decide +kernel
theorem dX16_carry_393 : decode cX16_carry 393 = .ok (.iload 6, 2) := by decide +kernel
theorem dX16_carry_395 : decode cX16_carry 395 = .ok (.iload 4, 2) := by decide +kernel
theorem dX16_carry_397 : decode cX16_carry 397 = .ok (.iload_n 1, 1) := by decide +kernel
theorem dX16_carry_398 : decode cX16_carry 398 = .ok (.bipush 20, 2) := by decide +kernel
theorem dX16_carry_400 : decode cX16_carry 400 = .ok (.iconst 5, 1) := by decide +kernel
theorem dX16_carry_401 : decode cX16_carry 401 = .ok (.invokestatic 297, 3) := by decide +kernel
theorem dX16_carry_404 : decode cX16_carry 404 = .ok (.invokevirtual 375, 3) := by decide +kernel
theorem dX16_carry_407 : decode cX16_carry 407 = .ok (.goto 11, 3) := by decide +kernel
theorem dX16_carry_410 : decode cX16_carry 410 = .ok (.iload_n 3, 1) := by decide +kernel
theorem dX16_carry_411 : decode cX16_carry 411 = .ok (.iload 4, 2) := by decide +kernel
theorem dX16_carry_413 : decode cX16_carry 413 = .ok (.iload 7, 2) := by decide +kernel
theorem dX16_carry_415 : decode cX16_carry 415 = .ok (.invokestatic 378, 3) := by decide +kernel
theorem dX16_carry_418 : decode cX16_carry 418 = .ok (.invokevirtual 362, 3) := by decide +kernel
theorem dX16_carry_421 : decode cX16_carry 421 = .ok (.goto 141, 3) := by decide +kernel
theorem dX16_carry_424 : decode cX16_carry 424 = .ok (.aload_n 0, 1) := by decide +kernel
theorem dX16_carry_425 : decode cX16_carry 425 = .ok (.iload_n 2, 1) := by decide +kernel
theorem dX16_carry_426 : decode cX16_carry 426 = .ok (.iload 6, 2) := by decide +kernel
theorem dX16_carry_428 : decode cX16_carry 428 = .ok (.iconst 1, 1) := by decide +kernel
theorem dX16_carry_429 : decode cX16_carry 429 = .ok (.if_icmp .ne 14, 3) := by decide +kernel
theorem dX16_carry_432 : decode cX16_carry 432 = .ok (.iload_n 3, 1) := by decide +kernel
theorem dX16_carry_433 : decode cX16_carry 433 = .ok (.iload 4, 2) := by decide +kernel
theorem dX16_carry_435 : decode cX16_carry 435 = .ok (.iload 5, 2) := by decide +kernel
theorem dX16_carry_437 : decode cX16_carry 437 = .ok (.invokestatic 381, 3) := by decide +kernel
theorem dX16_carry_440 : decode cX16_carry 440 = .ok (.goto 62, 3) := by decide +kernel
theorem dX16_carry_443 : decode cX16_carry 443 = .ok (.iload 6, 2) := by decide +kernel
theorem dX16_carry_445 : decode cX16_carry 445 = .ok (.ifCond .ne 24, 3) := by decide +kernel
theorem dX16_carry_448 : decode cX16_carry 448 = .ok (.iload_n 3, 1) := by decide +kernel
theorem dX16_carry_449 : decode cX16_carry 449 = .ok (.iconst 1, 1) := by decide +kernel
theorem dX16_carry_450 : decode cX16_carry 450 = .ok (.if_icmp .eq 19, 3) := by decide +kernel
theorem dX16_carry_453 : decode cX16_carry 453 = .ok (.iload_n 3, 1) := by decide +kernel
theorem dX16_carry_454 : decode cX16_carry 454 = .ok (.iconst 5, 1) := by decide +kernel
theorem dX16_carry_455 : decode cX16_carry 455 = .ok (.if_icmp .eq 14, 3) := by decide +kernel
theorem dX16_carry_458 : decode cX16_carry 458 = .ok (.iload_n 3, 1) := by decide +kernel
theorem dX16_carry_459 : decode cX16_carry 459 = .ok (.iload 4, 2) := by decide +kernel
theorem dX16_carry_461 : decode cX16_carry 461 = .ok (.iload 5, 2) := by decide +kernel
theorem dX16_carry_463 : decode cX16_carry 463 = .ok (.invokestatic 378, 3) := by decide +kernel
theorem dX16_carry_466 : decode cX16_carry 466 = .ok (.goto 36, 3) := by decide +kernel
theorem dX16_carry_469 : decode cX16_carry 469 = .ok (.iload 6, 2) := by decide +kernel
theorem dX16_carry_471 : decode cX16_carry 471 = .ok (.bipush 32, 2) := by decide +kernel
theorem dX16_carry_473 : decode cX16_carry 473 = .ok (.if_icmp .ne 15, 3) := by decide +kernel
theorem dX16_carry_476 : decode cX16_carry 476 = .ok (.iload_n 3, 1) := by decide +kernel
theorem dX16_carry_477 : decode cX16_carry 477 = .ok (.ifCond .ne 11, 3) := by decide +kernel
theorem dX16_carry_480 : decode cX16_carry 480 = .ok (.iload 4, 2) := by decide +kernel
theorem dX16_carry_482 : decode cX16_carry 482 = .ok (.iload 5, 2) := by decide +kernel
theorem dX16_carry_484 : decode cX16_carry 484 = .ok (.isub, 1) := by decide +kernel
theorem dX16_carry_485 : decode cX16_carry 485 = .ok (.goto 17, 3) := by decide +kernel
theorem dX16_carry_488 : decode cX16_carry 488 = .ok (.aload_n 0, 1) := by decide +kernel
theorem dX16_carry_489 : decode cX16_carry 489 = .ok (.iload_n 3, 1) := by decide +kernel
theorem dX16_carry_490 : decode cX16_carry 490 = .ok (.iload 6, 2) := by decide +kernel
theorem dX16_carry_492 : decode cX16_carry 492 = .ok (.iload 4, 2) := by decide +kernel
theorem dX16_carry_494 : decode cX16_carry 494 = .ok (.iload 5, 2) := by decide +kernel
theorem dX16_carry_496 : decode cX16_carry 496 = .ok (.bipush 31, 2) := by decide +kernel
theorem dX16_carry_498 : decode cX16_carry 498 = .ok (.iand, 1) := by decide +kernel
theorem dX16_carry_499 : decode cX16_carry 499 = .ok (.invokevirtual 375, 3) := by decide +kernel
theorem dX16_carry_502 : decode cX16_carry 502 = .ok (.invokevirtual 362, 3) := by decide +kernel
theorem dX16_carry_505 : decode cX16_carry 505 = .ok (.goto 57, 3) := by decide +kernel
theorem dX16_carry_508 : decode cX16_carry 508 = .ok (.aload_n 0, 1) := by decide +kernel
theorem dX16_carry_509 : decode cX16_carry 509 = .ok (.iload_n 2, 1) := by decide +kernel
theorem dX16_carry_510 : decode cX16_carry 510 = .ok (.aload_n 0, 1) := by decide +kernel
theorem dX16_carry_511 : decode cX16_carry 511 = .ok (.iload_n 1, 1) := by decide +kernel
theorem dX16_carry_512 : decode cX16_carry 512 = .ok (.iload_n 3, 1) := by decide +kernel
theorem dX16_carry_513 : decode cX16_carry 513 = .ok (.iload 6, 2) := by decide +kernel
theorem dX16_carry_515 : decode cX16_carry 515 = .ok (.iconst 2, 1) := by decide +kernel
theorem dX16_carry_516 : decode cX16_carry 516 = .ok (.ishr, 1) := by decide +kernel
theorem dX16_carry_517 : decode cX16_carry 517 = .ok (.iload 4, 2) := by decide +kernel
theorem dX16_carry_519 : decode cX16_carry 519 = .ok (.iload 5, 2) := by decide +kernel
theorem dX16_carry_521 : decode cX16_carry 521 = .ok (.invokevirtual 384, 3) := by decide +kernel
theorem dX16_carry_524 : decode cX16_carry 524 = .ok (.invokevirtual 362, 3) := by decide +kernel
theorem dX16_carry_527 : decode cX16_carry 527 = .ok (.goto 35, 3) := by decide +kernel
theorem dX16_carry_530 : decode cX16_carry 530 = .ok (.iload_n 3, 1) := by decide +kernel
theorem dX16_carry_531 : decode cX16_carry 531 = .ok (.iconst 1, 1) := by decide +kernel
theorem dX16_carry_532 : decode cX16_carry 532 = .ok (.if_icmp .le 30, 3) := by decide +kernel
theorem dX16_carry_535 : decode cX16_carry 535 = .ok (.aload_n 0, 1) := by decide +kernel
theorem dX16_carry_536 : decode cX16_carry 536 = .ok (.invokevirtual 356, 3) := by decide +kernel
theorem dX16_carry_539 : decode cX16_carry 539 = .ok (.pop, 1) := by decide +kernel
theorem dX16_carry_540 : decode cX16_carry 540 = .ok (.goto 22, 3) := by decide +kernel
theorem dX16_carry_543 : decode cX16_carry 543 = .ok (.aload_n 0, 1) := by decide +kernel
theorem dX16_carry_544 : decode cX16_carry 544 = .ok (.iload_n 2, 1) := by decide +kernel
theorem dX16_carry_545 : decode cX16_carry 545 = .ok (.aload_n 0, 1) := by decide +kernel
theorem dX16_carry_546 : decode cX16_carry 546 = .ok (.iload_n 1, 1) := by decide +kernel
theorem dX16_carry_547 : decode cX16_carry 547 = .ok (.iload_n 3, 1) := by decide +kernel
theorem dX16_carry_548 : decode cX16_carry 548 = .ok (.invokevirtual 387, 3) := by decide +kernel
theorem dX16_carry_551 : decode cX16_carry 551 = .ok (.invokevirtual 362, 3) := by decide +kernel
theorem dX16_carry_554 : decode cX16_carry 554 = .ok (.goto 8, 3) := by decide +kernel
theorem dX16_carry_557 : decode cX16_carry 557 = .ok (.aload_n 0, 1) := by decide +kernel
theorem dX16_carry_558 : decode cX16_carry 558 = .ok (.invokevirtual 356, 3) := by decide +kernel
theorem dX16_carry_561 : decode cX16_carry 561 = .ok (.pop, 1) := by decide +kernel
theorem dX16_carry_562 : decode cX16_carry 562 = .ok (.return_, 1) := by decide +kernel
theorem dX16_decide_0 : decode cX16_decide 0 = .ok (.iload_n 2, 1) := by decide +kernel
theorem dX16_decide_1 : decode cX16_decide 1 = .ok (.iconst 2, 1) := by decide +kernel
theorem dX16_decide_2 : decode cX16_decide 2 = .ok (.if_icmp .eq 8, 3) := by decide +kernel
theorem dX16_decide_5 : decode cX16_decide 5 = .ok (.iload_n 2, 1) := by decide +kernel
theorem dX16_decide_6 : decode cX16_decide 6 = .ok (.iconst 3, 1) := by decide +kernel
theorem dX16_decide_7 : decode cX16_decide 7 = .ok (.if_icmp .ne 9, 3) := by decide +kernel
theorem dX16_decide_10 : decode cX16_decide 10 = .ok (.aload_n 0, 1) := by decide +kernel
theorem dX16_decide_11 : decode cX16_decide 11 = .ok (.invokevirtual 356, 3) := by decide +kernel
theorem dX16_decide_14 : decode cX16_decide 14 = .ok (.pop, 1) := by decide +kernel
theorem dX16_decide_15 : decode cX16_decide 15 = .ok (.return_, 1) := by decide +kernel
theorem dX16_decide_16 : decode cX16_decide 16 = .ok (.iload_n 2, 1) := by decide +kernel
theorem dX16_decide_17 : decode cX16_decide 17 = .ok (.iconst 2, 1) := by decide +kernel
theorem dX16_decide_18 : decode cX16_decide 18 = .ok (.if_icmp .ge 17, 3) := by decide +kernel
theorem dX16_decide_21 : decode cX16_decide 21 = .ok (.iload_n 3, 1) := by decide +kernel
theorem dX16_decide_22 : decode cX16_decide 22 = .ok (.iload 4, 2) := by decide +kernel
theorem dX16_decide_24 : decode cX16_decide 24 = .ok (.if_icmp .ne 7, 3) := by decide +kernel
theorem dX16_decide_27 : decode cX16_decide 27 = .ok (.iconst 1, 1) := by decide +kernel
theorem dX16_decide_28 : decode cX16_decide 28 = .ok (.goto 45, 3) := by decide +kernel
theorem dX16_decide_31 : decode cX16_decide 31 = .ok (.iconst 0, 1) := by decide +kernel
theorem dX16_decide_32 : decode cX16_decide 32 = .ok (.goto 41, 3) := by decide +kernel
theorem dX16_decide_35 : decode cX16_decide 35 = .ok (.iload_n 2, 1) := by decide +kernel
theorem dX16_decide_36 : decode cX16_decide 36 = .ok (.bipush 6, 2) := by decide +kernel
theorem dX16_decide_38 : decode cX16_decide 38 = .ok (.if_icmp .ge 17, 3) := by decide +kernel
theorem dX16_decide_41 : decode cX16_decide 41 = .ok (.iload_n 3, 1) := by decide +kernel
theorem dX16_decide_42 : decode cX16_decide 42 = .ok (.iload 4, 2) := by decide +kernel
theorem dX16_decide_44 : decode cX16_decide 44 = .ok (.if_icmp .ge 7, 3) := by decide +kernel
theorem dX16_decide_47 : decode cX16_decide 47 = .ok (.iconst 1, 1) := by decide +kernel
theorem dX16_decide_48 : decode cX16_decide 48 = .ok (.goto 25, 3) := by decide +kernel
theorem dX16_decide_51 : decode cX16_decide 51 = .ok (.iconst 0, 1) := by decide +kernel
theorem dX16_decide_52 : decode cX16_decide 52 = .ok (.goto 21, 3) := by decide +kernel
theorem dX16_decide_55 : decode cX16_decide 55 = .ok (.iload_n 3, 1) := by decide +kernel
theorem dX16_decide_56 : decode cX16_decide 56 = .ok (.invokestatic 390, 3) := by decide +kernel
theorem dX16_decide_59 : decode cX16_decide 59 = .ok (.iload 4, 2) := by decide +kernel
theorem dX16_decide_61 : decode cX16_decide 61 = .ok (.invokestatic 390, 3) := by decide +kernel
theorem dX16_decide_64 : decode cX16_decide 64 = .ok (.lcmp, 1) := by decide +kernel
theorem dX16_decide_65 : decode cX16_decide 65 = .ok (.ifCond .ge 7, 3) := by decide +kernel
theorem dX16_decide_68 : decode cX16_decide 68 = .ok (.iconst 1, 1) := by decide +kernel
theorem dX16_decide_69 : decode cX16_decide 69 = .ok (.goto 4, 3) := by decide +kernel
theorem dX16_decide_72 : decode cX16_decide 72 = .ok (.iconst 0, 1) := by decide +kernel
theorem dX16_decide_73 : decode cX16_decide 73 = .ok (.istore 5, 2) := by decide +kernel
theorem dX16_decide_75 : decode cX16_decide 75 = .ok (.iload_n 2, 1) := by decide +kernel
theorem dX16_decide_76 : decode cX16_decide 76 = .ok (.iconst 1, 1) := by decide +kernel
theorem dX16_decide_77 : decode cX16_decide 77 = .ok (.iand, 1) := by decide +kernel
theorem dX16_decide_78 : decode cX16_decide 78 = .ok (.iconst 1, 1) := by decide +kernel
theorem dX16_decide_79 : decode cX16_decide 79 = .ok (.if_icmp .ne 15, 3) := by decide +kernel
theorem dX16_decide_82 : decode cX16_decide 82 = .ok (.iload 5, 2) := by decide +kernel
theorem dX16_decide_84 : decode cX16_decide 84 = .ok (.ifCond .ne 7, 3) := by decide +kernel
theorem dX16_decide_87 : decode cX16_decide 87 = .ok (.iconst 1, 1) := by decide +kernel
theorem dX16_decide_88 : decode cX16_decide 88 = .ok (.goto 4, 3) := by decide +kernel
theorem dX16_decide_91 : decode cX16_decide 91 = .ok (.iconst 0, 1) := by decide +kernel
theorem dX16_decide_92 : decode cX16_decide 92 = .ok (.istore 5, 2) := by decide +kernel
theorem dX16_decide_94 : decode cX16_decide 94 = .ok (.iload 5, 2) := by decide +kernel
theorem dX16_decide_96 : decode cX16_decide 96 = .ok (.ifCond .eq 60, 3) := by decide +kernel
theorem dX16_decide_99 : decode cX16_decide 99 = .ok (.aload_n 0, 1) := by decide +kernel
theorem dX16_decide_100 : decode cX16_decide 100 = .ok (.aload_n 0, 1) := by decide +kernel
theorem dX16_decide_101 : decode cX16_decide 101 = .ok (.getfield 45, 3) := by decide +kernel
theorem dX16_decide_104 : decode cX16_decide 104 = .ok (.aload_n 0, 1) := by decide +kernel
theorem dX16_decide_105 : decode cX16_decide 105 = .ok (.getfield 232, 3) := by decide +kernel
theorem dX16_decide_108 : decode cX16_decide 108 = .ok (.iaload, 1) := by decide +kernel
theorem dX16_decide_109 : decode cX16_decide 109 = .ok (.iload_n 1, 1) := by decide +kernel
theorem dX16_decide_110 : decode cX16_decide 110 = .ok (.bipush 31, 2) := by decide +kernel
theorem dX16_decide_112 : decode cX16_decide 112 = .ok (.iconst 1, 1) := by decide +kernel
theorem dX16_decide_113 : decode cX16_decide 113 = .ok (.bipush 12, 2) := by decide +kernel
theorem dX16_decide_115 : decode cX16_decide 115 = .ok (.invokestatic 300, 3) := by decide +kernel
theorem dX16_decide_118 : decode cX16_decide 118 = .ok (.iload_n 1, 1) := by decide +kernel
theorem dX16_decide_119 : decode cX16_decide 119 = .ok (.bipush 7, 2) := by decide +kernel
theorem dX16_decide_121 : decode cX16_decide 121 = .ok (.iconst 1, 1) := by decide +kernel
theorem dX16_decide_122 : decode cX16_decide 122 = .ok (.bipush 11, 2) := by decide +kernel
theorem dX16_decide_124 : decode cX16_decide 124 = .ok (.invokestatic 300, 3) := by decide +kernel
theorem dX16_decide_127 : decode cX16_decide 127 = .ok (.ior, 1) := by decide +kernel
theorem dX16_decide_128 : decode cX16_decide 128 = .ok (.iload_n 1, 1) := by decide +kernel
theorem dX16_decide_129 : decode cX16_decide 129 = .ok (.bipush 25, 2) := by decide +kernel
theorem dX16_decide_131 : decode cX16_decide 131 = .ok (.bipush 6, 2) := by decide +kernel
theorem dX16_decide_133 : decode cX16_decide 133 = .ok (.iconst 5, 1) := by decide +kernel
theorem dX16_decide_134 : decode cX16_decide 134 = .ok (.invokestatic 300, 3) := by decide +kernel
theorem dX16_decide_137 : decode cX16_decide 137 = .ok (.ior, 1) := by decide +kernel
theorem dX16_decide_138 : decode cX16_decide 138 = .ok (.iload_n 1, 1) := by decide +kernel
theorem dX16_decide_139 : decode cX16_decide 139 = .ok (.bipush 8, 2) := by decide +kernel
theorem dX16_decide_141 : decode cX16_decide 141 = .ok (.iconst 4, 1) := by decide +kernel
theorem dX16_decide_142 : decode cX16_decide 142 = .ok (.iconst 1, 1) := by decide +kernel
theorem dX16_decide_143 : decode cX16_decide 143 = .ok (.invokestatic 300, 3) := by decide +kernel
theorem dX16_decide_146 : decode cX16_decide 146 = .ok (.ior, 1) := by decide +kernel
theorem dX16_decide_147 : decode cX16_decide 147 = .ok (.bipush 13, 2) := by decide +kernel
theorem dX16_decide_149 : decode cX16_decide 149 = .ok (.invokestatic 320, 3) := by decide +kernel
theorem dX16_decide_152 : decode cX16_decide 152 = .ok (.iadd, 1) := by decide +kernel
theorem dX16_decide_153 : decode cX16_decide 153 = .ok (.putfield 350, 3) := by decide +kernel
theorem dX16_decide_156 : decode cX16_decide 156 = .ok (.return_, 1) := by decide +kernel
theorem dX16_reckoned_0 : decode cX16_reckoned 0 = .ok (.iload_n 0, 1) := by decide +kernel
theorem dX16_reckoned_1 : decode cX16_reckoned 1 = .ok (.tableswitch 84 0 6 #[43, 84, 47, 58, 76, 84, 80], 43) := by decide +kernel
theorem dX16_reckoned_44 : decode cX16_reckoned 44 = .ok (.iload_n 1, 1) := by decide +kernel
theorem dX16_reckoned_45 : decode cX16_reckoned 45 = .ok (.iload_n 2, 1) := by decide +kernel
theorem dX16_reckoned_46 : decode cX16_reckoned 46 = .ok (.iadd, 1) := by decide +kernel
theorem dX16_reckoned_47 : decode cX16_reckoned 47 = .ok (.ireturn, 1) := by decide +kernel
theorem dX16_reckoned_48 : decode cX16_reckoned 48 = .ok (.iload_n 1, 1) := by decide +kernel
theorem dX16_reckoned_49 : decode cX16_reckoned 49 = .ok (.iload_n 2, 1) := by decide +kernel
theorem dX16_reckoned_50 : decode cX16_reckoned 50 = .ok (.if_icmp .ge 7, 3) := by decide +kernel
theorem dX16_reckoned_53 : decode cX16_reckoned 53 = .ok (.iconst 1, 1) := by decide +kernel
theorem dX16_reckoned_54 : decode cX16_reckoned 54 = .ok (.goto 4, 3) := by decide +kernel
theorem dX16_reckoned_57 : decode cX16_reckoned 57 = .ok (.iconst 0, 1) := by decide +kernel
theorem dX16_reckoned_58 : decode cX16_reckoned 58 = .ok (.ireturn, 1) := by decide +kernel
theorem dX16_reckoned_59 : decode cX16_reckoned 59 = .ok (.iload_n 1, 1) := by decide +kernel
theorem dX16_reckoned_60 : decode cX16_reckoned 60 = .ok (.invokestatic 390, 3) := by decide +kernel
theorem dX16_reckoned_63 : decode cX16_reckoned 63 = .ok (.iload_n 2, 1) := by decide +kernel
theorem dX16_reckoned_64 : decode cX16_reckoned 64 = .ok (.invokestatic 390, 3) := by decide +kernel
theorem dX16_reckoned_67 : decode cX16_reckoned 67 = .ok (.lcmp, 1) := by decide +kernel
theorem dX16_reckoned_68 : decode cX16_reckoned 68 = .ok (.ifCond .ge 7, 3) := by decide +kernel
theorem dX16_reckoned_71 : decode cX16_reckoned 71 = .ok (.iconst 1, 1) := by decide +kernel
theorem dX16_reckoned_72 : decode cX16_reckoned 72 = .ok (.goto 4, 3) := by decide +kernel
theorem dX16_reckoned_75 : decode cX16_reckoned 75 = .ok (.iconst 0, 1) := by decide +kernel
theorem dX16_reckoned_76 : decode cX16_reckoned 76 = .ok (.ireturn, 1) := by decide +kernel
theorem dX16_reckoned_77 : decode cX16_reckoned 77 = .ok (.iload_n 1, 1) := by decide +kernel
theorem dX16_reckoned_78 : decode cX16_reckoned 78 = .ok (.iload_n 2, 1) := by decide +kernel
theorem dX16_reckoned_79 : decode cX16_reckoned 79 = .ok (.ixor, 1) := by decide +kernel
theorem dX16_reckoned_80 : decode cX16_reckoned 80 = .ok (.ireturn, 1) := by decide +kernel
theorem dX16_reckoned_81 : decode cX16_reckoned 81 = .ok (.iload_n 1, 1) := by decide +kernel
theorem dX16_reckoned_82 : decode cX16_reckoned 82 = .ok (.iload_n 2, 1) := by decide +kernel
theorem dX16_reckoned_83 : decode cX16_reckoned 83 = .ok (.ior, 1) := by decide +kernel
theorem dX16_reckoned_84 : decode cX16_reckoned 84 = .ok (.ireturn, 1) := by decide +kernel
theorem dX16_reckoned_85 : decode cX16_reckoned 85 = .ok (.iload_n 1, 1) := by decide +kernel
theorem dX16_reckoned_86 : decode cX16_reckoned 86 = .ok (.iload_n 2, 1) := by decide +kernel
theorem dX16_reckoned_87 : decode cX16_reckoned 87 = .ok (.iand, 1) := by decide +kernel
theorem dX16_reckoned_88 : decode cX16_reckoned 88 = .ok (.ireturn, 1) := by decide +kernel
theorem dX16_shifted_0 : decode cX16_shifted 0 = .ok (.iload_n 1, 1) := by decide +kernel
theorem dX16_shifted_1 : decode cX16_shifted 1 = .ok (.iconst 1, 1) := by decide +kernel
theorem dX16_shifted_2 : decode cX16_shifted 2 = .ok (.if_icmp .ne 12, 3) := by decide +kernel
theorem dX16_shifted_5 : decode cX16_shifted 5 = .ok (.iload_n 2, 1) := by decide +kernel
theorem dX16_shifted_6 : decode cX16_shifted 6 = .ok (.ifCond .ne 8, 3) := by decide +kernel
theorem dX16_shifted_9 : decode cX16_shifted 9 = .ok (.iload_n 3, 1) := by decide +kernel
theorem dX16_shifted_10 : decode cX16_shifted 10 = .ok (.iload 4, 2) := by decide +kernel
theorem dX16_shifted_12 : decode cX16_shifted 12 = .ok (.ishl, 1) := by decide +kernel
theorem dX16_shifted_13 : decode cX16_shifted 13 = .ok (.ireturn, 1) := by decide +kernel
theorem dX16_shifted_14 : decode cX16_shifted 14 = .ok (.iload_n 1, 1) := by decide +kernel
theorem dX16_shifted_15 : decode cX16_shifted 15 = .ok (.iconst 5, 1) := by decide +kernel
theorem dX16_shifted_16 : decode cX16_shifted 16 = .ok (.if_icmp .ne 12, 3) := by decide +kernel
theorem dX16_shifted_19 : decode cX16_shifted 19 = .ok (.iload_n 2, 1) := by decide +kernel
theorem dX16_shifted_20 : decode cX16_shifted 20 = .ok (.ifCond .ne 8, 3) := by decide +kernel
theorem dX16_shifted_23 : decode cX16_shifted 23 = .ok (.iload_n 3, 1) := by decide +kernel
theorem dX16_shifted_24 : decode cX16_shifted 24 = .ok (.iload 4, 2) := by decide +kernel
theorem dX16_shifted_26 : decode cX16_shifted 26 = .ok (.iushr, 1) := by decide +kernel
theorem dX16_shifted_27 : decode cX16_shifted 27 = .ok (.ireturn, 1) := by decide +kernel
theorem dX16_shifted_28 : decode cX16_shifted 28 = .ok (.iload_n 1, 1) := by decide +kernel
theorem dX16_shifted_29 : decode cX16_shifted 29 = .ok (.iconst 5, 1) := by decide +kernel
theorem dX16_shifted_30 : decode cX16_shifted 30 = .ok (.if_icmp .ne 16, 3) := by decide +kernel
theorem dX16_shifted_33 : decode cX16_shifted 33 = .ok (.iload_n 2, 1) := by decide +kernel
theorem dX16_shifted_34 : decode cX16_shifted 34 = .ok (.bipush 32, 2) := by decide +kernel
theorem dX16_shifted_36 : decode cX16_shifted 36 = .ok (.if_icmp .ne 10, 3) := by decide +kernel
theorem dX16_shifted_39 : decode cX16_shifted 39 = .ok (.iload_n 3, 1) := by decide +kernel
theorem dX16_shifted_40 : decode cX16_shifted 40 = .ok (.iload 4, 2) := by decide +kernel
theorem dX16_shifted_42 : decode cX16_shifted 42 = .ok (.ishr, 1) := by decide +kernel
theorem dX16_shifted_43 : decode cX16_shifted 43 = .ok (.goto 7, 3) := by decide +kernel
theorem dX16_shifted_46 : decode cX16_shifted 46 = .ok (.aload_n 0, 1) := by decide +kernel
theorem dX16_shifted_47 : decode cX16_shifted 47 = .ok (.invokevirtual 356, 3) := by decide +kernel
theorem dX16_shifted_50 : decode cX16_shifted 50 = .ok (.ireturn, 1) := by decide +kernel
theorem dX16_multiplied_0 : decode cX16_multiplied 0 = .ok (.iload_n 1, 1) := by decide +kernel
theorem dX16_multiplied_1 : decode cX16_multiplied 1 = .ok (.invokestatic 390, 3) := by decide +kernel
theorem dX16_multiplied_4 : decode cX16_multiplied 4 = .ok (.lstore_n 3, 1) := by decide +kernel
theorem dX16_multiplied_5 : decode cX16_multiplied 5 = .ok (.iload_n 2, 1) := by decide +kernel
theorem dX16_multiplied_6 : decode cX16_multiplied 6 = .ok (.invokestatic 390, 3) := by decide +kernel
theorem dX16_multiplied_9 : decode cX16_multiplied 9 = .ok (.lstore 5, 2) := by decide +kernel
theorem dX16_multiplied_11 : decode cX16_multiplied 11 = .ok (.iload_n 0, 1) := by decide +kernel
theorem dX16_multiplied_12 : decode cX16_multiplied 12 = .ok (.tableswitch 121 0 6 #[44, 48, 58, 68, 77, 92, 106], 44) := by decide +kernel
theorem dX16_multiplied_56 : decode cX16_multiplied 56 = .ok (.iload_n 1, 1) := by decide +kernel
theorem dX16_multiplied_57 : decode cX16_multiplied 57 = .ok (.iload_n 2, 1) := by decide +kernel
theorem dX16_multiplied_58 : decode cX16_multiplied 58 = .ok (.imul, 1) := by decide +kernel
theorem dX16_multiplied_59 : decode cX16_multiplied 59 = .ok (.ireturn, 1) := by decide +kernel
theorem dX16_multiplied_60 : decode cX16_multiplied 60 = .ok (.iload_n 1, 1) := by decide +kernel
theorem dX16_multiplied_61 : decode cX16_multiplied 61 = .ok (.i2l, 1) := by decide +kernel
theorem dX16_multiplied_62 : decode cX16_multiplied 62 = .ok (.iload_n 2, 1) := by decide +kernel
theorem dX16_multiplied_63 : decode cX16_multiplied 63 = .ok (.i2l, 1) := by decide +kernel
theorem dX16_multiplied_64 : decode cX16_multiplied 64 = .ok (.lmul, 1) := by decide +kernel
theorem dX16_multiplied_65 : decode cX16_multiplied 65 = .ok (.bipush 32, 2) := by decide +kernel
theorem dX16_multiplied_67 : decode cX16_multiplied 67 = .ok (.lshr, 1) := by decide +kernel
theorem dX16_multiplied_68 : decode cX16_multiplied 68 = .ok (.l2i, 1) := by decide +kernel
theorem dX16_multiplied_69 : decode cX16_multiplied 69 = .ok (.ireturn, 1) := by decide +kernel
theorem dX16_multiplied_70 : decode cX16_multiplied 70 = .ok (.iload_n 1, 1) := by decide +kernel
theorem dX16_multiplied_71 : decode cX16_multiplied 71 = .ok (.i2l, 1) := by decide +kernel
theorem dX16_multiplied_72 : decode cX16_multiplied 72 = .ok (.lload 5, 2) := by decide +kernel
theorem dX16_multiplied_74 : decode cX16_multiplied 74 = .ok (.lmul, 1) := by decide +kernel
theorem dX16_multiplied_75 : decode cX16_multiplied 75 = .ok (.bipush 32, 2) := by decide +kernel
theorem dX16_multiplied_77 : decode cX16_multiplied 77 = .ok (.lshr, 1) := by decide +kernel
theorem dX16_multiplied_78 : decode cX16_multiplied 78 = .ok (.l2i, 1) := by decide +kernel
theorem dX16_multiplied_79 : decode cX16_multiplied 79 = .ok (.ireturn, 1) := by decide +kernel
theorem dX16_multiplied_80 : decode cX16_multiplied 80 = .ok (.lload_n 3, 1) := by decide +kernel
theorem dX16_multiplied_81 : decode cX16_multiplied 81 = .ok (.lload 5, 2) := by decide +kernel
theorem dX16_multiplied_83 : decode cX16_multiplied 83 = .ok (.lmul, 1) := by decide +kernel
theorem dX16_multiplied_84 : decode cX16_multiplied 84 = .ok (.bipush 32, 2) := by decide +kernel
theorem dX16_multiplied_86 : decode cX16_multiplied 86 = .ok (.lushr, 1) := by decide +kernel
theorem dX16_multiplied_87 : decode cX16_multiplied 87 = .ok (.l2i, 1) := by decide +kernel
theorem dX16_multiplied_88 : decode cX16_multiplied 88 = .ok (.ireturn, 1) := by decide +kernel
theorem dX16_multiplied_89 : decode cX16_multiplied 89 = .ok (.iload_n 2, 1) := by decide +kernel
theorem dX16_multiplied_90 : decode cX16_multiplied 90 = .ok (.ifCond .ne 7, 3) := by decide +kernel
theorem dX16_multiplied_93 : decode cX16_multiplied 93 = .ok (.iconst (-1), 1) := by decide +kernel
theorem dX16_multiplied_94 : decode cX16_multiplied 94 = .ok (.goto 9, 3) := by decide +kernel
theorem dX16_multiplied_97 : decode cX16_multiplied 97 = .ok (.iload_n 1, 1) := by decide +kernel
theorem dX16_multiplied_98 : decode cX16_multiplied 98 = .ok (.i2l, 1) := by decide +kernel
