theorem dX13_longs_300 : decode cX13_longs 300 = .ok (.aload_n 0, 1) := by decide +kernel
theorem dX13_longs_301 : decode cX13_longs 301 = .ok (.sipush (-2048), 3) := by decide +kernel
theorem dX13_longs_304 : decode cX13_longs 304 = .ok (.sipush 2047, 3) := by decide +kernel
theorem dX13_longs_307 : decode cX13_longs 307 = .ok (.iconst 1, 1) := by decide +kernel
theorem dX13_longs_308 : decode cX13_longs 308 = .ok (.invokevirtual 585, 3) := by decide +kernel
theorem dX13_longs_311 : decode cX13_longs 311 = .ok (.bipush 20, 2) := by decide +kernel
theorem dX13_longs_313 : decode cX13_longs 313 = .ok (.ishl, 1) := by decide +kernel
theorem dX13_longs_314 : decode cX13_longs 314 = .ok (.ior, 1) := by decide +kernel
theorem dX13_longs_315 : decode cX13_longs 315 = .ok (.invokevirtual 570, 3) := by decide +kernel
theorem dX13_longs_318 : decode cX13_longs 318 = .ok (.goto 66, 3) := by decide +kernel
theorem dX13_longs_321 : decode cX13_longs 321 = .ok (.iload_n 1, 1) := by decide +kernel
theorem dX13_longs_322 : decode cX13_longs 322 = .ok (.iconst 3, 1) := by decide +kernel
theorem dX13_longs_323 : decode cX13_longs 323 = .ok (.if_icmp .ne 37, 3) := by decide +kernel
theorem dX13_longs_326 : decode cX13_longs 326 = .ok (.aload_n 0, 1) := by decide +kernel
theorem dX13_longs_327 : decode cX13_longs 327 = .ok (.iload_n 2, 1) := by decide +kernel
theorem dX13_longs_328 : decode cX13_longs 328 = .ok (.iload_n 3, 1) := by decide +kernel
theorem dX13_longs_329 : decode cX13_longs 329 = .ok (.bipush 7, 2) := by decide +kernel
theorem dX13_longs_331 : decode cX13_longs 331 = .ok (.ishl, 1) := by decide +kernel
theorem dX13_longs_332 : decode cX13_longs 332 = .ok (.ior, 1) := by decide +kernel
theorem dX13_longs_333 : decode cX13_longs 333 = .ok (.iload 4, 2) := by decide +kernel
theorem dX13_longs_335 : decode cX13_longs 335 = .ok (.bipush 15, 2) := by decide +kernel
theorem dX13_longs_337 : decode cX13_longs 337 = .ok (.ishl, 1) := by decide +kernel
theorem dX13_longs_338 : decode cX13_longs 338 = .ok (.ior, 1) := by decide +kernel
theorem dX13_longs_339 : decode cX13_longs 339 = .ok (.aload_n 0, 1) := by decide +kernel
theorem dX13_longs_340 : decode cX13_longs 340 = .ok (.iconst 0, 1) := by decide +kernel
theorem dX13_longs_341 : decode cX13_longs 341 = .ok (.bipush 31, 2) := by decide +kernel
theorem dX13_longs_343 : decode cX13_longs 343 = .ok (.iconst 1, 1) := by decide +kernel
theorem dX13_longs_344 : decode cX13_longs 344 = .ok (.invokevirtual 585, 3) := by decide +kernel
theorem dX13_longs_347 : decode cX13_longs 347 = .ok (.bipush 31, 2) := by decide +kernel
theorem dX13_longs_349 : decode cX13_longs 349 = .ok (.iand, 1) := by decide +kernel
theorem dX13_longs_350 : decode cX13_longs 350 = .ok (.bipush 20, 2) := by decide +kernel
theorem dX13_longs_352 : decode cX13_longs 352 = .ok (.ishl, 1) := by decide +kernel
theorem dX13_longs_353 : decode cX13_longs 353 = .ok (.ior, 1) := by decide +kernel
theorem dX13_longs_354 : decode cX13_longs 354 = .ok (.invokevirtual 570, 3) := by decide +kernel
theorem dX13_longs_357 : decode cX13_longs 357 = .ok (.goto 27, 3) := by decide +kernel
theorem dX13_longs_360 : decode cX13_longs 360 = .ok (.aload_n 0, 1) := by decide +kernel
theorem dX13_longs_361 : decode cX13_longs 361 = .ok (.iload_n 2, 1) := by decide +kernel
theorem dX13_longs_362 : decode cX13_longs 362 = .ok (.iload_n 3, 1) := by decide +kernel
theorem dX13_longs_363 : decode cX13_longs 363 = .ok (.bipush 7, 2) := by decide +kernel
theorem dX13_longs_365 : decode cX13_longs 365 = .ok (.ishl, 1) := by decide +kernel
theorem dX13_longs_366 : decode cX13_longs 366 = .ok (.ior, 1) := by decide +kernel
theorem dX13_longs_367 : decode cX13_longs 367 = .ok (.iload 4, 2) := by decide +kernel
theorem dX13_longs_369 : decode cX13_longs 369 = .ok (.bipush 20, 2) := by decide +kernel
theorem dX13_longs_371 : decode cX13_longs 371 = .ok (.ishl, 1) := by decide +kernel
theorem dX13_longs_372 : decode cX13_longs 372 = .ok (.ior, 1) := by decide +kernel
theorem dX13_longs_373 : decode cX13_longs 373 = .ok (.aload_n 0, 1) := by decide +kernel
theorem dX13_longs_374 : decode cX13_longs 374 = .ok (.invokevirtual 588, 3) := by decide +kernel
theorem dX13_longs_377 : decode cX13_longs 377 = .ok (.bipush 15, 2) := by decide +kernel
theorem dX13_longs_379 : decode cX13_longs 379 = .ok (.ishl, 1) := by decide +kernel
theorem dX13_longs_380 : decode cX13_longs 380 = .ok (.ior, 1) := by decide +kernel
theorem dX13_longs_381 : decode cX13_longs 381 = .ok (.invokevirtual 570, 3) := by decide +kernel
theorem dX13_longs_384 : decode cX13_longs 384 = .ok (.return_, 1) := by decide +kernel
theorem dX13_branches_0 : decode cX13_branches 0 = .ok (.aload_n 0, 1) := by decide +kernel
theorem dX13_branches_1 : decode cX13_branches 1 = .ok (.invokevirtual 532, 3) := by decide +kernel
theorem dX13_branches_4 : decode cX13_branches 4 = .ok (.istore_n 3, 1) := by decide +kernel
theorem dX13_branches_5 : decode cX13_branches 5 = .ok (.iload_n 1, 1) := by decide +kernel
theorem dX13_branches_6 : decode cX13_branches 6 = .ok (.bipush 7, 2) := by decide +kernel
theorem dX13_branches_8 : decode cX13_branches 8 = .ok (.if_icmp .eq 9, 3) := by decide +kernel
theorem dX13_branches_11 : decode cX13_branches 11 = .ok (.iload_n 1, 1) := by decide +kernel
theorem dX13_branches_12 : decode cX13_branches 12 = .ok (.bipush 37, 2) := by decide +kernel
theorem dX13_branches_14 : decode cX13_branches 14 = .ok (.if_icmp .ne 10, 3) := by decide +kernel
theorem dX13_branches_17 : decode cX13_branches 17 = .ok (.aload_n 0, 1) := by decide +kernel
theorem dX13_branches_18 : decode cX13_branches 18 = .ok (.invokevirtual 592, 3) := by decide +kernel
theorem dX13_branches_21 : decode cX13_branches 21 = .ok (.goto 4, 3) := by decide +kernel
theorem dX13_branches_24 : decode cX13_branches 24 = .ok (.iconst 0, 1) := by decide +kernel
theorem dX13_branches_25 : decode cX13_branches 25 = .ok (.istore 4, 2) := by decide +kernel
theorem dX13_branches_27 : decode cX13_branches 27 = .ok (.aload_n 0, 1) := by decide +kernel
theorem dX13_branches_28 : decode cX13_branches 28 = .ok (.invokevirtual 582, 3) := by decide +kernel
theorem dX13_branches_31 : decode cX13_branches 31 = .ok (.ifCond .ne 4, 3) := by decide +kernel
theorem dX13_branches_34 : decode cX13_branches 34 = .ok (.return_, 1) := by decide +kernel
theorem dX13_branches_35 : decode cX13_branches 35 = .ok (.iload_n 1, 1) := by decide +kernel
theorem dX13_branches_36 : decode cX13_branches 36 = .ok (.bipush 35, 2) := by decide +kernel
theorem dX13_branches_38 : decode cX13_branches 38 = .ok (.if_icmp .ne 30, 3) := by decide +kernel
theorem dX13_branches_41 : decode cX13_branches 41 = .ok (.iload_n 2, 1) := by decide +kernel
theorem dX13_branches_42 : decode cX13_branches 42 = .ok (.bipush 12, 2) := by decide +kernel
theorem dX13_branches_44 : decode cX13_branches 44 = .ok (.ishr, 1) := by decide +kernel
theorem dX13_branches_45 : decode cX13_branches 45 = .ok (.bipush 7, 2) := by decide +kernel
theorem dX13_branches_47 : decode cX13_branches 47 = .ok (.iand, 1) := by decide +kernel
theorem dX13_branches_48 : decode cX13_branches 48 = .ok (.iconst 2, 1) := by decide +kernel
theorem dX13_branches_49 : decode cX13_branches 49 = .ok (.if_icmp .ge 19, 3) := by decide +kernel
theorem dX13_branches_52 : decode cX13_branches 52 = .ok (.iload_n 3, 1) := by decide +kernel
theorem dX13_branches_53 : decode cX13_branches 53 = .ok (.bipush 7, 2) := by decide +kernel
theorem dX13_branches_55 : decode cX13_branches 55 = .ok (.if_icmp .le 13, 3) := by decide +kernel
theorem dX13_branches_58 : decode cX13_branches 58 = .ok (.iload_n 3, 1) := by decide +kernel
theorem dX13_branches_59 : decode cX13_branches 59 = .ok (.bipush 16, 2) := by decide +kernel
theorem dX13_branches_61 : decode cX13_branches 61 = .ok (.if_icmp .ge 7, 3) := by decide +kernel
theorem dX13_branches_64 : decode cX13_branches 64 = .ok (.iconst 1, 1) := by decide +kernel
theorem dX13_branches_65 : decode cX13_branches 65 = .ok (.goto 4, 3) := by decide +kernel
theorem dX13_branches_68 : decode cX13_branches 68 = .ok (.iconst 0, 1) := by decide +kernel
theorem dX13_branches_69 : decode cX13_branches 69 = .ok (.istore 5, 2) := by decide +kernel
theorem dX13_branches_71 : decode cX13_branches 71 = .ok (.iload_n 1, 1) := by decide +kernel
theorem dX13_branches_72 : decode cX13_branches 72 = .ok (.bipush 7, 2) := by decide +kernel
theorem dX13_branches_74 : decode cX13_branches 74 = .ok (.if_icmp .eq 9, 3) := by decide +kernel
theorem dX13_branches_77 : decode cX13_branches 77 = .ok (.iload_n 1, 1) := by decide +kernel
theorem dX13_branches_78 : decode cX13_branches 78 = .ok (.bipush 35, 2) := by decide +kernel
theorem dX13_branches_80 : decode cX13_branches 80 = .ok (.if_icmp .ne 16, 3) := by decide +kernel
theorem dX13_branches_83 : decode cX13_branches 83 = .ok (.aload_n 0, 1) := by decide +kernel
theorem dX13_branches_84 : decode cX13_branches 84 = .ok (.iload_n 2, 1) := by decide +kernel
theorem dX13_branches_85 : decode cX13_branches 85 = .ok (.iload_n 3, 1) := by decide +kernel
theorem dX13_branches_86 : decode cX13_branches 86 = .ok (.iload 4, 2) := by decide +kernel
theorem dX13_branches_88 : decode cX13_branches 88 = .ok (.iload 5, 2) := by decide +kernel
theorem dX13_branches_90 : decode cX13_branches 90 = .ok (.invokevirtual 595, 3) := by decide +kernel
theorem dX13_branches_93 : decode cX13_branches 93 = .ok (.goto 12, 3) := by decide +kernel
theorem dX13_branches_96 : decode cX13_branches 96 = .ok (.aload_n 0, 1) := by decide +kernel
theorem dX13_branches_97 : decode cX13_branches 97 = .ok (.iload_n 2, 1) := by decide +kernel
theorem dX13_branches_98 : decode cX13_branches 98 = .ok (.iload 4, 2) := by decide +kernel
theorem dX13_branches_100 : decode cX13_branches 100 = .ok (.iload_n 3, 1) := by decide +kernel
theorem dX13_branches_101 : decode cX13_branches 101 = .ok (.iconst 0, 1) := by decide +kernel
theorem dX13_branches_102 : decode cX13_branches 102 = .ok (.invokevirtual 595, 3) := by decide +kernel
theorem dX13_branches_105 : decode cX13_branches 105 = .ok (.return_, 1) := by decide +kernel
theorem dX13_jumps_0 : decode cX13_jumps 0 = .ok (.aload_n 0, 1) := by decide +kernel
theorem dX13_jumps_1 : decode cX13_jumps 1 = .ok (.getfield 374, 3) := by decide +kernel
theorem dX13_jumps_4 : decode cX13_jumps 4 = .ok (.istore_n 3, 1) := by decide +kernel
theorem dX13_jumps_5 : decode cX13_jumps 5 = .ok (.aload_n 0, 1) := by decide +kernel
theorem dX13_jumps_6 : decode cX13_jumps 6 = .ok (.invokevirtual 416, 3) := by decide +kernel
theorem dX13_jumps_9 : decode cX13_jumps 9 = .ok (.aload_n 0, 1) := by decide +kernel
theorem dX13_jumps_10 : decode cX13_jumps 10 = .ok (.getfield 365, 3) := by decide +kernel
theorem dX13_jumps_13 : decode cX13_jumps 13 = .ok (.iconst 1, 1) := by decide +kernel
theorem dX13_jumps_14 : decode cX13_jumps 14 = .ok (.if_icmp .ne 22, 3) := by decide +kernel
theorem dX13_jumps_17 : decode cX13_jumps 17 = .ok (.aload_n 0, 1) := by decide +kernel
theorem dX13_jumps_18 : decode cX13_jumps 18 = .ok (.aload_n 0, 1) := by decide +kernel
theorem dX13_jumps_19 : decode cX13_jumps 19 = .ok (.getfield 368, 3) := by decide +kernel
theorem dX13_jumps_22 : decode cX13_jumps 22 = .ok (.aload_n 0, 1) := by decide +kernel
theorem dX13_jumps_23 : decode cX13_jumps 23 = .ok (.getfield 371, 3) := by decide +kernel
theorem dX13_jumps_26 : decode cX13_jumps 26 = .ok (.invokevirtual 477, 3) := by decide +kernel
theorem dX13_jumps_29 : decode cX13_jumps 29 = .ok (.ifCond .lt 7, 3) := by decide +kernel
theorem dX13_jumps_32 : decode cX13_jumps 32 = .ok (.iconst 1, 1) := by decide +kernel
theorem dX13_jumps_33 : decode cX13_jumps 33 = .ok (.goto 4, 3) := by decide +kernel
theorem dX13_jumps_36 : decode cX13_jumps 36 = .ok (.iconst 0, 1) := by decide +kernel
theorem dX13_jumps_37 : decode cX13_jumps 37 = .ok (.istore 4, 2) := by decide +kernel
theorem dX13_jumps_39 : decode cX13_jumps 39 = .ok (.aload_n 0, 1) := by decide +kernel
theorem dX13_jumps_40 : decode cX13_jumps 40 = .ok (.iload_n 3, 1) := by decide +kernel
theorem dX13_jumps_41 : decode cX13_jumps 41 = .ok (.putfield 374, 3) := by decide +kernel
theorem dX13_jumps_44 : decode cX13_jumps 44 = .ok (.iload_n 1, 1) := by decide +kernel
theorem dX13_jumps_45 : decode cX13_jumps 45 = .ok (.bipush 34, 2) := by decide +kernel
theorem dX13_jumps_47 : decode cX13_jumps 47 = .ok (.if_icmp .eq 8, 3) := by decide +kernel
theorem dX13_jumps_50 : decode cX13_jumps 50 = .ok (.iload 4, 2) := by decide +kernel
theorem dX13_jumps_52 : decode cX13_jumps 52 = .ok (.ifCond .ne 19, 3) := by decide +kernel
theorem dX13_jumps_55 : decode cX13_jumps 55 = .ok (.aload_n 0, 1) := by decide +kernel
theorem dX13_jumps_56 : decode cX13_jumps 56 = .ok (.iload_n 1, 1) := by decide +kernel
theorem dX13_jumps_57 : decode cX13_jumps 57 = .ok (.bipush 34, 2) := by decide +kernel
theorem dX13_jumps_59 : decode cX13_jumps 59 = .ok (.if_icmp .ne 7, 3) := by decide +kernel
theorem dX13_jumps_62 : decode cX13_jumps 62 = .ok (.iload_n 2, 1) := by decide +kernel
theorem dX13_jumps_63 : decode cX13_jumps 63 = .ok (.goto 4, 3) := by decide +kernel
theorem dX13_jumps_66 : decode cX13_jumps 66 = .ok (.iconst 1, 1) := by decide +kernel
theorem dX13_jumps_67 : decode cX13_jumps 67 = .ok (.invokevirtual 599, 3) := by decide +kernel
theorem dX13_jumps_70 : decode cX13_jumps 70 = .ok (.return_, 1) := by decide +kernel
theorem dX13_jumps_71 : decode cX13_jumps 71 = .ok (.aload_n 0, 1) := by decide +kernel
theorem dX13_jumps_72 : decode cX13_jumps 72 = .ok (.invokevirtual 532, 3) := by decide +kernel
theorem dX13_jumps_75 : decode cX13_jumps 75 = .ok (.istore 5, 2) := by decide +kernel
theorem dX13_jumps_77 : decode cX13_jumps 77 = .ok (.aload_n 0, 1) := by decide +kernel
theorem dX13_jumps_78 : decode cX13_jumps 78 = .ok (.invokevirtual 582, 3) := by decide +kernel
theorem dX13_jumps_81 : decode cX13_jumps 81 = .ok (.ifCond .ne 4, 3) := by decide +kernel
theorem dX13_jumps_84 : decode cX13_jumps 84 = .ok (.return_, 1) := by decide +kernel
theorem dX13_jumps_85 : decode cX13_jumps 85 = .ok (.aload_n 0, 1) := by decide +kernel
theorem dX13_jumps_86 : decode cX13_jumps 86 = .ok (.invokevirtual 525, 3) := by decide +kernel
theorem dX13_jumps_89 : decode cX13_jumps 89 = .ok (.aload_n 0, 1) := by decide +kernel
theorem dX13_jumps_90 : decode cX13_jumps 90 = .ok (.getfield 486, 3) := by decide +kernel
theorem dX13_jumps_93 : decode cX13_jumps 93 = .ok (.isub, 1) := by decide +kernel
theorem dX13_jumps_94 : decode cX13_jumps 94 = .ok (.istore 6, 2) := by decide +kernel
theorem dX13_jumps_96 : decode cX13_jumps 96 = .ok (.aload_n 0, 1) := by decide +kernel
theorem dX13_jumps_97 : decode cX13_jumps 97 = .ok (.iload 6, 2) := by decide +kernel
theorem dX13_jumps_99 : decode cX13_jumps 99 = .ok (.ldc_w 602, 3) := by decide +kernel
theorem dX13_jumps_102 : decode cX13_jumps 102 = .ok (.ldc_w 557, 3) := by decide +kernel
theorem dX13_jumps_105 : decode cX13_jumps 105 = .ok (.iconst 2, 1) := by decide +kernel
theorem dX13_jumps_106 : decode cX13_jumps 106 = .ok (.invokevirtual 528, 3) := by decide +kernel
theorem dX13_jumps_109 : decode cX13_jumps 109 = .ok (.aload_n 0, 1) := by decide +kernel
theorem dX13_jumps_110 : decode cX13_jumps 110 = .ok (.iload_n 2, 1) := by decide +kernel
theorem dX13_jumps_111 : decode cX13_jumps 111 = .ok (.iload 5, 2) := by decide +kernel
theorem dX13_jumps_113 : decode cX13_jumps 113 = .ok (.bipush 7, 2) := by decide +kernel
theorem dX13_jumps_115 : decode cX13_jumps 115 = .ok (.ishl, 1) := by decide +kernel
theorem dX13_jumps_116 : decode cX13_jumps 116 = .ok (.ior, 1) := by decide +kernel
theorem dX13_jumps_117 : decode cX13_jumps 117 = .ok (.iload 6, 2) := by decide +kernel
theorem dX13_jumps_119 : decode cX13_jumps 119 = .ok (.invokestatic 567, 3) := by decide +kernel
theorem dX13_jumps_122 : decode cX13_jumps 122 = .ok (.ior, 1) := by decide +kernel
theorem dX13_jumps_123 : decode cX13_jumps 123 = .ok (.invokevirtual 570, 3) := by decide +kernel
theorem dX13_jumps_126 : decode cX13_jumps 126 = .ok (.return_, 1) := by decide +kernel
theorem dX13_others_0 : decode cX13_others 0 = .ok (.aload_n 0, 1) := by decide +kernel
theorem dX13_others_1 : decode cX13_others 1 = .ok (.invokevirtual 532, 3) := by decide +kernel
theorem dX13_others_4 : decode cX13_others 4 = .ok (.istore_n 3, 1) := by decide +kernel
theorem dX13_others_5 : decode cX13_others 5 = .ok (.iload_n 1, 1) := by decide +kernel
theorem dX13_others_6 : decode cX13_others 6 = .ok (.bipush 33, 2) := by decide +kernel
theorem dX13_others_8 : decode cX13_others 8 = .ok (.if_icmp .ne 14, 3) := by decide +kernel
theorem dX13_others_11 : decode cX13_others 11 = .ok (.aload_n 0, 1) := by decide +kernel
theorem dX13_others_12 : decode cX13_others 12 = .ok (.iload_n 2, 1) := by decide +kernel
theorem dX13_others_13 : decode cX13_others 13 = .ok (.iload_n 3, 1) := by decide +kernel
theorem dX13_others_14 : decode cX13_others 14 = .ok (.bipush 15, 2) := by decide +kernel
theorem dX13_others_16 : decode cX13_others 16 = .ok (.ishl, 1) := by decide +kernel
theorem dX13_others_17 : decode cX13_others 17 = .ok (.ior, 1) := by decide +kernel
theorem dX13_others_18 : decode cX13_others 18 = .ok (.invokevirtual 570, 3) := by decide +kernel
theorem dX13_others_21 : decode cX13_others 21 = .ok (.return_, 1) := by decide +kernel
theorem dX13_others_22 : decode cX13_others 22 = .ok (.aload_n 0, 1) := by decide +kernel
theorem dX13_others_23 : decode cX13_others 23 = .ok (.invokevirtual 582, 3) := by decide +kernel
theorem dX13_others_26 : decode cX13_others 26 = .ok (.ifCond .ne 4, 3) := by decide +kernel
theorem dX13_others_29 : decode cX13_others 29 = .ok (.return_, 1) := by decide +kernel
theorem dX13_others_30 : decode cX13_others 30 = .ok (.iload_n 1, 1) := by decide +kernel
theorem dX13_others_31 : decode cX13_others 31 = .ok (.bipush 33, 2) := by decide +kernel
theorem dX13_others_33 : decode cX13_others 33 = .ok (.if_icmp .ge 33, 3) := by decide +kernel
theorem dX13_others_36 : decode cX13_others 36 = .ok (.aload_n 0, 1) := by decide +kernel
theorem dX13_others_37 : decode cX13_others 37 = .ok (.iload_n 2, 1) := by decide +kernel
theorem dX13_others_38 : decode cX13_others 38 = .ok (.iload_n 3, 1) := by decide +kernel
theorem dX13_others_39 : decode cX13_others 39 = .ok (.bipush 7, 2) := by decide +kernel
theorem dX13_others_41 : decode cX13_others 41 = .ok (.ishl, 1) := by decide +kernel
theorem dX13_others_42 : decode cX13_others 42 = .ok (.ior, 1) := by decide +kernel
theorem dX13_others_43 : decode cX13_others 43 = .ok (.aload_n 0, 1) := by decide +kernel
theorem dX13_others_44 : decode cX13_others 44 = .ok (.invokevirtual 532, 3) := by decide +kernel
theorem dX13_others_47 : decode cX13_others 47 = .ok (.iload_n 1, 1) := by decide +kernel
theorem dX13_others_48 : decode cX13_others 48 = .ok (.bipush 31, 2) := by decide +kernel
theorem dX13_others_50 : decode cX13_others 50 = .ok (.if_icmp .ne 8, 3) := by decide +kernel
theorem dX13_others_53 : decode cX13_others 53 = .ok (.bipush 15, 2) := by decide +kernel
theorem dX13_others_55 : decode cX13_others 55 = .ok (.goto 5, 3) := by decide +kernel
theorem dX13_others_58 : decode cX13_others 58 = .ok (.bipush 20, 2) := by decide +kernel
theorem dX13_others_60 : decode cX13_others 60 = .ok (.ishl, 1) := by decide +kernel
theorem dX13_others_61 : decode cX13_others 61 = .ok (.ior, 1) := by decide +kernel
theorem dX13_others_62 : decode cX13_others 62 = .ok (.invokevirtual 570, 3) := by decide +kernel
theorem dX13_others_65 : decode cX13_others 65 = .ok (.return_, 1) := by decide +kernel
theorem dX13_others_66 : decode cX13_others 66 = .ok (.iload_n 1, 1) := by decide +kernel
theorem dX13_others_67 : decode cX13_others 67 = .ok (.bipush 39, 2) := by decide +kernel
theorem dX13_others_69 : decode cX13_others 69 = .ok (.if_icmp .ne 16, 3) := by decide +kernel
theorem dX13_others_72 : decode cX13_others 72 = .ok (.aload_n 0, 1) := by decide +kernel
theorem dX13_others_73 : decode cX13_others 73 = .ok (.ldc_w 603, 3) := by decide +kernel
theorem dX13_others_76 : decode cX13_others 76 = .ok (.ldc_w 604, 3) := by decide +kernel
theorem dX13_others_79 : decode cX13_others 79 = .ok (.invokevirtual 605, 3) := by decide +kernel
theorem dX13_others_82 : decode cX13_others 82 = .ok (.goto 12, 3) := by decide +kernel
theorem dX13_others_85 : decode cX13_others 85 = .ok (.aload_n 0, 1) := by decide +kernel
theorem dX13_others_86 : decode cX13_others 86 = .ok (.invokevirtual 525, 3) := by decide +kernel
theorem dX13_others_89 : decode cX13_others 89 = .ok (.aload_n 0, 1) := by decide +kernel
theorem dX13_others_90 : decode cX13_others 90 = .ok (.getfield 486, 3) := by decide +kernel
theorem dX13_others_93 : decode cX13_others 93 = .ok (.isub, 1) := by decide +kernel
theorem dX13_others_94 : decode cX13_others 94 = .ok (.istore 4, 2) := by decide +kernel
theorem dX13_others_96 : decode cX13_others 96 = .ok (.iload 4, 2) := by decide +kernel
theorem dX13_others_98 : decode cX13_others 98 = .ok (.sipush 2048, 3) := by decide +kernel
theorem dX13_others_101 : decode cX13_others 101 = .ok (.iadd, 1) := by decide +kernel
theorem dX13_others_102 : decode cX13_others 102 = .ok (.bipush 12, 2) := by decide +kernel
theorem dX13_others_104 : decode cX13_others 104 = .ok (.iushr, 1) := by decide +kernel
theorem dX13_others_105 : decode cX13_others 105 = .ok (.istore 5, 2) := by decide +kernel
theorem dX13_others_107 : decode cX13_others 107 = .ok (.iload 4, 2) := by decide +kernel
theorem dX13_others_109 : decode cX13_others 109 = .ok (.bipush 20, 2) := by decide +kernel
theorem dX13_others_111 : decode cX13_others 111 = .ok (.ishl, 1) := by decide +kernel
theorem dX13_others_112 : decode cX13_others 112 = .ok (.bipush 20, 2) := by decide +kernel
theorem dX13_others_114 : decode cX13_others 114 = .ok (.ishr, 1) := by decide +kernel
theorem dX13_others_115 : decode cX13_others 115 = .ok (.istore 6, 2) := by decide +kernel
theorem dX13_others_117 : decode cX13_others 117 = .ok (.iload_n 1, 1) := by decide +kernel
theorem dX13_others_118 : decode cX13_others 118 = .ok (.bipush 38, 2) := by decide +kernel
theorem dX13_others_120 : decode cX13_others 120 = .ok (.if_icmp .ne 23, 3) := by decide +kernel
theorem dX13_others_123 : decode cX13_others 123 = .ok (.aload_n 0, 1) := by decide +kernel
theorem dX13_others_124 : decode cX13_others 124 = .ok (.bipush 23, 2) := by decide +kernel
theorem dX13_others_126 : decode cX13_others 126 = .ok (.iload_n 3, 1) := by decide +kernel
theorem dX13_others_127 : decode cX13_others 127 = .ok (.bipush 7, 2) := by decide +kernel
theorem dX13_others_129 : decode cX13_others 129 = .ok (.ishl, 1) := by decide +kernel
theorem dX13_others_130 : decode cX13_others 130 = .ok (.ior, 1) := by decide +kernel
theorem dX13_others_131 : decode cX13_others 131 = .ok (.iload 5, 2) := by decide +kernel
theorem dX13_others_133 : decode cX13_others 133 = .ok (.bipush 12, 2) := by decide +kernel
theorem dX13_others_135 : decode cX13_others 135 = .ok (.ishl, 1) := by decide +kernel
theorem dX13_others_136 : decode cX13_others 136 = .ok (.ior, 1) := by decide +kernel
theorem dX13_others_137 : decode cX13_others 137 = .ok (.invokevirtual 570, 3) := by decide +kernel
theorem dX13_others_140 : decode cX13_others 140 = .ok (.goto 75, 3) := by decide +kernel
theorem dX13_others_143 : decode cX13_others 143 = .ok (.iload 4, 2) := by decide +kernel
theorem dX13_others_145 : decode cX13_others 145 = .ok (.bipush (-33), 2) := by decide +kernel
theorem dX13_others_147 : decode cX13_others 147 = .ok (.if_icmp .le 35, 3) := by decide +kernel
theorem dX13_others_150 : decode cX13_others 150 = .ok (.iload 4, 2) := by decide +kernel
theorem dX13_others_152 : decode cX13_others 152 = .ok (.bipush 32, 2) := by decide +kernel
theorem dX13_others_154 : decode cX13_others 154 = .ok (.if_icmp .ge 28, 3) := by decide +kernel
theorem dX13_others_157 : decode cX13_others 157 = .ok (.iload_n 3, 1) := by decide +kernel
theorem dX13_others_158 : decode cX13_others 158 = .ok (.ifCond .eq 24, 3) := by decide +kernel
theorem dX13_others_161 : decode cX13_others 161 = .ok (.aload_n 0, 1) := by decide +kernel
theorem dX13_others_162 : decode cX13_others 162 = .ok (.sipush 16385, 3) := by decide +kernel
theorem dX13_others_165 : decode cX13_others 165 = .ok (.iload_n 3, 1) := by decide +kernel
theorem dX13_others_166 : decode cX13_others 166 = .ok (.bipush 7, 2) := by decide +kernel
theorem dX13_others_168 : decode cX13_others 168 = .ok (.ishl, 1) := by decide +kernel
theorem dX13_others_169 : decode cX13_others 169 = .ok (.ior, 1) := by decide +kernel
theorem dX13_others_170 : decode cX13_others 170 = .ok (.iload 4, 2) := by decide +kernel
theorem dX13_others_172 : decode cX13_others 172 = .ok (.invokestatic 608, 3) := by decide +kernel
theorem dX13_others_175 : decode cX13_others 175 = .ok (.ior, 1) := by decide +kernel
theorem dX13_others_176 : decode cX13_others 176 = .ok (.invokevirtual 547, 3) := by decide +kernel
theorem dX13_others_179 : decode cX13_others 179 = .ok (.goto 36, 3) := by decide +kernel
theorem dX13_others_182 : decode cX13_others 182 = .ok (.iload 4, 2) := by decide +kernel
theorem dX13_others_184 : decode cX13_others 184 = .ok (.sipush (-2048), 3) := by decide +kernel
theorem dX13_others_187 : decode cX13_others 187 = .ok (.if_icmp .lt 11, 3) := by decide +kernel
theorem dX13_others_190 : decode cX13_others 190 = .ok (.iload 4, 2) := by decide +kernel
theorem dX13_others_192 : decode cX13_others 192 = .ok (.sipush 2047, 3) := by decide +kernel
theorem dX13_others_195 : decode cX13_others 195 = .ok (.if_icmp .le 20, 3) := by decide +kernel
theorem dX13_others_198 : decode cX13_others 198 = .ok (.aload_n 0, 1) := by decide +kernel
theorem dX13_others_199 : decode cX13_others 199 = .ok (.bipush 55, 2) := by decide +kernel
theorem dX13_others_201 : decode cX13_others 201 = .ok (.iload_n 3, 1) := by decide +kernel
theorem dX13_others_202 : decode cX13_others 202 = .ok (.bipush 7, 2) := by decide +kernel
theorem dX13_others_204 : decode cX13_others 204 = .ok (.ishl, 1) := by decide +kernel
theorem dX13_others_205 : decode cX13_others 205 = .ok (.ior, 1) := by decide +kernel
theorem dX13_others_206 : decode cX13_others 206 = .ok (.iload 5, 2) := by decide +kernel
theorem dX13_others_208 : decode cX13_others 208 = .ok (.bipush 12, 2) := by decide +kernel
theorem dX13_others_210 : decode cX13_others 210 = .ok (.ishl, 1) := by decide +kernel
theorem dX13_others_211 : decode cX13_others 211 = .ok (.ior, 1) := by decide +kernel
theorem dX13_others_212 : decode cX13_others 212 = .ok (.invokevirtual 570, 3) := by decide +kernel
theorem dX13_others_215 : decode cX13_others 215 = .ok (.iload_n 1, 1) := by decide +kernel
theorem dX13_others_216 : decode cX13_others 216 = .ok (.bipush 38, 2) := by decide +kernel
theorem dX13_others_218 : decode cX13_others 218 = .ok (.if_icmp .eq 24, 3) := by decide +kernel
theorem dX13_others_221 : decode cX13_others 221 = .ok (.iload 4, 2) := by decide +kernel
theorem dX13_others_223 : decode cX13_others 223 = .ok (.sipush (-2048), 3) := by decide +kernel
theorem dX13_others_226 : decode cX13_others 226 = .ok (.if_icmp .lt 11, 3) := by decide +kernel
theorem dX13_others_229 : decode cX13_others 229 = .ok (.iload 4, 2) := by decide +kernel
theorem dX13_others_231 : decode cX13_others 231 = .ok (.sipush 2047, 3) := by decide +kernel
theorem dX13_others_234 : decode cX13_others 234 = .ok (.if_icmp .le 30, 3) := by decide +kernel
theorem dX13_others_237 : decode cX13_others 237 = .ok (.iload 6, 2) := by decide +kernel
theorem dX13_others_239 : decode cX13_others 239 = .ok (.ifCond .eq 25, 3) := by decide +kernel
theorem dX13_others_242 : decode cX13_others 242 = .ok (.aload_n 0, 1) := by decide +kernel
theorem dX13_others_243 : decode cX13_others 243 = .ok (.bipush 19, 2) := by decide +kernel
theorem dX13_others_245 : decode cX13_others 245 = .ok (.iload_n 3, 1) := by decide +kernel
theorem dX13_others_246 : decode cX13_others 246 = .ok (.bipush 7, 2) := by decide +kernel
theorem dX13_others_248 : decode cX13_others 248 = .ok (.ishl, 1) := by decide +kernel
theorem dX13_others_249 : decode cX13_others 249 = .ok (.ior, 1) := by decide +kernel
theorem dX13_others_250 : decode cX13_others 250 = .ok (.iload_n 3, 1) := by decide +kernel
theorem dX13_others_251 : decode cX13_others 251 = .ok (.bipush 15, 2) := by decide +kernel
theorem dX13_others_253 : decode cX13_others 253 = .ok (.ishl, 1) := by decide +kernel
theorem dX13_others_254 : decode cX13_others 254 = .ok (.ior, 1) := by decide +kernel
theorem dX13_others_255 : decode cX13_others 255 = .ok (.iload 6, 2) := by decide +kernel
theorem dX13_others_257 : decode cX13_others 257 = .ok (.bipush 20, 2) := by decide +kernel
theorem dX13_others_259 : decode cX13_others 259 = .ok (.ishl, 1) := by decide +kernel
theorem dX13_others_260 : decode cX13_others 260 = .ok (.ior, 1) := by decide +kernel
theorem dX13_others_261 : decode cX13_others 261 = .ok (.invokevirtual 570, 3) := by decide +kernel
theorem dX13_others_264 : decode cX13_others 264 = .ok (.iload_n 1, 1) := by decide +kernel
theorem dX13_others_265 : decode cX13_others 265 = .ok (.bipush 39, 2) := by decide +kernel
theorem dX13_others_267 : decode cX13_others 267 = .ok (.if_icmp .ne 54, 3) := by decide +kernel
theorem dX13_others_270 : decode cX13_others 270 = .ok (.iload 4, 2) := by decide +kernel
theorem dX13_others_272 : decode cX13_others 272 = .ok (.sipush (-2049), 3) := by decide +kernel
theorem dX13_others_275 : decode cX13_others 275 = .ok (.if_icmp .le 46, 3) := by decide +kernel
theorem dX13_others_278 : decode cX13_others 278 = .ok (.iload 4, 2) := by decide +kernel
theorem dX13_others_280 : decode cX13_others 280 = .ok (.sipush 2048, 3) := by decide +kernel
theorem dX13_others_283 : decode cX13_others 283 = .ok (.if_icmp .ge 38, 3) := by decide +kernel
theorem dX13_others_286 : decode cX13_others 286 = .ok (.iload_n 3, 1) := by decide +kernel
theorem dX13_others_287 : decode cX13_others 287 = .ok (.ifCond .eq 17, 3) := by decide +kernel
theorem dX13_others_290 : decode cX13_others 290 = .ok (.iload 4, 2) := by decide +kernel
theorem dX13_others_292 : decode cX13_others 292 = .ok (.bipush (-32), 2) := by decide +kernel
theorem dX13_others_294 : decode cX13_others 294 = .ok (.if_icmp .lt 10, 3) := by decide +kernel
theorem dX13_others_297 : decode cX13_others 297 = .ok (.iload 4, 2) := by decide +kernel
theorem dX13_others_299 : decode cX13_others 299 = .ok (.bipush 31, 2) := by decide +kernel
theorem dX13_others_301 : decode cX13_others 301 = .ok (.if_icmp .le 20, 3) := by decide +kernel
theorem dX13_others_304 : decode cX13_others 304 = .ok (.aload_n 0, 1) := by decide +kernel
theorem dX13_others_305 : decode cX13_others 305 = .ok (.bipush 19, 2) := by decide +kernel
theorem dX13_others_307 : decode cX13_others 307 = .ok (.iload_n 3, 1) := by decide +kernel
theorem dX13_others_308 : decode cX13_others 308 = .ok (.bipush 7, 2) := by decide +kernel
theorem dX13_others_310 : decode cX13_others 310 = .ok (.ishl, 1) := by decide +kernel
theorem dX13_others_311 : decode cX13_others 311 = .ok (.ior, 1) := by decide +kernel
theorem dX13_others_312 : decode cX13_others 312 = .ok (.iload 4, 2) := by decide +kernel
theorem dX13_others_314 : decode cX13_others 314 = .ok (.bipush 20, 2) := by decide +kernel
theorem dX13_others_316 : decode cX13_others 316 = .ok (.ishl, 1) := by decide +kernel
theorem dX13_others_317 : decode cX13_others 317 = .ok (.ior, 1) := by decide +kernel
theorem dX13_others_318 : decode cX13_others 318 = .ok (.invokevirtual 570, 3) := by decide +kernel
theorem dX13_others_321 : decode cX13_others 321 = .ok (.return_, 1) := by decide +kernel
theorem dX13_notZero_0 : decode cX13_notZero 0 = .ok (.aload_n 0, 1) := by decide +kernel
theorem dX13_notZero_1 : decode cX13_notZero 1 = .ok (.getfield 522, 3) := by decide +kernel
