theorem dX16_read_260 : decode cX16_read 260 = .ok (.iload 5, 2) := by decide +kernel
theorem dX16_read_262 : decode cX16_read 262 = .ok (.isub, 1) := by decide +kernel
theorem dX16_read_263 : decode cX16_read 263 = .ok (.aload_n 0, 1) := by decide +kernel
theorem dX16_read_264 : decode cX16_read 264 = .ok (.getfield 97, 3) := by decide +kernel
theorem dX16_read_267 : decode cX16_read 267 = .ok (.sipush 512, 3) := by decide +kernel
theorem dX16_read_270 : decode cX16_read 270 = .ok (.iload 6, 2) := by decide +kernel
theorem dX16_read_272 : decode cX16_read 272 = .ok (.imul, 1) := by decide +kernel
theorem dX16_read_273 : decode cX16_read 273 = .ok (.iload 7, 2) := by decide +kernel
theorem dX16_read_275 : decode cX16_read 275 = .ok (.iadd, 1) := by decide +kernel
theorem dX16_read_276 : decode cX16_read 276 = .ok (.iaload, 1) := by decide +kernel
theorem dX16_read_277 : decode cX16_read 277 = .ok (.iastore, 1) := by decide +kernel
theorem dX16_read_278 : decode cX16_read 278 = .ok (.iinc 7 1, 3) := by decide +kernel
theorem dX16_read_281 : decode cX16_read 281 = .ok (.goto (-46), 3) := by decide +kernel
theorem dX16_read_284 : decode cX16_read 284 = .ok (.aload_n 0, 1) := by decide +kernel
theorem dX16_read_285 : decode cX16_read 285 = .ok (.getfield 94, 3) := by decide +kernel
theorem dX16_read_288 : decode cX16_read 288 = .ok (.iload 6, 2) := by decide +kernel
theorem dX16_read_290 : decode cX16_read 290 = .ok (.dup2, 1) := by decide +kernel
theorem dX16_read_291 : decode cX16_read 291 = .ok (.iaload, 1) := by decide +kernel
theorem dX16_read_292 : decode cX16_read 292 = .ok (.iload 5, 2) := by decide +kernel
theorem dX16_read_294 : decode cX16_read 294 = .ok (.isub, 1) := by decide +kernel
theorem dX16_read_295 : decode cX16_read 295 = .ok (.iastore, 1) := by decide +kernel
theorem dX16_read_296 : decode cX16_read 296 = .ok (.goto 102, 3) := by decide +kernel
theorem dX16_read_299 : decode cX16_read 299 = .ok (.aload_n 0, 1) := by decide +kernel
theorem dX16_read_300 : decode cX16_read 300 = .ok (.getfield 73, 3) := by decide +kernel
theorem dX16_read_303 : decode cX16_read 303 = .ok (.iload 4, 2) := by decide +kernel
theorem dX16_read_305 : decode cX16_read 305 = .ok (.iaload, 1) := by decide +kernel
theorem dX16_read_306 : decode cX16_read 306 = .ok (.iconst 3, 1) := by decide +kernel
theorem dX16_read_307 : decode cX16_read 307 = .ok (.if_icmp .ne 18, 3) := by decide +kernel
theorem dX16_read_310 : decode cX16_read 310 = .ok (.aload_n 0, 1) := by decide +kernel
theorem dX16_read_311 : decode cX16_read 311 = .ok (.getfield 79, 3) := by decide +kernel
theorem dX16_read_314 : decode cX16_read 314 = .ok (.iload 4, 2) := by decide +kernel
theorem dX16_read_316 : decode cX16_read 316 = .ok (.dup2, 1) := by decide +kernel
theorem dX16_read_317 : decode cX16_read 317 = .ok (.iaload, 1) := by decide +kernel
theorem dX16_read_318 : decode cX16_read 318 = .ok (.iload 5, 2) := by decide +kernel
theorem dX16_read_320 : decode cX16_read 320 = .ok (.iadd, 1) := by decide +kernel
theorem dX16_read_321 : decode cX16_read 321 = .ok (.iastore, 1) := by decide +kernel
theorem dX16_read_322 : decode cX16_read 322 = .ok (.goto 76, 3) := by decide +kernel
theorem dX16_read_325 : decode cX16_read 325 = .ok (.iload 5, 2) := by decide +kernel
theorem dX16_read_327 : decode cX16_read 327 = .ok (.iload_n 3, 1) := by decide +kernel
theorem dX16_read_328 : decode cX16_read 328 = .ok (.if_icmp .ge 19, 3) := by decide +kernel
theorem dX16_read_331 : decode cX16_read 331 = .ok (.iload 5, 2) := by decide +kernel
theorem dX16_read_333 : decode cX16_read 333 = .ok (.aload_n 0, 1) := by decide +kernel
theorem dX16_read_334 : decode cX16_read 334 = .ok (.getfield 122, 3) := by decide +kernel
theorem dX16_read_337 : decode cX16_read 337 = .ok (.if_icmp .ge 10, 3) := by decide +kernel
theorem dX16_read_340 : decode cX16_read 340 = .ok (.iload 5, 2) := by decide +kernel
theorem dX16_read_342 : decode cX16_read 342 = .ok (.iconst 1, 1) := by decide +kernel
theorem dX16_read_343 : decode cX16_read 343 = .ok (.iadd, 1) := by decide +kernel
theorem dX16_read_344 : decode cX16_read 344 = .ok (.goto 5, 3) := by decide +kernel
theorem dX16_read_347 : decode cX16_read 347 = .ok (.iload 5, 2) := by decide +kernel
theorem dX16_read_349 : decode cX16_read 349 = .ok (.istore 7, 2) := by decide +kernel
theorem dX16_read_351 : decode cX16_read 351 = .ok (.iload 7, 2) := by decide +kernel
theorem dX16_read_353 : decode cX16_read 353 = .ok (.istore 8, 2) := by decide +kernel
theorem dX16_read_355 : decode cX16_read 355 = .ok (.iload 8, 2) := by decide +kernel
theorem dX16_read_357 : decode cX16_read 357 = .ok (.aload_n 0, 1) := by decide +kernel
theorem dX16_read_358 : decode cX16_read 358 = .ok (.getfield 122, 3) := by decide +kernel
theorem dX16_read_361 : decode cX16_read 361 = .ok (.if_icmp .ge 26, 3) := by decide +kernel
theorem dX16_read_364 : decode cX16_read 364 = .ok (.aload_n 0, 1) := by decide +kernel
theorem dX16_read_365 : decode cX16_read 365 = .ok (.getfield 109, 3) := by decide +kernel
theorem dX16_read_368 : decode cX16_read 368 = .ok (.iload 8, 2) := by decide +kernel
theorem dX16_read_370 : decode cX16_read 370 = .ok (.iload 7, 2) := by decide +kernel
theorem dX16_read_372 : decode cX16_read 372 = .ok (.isub, 1) := by decide +kernel
theorem dX16_read_373 : decode cX16_read 373 = .ok (.aload_n 0, 1) := by decide +kernel
theorem dX16_read_374 : decode cX16_read 374 = .ok (.getfield 109, 3) := by decide +kernel
theorem dX16_read_377 : decode cX16_read 377 = .ok (.iload 8, 2) := by decide +kernel
theorem dX16_read_379 : decode cX16_read 379 = .ok (.iaload, 1) := by decide +kernel
theorem dX16_read_380 : decode cX16_read 380 = .ok (.iastore, 1) := by decide +kernel
theorem dX16_read_381 : decode cX16_read 381 = .ok (.iinc 8 1, 3) := by decide +kernel
theorem dX16_read_384 : decode cX16_read 384 = .ok (.goto (-29), 3) := by decide +kernel
theorem dX16_read_387 : decode cX16_read 387 = .ok (.aload_n 0, 1) := by decide +kernel
theorem dX16_read_388 : decode cX16_read 388 = .ok (.dup, 1) := by decide +kernel
theorem dX16_read_389 : decode cX16_read 389 = .ok (.getfield 122, 3) := by decide +kernel
theorem dX16_read_392 : decode cX16_read 392 = .ok (.iload 7, 2) := by decide +kernel
theorem dX16_read_394 : decode cX16_read 394 = .ok (.isub, 1) := by decide +kernel
theorem dX16_read_395 : decode cX16_read 395 = .ok (.putfield 122, 3) := by decide +kernel
theorem dX16_read_398 : decode cX16_read 398 = .ok (.iload 5, 2) := by decide +kernel
theorem dX16_read_400 : decode cX16_read 400 = .ok (.ireturn, 1) := by decide +kernel
theorem dX16_show_0 : decode cX16_show 0 = .ok (.aload_n 0, 1) := by decide +kernel
theorem dX16_show_1 : decode cX16_show 1 = .ok (.getfield 147, 3) := by decide +kernel
theorem dX16_show_4 : decode cX16_show 4 = .ok (.ldc2_w 497, 3) := by decide +kernel
theorem dX16_show_7 : decode cX16_show 7 = .ok (.lcmp, 1) := by decide +kernel
theorem dX16_show_8 : decode cX16_show 8 = .ok (.ifCond .lt 32, 3) := by decide +kernel
theorem dX16_show_11 : decode cX16_show 11 = .ok (.iconst 1, 1) := by decide +kernel
theorem dX16_show_12 : decode cX16_show 12 = .ok (.istore_n 2, 1) := by decide +kernel
theorem dX16_show_13 : decode cX16_show 13 = .ok (.iload_n 2, 1) := by decide +kernel
theorem dX16_show_14 : decode cX16_show 14 = .ok (.sipush 2048, 3) := by decide +kernel
theorem dX16_show_17 : decode cX16_show 17 = .ok (.if_icmp .ge 23, 3) := by decide +kernel
theorem dX16_show_20 : decode cX16_show 20 = .ok (.aload_n 0, 1) := by decide +kernel
theorem dX16_show_21 : decode cX16_show 21 = .ok (.getfield 112, 3) := by decide +kernel
theorem dX16_show_24 : decode cX16_show 24 = .ok (.iload_n 2, 1) := by decide +kernel
theorem dX16_show_25 : decode cX16_show 25 = .ok (.iconst 1, 1) := by decide +kernel
theorem dX16_show_26 : decode cX16_show 26 = .ok (.isub, 1) := by decide +kernel
theorem dX16_show_27 : decode cX16_show 27 = .ok (.aload_n 0, 1) := by decide +kernel
theorem dX16_show_28 : decode cX16_show 28 = .ok (.getfield 112, 3) := by decide +kernel
theorem dX16_show_31 : decode cX16_show 31 = .ok (.iload_n 2, 1) := by decide +kernel
theorem dX16_show_32 : decode cX16_show 32 = .ok (.iaload, 1) := by decide +kernel
theorem dX16_show_33 : decode cX16_show 33 = .ok (.iastore, 1) := by decide +kernel
theorem dX16_show_34 : decode cX16_show 34 = .ok (.iinc 2 1, 3) := by decide +kernel
theorem dX16_show_37 : decode cX16_show 37 = .ok (.goto (-24), 3) := by decide +kernel
theorem dX16_show_40 : decode cX16_show 40 = .ok (.aload_n 0, 1) := by decide +kernel
theorem dX16_show_41 : decode cX16_show 41 = .ok (.getfield 112, 3) := by decide +kernel
theorem dX16_show_44 : decode cX16_show 44 = .ok (.aload_n 0, 1) := by decide +kernel
theorem dX16_show_45 : decode cX16_show 45 = .ok (.getfield 147, 3) := by decide +kernel
theorem dX16_show_48 : decode cX16_show 48 = .ok (.ldc2_w 497, 3) := by decide +kernel
theorem dX16_show_51 : decode cX16_show 51 = .ok (.lcmp, 1) := by decide +kernel
theorem dX16_show_52 : decode cX16_show 52 = .ok (.ifCond .ge 11, 3) := by decide +kernel
theorem dX16_show_55 : decode cX16_show 55 = .ok (.aload_n 0, 1) := by decide +kernel
theorem dX16_show_56 : decode cX16_show 56 = .ok (.getfield 147, 3) := by decide +kernel
theorem dX16_show_59 : decode cX16_show 59 = .ok (.l2i, 1) := by decide +kernel
theorem dX16_show_60 : decode cX16_show 60 = .ok (.goto 6, 3) := by decide +kernel
theorem dX16_show_63 : decode cX16_show 63 = .ok (.sipush 2047, 3) := by decide +kernel
theorem dX16_show_66 : decode cX16_show 66 = .ok (.iload_n 1, 1) := by decide +kernel
theorem dX16_show_67 : decode cX16_show 67 = .ok (.iastore, 1) := by decide +kernel
theorem dX16_show_68 : decode cX16_show 68 = .ok (.aload_n 0, 1) := by decide +kernel
theorem dX16_show_69 : decode cX16_show 69 = .ok (.dup, 1) := by decide +kernel
theorem dX16_show_70 : decode cX16_show 70 = .ok (.getfield 147, 3) := by decide +kernel
theorem dX16_show_73 : decode cX16_show 73 = .ok (.lconst 1, 1) := by decide +kernel
theorem dX16_show_74 : decode cX16_show 74 = .ok (.ladd, 1) := by decide +kernel
theorem dX16_show_75 : decode cX16_show 75 = .ok (.putfield 147, 3) := by decide +kernel
theorem dX16_show_78 : decode cX16_show 78 = .ok (.return_, 1) := by decide +kernel
theorem dX16_write7_0 : decode cX16_write7 0 = .ok (.iload_n 3, 1) := by decide +kernel
theorem dX16_write7_1 : decode cX16_write7 1 = .ok (.ifCond .lt 10, 3) := by decide +kernel
theorem dX16_write7_4 : decode cX16_write7 4 = .ok (.iload_n 3, 1) := by decide +kernel
theorem dX16_write7_5 : decode cX16_write7 5 = .ok (.sipush 512, 3) := by decide +kernel
theorem dX16_write7_8 : decode cX16_write7 8 = .ok (.if_icmp .le 6, 3) := by decide +kernel
theorem dX16_write7_11 : decode cX16_write7 11 = .ok (.bipush (-22), 2) := by decide +kernel
theorem dX16_write7_13 : decode cX16_write7 13 = .ok (.ireturn, 1) := by decide +kernel
theorem dX16_write7_14 : decode cX16_write7 14 = .ok (.aload_n 0, 1) := by decide +kernel
theorem dX16_write7_15 : decode cX16_write7 15 = .ok (.aload_n 0, 1) := by decide +kernel
theorem dX16_write7_16 : decode cX16_write7 16 = .ok (.getfield 232, 3) := by decide +kernel
theorem dX16_write7_19 : decode cX16_write7 19 = .ok (.iload_n 2, 1) := by decide +kernel
theorem dX16_write7_20 : decode cX16_write7 20 = .ok (.iload_n 3, 1) := by decide +kernel
theorem dX16_write7_21 : decode cX16_write7 21 = .ok (.iconst 1, 1) := by decide +kernel
theorem dX16_write7_22 : decode cX16_write7 22 = .ok (.invokevirtual 478, 3) := by decide +kernel
theorem dX16_write7_25 : decode cX16_write7 25 = .ok (.ifCond .ne 6, 3) := by decide +kernel
theorem dX16_write7_28 : decode cX16_write7 28 = .ok (.bipush (-14), 2) := by decide +kernel
theorem dX16_write7_30 : decode cX16_write7 30 = .ok (.ireturn, 1) := by decide +kernel
theorem dX16_write7_31 : decode cX16_write7 31 = .ok (.aload_n 0, 1) := by decide +kernel
theorem dX16_write7_32 : decode cX16_write7 32 = .ok (.aload_n 0, 1) := by decide +kernel
theorem dX16_write7_33 : decode cX16_write7 33 = .ok (.getfield 232, 3) := by decide +kernel
theorem dX16_write7_36 : decode cX16_write7 36 = .ok (.iload_n 1, 1) := by decide +kernel
theorem dX16_write7_37 : decode cX16_write7 37 = .ok (.invokevirtual 491, 3) := by decide +kernel
theorem dX16_write7_40 : decode cX16_write7 40 = .ok (.istore 4, 2) := by decide +kernel
theorem dX16_write7_42 : decode cX16_write7 42 = .ok (.iload 4, 2) := by decide +kernel
theorem dX16_write7_44 : decode cX16_write7 44 = .ok (.iconst (-1), 1) := by decide +kernel
theorem dX16_write7_45 : decode cX16_write7 45 = .ok (.if_icmp .eq 15, 3) := by decide +kernel
theorem dX16_write7_48 : decode cX16_write7 48 = .ok (.aload_n 0, 1) := by decide +kernel
theorem dX16_write7_49 : decode cX16_write7 49 = .ok (.getfield 82, 3) := by decide +kernel
theorem dX16_write7_52 : decode cX16_write7 52 = .ok (.iload 4, 2) := by decide +kernel
theorem dX16_write7_54 : decode cX16_write7 54 = .ok (.iaload, 1) := by decide +kernel
theorem dX16_write7_55 : decode cX16_write7 55 = .ok (.iconst 2, 1) := by decide +kernel
theorem dX16_write7_56 : decode cX16_write7 56 = .ok (.iand, 1) := by decide +kernel
theorem dX16_write7_57 : decode cX16_write7 57 = .ok (.ifCond .ne 5, 3) := by decide +kernel
theorem dX16_write7_60 : decode cX16_write7 60 = .ok (.iconst (-1), 1) := by decide +kernel
theorem dX16_write7_61 : decode cX16_write7 61 = .ok (.ireturn, 1) := by decide +kernel
theorem dX16_write7_62 : decode cX16_write7 62 = .ok (.aload_n 0, 1) := by decide +kernel
theorem dX16_write7_63 : decode cX16_write7 63 = .ok (.getfield 76, 3) := by decide +kernel
theorem dX16_write7_66 : decode cX16_write7 66 = .ok (.iload 4, 2) := by decide +kernel
theorem dX16_write7_68 : decode cX16_write7 68 = .ok (.iaload, 1) := by decide +kernel
theorem dX16_write7_69 : decode cX16_write7 69 = .ok (.istore 5, 2) := by decide +kernel
theorem dX16_write7_71 : decode cX16_write7 71 = .ok (.aload_n 0, 1) := by decide +kernel
theorem dX16_write7_72 : decode cX16_write7 72 = .ok (.getfield 73, 3) := by decide +kernel
theorem dX16_write7_75 : decode cX16_write7 75 = .ok (.iload 4, 2) := by decide +kernel
theorem dX16_write7_77 : decode cX16_write7 77 = .ok (.iaload, 1) := by decide +kernel
theorem dX16_write7_78 : decode cX16_write7 78 = .ok (.iconst 2, 1) := by decide +kernel
theorem dX16_write7_79 : decode cX16_write7 79 = .ok (.if_icmp .ne 16, 3) := by decide +kernel
theorem dX16_write7_82 : decode cX16_write7 82 = .ok (.aload_n 0, 1) := by decide +kernel
theorem dX16_write7_83 : decode cX16_write7 83 = .ok (.iconst 1, 1) := by decide +kernel
theorem dX16_write7_84 : decode cX16_write7 84 = .ok (.iload 5, 2) := by decide +kernel
theorem dX16_write7_86 : decode cX16_write7 86 = .ok (.invokevirtual 243, 3) := by decide +kernel
theorem dX16_write7_89 : decode cX16_write7 89 = .ok (.ifCond .ne 6, 3) := by decide +kernel
theorem dX16_write7_92 : decode cX16_write7 92 = .ok (.bipush (-5), 2) := by decide +kernel
theorem dX16_write7_94 : decode cX16_write7 94 = .ok (.ireturn, 1) := by decide +kernel
theorem dX16_write7_95 : decode cX16_write7 95 = .ok (.aload_n 0, 1) := by decide +kernel
theorem dX16_write7_96 : decode cX16_write7 96 = .ok (.getfield 73, 3) := by decide +kernel
theorem dX16_write7_99 : decode cX16_write7 99 = .ok (.iload 4, 2) := by decide +kernel
theorem dX16_write7_101 : decode cX16_write7 101 = .ok (.iaload, 1) := by decide +kernel
theorem dX16_write7_102 : decode cX16_write7 102 = .ok (.iconst 3, 1) := by decide +kernel
theorem dX16_write7_103 : decode cX16_write7 103 = .ok (.if_icmp .ne 14, 3) := by decide +kernel
theorem dX16_write7_106 : decode cX16_write7 106 = .ok (.aload_n 0, 1) := by decide +kernel
theorem dX16_write7_107 : decode cX16_write7 107 = .ok (.iload 4, 2) := by decide +kernel
theorem dX16_write7_109 : decode cX16_write7 109 = .ok (.iload 5, 2) := by decide +kernel
theorem dX16_write7_111 : decode cX16_write7 111 = .ok (.iload_n 2, 1) := by decide +kernel
theorem dX16_write7_112 : decode cX16_write7 112 = .ok (.iload_n 3, 1) := by decide +kernel
theorem dX16_write7_113 : decode cX16_write7 113 = .ok (.invokevirtual 499, 3) := by decide +kernel
theorem dX16_write7_116 : decode cX16_write7 116 = .ok (.ireturn, 1) := by decide +kernel
theorem dX16_write7_117 : decode cX16_write7 117 = .ok (.aload_n 0, 1) := by decide +kernel
theorem dX16_write7_118 : decode cX16_write7 118 = .ok (.iload 4, 2) := by decide +kernel
theorem dX16_write7_120 : decode cX16_write7 120 = .ok (.iconst 0, 1) := by decide +kernel
theorem dX16_write7_121 : decode cX16_write7 121 = .ok (.iload_n 3, 1) := by decide +kernel
theorem dX16_write7_122 : decode cX16_write7 122 = .ok (.invokevirtual 264, 3) := by decide +kernel
theorem dX16_write7_125 : decode cX16_write7 125 = .ok (.ifCond .eq 9, 3) := by decide +kernel
theorem dX16_write7_128 : decode cX16_write7 128 = .ok (.aload_n 0, 1) := by decide +kernel
theorem dX16_write7_129 : decode cX16_write7 129 = .ok (.iconst 1, 1) := by decide +kernel
theorem dX16_write7_130 : decode cX16_write7 130 = .ok (.invokevirtual 415, 3) := by decide +kernel
theorem dX16_write7_133 : decode cX16_write7 133 = .ok (.ireturn, 1) := by decide +kernel
theorem dX16_write7_134 : decode cX16_write7 134 = .ok (.iconst 0, 1) := by decide +kernel
theorem dX16_write7_135 : decode cX16_write7 135 = .ok (.istore 6, 2) := by decide +kernel
theorem dX16_write7_137 : decode cX16_write7 137 = .ok (.iload 6, 2) := by decide +kernel
theorem dX16_write7_139 : decode cX16_write7 139 = .ok (.iload_n 3, 1) := by decide +kernel
theorem dX16_write7_140 : decode cX16_write7 140 = .ok (.if_icmp .ge 73, 3) := by decide +kernel
theorem dX16_write7_143 : decode cX16_write7 143 = .ok (.aload_n 0, 1) := by decide +kernel
theorem dX16_write7_144 : decode cX16_write7 144 = .ok (.getfield 73, 3) := by decide +kernel
theorem dX16_write7_147 : decode cX16_write7 147 = .ok (.iload 4, 2) := by decide +kernel
theorem dX16_write7_149 : decode cX16_write7 149 = .ok (.iaload, 1) := by decide +kernel
theorem dX16_write7_150 : decode cX16_write7 150 = .ok (.iconst 4, 1) := by decide +kernel
theorem dX16_write7_151 : decode cX16_write7 151 = .ok (.if_icmp .ne 18, 3) := by decide +kernel
theorem dX16_write7_154 : decode cX16_write7 154 = .ok (.aload_n 0, 1) := by decide +kernel
theorem dX16_write7_155 : decode cX16_write7 155 = .ok (.aload_n 0, 1) := by decide +kernel
theorem dX16_write7_156 : decode cX16_write7 156 = .ok (.iload_n 2, 1) := by decide +kernel
theorem dX16_write7_157 : decode cX16_write7 157 = .ok (.iload 6, 2) := by decide +kernel
theorem dX16_write7_159 : decode cX16_write7 159 = .ok (.iadd, 1) := by decide +kernel
theorem dX16_write7_160 : decode cX16_write7 160 = .ok (.invokevirtual 235, 3) := by decide +kernel
theorem dX16_write7_163 : decode cX16_write7 163 = .ok (.invokevirtual 502, 3) := by decide +kernel
theorem dX16_write7_166 : decode cX16_write7 166 = .ok (.goto 41, 3) := by decide +kernel
theorem dX16_write7_169 : decode cX16_write7 169 = .ok (.aload_n 0, 1) := by decide +kernel
theorem dX16_write7_170 : decode cX16_write7 170 = .ok (.getfield 97, 3) := by decide +kernel
theorem dX16_write7_173 : decode cX16_write7 173 = .ok (.sipush 512, 3) := by decide +kernel
theorem dX16_write7_176 : decode cX16_write7 176 = .ok (.iload 5, 2) := by decide +kernel
theorem dX16_write7_178 : decode cX16_write7 178 = .ok (.imul, 1) := by decide +kernel
theorem dX16_write7_179 : decode cX16_write7 179 = .ok (.aload_n 0, 1) := by decide +kernel
theorem dX16_write7_180 : decode cX16_write7 180 = .ok (.getfield 94, 3) := by decide +kernel
theorem dX16_write7_183 : decode cX16_write7 183 = .ok (.iload 5, 2) := by decide +kernel
theorem dX16_write7_185 : decode cX16_write7 185 = .ok (.iaload, 1) := by decide +kernel
theorem dX16_write7_186 : decode cX16_write7 186 = .ok (.iadd, 1) := by decide +kernel
theorem dX16_write7_187 : decode cX16_write7 187 = .ok (.aload_n 0, 1) := by decide +kernel
theorem dX16_write7_188 : decode cX16_write7 188 = .ok (.iload_n 2, 1) := by decide +kernel
theorem dX16_write7_189 : decode cX16_write7 189 = .ok (.iload 6, 2) := by decide +kernel
theorem dX16_write7_191 : decode cX16_write7 191 = .ok (.iadd, 1) := by decide +kernel
theorem dX16_write7_192 : decode cX16_write7 192 = .ok (.invokevirtual 235, 3) := by decide +kernel
theorem dX16_write7_195 : decode cX16_write7 195 = .ok (.iastore, 1) := by decide +kernel
theorem dX16_write7_196 : decode cX16_write7 196 = .ok (.aload_n 0, 1) := by decide +kernel
theorem dX16_write7_197 : decode cX16_write7 197 = .ok (.getfield 94, 3) := by decide +kernel
theorem dX16_write7_200 : decode cX16_write7 200 = .ok (.iload 5, 2) := by decide +kernel
theorem dX16_write7_202 : decode cX16_write7 202 = .ok (.dup2, 1) := by decide +kernel
theorem dX16_write7_203 : decode cX16_write7 203 = .ok (.iaload, 1) := by decide +kernel
theorem dX16_write7_204 : decode cX16_write7 204 = .ok (.iconst 1, 1) := by decide +kernel
theorem dX16_write7_205 : decode cX16_write7 205 = .ok (.iadd, 1) := by decide +kernel
theorem dX16_write7_206 : decode cX16_write7 206 = .ok (.iastore, 1) := by decide +kernel
theorem dX16_write7_207 : decode cX16_write7 207 = .ok (.iinc 6 1, 3) := by decide +kernel
theorem dX16_write7_210 : decode cX16_write7 210 = .ok (.goto (-73), 3) := by decide +kernel
theorem dX16_write7_213 : decode cX16_write7 213 = .ok (.iload_n 3, 1) := by decide +kernel
theorem dX16_write7_214 : decode cX16_write7 214 = .ok (.ireturn, 1) := by decide +kernel
theorem dX16_writeFile_0 : decode cX16_writeFile 0 = .ok (.iload 4, 2) := by decide +kernel
theorem dX16_writeFile_2 : decode cX16_writeFile 2 = .ok (.ifCond .ne 5, 3) := by decide +kernel
theorem dX16_writeFile_5 : decode cX16_writeFile 5 = .ok (.iconst 0, 1) := by decide +kernel
theorem dX16_writeFile_6 : decode cX16_writeFile 6 = .ok (.ireturn, 1) := by decide +kernel
theorem dX16_writeFile_7 : decode cX16_writeFile 7 = .ok (.aload_n 0, 1) := by decide +kernel
theorem dX16_writeFile_8 : decode cX16_writeFile 8 = .ok (.getfield 82, 3) := by decide +kernel
theorem dX16_writeFile_11 : decode cX16_writeFile 11 = .ok (.iload_n 1, 1) := by decide +kernel
theorem dX16_writeFile_12 : decode cX16_writeFile 12 = .ok (.iaload, 1) := by decide +kernel
theorem dX16_writeFile_13 : decode cX16_writeFile 13 = .ok (.iconst 4, 1) := by decide +kernel
theorem dX16_writeFile_14 : decode cX16_writeFile 14 = .ok (.iand, 1) := by decide +kernel
theorem dX16_writeFile_15 : decode cX16_writeFile 15 = .ok (.ifCond .le 12, 3) := by decide +kernel
theorem dX16_writeFile_18 : decode cX16_writeFile 18 = .ok (.aload_n 0, 1) := by decide +kernel
theorem dX16_writeFile_19 : decode cX16_writeFile 19 = .ok (.getfield 100, 3) := by decide +kernel
theorem dX16_writeFile_22 : decode cX16_writeFile 22 = .ok (.iload_n 2, 1) := by decide +kernel
theorem dX16_writeFile_23 : decode cX16_writeFile 23 = .ok (.iaload, 1) := by decide +kernel
theorem dX16_writeFile_24 : decode cX16_writeFile 24 = .ok (.goto 9, 3) := by decide +kernel
theorem dX16_writeFile_27 : decode cX16_writeFile 27 = .ok (.aload_n 0, 1) := by decide +kernel
theorem dX16_writeFile_28 : decode cX16_writeFile 28 = .ok (.getfield 79, 3) := by decide +kernel
theorem dX16_writeFile_31 : decode cX16_writeFile 31 = .ok (.iload_n 1, 1) := by decide +kernel
theorem dX16_writeFile_32 : decode cX16_writeFile 32 = .ok (.iaload, 1) := by decide +kernel
theorem dX16_writeFile_33 : decode cX16_writeFile 33 = .ok (.istore 5, 2) := by decide +kernel
theorem dX16_writeFile_35 : decode cX16_writeFile 35 = .ok (.iload 5, 2) := by decide +kernel
theorem dX16_writeFile_37 : decode cX16_writeFile 37 = .ok (.iload 4, 2) := by decide +kernel
theorem dX16_writeFile_39 : decode cX16_writeFile 39 = .ok (.iadd, 1) := by decide +kernel
theorem dX16_writeFile_40 : decode cX16_writeFile 40 = .ok (.sipush 512, 3) := by decide +kernel
theorem dX16_writeFile_43 : decode cX16_writeFile 43 = .ok (.if_icmp .le 6, 3) := by decide +kernel
theorem dX16_writeFile_46 : decode cX16_writeFile 46 = .ok (.bipush (-7), 2) := by decide +kernel
theorem dX16_writeFile_48 : decode cX16_writeFile 48 = .ok (.ireturn, 1) := by decide +kernel
theorem dX16_writeFile_49 : decode cX16_writeFile 49 = .ok (.aload_n 0, 1) := by decide +kernel
theorem dX16_writeFile_50 : decode cX16_writeFile 50 = .ok (.getfield 100, 3) := by decide +kernel
theorem dX16_writeFile_53 : decode cX16_writeFile 53 = .ok (.iload_n 2, 1) := by decide +kernel
theorem dX16_writeFile_54 : decode cX16_writeFile 54 = .ok (.iaload, 1) := by decide +kernel
theorem dX16_writeFile_55 : decode cX16_writeFile 55 = .ok (.istore 6, 2) := by decide +kernel
theorem dX16_writeFile_57 : decode cX16_writeFile 57 = .ok (.iload 6, 2) := by decide +kernel
theorem dX16_writeFile_59 : decode cX16_writeFile 59 = .ok (.iload 5, 2) := by decide +kernel
theorem dX16_writeFile_61 : decode cX16_writeFile 61 = .ok (.if_icmp .ge 23, 3) := by decide +kernel
theorem dX16_writeFile_64 : decode cX16_writeFile 64 = .ok (.aload_n 0, 1) := by decide +kernel
theorem dX16_writeFile_65 : decode cX16_writeFile 65 = .ok (.getfield 103, 3) := by decide +kernel
theorem dX16_writeFile_68 : decode cX16_writeFile 68 = .ok (.sipush 512, 3) := by decide +kernel
theorem dX16_writeFile_71 : decode cX16_writeFile 71 = .ok (.iload_n 2, 1) := by decide +kernel
theorem dX16_writeFile_72 : decode cX16_writeFile 72 = .ok (.imul, 1) := by decide +kernel
theorem dX16_writeFile_73 : decode cX16_writeFile 73 = .ok (.iload 6, 2) := by decide +kernel
theorem dX16_writeFile_75 : decode cX16_writeFile 75 = .ok (.iadd, 1) := by decide +kernel
theorem dX16_writeFile_76 : decode cX16_writeFile 76 = .ok (.iconst 0, 1) := by decide +kernel
theorem dX16_writeFile_77 : decode cX16_writeFile 77 = .ok (.iastore, 1) := by decide +kernel
theorem dX16_writeFile_78 : decode cX16_writeFile 78 = .ok (.iinc 6 1, 3) := by decide +kernel
theorem dX16_writeFile_81 : decode cX16_writeFile 81 = .ok (.goto (-24), 3) := by decide +kernel
theorem dX16_writeFile_84 : decode cX16_writeFile 84 = .ok (.iconst 0, 1) := by decide +kernel
theorem dX16_writeFile_85 : decode cX16_writeFile 85 = .ok (.istore 6, 2) := by decide +kernel
theorem dX16_writeFile_87 : decode cX16_writeFile 87 = .ok (.iload 6, 2) := by decide +kernel
theorem dX16_writeFile_89 : decode cX16_writeFile 89 = .ok (.iload 4, 2) := by decide +kernel
theorem dX16_writeFile_91 : decode cX16_writeFile 91 = .ok (.if_icmp .ge 33, 3) := by decide +kernel
theorem dX16_writeFile_94 : decode cX16_writeFile 94 = .ok (.aload_n 0, 1) := by decide +kernel
theorem dX16_writeFile_95 : decode cX16_writeFile 95 = .ok (.getfield 103, 3) := by decide +kernel
theorem dX16_writeFile_98 : decode cX16_writeFile 98 = .ok (.sipush 512, 3) := by decide +kernel
theorem dX16_writeFile_101 : decode cX16_writeFile 101 = .ok (.iload_n 2, 1) := by decide +kernel
theorem dX16_writeFile_102 : decode cX16_writeFile 102 = .ok (.imul, 1) := by decide +kernel
theorem dX16_writeFile_103 : decode cX16_writeFile 103 = .ok (.iload 5, 2) := by decide +kernel
theorem dX16_writeFile_105 : decode cX16_writeFile 105 = .ok (.iadd, 1) := by decide +kernel
theorem dX16_writeFile_106 : decode cX16_writeFile 106 = .ok (.iload 6, 2) := by decide +kernel
theorem dX16_writeFile_108 : decode cX16_writeFile 108 = .ok (.iadd, 1) := by decide +kernel
theorem dX16_writeFile_109 : decode cX16_writeFile 109 = .ok (.aload_n 0, 1) := by decide +kernel
theorem dX16_writeFile_110 : decode cX16_writeFile 110 = .ok (.iload_n 3, 1) := by decide +kernel
theorem dX16_writeFile_111 : decode cX16_writeFile 111 = .ok (.iload 6, 2) := by decide +kernel
theorem dX16_writeFile_113 : decode cX16_writeFile 113 = .ok (.iadd, 1) := by decide +kernel
theorem dX16_writeFile_114 : decode cX16_writeFile 114 = .ok (.invokevirtual 235, 3) := by decide +kernel
theorem dX16_writeFile_117 : decode cX16_writeFile 117 = .ok (.iastore, 1) := by decide +kernel
theorem dX16_writeFile_118 : decode cX16_writeFile 118 = .ok (.iinc 6 1, 3) := by decide +kernel
theorem dX16_writeFile_121 : decode cX16_writeFile 121 = .ok (.goto (-34), 3) := by decide +kernel
theorem dX16_writeFile_124 : decode cX16_writeFile 124 = .ok (.aload_n 0, 1) := by decide +kernel
theorem dX16_writeFile_125 : decode cX16_writeFile 125 = .ok (.getfield 79, 3) := by decide +kernel
theorem dX16_writeFile_128 : decode cX16_writeFile 128 = .ok (.iload_n 1, 1) := by decide +kernel
theorem dX16_writeFile_129 : decode cX16_writeFile 129 = .ok (.iload 5, 2) := by decide +kernel
theorem dX16_writeFile_131 : decode cX16_writeFile 131 = .ok (.iload 4, 2) := by decide +kernel
theorem dX16_writeFile_133 : decode cX16_writeFile 133 = .ok (.iadd, 1) := by decide +kernel
theorem dX16_writeFile_134 : decode cX16_writeFile 134 = .ok (.iastore, 1) := by decide +kernel
theorem dX16_writeFile_135 : decode cX16_writeFile 135 = .ok (.aload_n 0, 1) := by decide +kernel
theorem dX16_writeFile_136 : decode cX16_writeFile 136 = .ok (.getfield 100, 3) := by decide +kernel
theorem dX16_writeFile_139 : decode cX16_writeFile 139 = .ok (.iload_n 2, 1) := by decide +kernel
theorem dX16_writeFile_140 : decode cX16_writeFile 140 = .ok (.iload 5, 2) := by decide +kernel
theorem dX16_writeFile_142 : decode cX16_writeFile 142 = .ok (.iload 4, 2) := by decide +kernel
theorem dX16_writeFile_144 : decode cX16_writeFile 144 = .ok (.iadd, 1) := by decide +kernel
theorem dX16_writeFile_145 : decode cX16_writeFile 145 = .ok (.aload_n 0, 1) := by decide +kernel
theorem dX16_writeFile_146 : decode cX16_writeFile 146 = .ok (.getfield 100, 3) := by decide +kernel
theorem dX16_writeFile_149 : decode cX16_writeFile 149 = .ok (.iload_n 2, 1) := by decide +kernel
theorem dX16_writeFile_150 : decode cX16_writeFile 150 = .ok (.iaload, 1) := by decide +kernel
theorem dX16_writeFile_151 : decode cX16_writeFile 151 = .ok (.if_icmp .le 11, 3) := by decide +kernel
theorem dX16_writeFile_154 : decode cX16_writeFile 154 = .ok (.iload 5, 2) := by decide +kernel
theorem dX16_writeFile_156 : decode cX16_writeFile 156 = .ok (.iload 4, 2) := by decide +kernel
theorem dX16_writeFile_158 : decode cX16_writeFile 158 = .ok (.iadd, 1) := by decide +kernel
theorem dX16_writeFile_159 : decode cX16_writeFile 159 = .ok (.goto 9, 3) := by decide +kernel
theorem dX16_writeFile_162 : decode cX16_writeFile 162 = .ok (.aload_n 0, 1) := by decide +kernel
theorem dX16_writeFile_163 : decode cX16_writeFile 163 = .ok (.getfield 100, 3) := by decide +kernel
theorem dX16_writeFile_166 : decode cX16_writeFile 166 = .ok (.iload_n 2, 1) := by decide +kernel
theorem dX16_writeFile_167 : decode cX16_writeFile 167 = .ok (.iaload, 1) := by decide +kernel
theorem dX16_writeFile_168 : decode cX16_writeFile 168 = .ok (.iastore, 1) := by decide +kernel
theorem dX16_writeFile_169 : decode cX16_writeFile 169 = .ok (.iload 4, 2) := by decide +kernel
theorem dX16_writeFile_171 : decode cX16_writeFile 171 = .ok (.ireturn, 1) := by decide +kernel
theorem dX16_close_0 : decode cX16_close 0 = .ok (.aload_n 0, 1) := by decide +kernel
theorem dX16_close_1 : decode cX16_close 1 = .ok (.aload_n 0, 1) := by decide +kernel
theorem dX16_close_2 : decode cX16_close 2 = .ok (.getfield 232, 3) := by decide +kernel
theorem dX16_close_5 : decode cX16_close 5 = .ok (.iload_n 1, 1) := by decide +kernel
theorem dX16_close_6 : decode cX16_close 6 = .ok (.invokevirtual 491, 3) := by decide +kernel
theorem dX16_close_9 : decode cX16_close 9 = .ok (.iconst (-1), 1) := by decide +kernel
theorem dX16_close_10 : decode cX16_close 10 = .ok (.if_icmp .ne 5, 3) := by decide +kernel
theorem dX16_close_13 : decode cX16_close 13 = .ok (.iconst (-1), 1) := by decide +kernel
theorem dX16_close_14 : decode cX16_close 14 = .ok (.ireturn, 1) := by decide +kernel
theorem dX16_close_15 : decode cX16_close 15 = .ok (.aload_n 0, 1) := by decide +kernel
theorem dX16_close_16 : decode cX16_close 16 = .ok (.getfield 57, 3) := by decide +kernel
theorem dX16_close_19 : decode cX16_close 19 = .ok (.bipush 16, 2) := by decide +kernel
theorem dX16_close_21 : decode cX16_close 21 = .ok (.aload_n 0, 1) := by decide +kernel
theorem dX16_close_22 : decode cX16_close 22 = .ok (.getfield 232, 3) := by decide +kernel
theorem dX16_close_25 : decode cX16_close 25 = .ok (.imul, 1) := by decide +kernel
theorem dX16_close_26 : decode cX16_close 26 = .ok (.iload_n 1, 1) := by decide +kernel
theorem dX16_close_27 : decode cX16_close 27 = .ok (.iadd, 1) := by decide +kernel
theorem dX16_close_28 : decode cX16_close 28 = .ok (.iconst (-1), 1) := by decide +kernel
theorem dX16_close_29 : decode cX16_close 29 = .ok (.iastore, 1) := by decide +kernel
theorem dX16_close_30 : decode cX16_close 30 = .ok (.aload_n 0, 1) := by decide +kernel
theorem dX16_close_31 : decode cX16_close 31 = .ok (.invokevirtual 252, 3) := by decide +kernel
theorem dX16_close_34 : decode cX16_close 34 = .ok (.iconst 0, 1) := by decide +kernel
theorem dX16_close_35 : decode cX16_close 35 = .ok (.ireturn, 1) := by decide +kernel
theorem dX16_dup_0 : decode cX16_dup 0 = .ok (.iload_n 2, 1) := by decide +kernel
theorem dX16_dup_1 : decode cX16_dup 1 = .ok (.iconst (-1), 1) := by decide +kernel
theorem dX16_dup_2 : decode cX16_dup 2 = .ok (.if_icmp .lt 9, 3) := by decide +kernel
theorem dX16_dup_5 : decode cX16_dup 5 = .ok (.iload_n 2, 1) := by decide +kernel
theorem dX16_dup_6 : decode cX16_dup 6 = .ok (.bipush 15, 2) := by decide +kernel
theorem dX16_dup_8 : decode cX16_dup 8 = .ok (.if_icmp .le 6, 3) := by decide +kernel
theorem dX16_dup_11 : decode cX16_dup 11 = .ok (.bipush (-22), 2) := by decide +kernel
theorem dX16_dup_13 : decode cX16_dup 13 = .ok (.ireturn, 1) := by decide +kernel
theorem dX16_dup_14 : decode cX16_dup 14 = .ok (.aload_n 0, 1) := by decide +kernel
theorem dX16_dup_15 : decode cX16_dup 15 = .ok (.aload_n 0, 1) := by decide +kernel
theorem dX16_dup_16 : decode cX16_dup 16 = .ok (.getfield 232, 3) := by decide +kernel
theorem dX16_dup_19 : decode cX16_dup 19 = .ok (.iload_n 1, 1) := by decide +kernel
theorem dX16_dup_20 : decode cX16_dup 20 = .ok (.invokevirtual 491, 3) := by decide +kernel
theorem dX16_dup_23 : decode cX16_dup 23 = .ok (.istore_n 3, 1) := by decide +kernel
theorem dX16_dup_24 : decode cX16_dup 24 = .ok (.iload_n 3, 1) := by decide +kernel
theorem dX16_dup_25 : decode cX16_dup 25 = .ok (.iconst (-1), 1) := by decide +kernel
theorem dX16_dup_26 : decode cX16_dup 26 = .ok (.if_icmp .ne 5, 3) := by decide +kernel
theorem dX16_dup_29 : decode cX16_dup 29 = .ok (.iconst (-1), 1) := by decide +kernel
theorem dX16_dup_30 : decode cX16_dup 30 = .ok (.ireturn, 1) := by decide +kernel
theorem dX16_dup_31 : decode cX16_dup 31 = .ok (.iload_n 2, 1) := by decide +kernel
theorem dX16_dup_32 : decode cX16_dup 32 = .ok (.ifCond .ge 22, 3) := by decide +kernel
theorem dX16_dup_35 : decode cX16_dup 35 = .ok (.aload_n 0, 1) := by decide +kernel
theorem dX16_dup_36 : decode cX16_dup 36 = .ok (.invokevirtual 249, 3) := by decide +kernel
theorem dX16_dup_39 : decode cX16_dup 39 = .ok (.iconst (-1), 1) := by decide +kernel
theorem dX16_dup_40 : decode cX16_dup 40 = .ok (.if_icmp .ne 8, 3) := by decide +kernel
theorem dX16_dup_43 : decode cX16_dup 43 = .ok (.bipush (-4), 2) := by decide +kernel
theorem dX16_dup_45 : decode cX16_dup 45 = .ok (.goto 8, 3) := by decide +kernel
theorem dX16_dup_48 : decode cX16_dup 48 = .ok (.aload_n 0, 1) := by decide +kernel
theorem dX16_dup_49 : decode cX16_dup 49 = .ok (.iload_n 3, 1) := by decide +kernel
theorem dX16_dup_50 : decode cX16_dup 50 = .ok (.invokevirtual 488, 3) := by decide +kernel
theorem dX16_dup_53 : decode cX16_dup 53 = .ok (.ireturn, 1) := by decide +kernel
theorem dX16_dup_54 : decode cX16_dup 54 = .ok (.aload_n 0, 1) := by decide +kernel
theorem dX16_dup_55 : decode cX16_dup 55 = .ok (.getfield 57, 3) := by decide +kernel
theorem dX16_dup_58 : decode cX16_dup 58 = .ok (.bipush 16, 2) := by decide +kernel
theorem dX16_dup_60 : decode cX16_dup 60 = .ok (.aload_n 0, 1) := by decide +kernel
theorem dX16_dup_61 : decode cX16_dup 61 = .ok (.getfield 232, 3) := by decide +kernel
theorem dX16_dup_64 : decode cX16_dup 64 = .ok (.imul, 1) := by decide +kernel
theorem dX16_dup_65 : decode cX16_dup 65 = .ok (.iload_n 2, 1) := by decide +kernel
theorem dX16_dup_66 : decode cX16_dup 66 = .ok (.iadd, 1) := by decide +kernel
theorem dX16_dup_67 : decode cX16_dup 67 = .ok (.iload_n 3, 1) := by decide +kernel
theorem dX16_dup_68 : decode cX16_dup 68 = .ok (.iastore, 1) := by decide +kernel
theorem dX16_dup_69 : decode cX16_dup 69 = .ok (.aload_n 0, 1) := by decide +kernel
theorem dX16_dup_70 : decode cX16_dup 70 = .ok (.invokevirtual 252, 3) := by decide +kernel
theorem dX16_dup_73 : decode cX16_dup 73 = .ok (.iload_n 2, 1) := by decide +kernel
theorem dX16_dup_74 : decode cX16_dup 74 = .ok (.ireturn, 1) := by decide +kernel
theorem dX16_nameAt_0 : decode cX16_nameAt 0 = .ok (.iconst 0, 1) := by decide +kernel
theorem dX16_nameAt_1 : decode cX16_nameAt 1 = .ok (.istore_n 2, 1) := by decide +kernel
theorem dX16_nameAt_2 : decode cX16_nameAt 2 = .ok (.iload_n 2, 1) := by decide +kernel
theorem dX16_nameAt_3 : decode cX16_nameAt 3 = .ok (.bipush 16, 2) := by decide +kernel
theorem dX16_nameAt_5 : decode cX16_nameAt 5 = .ok (.if_icmp .ge 16, 3) := by decide +kernel
theorem dX16_nameAt_8 : decode cX16_nameAt 8 = .ok (.aload_n 0, 1) := by decide +kernel
theorem dX16_nameAt_9 : decode cX16_nameAt 9 = .ok (.getfield 115, 3) := by decide +kernel
theorem dX16_nameAt_12 : decode cX16_nameAt 12 = .ok (.iload_n 2, 1) := by decide +kernel
theorem dX16_nameAt_13 : decode cX16_nameAt 13 = .ok (.iconst 0, 1) := by decide +kernel
theorem dX16_nameAt_14 : decode cX16_nameAt 14 = .ok (.iastore, 1) := by decide +kernel
theorem dX16_nameAt_15 : decode cX16_nameAt 15 = .ok (.iinc 2 1, 3) := by decide +kernel
theorem dX16_nameAt_18 : decode cX16_nameAt 18 = .ok (.goto (-16), 3) := by decide +kernel
theorem dX16_nameAt_21 : decode cX16_nameAt 21 = .ok (.iconst 0, 1) := by decide +kernel
theorem dX16_nameAt_22 : decode cX16_nameAt 22 = .ok (.istore_n 2, 1) := by decide +kernel
theorem dX16_nameAt_23 : decode cX16_nameAt 23 = .ok (.iconst 1, 1) := by decide +kernel
theorem dX16_nameAt_24 : decode cX16_nameAt 24 = .ok (.istore_n 3, 1) := by decide +kernel
theorem dX16_nameAt_25 : decode cX16_nameAt 25 = .ok (.iconst 0, 1) := by decide +kernel
theorem dX16_nameAt_26 : decode cX16_nameAt 26 = .ok (.istore 4, 2) := by decide +kernel
theorem dX16_nameAt_28 : decode cX16_nameAt 28 = .ok (.iload 4, 2) := by decide +kernel
theorem dX16_nameAt_30 : decode cX16_nameAt 30 = .ok (.bipush 16, 2) := by decide +kernel
theorem dX16_nameAt_32 : decode cX16_nameAt 32 = .ok (.if_icmp .ge 94, 3) := by decide +kernel
theorem dX16_nameAt_35 : decode cX16_nameAt 35 = .ok (.aload_n 0, 1) := by decide +kernel
theorem dX16_nameAt_36 : decode cX16_nameAt 36 = .ok (.aload_n 0, 1) := by decide +kernel
theorem dX16_nameAt_37 : decode cX16_nameAt 37 = .ok (.getfield 232, 3) := by decide +kernel
theorem dX16_nameAt_40 : decode cX16_nameAt 40 = .ok (.iload_n 1, 1) := by decide +kernel
theorem dX16_nameAt_41 : decode cX16_nameAt 41 = .ok (.iload 4, 2) := by decide +kernel
theorem dX16_nameAt_43 : decode cX16_nameAt 43 = .ok (.iadd, 1) := by decide +kernel
theorem dX16_nameAt_44 : decode cX16_nameAt 44 = .ok (.iconst 1, 1) := by decide +kernel
theorem dX16_nameAt_45 : decode cX16_nameAt 45 = .ok (.invokevirtual 218, 3) := by decide +kernel
theorem dX16_nameAt_48 : decode cX16_nameAt 48 = .ok (.ifCond .ne 6, 3) := by decide +kernel
theorem dX16_nameAt_51 : decode cX16_nameAt 51 = .ok (.bipush (-14), 2) := by decide +kernel
theorem dX16_nameAt_53 : decode cX16_nameAt 53 = .ok (.ireturn, 1) := by decide +kernel
theorem dX16_nameAt_54 : decode cX16_nameAt 54 = .ok (.aload_n 0, 1) := by decide +kernel
theorem dX16_nameAt_55 : decode cX16_nameAt 55 = .ok (.iload_n 1, 1) := by decide +kernel
theorem dX16_nameAt_56 : decode cX16_nameAt 56 = .ok (.iload 4, 2) := by decide +kernel
theorem dX16_nameAt_58 : decode cX16_nameAt 58 = .ok (.iadd, 1) := by decide +kernel
theorem dX16_nameAt_59 : decode cX16_nameAt 59 = .ok (.invokevirtual 235, 3) := by decide +kernel
theorem dX16_nameAt_62 : decode cX16_nameAt 62 = .ok (.istore 5, 2) := by decide +kernel
theorem dX16_nameAt_64 : decode cX16_nameAt 64 = .ok (.iload 5, 2) := by decide +kernel
theorem dX16_nameAt_66 : decode cX16_nameAt 66 = .ok (.ifCond .ne 18, 3) := by decide +kernel
theorem dX16_nameAt_69 : decode cX16_nameAt 69 = .ok (.iload_n 2, 1) := by decide +kernel
theorem dX16_nameAt_70 : decode cX16_nameAt 70 = .ok (.ifCond .le 11, 3) := by decide +kernel
theorem dX16_nameAt_73 : decode cX16_nameAt 73 = .ok (.iload_n 3, 1) := by decide +kernel
theorem dX16_nameAt_74 : decode cX16_nameAt 74 = .ok (.ifCond .eq 7, 3) := by decide +kernel
theorem dX16_nameAt_77 : decode cX16_nameAt 77 = .ok (.iconst 0, 1) := by decide +kernel
theorem dX16_nameAt_78 : decode cX16_nameAt 78 = .ok (.goto 5, 3) := by decide +kernel
theorem dX16_nameAt_81 : decode cX16_nameAt 81 = .ok (.bipush (-22), 2) := by decide +kernel
theorem dX16_nameAt_83 : decode cX16_nameAt 83 = .ok (.ireturn, 1) := by decide +kernel
theorem dX16_nameAt_84 : decode cX16_nameAt 84 = .ok (.iload_n 3, 1) := by decide +kernel
theorem dX16_nameAt_85 : decode cX16_nameAt 85 = .ok (.ifCond .eq 21, 3) := by decide +kernel
theorem dX16_nameAt_88 : decode cX16_nameAt 88 = .ok (.iload 5, 2) := by decide +kernel
theorem dX16_nameAt_90 : decode cX16_nameAt 90 = .ok (.bipush 32, 2) := by decide +kernel
theorem dX16_nameAt_92 : decode cX16_nameAt 92 = .ok (.if_icmp .le 14, 3) := by decide +kernel
theorem dX16_nameAt_95 : decode cX16_nameAt 95 = .ok (.iload 5, 2) := by decide +kernel
theorem dX16_nameAt_97 : decode cX16_nameAt 97 = .ok (.bipush 127, 2) := by decide +kernel
theorem dX16_nameAt_99 : decode cX16_nameAt 99 = .ok (.if_icmp .ge 7, 3) := by decide +kernel
theorem dX16_nameAt_102 : decode cX16_nameAt 102 = .ok (.iconst 1, 1) := by decide +kernel
theorem dX16_nameAt_103 : decode cX16_nameAt 103 = .ok (.goto 4, 3) := by decide +kernel
theorem dX16_nameAt_106 : decode cX16_nameAt 106 = .ok (.iconst 0, 1) := by decide +kernel
theorem dX16_nameAt_107 : decode cX16_nameAt 107 = .ok (.istore_n 3, 1) := by decide +kernel
theorem dX16_nameAt_108 : decode cX16_nameAt 108 = .ok (.aload_n 0, 1) := by decide +kernel
theorem dX16_nameAt_109 : decode cX16_nameAt 109 = .ok (.getfield 115, 3) := by decide +kernel
theorem dX16_nameAt_112 : decode cX16_nameAt 112 = .ok (.iload 4, 2) := by decide +kernel
theorem dX16_nameAt_114 : decode cX16_nameAt 114 = .ok (.iload 5, 2) := by decide +kernel
theorem dX16_nameAt_116 : decode cX16_nameAt 116 = .ok (.iastore, 1) := by decide +kernel
theorem dX16_nameAt_117 : decode cX16_nameAt 117 = .ok (.iinc 2 1, 3) := by decide +kernel
theorem dX16_nameAt_120 : decode cX16_nameAt 120 = .ok (.iinc 4 1, 3) := by decide +kernel
theorem dX16_nameAt_123 : decode cX16_nameAt 123 = .ok (.goto (-95), 3) := by decide +kernel
theorem dX16_nameAt_126 : decode cX16_nameAt 126 = .ok (.bipush (-22), 2) := by decide +kernel
theorem dX16_nameAt_128 : decode cX16_nameAt 128 = .ok (.ireturn, 1) := by decide +kernel
theorem dX16_named_0 : decode cX16_named 0 = .ok (.iconst 0, 1) := by decide +kernel
theorem dX16_named_1 : decode cX16_named 1 = .ok (.istore_n 1, 1) := by decide +kernel
theorem dX16_named_2 : decode cX16_named 2 = .ok (.iload_n 1, 1) := by decide +kernel
theorem dX16_named_3 : decode cX16_named 3 = .ok (.bipush 16, 2) := by decide +kernel
theorem dX16_named_5 : decode cX16_named 5 = .ok (.if_icmp .ge 83, 3) := by decide +kernel
theorem dX16_named_8 : decode cX16_named 8 = .ok (.aload_n 0, 1) := by decide +kernel
theorem dX16_named_9 : decode cX16_named 9 = .ok (.getfield 88, 3) := by decide +kernel
theorem dX16_named_12 : decode cX16_named 12 = .ok (.iload_n 1, 1) := by decide +kernel
theorem dX16_named_13 : decode cX16_named 13 = .ok (.baload, 1) := by decide +kernel
theorem dX16_named_14 : decode cX16_named 14 = .ok (.ifCond .eq 16, 3) := by decide +kernel
theorem dX16_named_17 : decode cX16_named 17 = .ok (.aload_n 0, 1) := by decide +kernel
theorem dX16_named_18 : decode cX16_named 18 = .ok (.getfield 91, 3) := by decide +kernel
theorem dX16_named_21 : decode cX16_named 21 = .ok (.iload_n 1, 1) := by decide +kernel
theorem dX16_named_22 : decode cX16_named 22 = .ok (.baload, 1) := by decide +kernel
theorem dX16_named_23 : decode cX16_named 23 = .ok (.ifCond .eq 7, 3) := by decide +kernel
theorem dX16_named_26 : decode cX16_named 26 = .ok (.iconst 1, 1) := by decide +kernel
theorem dX16_named_27 : decode cX16_named 27 = .ok (.goto 4, 3) := by decide +kernel
theorem dX16_named_30 : decode cX16_named 30 = .ok (.iconst 0, 1) := by decide +kernel
theorem dX16_named_31 : decode cX16_named 31 = .ok (.istore_n 2, 1) := by decide +kernel
theorem dX16_named_32 : decode cX16_named 32 = .ok (.iconst 0, 1) := by decide +kernel
theorem dX16_named_33 : decode cX16_named 33 = .ok (.istore_n 3, 1) := by decide +kernel
theorem dX16_named_34 : decode cX16_named 34 = .ok (.iload_n 3, 1) := by decide +kernel
theorem dX16_named_35 : decode cX16_named 35 = .ok (.bipush 16, 2) := by decide +kernel
theorem dX16_named_37 : decode cX16_named 37 = .ok (.if_icmp .ge 39, 3) := by decide +kernel
theorem dX16_named_40 : decode cX16_named 40 = .ok (.iload_n 2, 1) := by decide +kernel
theorem dX16_named_41 : decode cX16_named 41 = .ok (.ifCond .eq 35, 3) := by decide +kernel
theorem dX16_named_44 : decode cX16_named 44 = .ok (.aload_n 0, 1) := by decide +kernel
theorem dX16_named_45 : decode cX16_named 45 = .ok (.getfield 106, 3) := by decide +kernel
theorem dX16_named_48 : decode cX16_named 48 = .ok (.bipush 16, 2) := by decide +kernel
theorem dX16_named_50 : decode cX16_named 50 = .ok (.iload_n 1, 1) := by decide +kernel
theorem dX16_named_51 : decode cX16_named 51 = .ok (.imul, 1) := by decide +kernel
theorem dX16_named_52 : decode cX16_named 52 = .ok (.iload_n 3, 1) := by decide +kernel
theorem dX16_named_53 : decode cX16_named 53 = .ok (.iadd, 1) := by decide +kernel
theorem dX16_named_54 : decode cX16_named 54 = .ok (.iaload, 1) := by decide +kernel
theorem dX16_named_55 : decode cX16_named 55 = .ok (.aload_n 0, 1) := by decide +kernel
theorem dX16_named_56 : decode cX16_named 56 = .ok (.getfield 115, 3) := by decide +kernel
theorem dX16_named_59 : decode cX16_named 59 = .ok (.iload_n 3, 1) := by decide +kernel
theorem dX16_named_60 : decode cX16_named 60 = .ok (.iaload, 1) := by decide +kernel
theorem dX16_named_61 : decode cX16_named 61 = .ok (.if_icmp .ne 7, 3) := by decide +kernel
theorem dX16_named_64 : decode cX16_named 64 = .ok (.iconst 1, 1) := by decide +kernel
theorem dX16_named_65 : decode cX16_named 65 = .ok (.goto 4, 3) := by decide +kernel
theorem dX16_named_68 : decode cX16_named 68 = .ok (.iconst 0, 1) := by decide +kernel
theorem dX16_named_69 : decode cX16_named 69 = .ok (.istore_n 2, 1) := by decide +kernel
theorem dX16_named_70 : decode cX16_named 70 = .ok (.iinc 3 1, 3) := by decide +kernel
theorem dX16_named_73 : decode cX16_named 73 = .ok (.goto (-39), 3) := by decide +kernel
theorem dX16_named_76 : decode cX16_named 76 = .ok (.iload_n 2, 1) := by decide +kernel
theorem dX16_named_77 : decode cX16_named 77 = .ok (.ifCond .eq 5, 3) := by decide +kernel
theorem dX16_named_80 : decode cX16_named 80 = .ok (.iload_n 1, 1) := by decide +kernel
theorem dX16_named_81 : decode cX16_named 81 = .ok (.ireturn, 1) := by decide +kernel
theorem dX16_named_82 : decode cX16_named 82 = .ok (.iinc 1 1, 3) := by decide +kernel
theorem dX16_named_85 : decode cX16_named 85 = .ok (.goto (-83), 3) := by decide +kernel
theorem dX16_named_88 : decode cX16_named 88 = .ok (.iconst (-1), 1) := by decide +kernel
theorem dX16_named_89 : decode cX16_named 89 = .ok (.ireturn, 1) := by decide +kernel
theorem dX16_entitle_0 : decode cX16_entitle 0 = .ok (.aload_n 0, 1) := by decide +kernel
theorem dX16_entitle_1 : decode cX16_entitle 1 = .ok (.getfield 91, 3) := by decide +kernel
theorem dX16_entitle_4 : decode cX16_entitle 4 = .ok (.iload_n 1, 1) := by decide +kernel
theorem dX16_entitle_5 : decode cX16_entitle 5 = .ok (.iconst 1, 1) := by decide +kernel
theorem dX16_entitle_6 : decode cX16_entitle 6 = .ok (.bastore, 1) := by decide +kernel
theorem dX16_entitle_7 : decode cX16_entitle 7 = .ok (.iconst 0, 1) := by decide +kernel
theorem dX16_entitle_8 : decode cX16_entitle 8 = .ok (.istore_n 2, 1) := by decide +kernel
theorem dX16_entitle_9 : decode cX16_entitle 9 = .ok (.iload_n 2, 1) := by decide +kernel
theorem dX16_entitle_10 : decode cX16_entitle 10 = .ok (.bipush 16, 2) := by decide +kernel
theorem dX16_entitle_12 : decode cX16_entitle 12 = .ok (.if_icmp .ge 26, 3) := by decide +kernel
theorem dX16_entitle_15 : decode cX16_entitle 15 = .ok (.aload_n 0, 1) := by decide +kernel
theorem dX16_entitle_16 : decode cX16_entitle 16 = .ok (.getfield 106, 3) := by decide +kernel
theorem dX16_entitle_19 : decode cX16_entitle 19 = .ok (.bipush 16, 2) := by decide +kernel
theorem dX16_entitle_21 : decode cX16_entitle 21 = .ok (.iload_n 1, 1) := by decide +kernel
theorem dX16_entitle_22 : decode cX16_entitle 22 = .ok (.imul, 1) := by decide +kernel
theorem dX16_entitle_23 : decode cX16_entitle 23 = .ok (.iload_n 2, 1) := by decide +kernel
theorem dX16_entitle_24 : decode cX16_entitle 24 = .ok (.iadd, 1) := by decide +kernel
theorem dX16_entitle_25 : decode cX16_entitle 25 = .ok (.aload_n 0, 1) := by decide +kernel
theorem dX16_entitle_26 : decode cX16_entitle 26 = .ok (.getfield 115, 3) := by decide +kernel
theorem dX16_entitle_29 : decode cX16_entitle 29 = .ok (.iload_n 2, 1) := by decide +kernel
theorem dX16_entitle_30 : decode cX16_entitle 30 = .ok (.iaload, 1) := by decide +kernel
theorem dX16_entitle_31 : decode cX16_entitle 31 = .ok (.iastore, 1) := by decide +kernel
theorem dX16_entitle_32 : decode cX16_entitle 32 = .ok (.iinc 2 1, 3) := by decide +kernel
theorem dX16_entitle_35 : decode cX16_entitle 35 = .ok (.goto (-26), 3) := by decide +kernel
theorem dX16_entitle_38 : decode cX16_entitle 38 = .ok (.return_, 1) := by decide +kernel
theorem dX16_open_0 : decode cX16_open 0 = .ok (.iload_n 2, 1) := by decide +kernel
theorem dX16_open_1 : decode cX16_open 1 = .ok (.ifCond .le 58, 3) := by decide +kernel
theorem dX16_open_4 : decode cX16_open 4 = .ok (.iload_n 2, 1) := by decide +kernel
theorem dX16_open_5 : decode cX16_open 5 = .ok (.bipush 64, 2) := by decide +kernel
theorem dX16_open_7 : decode cX16_open 7 = .ok (.if_icmp .ge 52, 3) := by decide +kernel
theorem dX16_open_10 : decode cX16_open 10 = .ok (.iload_n 2, 1) := by decide +kernel
theorem dX16_open_11 : decode cX16_open 11 = .ok (.iconst 3, 1) := by decide +kernel
theorem dX16_open_12 : decode cX16_open 12 = .ok (.iand, 1) := by decide +kernel
theorem dX16_open_13 : decode cX16_open 13 = .ok (.ifCond .le 46, 3) := by decide +kernel
theorem dX16_open_16 : decode cX16_open 16 = .ok (.iload_n 2, 1) := by decide +kernel
theorem dX16_open_17 : decode cX16_open 17 = .ok (.iconst 4, 1) := by decide +kernel
theorem dX16_open_18 : decode cX16_open 18 = .ok (.iand, 1) := by decide +kernel
theorem dX16_open_19 : decode cX16_open 19 = .ok (.ifCond .eq 9, 3) := by decide +kernel
theorem dX16_open_22 : decode cX16_open 22 = .ok (.iload_n 2, 1) := by decide +kernel
theorem dX16_open_23 : decode cX16_open 23 = .ok (.iconst 2, 1) := by decide +kernel
theorem dX16_open_24 : decode cX16_open 24 = .ok (.iand, 1) := by decide +kernel
theorem dX16_open_25 : decode cX16_open 25 = .ok (.ifCond .le 34, 3) := by decide +kernel
theorem dX16_open_28 : decode cX16_open 28 = .ok (.iload_n 2, 1) := by decide +kernel
theorem dX16_open_29 : decode cX16_open 29 = .ok (.bipush 16, 2) := by decide +kernel
theorem dX16_open_31 : decode cX16_open 31 = .ok (.iand, 1) := by decide +kernel
theorem dX16_open_32 : decode cX16_open 32 = .ok (.ifCond .eq 10, 3) := by decide +kernel
theorem dX16_open_35 : decode cX16_open 35 = .ok (.iload_n 2, 1) := by decide +kernel
theorem dX16_open_36 : decode cX16_open 36 = .ok (.bipush 8, 2) := by decide +kernel
theorem dX16_open_38 : decode cX16_open 38 = .ok (.iand, 1) := by decide +kernel
theorem dX16_open_39 : decode cX16_open 39 = .ok (.ifCond .le 20, 3) := by decide +kernel
theorem dX16_open_42 : decode cX16_open 42 = .ok (.iload_n 2, 1) := by decide +kernel
theorem dX16_open_43 : decode cX16_open 43 = .ok (.bipush 32, 2) := by decide +kernel
theorem dX16_open_45 : decode cX16_open 45 = .ok (.iand, 1) := by decide +kernel
theorem dX16_open_46 : decode cX16_open 46 = .ok (.ifCond .eq 9, 3) := by decide +kernel
theorem dX16_open_49 : decode cX16_open 49 = .ok (.iload_n 2, 1) := by decide +kernel
theorem dX16_open_50 : decode cX16_open 50 = .ok (.iconst 2, 1) := by decide +kernel
theorem dX16_open_51 : decode cX16_open 51 = .ok (.iand, 1) := by decide +kernel
theorem dX16_open_52 : decode cX16_open 52 = .ok (.ifCond .le 7, 3) := by decide +kernel
theorem dX16_open_55 : decode cX16_open 55 = .ok (.iconst 1, 1) := by decide +kernel
theorem dX16_open_56 : decode cX16_open 56 = .ok (.goto 4, 3) := by decide +kernel
theorem dX16_open_59 : decode cX16_open 59 = .ok (.iconst 0, 1) := by decide +kernel
theorem dX16_open_60 : decode cX16_open 60 = .ok (.istore_n 3, 1) := by decide +kernel
theorem dX16_open_61 : decode cX16_open 61 = .ok (.iload_n 3, 1) := by decide +kernel
theorem dX16_open_62 : decode cX16_open 62 = .ok (.ifCond .ne 6, 3) := by decide +kernel
theorem dX16_open_65 : decode cX16_open 65 = .ok (.bipush (-22), 2) := by decide +kernel
theorem dX16_open_67 : decode cX16_open 67 = .ok (.ireturn, 1) := by decide +kernel
theorem dX16_open_68 : decode cX16_open 68 = .ok (.aload_n 0, 1) := by decide +kernel
theorem dX16_open_69 : decode cX16_open 69 = .ok (.iload_n 1, 1) := by decide +kernel
theorem dX16_open_70 : decode cX16_open 70 = .ok (.invokevirtual 505, 3) := by decide +kernel
theorem dX16_open_73 : decode cX16_open 73 = .ok (.istore 4, 2) := by decide +kernel
theorem dX16_open_75 : decode cX16_open 75 = .ok (.iload 4, 2) := by decide +kernel
theorem dX16_open_77 : decode cX16_open 77 = .ok (.ifCond .ge 6, 3) := by decide +kernel
theorem dX16_open_80 : decode cX16_open 80 = .ok (.iload 4, 2) := by decide +kernel
theorem dX16_open_82 : decode cX16_open 82 = .ok (.ireturn, 1) := by decide +kernel
theorem dX16_open_83 : decode cX16_open 83 = .ok (.aload_n 0, 1) := by decide +kernel
theorem dX16_open_84 : decode cX16_open 84 = .ok (.invokevirtual 508, 3) := by decide +kernel
theorem dX16_open_87 : decode cX16_open 87 = .ok (.istore 5, 2) := by decide +kernel
theorem dX16_open_89 : decode cX16_open 89 = .ok (.iload 5, 2) := by decide +kernel
theorem dX16_open_91 : decode cX16_open 91 = .ok (.iconst (-1), 1) := by decide +kernel
theorem dX16_open_92 : decode cX16_open 92 = .ok (.if_icmp .ne 13, 3) := by decide +kernel
theorem dX16_open_95 : decode cX16_open 95 = .ok (.iload_n 2, 1) := by decide +kernel
theorem dX16_open_96 : decode cX16_open 96 = .ok (.bipush 8, 2) := by decide +kernel
theorem dX16_open_98 : decode cX16_open 98 = .ok (.iand, 1) := by decide +kernel
theorem dX16_open_99 : decode cX16_open 99 = .ok (.ifCond .ne 6, 3) := by decide +kernel
theorem dX16_open_102 : decode cX16_open 102 = .ok (.bipush (-2), 2) := by decide +kernel
theorem dX16_open_104 : decode cX16_open 104 = .ok (.ireturn, 1) := by decide +kernel
theorem dX16_open_105 : decode cX16_open 105 = .ok (.iload 5, 2) := by decide +kernel
theorem dX16_open_107 : decode cX16_open 107 = .ok (.iconst (-1), 1) := by decide +kernel
theorem dX16_open_108 : decode cX16_open 108 = .ok (.if_icmp .eq 13, 3) := by decide +kernel
theorem dX16_open_111 : decode cX16_open 111 = .ok (.iload_n 2, 1) := by decide +kernel
theorem dX16_open_112 : decode cX16_open 112 = .ok (.bipush 16, 2) := by decide +kernel
theorem dX16_open_114 : decode cX16_open 114 = .ok (.iand, 1) := by decide +kernel
theorem dX16_open_115 : decode cX16_open 115 = .ok (.ifCond .le 6, 3) := by decide +kernel
theorem dX16_open_118 : decode cX16_open 118 = .ok (.bipush (-3), 2) := by decide +kernel
theorem dX16_open_120 : decode cX16_open 120 = .ok (.ireturn, 1) := by decide +kernel
theorem dX16_open_121 : decode cX16_open 121 = .ok (.iconst 0, 1) := by decide +kernel
theorem dX16_open_122 : decode cX16_open 122 = .ok (.istore 6, 2) := by decide +kernel
theorem dX16_open_124 : decode cX16_open 124 = .ok (.iload 6, 2) := by decide +kernel
theorem dX16_open_126 : decode cX16_open 126 = .ok (.bipush 16, 2) := by decide +kernel
theorem dX16_open_128 : decode cX16_open 128 = .ok (.if_icmp .ge 19, 3) := by decide +kernel
theorem dX16_open_131 : decode cX16_open 131 = .ok (.aload_n 0, 1) := by decide +kernel
theorem dX16_open_132 : decode cX16_open 132 = .ok (.getfield 88, 3) := by decide +kernel
theorem dX16_open_135 : decode cX16_open 135 = .ok (.iload 6, 2) := by decide +kernel
theorem dX16_open_137 : decode cX16_open 137 = .ok (.baload, 1) := by decide +kernel
theorem dX16_open_138 : decode cX16_open 138 = .ok (.ifCond .eq 9, 3) := by decide +kernel
theorem dX16_open_141 : decode cX16_open 141 = .ok (.iinc 6 1, 3) := by decide +kernel
theorem dX16_open_144 : decode cX16_open 144 = .ok (.goto (-20), 3) := by decide +kernel
theorem dX16_open_147 : decode cX16_open 147 = .ok (.aload_n 0, 1) := by decide +kernel
theorem dX16_open_148 : decode cX16_open 148 = .ok (.invokevirtual 249, 3) := by decide +kernel
theorem dX16_open_151 : decode cX16_open 151 = .ok (.iconst (-1), 1) := by decide +kernel
theorem dX16_open_152 : decode cX16_open 152 = .ok (.if_icmp .eq 24, 3) := by decide +kernel
theorem dX16_open_155 : decode cX16_open 155 = .ok (.aload_n 0, 1) := by decide +kernel
theorem dX16_open_156 : decode cX16_open 156 = .ok (.invokevirtual 246, 3) := by decide +kernel
theorem dX16_open_159 : decode cX16_open 159 = .ok (.iconst (-1), 1) := by decide +kernel
theorem dX16_open_160 : decode cX16_open 160 = .ok (.if_icmp .eq 16, 3) := by decide +kernel
theorem dX16_open_163 : decode cX16_open 163 = .ok (.iload 5, 2) := by decide +kernel
theorem dX16_open_165 : decode cX16_open 165 = .ok (.iconst (-1), 1) := by decide +kernel
theorem dX16_open_166 : decode cX16_open 166 = .ok (.if_icmp .ne 13, 3) := by decide +kernel
theorem dX16_open_169 : decode cX16_open 169 = .ok (.iload 6, 2) := by decide +kernel
theorem dX16_open_171 : decode cX16_open 171 = .ok (.bipush 16, 2) := by decide +kernel
theorem dX16_open_173 : decode cX16_open 173 = .ok (.if_icmp .ne 6, 3) := by decide +kernel
theorem dX16_open_176 : decode cX16_open 176 = .ok (.bipush (-4), 2) := by decide +kernel
theorem dX16_open_178 : decode cX16_open 178 = .ok (.ireturn, 1) := by decide +kernel
theorem dX16_open_179 : decode cX16_open 179 = .ok (.iload 5, 2) := by decide +kernel
theorem dX16_open_181 : decode cX16_open 181 = .ok (.iconst (-1), 1) := by decide +kernel
theorem dX16_open_182 : decode cX16_open 182 = .ok (.if_icmp .ne 29, 3) := by decide +kernel
theorem dX16_open_185 : decode cX16_open 185 = .ok (.iload 6, 2) := by decide +kernel
theorem dX16_open_187 : decode cX16_open 187 = .ok (.istore 5, 2) := by decide +kernel
theorem dX16_open_189 : decode cX16_open 189 = .ok (.aload_n 0, 1) := by decide +kernel
theorem dX16_open_190 : decode cX16_open 190 = .ok (.getfield 88, 3) := by decide +kernel
theorem dX16_open_193 : decode cX16_open 193 = .ok (.iload 5, 2) := by decide +kernel
theorem dX16_open_195 : decode cX16_open 195 = .ok (.iconst 1, 1) := by decide +kernel
theorem dX16_open_196 : decode cX16_open 196 = .ok (.bastore, 1) := by decide +kernel
theorem dX16_open_197 : decode cX16_open 197 = .ok (.aload_n 0, 1) := by decide +kernel
theorem dX16_open_198 : decode cX16_open 198 = .ok (.getfield 100, 3) := by decide +kernel
theorem dX16_open_201 : decode cX16_open 201 = .ok (.iload 5, 2) := by decide +kernel
theorem dX16_open_203 : decode cX16_open 203 = .ok (.iconst 0, 1) := by decide +kernel
theorem dX16_open_204 : decode cX16_open 204 = .ok (.iastore, 1) := by decide +kernel
theorem dX16_open_205 : decode cX16_open 205 = .ok (.aload_n 0, 1) := by decide +kernel
theorem dX16_open_206 : decode cX16_open 206 = .ok (.iload 5, 2) := by decide +kernel
theorem dX16_open_208 : decode cX16_open 208 = .ok (.invokevirtual 511, 3) := by decide +kernel
theorem dX16_open_211 : decode cX16_open 211 = .ok (.iload_n 2, 1) := by decide +kernel
theorem dX16_open_212 : decode cX16_open 212 = .ok (.bipush 32, 2) := by decide +kernel
theorem dX16_open_214 : decode cX16_open 214 = .ok (.iand, 1) := by decide +kernel
theorem dX16_open_215 : decode cX16_open 215 = .ok (.ifCond .le 11, 3) := by decide +kernel
theorem dX16_open_218 : decode cX16_open 218 = .ok (.aload_n 0, 1) := by decide +kernel
theorem dX16_open_219 : decode cX16_open 219 = .ok (.getfield 100, 3) := by decide +kernel
theorem dX16_open_222 : decode cX16_open 222 = .ok (.iload 5, 2) := by decide +kernel
theorem dX16_open_224 : decode cX16_open 224 = .ok (.iconst 0, 1) := by decide +kernel
theorem dX16_open_225 : decode cX16_open 225 = .ok (.iastore, 1) := by decide +kernel
theorem dX16_open_226 : decode cX16_open 226 = .ok (.aload_n 0, 1) := by decide +kernel
theorem dX16_open_227 : decode cX16_open 227 = .ok (.aload_n 0, 1) := by decide +kernel
theorem dX16_open_228 : decode cX16_open 228 = .ok (.iconst 3, 1) := by decide +kernel
theorem dX16_open_229 : decode cX16_open 229 = .ok (.iload 5, 2) := by decide +kernel
theorem dX16_open_231 : decode cX16_open 231 = .ok (.iload_n 2, 1) := by decide +kernel
theorem dX16_open_232 : decode cX16_open 232 = .ok (.bipush 7, 2) := by decide +kernel
theorem dX16_open_234 : decode cX16_open 234 = .ok (.iand, 1) := by decide +kernel
theorem dX16_open_235 : decode cX16_open 235 = .ok (.invokevirtual 168, 3) := by decide +kernel
theorem dX16_open_238 : decode cX16_open 238 = .ok (.invokevirtual 488, 3) := by decide +kernel
theorem dX16_open_241 : decode cX16_open 241 = .ok (.ireturn, 1) := by decide +kernel
theorem dX16_unlink_0 : decode cX16_unlink 0 = .ok (.aload_n 0, 1) := by decide +kernel
theorem dX16_unlink_1 : decode cX16_unlink 1 = .ok (.iload_n 1, 1) := by decide +kernel
theorem dX16_unlink_2 : decode cX16_unlink 2 = .ok (.invokevirtual 505, 3) := by decide +kernel
theorem dX16_unlink_5 : decode cX16_unlink 5 = .ok (.istore_n 2, 1) := by decide +kernel
theorem dX16_unlink_6 : decode cX16_unlink 6 = .ok (.iload_n 2, 1) := by decide +kernel
theorem dX16_unlink_7 : decode cX16_unlink 7 = .ok (.ifCond .ge 5, 3) := by decide +kernel
theorem dX16_unlink_10 : decode cX16_unlink 10 = .ok (.iload_n 2, 1) := by decide +kernel
theorem dX16_unlink_11 : decode cX16_unlink 11 = .ok (.ireturn, 1) := by decide +kernel
theorem dX16_unlink_12 : decode cX16_unlink 12 = .ok (.aload_n 0, 1) := by decide +kernel
theorem dX16_unlink_13 : decode cX16_unlink 13 = .ok (.invokevirtual 508, 3) := by decide +kernel
theorem dX16_unlink_16 : decode cX16_unlink 16 = .ok (.istore_n 3, 1) := by decide +kernel
theorem dX16_unlink_17 : decode cX16_unlink 17 = .ok (.iload_n 3, 1) := by decide +kernel
theorem dX16_unlink_18 : decode cX16_unlink 18 = .ok (.iconst (-1), 1) := by decide +kernel
theorem dX16_unlink_19 : decode cX16_unlink 19 = .ok (.if_icmp .ne 6, 3) := by decide +kernel
theorem dX16_unlink_22 : decode cX16_unlink 22 = .ok (.bipush (-2), 2) := by decide +kernel
theorem dX16_unlink_24 : decode cX16_unlink 24 = .ok (.ireturn, 1) := by decide +kernel
theorem dX16_unlink_25 : decode cX16_unlink 25 = .ok (.aload_n 0, 1) := by decide +kernel
theorem dX16_unlink_26 : decode cX16_unlink 26 = .ok (.getfield 91, 3) := by decide +kernel
theorem dX16_unlink_29 : decode cX16_unlink 29 = .ok (.iload_n 3, 1) := by decide +kernel
theorem dX16_unlink_30 : decode cX16_unlink 30 = .ok (.iconst 0, 1) := by decide +kernel
theorem dX16_unlink_31 : decode cX16_unlink 31 = .ok (.bastore, 1) := by decide +kernel
theorem dX16_unlink_32 : decode cX16_unlink 32 = .ok (.aload_n 0, 1) := by decide +kernel
theorem dX16_unlink_33 : decode cX16_unlink 33 = .ok (.invokevirtual 252, 3) := by decide +kernel
theorem dX16_unlink_36 : decode cX16_unlink 36 = .ok (.iconst 0, 1) := by decide +kernel
theorem dX16_unlink_37 : decode cX16_unlink 37 = .ok (.ireturn, 1) := by decide +kernel
theorem dX16_rename_0 : decode cX16_rename 0 = .ok (.aload_n 0, 1) := by decide +kernel
theorem dX16_rename_1 : decode cX16_rename 1 = .ok (.iload_n 1, 1) := by decide +kernel
theorem dX16_rename_2 : decode cX16_rename 2 = .ok (.invokevirtual 505, 3) := by decide +kernel
theorem dX16_rename_5 : decode cX16_rename 5 = .ok (.istore_n 3, 1) := by decide +kernel
theorem dX16_rename_6 : decode cX16_rename 6 = .ok (.iload_n 3, 1) := by decide +kernel
theorem dX16_rename_7 : decode cX16_rename 7 = .ok (.ifCond .ge 5, 3) := by decide +kernel
theorem dX16_rename_10 : decode cX16_rename 10 = .ok (.iload_n 3, 1) := by decide +kernel
theorem dX16_rename_11 : decode cX16_rename 11 = .ok (.ireturn, 1) := by decide +kernel
theorem dX16_rename_12 : decode cX16_rename 12 = .ok (.aload_n 0, 1) := by decide +kernel
theorem dX16_rename_13 : decode cX16_rename 13 = .ok (.invokevirtual 508, 3) := by decide +kernel
theorem dX16_rename_16 : decode cX16_rename 16 = .ok (.istore 4, 2) := by decide +kernel
theorem dX16_rename_18 : decode cX16_rename 18 = .ok (.aload_n 0, 1) := by decide +kernel
theorem dX16_rename_19 : decode cX16_rename 19 = .ok (.iload_n 2, 1) := by decide +kernel
theorem dX16_rename_20 : decode cX16_rename 20 = .ok (.invokevirtual 505, 3) := by decide +kernel
theorem dX16_rename_23 : decode cX16_rename 23 = .ok (.istore_n 3, 1) := by decide +kernel
theorem dX16_rename_24 : decode cX16_rename 24 = .ok (.iload_n 3, 1) := by decide +kernel
theorem dX16_rename_25 : decode cX16_rename 25 = .ok (.ifCond .ge 5, 3) := by decide +kernel
theorem dX16_rename_28 : decode cX16_rename 28 = .ok (.iload_n 3, 1) := by decide +kernel
theorem dX16_rename_29 : decode cX16_rename 29 = .ok (.ireturn, 1) := by decide +kernel
theorem dX16_rename_30 : decode cX16_rename 30 = .ok (.iload 4, 2) := by decide +kernel
theorem dX16_rename_32 : decode cX16_rename 32 = .ok (.iconst (-1), 1) := by decide +kernel
theorem dX16_rename_33 : decode cX16_rename 33 = .ok (.if_icmp .ne 6, 3) := by decide +kernel
theorem dX16_rename_36 : decode cX16_rename 36 = .ok (.bipush (-2), 2) := by decide +kernel
theorem dX16_rename_38 : decode cX16_rename 38 = .ok (.ireturn, 1) := by decide +kernel
theorem dX16_rename_39 : decode cX16_rename 39 = .ok (.aload_n 0, 1) := by decide +kernel
theorem dX16_rename_40 : decode cX16_rename 40 = .ok (.invokevirtual 508, 3) := by decide +kernel
theorem dX16_rename_43 : decode cX16_rename 43 = .ok (.istore 5, 2) := by decide +kernel
theorem dX16_rename_45 : decode cX16_rename 45 = .ok (.iload 5, 2) := by decide +kernel
theorem dX16_rename_47 : decode cX16_rename 47 = .ok (.iconst (-1), 1) := by decide +kernel
theorem dX16_rename_48 : decode cX16_rename 48 = .ok (.if_icmp .eq 18, 3) := by decide +kernel
theorem dX16_rename_51 : decode cX16_rename 51 = .ok (.iload 5, 2) := by decide +kernel
theorem dX16_rename_53 : decode cX16_rename 53 = .ok (.iload 4, 2) := by decide +kernel
theorem dX16_rename_55 : decode cX16_rename 55 = .ok (.if_icmp .eq 11, 3) := by decide +kernel
theorem dX16_rename_58 : decode cX16_rename 58 = .ok (.aload_n 0, 1) := by decide +kernel
theorem dX16_rename_59 : decode cX16_rename 59 = .ok (.getfield 91, 3) := by decide +kernel
theorem dX16_rename_62 : decode cX16_rename 62 = .ok (.iload 5, 2) := by decide +kernel
theorem dX16_rename_64 : decode cX16_rename 64 = .ok (.iconst 0, 1) := by decide +kernel
theorem dX16_rename_65 : decode cX16_rename 65 = .ok (.bastore, 1) := by decide +kernel
theorem dX16_rename_66 : decode cX16_rename 66 = .ok (.aload_n 0, 1) := by decide +kernel
theorem dX16_rename_67 : decode cX16_rename 67 = .ok (.iload 4, 2) := by decide +kernel
theorem dX16_rename_69 : decode cX16_rename 69 = .ok (.invokevirtual 511, 3) := by decide +kernel
theorem dX16_rename_72 : decode cX16_rename 72 = .ok (.aload_n 0, 1) := by decide +kernel
theorem dX16_rename_73 : decode cX16_rename 73 = .ok (.invokevirtual 252, 3) := by decide +kernel
theorem dX16_rename_76 : decode cX16_rename 76 = .ok (.iconst 0, 1) := by decide +kernel
theorem dX16_rename_77 : decode cX16_rename 77 = .ok (.ireturn, 1) := by decide +kernel
theorem dX16_seek_0 : decode cX16_seek 0 = .ok (.iload_n 3, 1) := by decide +kernel
theorem dX16_seek_1 : decode cX16_seek 1 = .ok (.ifCond .lt 8, 3) := by decide +kernel
theorem dX16_seek_4 : decode cX16_seek 4 = .ok (.iload_n 3, 1) := by decide +kernel
theorem dX16_seek_5 : decode cX16_seek 5 = .ok (.iconst 2, 1) := by decide +kernel
theorem dX16_seek_6 : decode cX16_seek 6 = .ok (.if_icmp .le 6, 3) := by decide +kernel
theorem dX16_seek_9 : decode cX16_seek 9 = .ok (.bipush (-22), 2) := by decide +kernel
theorem dX16_seek_11 : decode cX16_seek 11 = .ok (.ireturn, 1) := by decide +kernel
theorem dX16_seek_12 : decode cX16_seek 12 = .ok (.aload_n 0, 1) := by decide +kernel
theorem dX16_seek_13 : decode cX16_seek 13 = .ok (.aload_n 0, 1) := by decide +kernel
theorem dX16_seek_14 : decode cX16_seek 14 = .ok (.getfield 232, 3) := by decide +kernel
theorem dX16_seek_17 : decode cX16_seek 17 = .ok (.iload_n 1, 1) := by decide +kernel
theorem dX16_seek_18 : decode cX16_seek 18 = .ok (.invokevirtual 491, 3) := by decide +kernel
theorem dX16_seek_21 : decode cX16_seek 21 = .ok (.istore 4, 2) := by decide +kernel
theorem dX16_seek_23 : decode cX16_seek 23 = .ok (.iload 4, 2) := by decide +kernel
theorem dX16_seek_25 : decode cX16_seek 25 = .ok (.iconst (-1), 1) := by decide +kernel
theorem dX16_seek_26 : decode cX16_seek 26 = .ok (.if_icmp .eq 14, 3) := by decide +kernel
theorem dX16_seek_29 : decode cX16_seek 29 = .ok (.aload_n 0, 1) := by decide +kernel
theorem dX16_seek_30 : decode cX16_seek 30 = .ok (.getfield 73, 3) := by decide +kernel
theorem dX16_seek_33 : decode cX16_seek 33 = .ok (.iload 4, 2) := by decide +kernel
theorem dX16_seek_35 : decode cX16_seek 35 = .ok (.iaload, 1) := by decide +kernel
theorem dX16_seek_36 : decode cX16_seek 36 = .ok (.iconst 3, 1) := by decide +kernel
theorem dX16_seek_37 : decode cX16_seek 37 = .ok (.if_icmp .eq 5, 3) := by decide +kernel
theorem dX16_seek_40 : decode cX16_seek 40 = .ok (.iconst (-1), 1) := by decide +kernel
theorem dX16_seek_41 : decode cX16_seek 41 = .ok (.ireturn, 1) := by decide +kernel
theorem dX16_seek_42 : decode cX16_seek 42 = .ok (.iload_n 3, 1) := by decide +kernel
theorem dX16_seek_43 : decode cX16_seek 43 = .ok (.ifCond .ne 7, 3) := by decide +kernel
theorem dX16_seek_46 : decode cX16_seek 46 = .ok (.lconst 0, 1) := by decide +kernel
theorem dX16_seek_47 : decode cX16_seek 47 = .ok (.goto 32, 3) := by decide +kernel
theorem dX16_seek_50 : decode cX16_seek 50 = .ok (.iload_n 3, 1) := by decide +kernel
theorem dX16_seek_51 : decode cX16_seek 51 = .ok (.iconst 1, 1) := by decide +kernel
theorem dX16_seek_52 : decode cX16_seek 52 = .ok (.if_icmp .ne 14, 3) := by decide +kernel
theorem dX16_seek_55 : decode cX16_seek 55 = .ok (.aload_n 0, 1) := by decide +kernel
theorem dX16_seek_56 : decode cX16_seek 56 = .ok (.getfield 79, 3) := by decide +kernel
theorem dX16_seek_59 : decode cX16_seek 59 = .ok (.iload 4, 2) := by decide +kernel
theorem dX16_seek_61 : decode cX16_seek 61 = .ok (.iaload, 1) := by decide +kernel
theorem dX16_seek_62 : decode cX16_seek 62 = .ok (.i2l, 1) := by decide +kernel
theorem dX16_seek_63 : decode cX16_seek 63 = .ok (.goto 16, 3) := by decide +kernel
theorem dX16_seek_66 : decode cX16_seek 66 = .ok (.aload_n 0, 1) := by decide +kernel
theorem dX16_seek_67 : decode cX16_seek 67 = .ok (.getfield 100, 3) := by decide +kernel
theorem dX16_seek_70 : decode cX16_seek 70 = .ok (.aload_n 0, 1) := by decide +kernel
theorem dX16_seek_71 : decode cX16_seek 71 = .ok (.getfield 76, 3) := by decide +kernel
theorem dX16_seek_74 : decode cX16_seek 74 = .ok (.iload 4, 2) := by decide +kernel
theorem dX16_seek_76 : decode cX16_seek 76 = .ok (.iaload, 1) := by decide +kernel
theorem dX16_seek_77 : decode cX16_seek 77 = .ok (.iaload, 1) := by decide +kernel
theorem dX16_seek_78 : decode cX16_seek 78 = .ok (.i2l, 1) := by decide +kernel
theorem dX16_seek_79 : decode cX16_seek 79 = .ok (.iload_n 2, 1) := by decide +kernel
theorem dX16_seek_80 : decode cX16_seek 80 = .ok (.i2l, 1) := by decide +kernel
theorem dX16_seek_81 : decode cX16_seek 81 = .ok (.ladd, 1) := by decide +kernel
theorem dX16_seek_82 : decode cX16_seek 82 = .ok (.lstore 5, 2) := by decide +kernel
theorem dX16_seek_84 : decode cX16_seek 84 = .ok (.lload 5, 2) := by decide +kernel
theorem dX16_seek_86 : decode cX16_seek 86 = .ok (.lconst 0, 1) := by decide +kernel
theorem dX16_seek_87 : decode cX16_seek 87 = .ok (.lcmp, 1) := by decide +kernel
theorem dX16_seek_88 : decode cX16_seek 88 = .ok (.ifCond .lt 12, 3) := by decide +kernel
theorem dX16_seek_91 : decode cX16_seek 91 = .ok (.lload 5, 2) := by decide +kernel
theorem dX16_seek_93 : decode cX16_seek 93 = .ok (.ldc2_w 514, 3) := by decide +kernel
theorem dX16_seek_96 : decode cX16_seek 96 = .ok (.lcmp, 1) := by decide +kernel
theorem dX16_seek_97 : decode cX16_seek 97 = .ok (.ifCond .le 5, 3) := by decide +kernel
theorem dX16_seek_100 : decode cX16_seek 100 = .ok (.iconst (-1), 1) := by decide +kernel
theorem dX16_seek_101 : decode cX16_seek 101 = .ok (.ireturn, 1) := by decide +kernel
theorem dX16_seek_102 : decode cX16_seek 102 = .ok (.aload_n 0, 1) := by decide +kernel
theorem dX16_seek_103 : decode cX16_seek 103 = .ok (.getfield 79, 3) := by decide +kernel
theorem dX16_seek_106 : decode cX16_seek 106 = .ok (.iload 4, 2) := by decide +kernel
theorem dX16_seek_108 : decode cX16_seek 108 = .ok (.lload 5, 2) := by decide +kernel
theorem dX16_seek_110 : decode cX16_seek 110 = .ok (.l2i, 1) := by decide +kernel
theorem dX16_seek_111 : decode cX16_seek 111 = .ok (.iastore, 1) := by decide +kernel
theorem dX16_seek_112 : decode cX16_seek 112 = .ok (.aload_n 0, 1) := by decide +kernel
theorem dX16_seek_113 : decode cX16_seek 113 = .ok (.getfield 79, 3) := by decide +kernel
theorem dX16_seek_116 : decode cX16_seek 116 = .ok (.iload 4, 2) := by decide +kernel
theorem dX16_seek_118 : decode cX16_seek 118 = .ok (.iaload, 1) := by decide +kernel
theorem dX16_seek_119 : decode cX16_seek 119 = .ok (.ireturn, 1) := by decide +kernel
theorem dX16_grow_0 : decode cX16_grow 0 = .ok (.iload_n 1, 1) := by decide +kernel
theorem dX16_grow_1 : decode cX16_grow 1 = .ok (.aload_n 0, 1) := by decide +kernel
theorem dX16_grow_2 : decode cX16_grow 2 = .ok (.getfield 25, 3) := by decide +kernel
theorem dX16_grow_5 : decode cX16_grow 5 = .ok (.aload_n 0, 1) := by decide +kernel
theorem dX16_grow_6 : decode cX16_grow 6 = .ok (.getfield 232, 3) := by decide +kernel
theorem dX16_grow_9 : decode cX16_grow 9 = .ok (.iaload, 1) := by decide +kernel
theorem dX16_grow_10 : decode cX16_grow 10 = .ok (.if_icmp .lt 10, 3) := by decide +kernel
theorem dX16_grow_13 : decode cX16_grow 13 = .ok (.iload_n 1, 1) := by decide +kernel
theorem dX16_grow_14 : decode cX16_grow 14 = .ok (.ldc_w 516, 3) := by decide +kernel
theorem dX16_grow_17 : decode cX16_grow 17 = .ok (.if_icmp .le 6, 3) := by decide +kernel
theorem dX16_grow_20 : decode cX16_grow 20 = .ok (.bipush (-22), 2) := by decide +kernel
theorem dX16_grow_22 : decode cX16_grow 22 = .ok (.ireturn, 1) := by decide +kernel
theorem dX16_grow_23 : decode cX16_grow 23 = .ok (.aload_n 0, 1) := by decide +kernel
theorem dX16_grow_24 : decode cX16_grow 24 = .ok (.getfield 28, 3) := by decide +kernel
theorem dX16_grow_27 : decode cX16_grow 27 = .ok (.aload_n 0, 1) := by decide +kernel
theorem dX16_grow_28 : decode cX16_grow 28 = .ok (.getfield 232, 3) := by decide +kernel
theorem dX16_grow_31 : decode cX16_grow 31 = .ok (.iaload, 1) := by decide +kernel
theorem dX16_grow_32 : decode cX16_grow 32 = .ok (.sipush 1023, 3) := by decide +kernel
theorem dX16_grow_35 : decode cX16_grow 35 = .ok (.iadd, 1) := by decide +kernel
theorem dX16_grow_36 : decode cX16_grow 36 = .ok (.sipush 1024, 3) := by decide +kernel
theorem dX16_grow_39 : decode cX16_grow 39 = .ok (.idiv, 1) := by decide +kernel
theorem dX16_grow_40 : decode cX16_grow 40 = .ok (.istore_n 2, 1) := by decide +kernel
theorem dX16_grow_41 : decode cX16_grow 41 = .ok (.iload_n 1, 1) := by decide +kernel
theorem dX16_grow_42 : decode cX16_grow 42 = .ok (.sipush 1023, 3) := by decide +kernel
theorem dX16_grow_45 : decode cX16_grow 45 = .ok (.iadd, 1) := by decide +kernel
theorem dX16_grow_46 : decode cX16_grow 46 = .ok (.sipush 1024, 3) := by decide +kernel
theorem dX16_grow_49 : decode cX16_grow 49 = .ok (.idiv, 1) := by decide +kernel
theorem dX16_grow_50 : decode cX16_grow 50 = .ok (.istore_n 3, 1) := by decide +kernel
theorem dX16_grow_51 : decode cX16_grow 51 = .ok (.iload_n 3, 1) := by decide +kernel
theorem dX16_grow_52 : decode cX16_grow 52 = .ok (.iload_n 2, 1) := by decide +kernel
theorem dX16_grow_53 : decode cX16_grow 53 = .ok (.if_icmp .le 16, 3) := by decide +kernel
theorem dX16_grow_56 : decode cX16_grow 56 = .ok (.aload_n 0, 1) := by decide +kernel
theorem dX16_grow_57 : decode cX16_grow 57 = .ok (.iload_n 3, 1) := by decide +kernel
theorem dX16_grow_58 : decode cX16_grow 58 = .ok (.iload_n 2, 1) := by decide +kernel
theorem dX16_grow_59 : decode cX16_grow 59 = .ok (.isub, 1) := by decide +kernel
theorem dX16_grow_60 : decode cX16_grow 60 = .ok (.invokevirtual 397, 3) := by decide +kernel
theorem dX16_grow_63 : decode cX16_grow 63 = .ok (.ifCond .ne 6, 3) := by decide +kernel
theorem dX16_grow_66 : decode cX16_grow 66 = .ok (.bipush (-4), 2) := by decide +kernel
theorem dX16_grow_68 : decode cX16_grow 68 = .ok (.ireturn, 1) := by decide +kernel
theorem dX16_grow_69 : decode cX16_grow 69 = .ok (.iload_n 2, 1) := by decide +kernel
theorem dX16_grow_70 : decode cX16_grow 70 = .ok (.istore 4, 2) := by decide +kernel
theorem dX16_grow_72 : decode cX16_grow 72 = .ok (.iload 4, 2) := by decide +kernel
theorem dX16_grow_74 : decode cX16_grow 74 = .ok (.iload_n 3, 1) := by decide +kernel
theorem dX16_grow_75 : decode cX16_grow 75 = .ok (.if_icmp .ge 20, 3) := by decide +kernel
theorem dX16_grow_78 : decode cX16_grow 78 = .ok (.aload_n 0, 1) := by decide +kernel
theorem dX16_grow_79 : decode cX16_grow 79 = .ok (.aload_n 0, 1) := by decide +kernel
theorem dX16_grow_80 : decode cX16_grow 80 = .ok (.getfield 232, 3) := by decide +kernel
theorem dX16_grow_83 : decode cX16_grow 83 = .ok (.iload 4, 2) := by decide +kernel
theorem dX16_grow_85 : decode cX16_grow 85 = .ok (.iconst 3, 1) := by decide +kernel
theorem dX16_grow_86 : decode cX16_grow 86 = .ok (.invokevirtual 187, 3) := by decide +kernel
theorem dX16_grow_89 : decode cX16_grow 89 = .ok (.iinc 4 1, 3) := by decide +kernel
theorem dX16_grow_92 : decode cX16_grow 92 = .ok (.goto (-20), 3) := by decide +kernel
theorem dX16_grow_95 : decode cX16_grow 95 = .ok (.iload_n 3, 1) := by decide +kernel
theorem dX16_grow_96 : decode cX16_grow 96 = .ok (.istore 4, 2) := by decide +kernel
theorem dX16_grow_98 : decode cX16_grow 98 = .ok (.iload 4, 2) := by decide +kernel
theorem dX16_grow_100 : decode cX16_grow 100 = .ok (.iload_n 2, 1) := by decide +kernel
theorem dX16_grow_101 : decode cX16_grow 101 = .ok (.if_icmp .ge 23, 3) := by decide +kernel
theorem dX16_grow_104 : decode cX16_grow 104 = .ok (.aload_n 0, 1) := by decide +kernel
theorem dX16_grow_105 : decode cX16_grow 105 = .ok (.bipush 64, 2) := by decide +kernel
theorem dX16_grow_107 : decode cX16_grow 107 = .ok (.aload_n 0, 1) := by decide +kernel
theorem dX16_grow_108 : decode cX16_grow 108 = .ok (.getfield 232, 3) := by decide +kernel
theorem dX16_grow_111 : decode cX16_grow 111 = .ok (.imul, 1) := by decide +kernel
theorem dX16_grow_112 : decode cX16_grow 112 = .ok (.iload 4, 2) := by decide +kernel
theorem dX16_grow_114 : decode cX16_grow 114 = .ok (.iadd, 1) := by decide +kernel
theorem dX16_grow_115 : decode cX16_grow 115 = .ok (.invokevirtual 211, 3) := by decide +kernel
theorem dX16_grow_118 : decode cX16_grow 118 = .ok (.iinc 4 1, 3) := by decide +kernel
theorem dX16_grow_121 : decode cX16_grow 121 = .ok (.goto (-23), 3) := by decide +kernel
theorem dX16_grow_124 : decode cX16_grow 124 = .ok (.aload_n 0, 1) := by decide +kernel
theorem dX16_grow_125 : decode cX16_grow 125 = .ok (.getfield 28, 3) := by decide +kernel
