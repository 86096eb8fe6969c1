theorem dX4_expandedSecond_255 : decode cX4_expandedSecond 255 = .ok (.iload_n 0, 1) := by decide +kernel
theorem dX4_expandedSecond_256 : decode cX4_expandedSecond 256 = .ok (.bipush 7, 2) := by decide +kernel
theorem dX4_expandedSecond_258 : decode cX4_expandedSecond 258 = .ok (.ishr, 1) := by decide +kernel
theorem dX4_expandedSecond_259 : decode cX4_expandedSecond 259 = .ok (.bipush 24, 2) := by decide +kernel
theorem dX4_expandedSecond_261 : decode cX4_expandedSecond 261 = .ok (.iand, 1) := by decide +kernel
theorem dX4_expandedSecond_262 : decode cX4_expandedSecond 262 = .ok (.ior, 1) := by decide +kernel
theorem dX4_expandedSecond_263 : decode cX4_expandedSecond 263 = .ok (.iload_n 0, 1) := by decide +kernel
theorem dX4_expandedSecond_264 : decode cX4_expandedSecond 264 = .ok (.iconst 1, 1) := by decide +kernel
theorem dX4_expandedSecond_265 : decode cX4_expandedSecond 265 = .ok (.ishl, 1) := by decide +kernel
theorem dX4_expandedSecond_266 : decode cX4_expandedSecond 266 = .ok (.sipush 192, 3) := by decide +kernel
theorem dX4_expandedSecond_269 : decode cX4_expandedSecond 269 = .ok (.iand, 1) := by decide +kernel
theorem dX4_expandedSecond_270 : decode cX4_expandedSecond 270 = .ok (.ior, 1) := by decide +kernel
theorem dX4_expandedSecond_271 : decode cX4_expandedSecond 271 = .ok (.iload_n 0, 1) := by decide +kernel
theorem dX4_expandedSecond_272 : decode cX4_expandedSecond 272 = .ok (.iconst 2, 1) := by decide +kernel
theorem dX4_expandedSecond_273 : decode cX4_expandedSecond 273 = .ok (.ishr, 1) := by decide +kernel
theorem dX4_expandedSecond_274 : decode cX4_expandedSecond 274 = .ok (.bipush 6, 2) := by decide +kernel
theorem dX4_expandedSecond_276 : decode cX4_expandedSecond 276 = .ok (.iand, 1) := by decide +kernel
theorem dX4_expandedSecond_277 : decode cX4_expandedSecond 277 = .ok (.ior, 1) := by decide +kernel
theorem dX4_expandedSecond_278 : decode cX4_expandedSecond 278 = .ok (.iload_n 0, 1) := by decide +kernel
theorem dX4_expandedSecond_279 : decode cX4_expandedSecond 279 = .ok (.iconst 3, 1) := by decide +kernel
theorem dX4_expandedSecond_280 : decode cX4_expandedSecond 280 = .ok (.ishl, 1) := by decide +kernel
theorem dX4_expandedSecond_281 : decode cX4_expandedSecond 281 = .ok (.bipush 32, 2) := by decide +kernel
theorem dX4_expandedSecond_283 : decode cX4_expandedSecond 283 = .ok (.iand, 1) := by decide +kernel
theorem dX4_expandedSecond_284 : decode cX4_expandedSecond 284 = .ok (.ior, 1) := by decide +kernel
theorem dX4_expandedSecond_285 : decode cX4_expandedSecond 285 = .ok (.istore 5, 2) := by decide +kernel
theorem dX4_expandedSecond_287 : decode cX4_expandedSecond 287 = .ok (.bipush 99, 2) := by decide +kernel
theorem dX4_expandedSecond_289 : decode cX4_expandedSecond 289 = .ok (.iload_n 0, 1) := by decide +kernel
theorem dX4_expandedSecond_290 : decode cX4_expandedSecond 290 = .ok (.bipush 13, 2) := by decide +kernel
theorem dX4_expandedSecond_292 : decode cX4_expandedSecond 292 = .ok (.ishr, 1) := by decide +kernel
theorem dX4_expandedSecond_293 : decode cX4_expandedSecond 293 = .ok (.bipush 12, 2) := by decide +kernel
theorem dX4_expandedSecond_295 : decode cX4_expandedSecond 295 = .ok (.ishl, 1) := by decide +kernel
theorem dX4_expandedSecond_296 : decode cX4_expandedSecond 296 = .ok (.sipush 4096, 3) := by decide +kernel
theorem dX4_expandedSecond_299 : decode cX4_expandedSecond 299 = .ok (.iand, 1) := by decide +kernel
theorem dX4_expandedSecond_300 : decode cX4_expandedSecond 300 = .ok (.ior, 1) := by decide +kernel
theorem dX4_expandedSecond_301 : decode cX4_expandedSecond 301 = .ok (.bipush 8, 2) := by decide +kernel
theorem dX4_expandedSecond_303 : decode cX4_expandedSecond 303 = .ok (.iload_n 0, 1) := by decide +kernel
theorem dX4_expandedSecond_304 : decode cX4_expandedSecond 304 = .ok (.bipush 7, 2) := by decide +kernel
theorem dX4_expandedSecond_306 : decode cX4_expandedSecond 306 = .ok (.ishr, 1) := by decide +kernel
theorem dX4_expandedSecond_307 : decode cX4_expandedSecond 307 = .ok (.bipush 7, 2) := by decide +kernel
theorem dX4_expandedSecond_309 : decode cX4_expandedSecond 309 = .ok (.iand, 1) := by decide +kernel
theorem dX4_expandedSecond_310 : decode cX4_expandedSecond 310 = .ok (.iadd, 1) := by decide +kernel
theorem dX4_expandedSecond_311 : decode cX4_expandedSecond 311 = .ok (.bipush 15, 2) := by decide +kernel
theorem dX4_expandedSecond_313 : decode cX4_expandedSecond 313 = .ok (.ishl, 1) := by decide +kernel
theorem dX4_expandedSecond_314 : decode cX4_expandedSecond 314 = .ok (.ior, 1) := by decide +kernel
theorem dX4_expandedSecond_315 : decode cX4_expandedSecond 315 = .ok (.iload 5, 2) := by decide +kernel
theorem dX4_expandedSecond_317 : decode cX4_expandedSecond 317 = .ok (.invokestatic 168, 3) := by decide +kernel
theorem dX4_expandedSecond_320 : decode cX4_expandedSecond 320 = .ok (.ior, 1) := by decide +kernel
theorem dX4_expandedSecond_321 : decode cX4_expandedSecond 321 = .ok (.ireturn, 1) := by decide +kernel
theorem dX4_expandedSums_0 : decode cX4_expandedSums 0 = .ok (.bipush 8, 2) := by decide +kernel
theorem dX4_expandedSums_2 : decode cX4_expandedSums 2 = .ok (.iload_n 0, 1) := by decide +kernel
theorem dX4_expandedSums_3 : decode cX4_expandedSums 3 = .ok (.bipush 7, 2) := by decide +kernel
theorem dX4_expandedSums_5 : decode cX4_expandedSums 5 = .ok (.ishr, 1) := by decide +kernel
theorem dX4_expandedSums_6 : decode cX4_expandedSums 6 = .ok (.bipush 7, 2) := by decide +kernel
theorem dX4_expandedSums_8 : decode cX4_expandedSums 8 = .ok (.iand, 1) := by decide +kernel
theorem dX4_expandedSums_9 : decode cX4_expandedSums 9 = .ok (.iadd, 1) := by decide +kernel
theorem dX4_expandedSums_10 : decode cX4_expandedSums 10 = .ok (.istore_n 1, 1) := by decide +kernel
theorem dX4_expandedSums_11 : decode cX4_expandedSums 11 = .ok (.bipush 8, 2) := by decide +kernel
theorem dX4_expandedSums_13 : decode cX4_expandedSums 13 = .ok (.iload_n 0, 1) := by decide +kernel
theorem dX4_expandedSums_14 : decode cX4_expandedSums 14 = .ok (.iconst 2, 1) := by decide +kernel
theorem dX4_expandedSums_15 : decode cX4_expandedSums 15 = .ok (.ishr, 1) := by decide +kernel
theorem dX4_expandedSums_16 : decode cX4_expandedSums 16 = .ok (.bipush 7, 2) := by decide +kernel
theorem dX4_expandedSums_18 : decode cX4_expandedSums 18 = .ok (.iand, 1) := by decide +kernel
theorem dX4_expandedSums_19 : decode cX4_expandedSums 19 = .ok (.iadd, 1) := by decide +kernel
theorem dX4_expandedSums_20 : decode cX4_expandedSums 20 = .ok (.istore_n 2, 1) := by decide +kernel
theorem dX4_expandedSums_21 : decode cX4_expandedSums 21 = .ok (.iload_n 0, 1) := by decide +kernel
theorem dX4_expandedSums_22 : decode cX4_expandedSums 22 = .ok (.sipush 4096, 3) := by decide +kernel
theorem dX4_expandedSums_25 : decode cX4_expandedSums 25 = .ok (.iand, 1) := by decide +kernel
theorem dX4_expandedSums_26 : decode cX4_expandedSums 26 = .ok (.ifCond .eq 7, 3) := by decide +kernel
theorem dX4_expandedSums_29 : decode cX4_expandedSums 29 = .ok (.iconst 1, 1) := by decide +kernel
theorem dX4_expandedSums_30 : decode cX4_expandedSums 30 = .ok (.goto 4, 3) := by decide +kernel
theorem dX4_expandedSums_33 : decode cX4_expandedSums 33 = .ok (.iconst 0, 1) := by decide +kernel
theorem dX4_expandedSums_34 : decode cX4_expandedSums 34 = .ok (.istore_n 3, 1) := by decide +kernel
theorem dX4_expandedSums_35 : decode cX4_expandedSums 35 = .ok (.iload_n 0, 1) := by decide +kernel
theorem dX4_expandedSums_36 : decode cX4_expandedSums 36 = .ok (.bipush 10, 2) := by decide +kernel
theorem dX4_expandedSums_38 : decode cX4_expandedSums 38 = .ok (.ishr, 1) := by decide +kernel
theorem dX4_expandedSums_39 : decode cX4_expandedSums 39 = .ok (.iconst 3, 1) := by decide +kernel
theorem dX4_expandedSums_40 : decode cX4_expandedSums 40 = .ok (.iand, 1) := by decide +kernel
theorem dX4_expandedSums_41 : decode cX4_expandedSums 41 = .ok (.istore 4, 2) := by decide +kernel
theorem dX4_expandedSums_43 : decode cX4_expandedSums 43 = .ok (.iload 4, 2) := by decide +kernel
theorem dX4_expandedSums_45 : decode cX4_expandedSums 45 = .ok (.iconst 2, 1) := by decide +kernel
theorem dX4_expandedSums_46 : decode cX4_expandedSums 46 = .ok (.if_icmp .ne 15, 3) := by decide +kernel
theorem dX4_expandedSums_49 : decode cX4_expandedSums 49 = .ok (.iload_n 0, 1) := by decide +kernel
theorem dX4_expandedSums_50 : decode cX4_expandedSums 50 = .ok (.invokestatic 162, 3) := by decide +kernel
theorem dX4_expandedSums_53 : decode cX4_expandedSums 53 = .ok (.iload_n 1, 1) := by decide +kernel
theorem dX4_expandedSums_54 : decode cX4_expandedSums 54 = .ok (.bipush 7, 2) := by decide +kernel
theorem dX4_expandedSums_56 : decode cX4_expandedSums 56 = .ok (.iload_n 1, 1) := by decide +kernel
theorem dX4_expandedSums_57 : decode cX4_expandedSums 57 = .ok (.invokestatic 153, 3) := by decide +kernel
theorem dX4_expandedSums_60 : decode cX4_expandedSums 60 = .ok (.ireturn, 1) := by decide +kernel
theorem dX4_expandedSums_61 : decode cX4_expandedSums 61 = .ok (.iload_n 3, 1) := by decide +kernel
theorem dX4_expandedSums_62 : decode cX4_expandedSums 62 = .ok (.ifCond .eq 5, 3) := by decide +kernel
theorem dX4_expandedSums_65 : decode cX4_expandedSums 65 = .ok (.iconst 0, 1) := by decide +kernel
theorem dX4_expandedSums_66 : decode cX4_expandedSums 66 = .ok (.ireturn, 1) := by decide +kernel
theorem dX4_expandedSums_67 : decode cX4_expandedSums 67 = .ok (.iload 4, 2) := by decide +kernel
theorem dX4_expandedSums_69 : decode cX4_expandedSums 69 = .ok (.iconst 2, 1) := by decide +kernel
theorem dX4_expandedSums_70 : decode cX4_expandedSums 70 = .ok (.if_icmp .ge 22, 3) := by decide +kernel
theorem dX4_expandedSums_73 : decode cX4_expandedSums 73 = .ok (.iload_n 0, 1) := by decide +kernel
theorem dX4_expandedSums_74 : decode cX4_expandedSums 74 = .ok (.iconst 2, 1) := by decide +kernel
theorem dX4_expandedSums_75 : decode cX4_expandedSums 75 = .ok (.ishr, 1) := by decide +kernel
theorem dX4_expandedSums_76 : decode cX4_expandedSums 76 = .ok (.bipush 31, 2) := by decide +kernel
theorem dX4_expandedSums_78 : decode cX4_expandedSums 78 = .ok (.iand, 1) := by decide +kernel
theorem dX4_expandedSums_79 : decode cX4_expandedSums 79 = .ok (.iload 4, 2) := by decide +kernel
theorem dX4_expandedSums_81 : decode cX4_expandedSums 81 = .ok (.bipush 10, 2) := by decide +kernel
theorem dX4_expandedSums_83 : decode cX4_expandedSums 83 = .ok (.ishl, 1) := by decide +kernel
theorem dX4_expandedSums_84 : decode cX4_expandedSums 84 = .ok (.ior, 1) := by decide +kernel
theorem dX4_expandedSums_85 : decode cX4_expandedSums 85 = .ok (.iload_n 1, 1) := by decide +kernel
theorem dX4_expandedSums_86 : decode cX4_expandedSums 86 = .ok (.iconst 5, 1) := by decide +kernel
theorem dX4_expandedSums_87 : decode cX4_expandedSums 87 = .ok (.iload_n 1, 1) := by decide +kernel
theorem dX4_expandedSums_88 : decode cX4_expandedSums 88 = .ok (.invokestatic 153, 3) := by decide +kernel
theorem dX4_expandedSums_91 : decode cX4_expandedSums 91 = .ok (.ireturn, 1) := by decide +kernel
theorem dX4_expandedSums_92 : decode cX4_expandedSums 92 = .ok (.iload_n 2, 1) := by decide +kernel
theorem dX4_expandedSums_93 : decode cX4_expandedSums 93 = .ok (.bipush 20, 2) := by decide +kernel
theorem dX4_expandedSums_95 : decode cX4_expandedSums 95 = .ok (.ishl, 1) := by decide +kernel
theorem dX4_expandedSums_96 : decode cX4_expandedSums 96 = .ok (.iload_n 1, 1) := by decide +kernel
theorem dX4_expandedSums_97 : decode cX4_expandedSums 97 = .ok (.bipush 15, 2) := by decide +kernel
theorem dX4_expandedSums_99 : decode cX4_expandedSums 99 = .ok (.ishl, 1) := by decide +kernel
theorem dX4_expandedSums_100 : decode cX4_expandedSums 100 = .ok (.ior, 1) := by decide +kernel
theorem dX4_expandedSums_101 : decode cX4_expandedSums 101 = .ok (.iload_n 1, 1) := by decide +kernel
theorem dX4_expandedSums_102 : decode cX4_expandedSums 102 = .ok (.bipush 7, 2) := by decide +kernel
theorem dX4_expandedSums_104 : decode cX4_expandedSums 104 = .ok (.ishl, 1) := by decide +kernel
theorem dX4_expandedSums_105 : decode cX4_expandedSums 105 = .ok (.ior, 1) := by decide +kernel
theorem dX4_expandedSums_106 : decode cX4_expandedSums 106 = .ok (.bipush 51, 2) := by decide +kernel
theorem dX4_expandedSums_108 : decode cX4_expandedSums 108 = .ok (.ior, 1) := by decide +kernel
theorem dX4_expandedSums_109 : decode cX4_expandedSums 109 = .ok (.istore 5, 2) := by decide +kernel
theorem dX4_expandedSums_111 : decode cX4_expandedSums 111 = .ok (.iload_n 0, 1) := by decide +kernel
theorem dX4_expandedSums_112 : decode cX4_expandedSums 112 = .ok (.iconst 5, 1) := by decide +kernel
theorem dX4_expandedSums_113 : decode cX4_expandedSums 113 = .ok (.ishr, 1) := by decide +kernel
theorem dX4_expandedSums_114 : decode cX4_expandedSums 114 = .ok (.iconst 3, 1) := by decide +kernel
theorem dX4_expandedSums_115 : decode cX4_expandedSums 115 = .ok (.iand, 1) := by decide +kernel
theorem dX4_expandedSums_116 : decode cX4_expandedSums 116 = .ok (.tableswitch 48 0 2 #[28, 34, 41], 28) := by decide +kernel
theorem dX4_expandedSums_144 : decode cX4_expandedSums 144 = .ok (.iload 5, 2) := by decide +kernel
theorem dX4_expandedSums_146 : decode cX4_expandedSums 146 = .ok (.ldc 171, 2) := by decide +kernel
theorem dX4_expandedSums_148 : decode cX4_expandedSums 148 = .ok (.ior, 1) := by decide +kernel
theorem dX4_expandedSums_149 : decode cX4_expandedSums 149 = .ok (.ireturn, 1) := by decide +kernel
theorem dX4_expandedSums_150 : decode cX4_expandedSums 150 = .ok (.iload 5, 2) := by decide +kernel
theorem dX4_expandedSums_152 : decode cX4_expandedSums 152 = .ok (.sipush 16384, 3) := by decide +kernel
theorem dX4_expandedSums_155 : decode cX4_expandedSums 155 = .ok (.ior, 1) := by decide +kernel
theorem dX4_expandedSums_156 : decode cX4_expandedSums 156 = .ok (.ireturn, 1) := by decide +kernel
theorem dX4_expandedSums_157 : decode cX4_expandedSums 157 = .ok (.iload 5, 2) := by decide +kernel
theorem dX4_expandedSums_159 : decode cX4_expandedSums 159 = .ok (.sipush 24576, 3) := by decide +kernel
theorem dX4_expandedSums_162 : decode cX4_expandedSums 162 = .ok (.ior, 1) := by decide +kernel
theorem dX4_expandedSums_163 : decode cX4_expandedSums 163 = .ok (.ireturn, 1) := by decide +kernel
theorem dX4_expandedSums_164 : decode cX4_expandedSums 164 = .ok (.iload 5, 2) := by decide +kernel
theorem dX4_expandedSums_166 : decode cX4_expandedSums 166 = .ok (.sipush 28672, 3) := by decide +kernel
theorem dX4_expandedSums_169 : decode cX4_expandedSums 169 = .ok (.ior, 1) := by decide +kernel
theorem dX4_expandedSums_170 : decode cX4_expandedSums 170 = .ok (.ireturn, 1) := by decide +kernel
theorem dX4_expandedThird_0 : decode cX4_expandedThird 0 = .ok (.iload_n 0, 1) := by decide +kernel
theorem dX4_expandedThird_1 : decode cX4_expandedThird 1 = .ok (.bipush 7, 2) := by decide +kernel
theorem dX4_expandedThird_3 : decode cX4_expandedThird 3 = .ok (.ishr, 1) := by decide +kernel
theorem dX4_expandedThird_4 : decode cX4_expandedThird 4 = .ok (.bipush 31, 2) := by decide +kernel
theorem dX4_expandedThird_6 : decode cX4_expandedThird 6 = .ok (.iand, 1) := by decide +kernel
theorem dX4_expandedThird_7 : decode cX4_expandedThird 7 = .ok (.istore_n 1, 1) := by decide +kernel
theorem dX4_expandedThird_8 : decode cX4_expandedThird 8 = .ok (.iload_n 0, 1) := by decide +kernel
theorem dX4_expandedThird_9 : decode cX4_expandedThird 9 = .ok (.iconst 2, 1) := by decide +kernel
theorem dX4_expandedThird_10 : decode cX4_expandedThird 10 = .ok (.ishr, 1) := by decide +kernel
theorem dX4_expandedThird_11 : decode cX4_expandedThird 11 = .ok (.bipush 31, 2) := by decide +kernel
theorem dX4_expandedThird_13 : decode cX4_expandedThird 13 = .ok (.iand, 1) := by decide +kernel
theorem dX4_expandedThird_14 : decode cX4_expandedThird 14 = .ok (.istore_n 2, 1) := by decide +kernel
theorem dX4_expandedThird_15 : decode cX4_expandedThird 15 = .ok (.iload_n 0, 1) := by decide +kernel
theorem dX4_expandedThird_16 : decode cX4_expandedThird 16 = .ok (.sipush 4096, 3) := by decide +kernel
theorem dX4_expandedThird_19 : decode cX4_expandedThird 19 = .ok (.iand, 1) := by decide +kernel
theorem dX4_expandedThird_20 : decode cX4_expandedThird 20 = .ok (.ifCond .eq 7, 3) := by decide +kernel
theorem dX4_expandedThird_23 : decode cX4_expandedThird 23 = .ok (.iconst 1, 1) := by decide +kernel
theorem dX4_expandedThird_24 : decode cX4_expandedThird 24 = .ok (.goto 4, 3) := by decide +kernel
theorem dX4_expandedThird_27 : decode cX4_expandedThird 27 = .ok (.iconst 0, 1) := by decide +kernel
theorem dX4_expandedThird_28 : decode cX4_expandedThird 28 = .ok (.istore_n 3, 1) := by decide +kernel
theorem dX4_expandedThird_29 : decode cX4_expandedThird 29 = .ok (.iload_n 0, 1) := by decide +kernel
theorem dX4_expandedThird_30 : decode cX4_expandedThird 30 = .ok (.bipush 13, 2) := by decide +kernel
theorem dX4_expandedThird_32 : decode cX4_expandedThird 32 = .ok (.ishr, 1) := by decide +kernel
theorem dX4_expandedThird_33 : decode cX4_expandedThird 33 = .ok (.tableswitch 182 0 6 #[43, 182, 59, 182, 95, 182, 161], 43) := by decide +kernel
theorem dX4_expandedThird_76 : decode cX4_expandedThird 76 = .ok (.iload_n 3, 1) := by decide +kernel
theorem dX4_expandedThird_77 : decode cX4_expandedThird 77 = .ok (.ifCond .eq 7, 3) := by decide +kernel
theorem dX4_expandedThird_80 : decode cX4_expandedThird 80 = .ok (.iconst 0, 1) := by decide +kernel
theorem dX4_expandedThird_81 : decode cX4_expandedThird 81 = .ok (.goto 10, 3) := by decide +kernel
theorem dX4_expandedThird_84 : decode cX4_expandedThird 84 = .ok (.iload_n 2, 1) := by decide +kernel
theorem dX4_expandedThird_85 : decode cX4_expandedThird 85 = .ok (.iload_n 1, 1) := by decide +kernel
theorem dX4_expandedThird_86 : decode cX4_expandedThird 86 = .ok (.iconst 1, 1) := by decide +kernel
theorem dX4_expandedThird_87 : decode cX4_expandedThird 87 = .ok (.iload_n 1, 1) := by decide +kernel
theorem dX4_expandedThird_88 : decode cX4_expandedThird 88 = .ok (.invokestatic 153, 3) := by decide +kernel
theorem dX4_expandedThird_91 : decode cX4_expandedThird 91 = .ok (.ireturn, 1) := by decide +kernel
theorem dX4_expandedThird_92 : decode cX4_expandedThird 92 = .ok (.iload_n 1, 1) := by decide +kernel
theorem dX4_expandedThird_93 : decode cX4_expandedThird 93 = .ok (.ifCond .ne 7, 3) := by decide +kernel
theorem dX4_expandedThird_96 : decode cX4_expandedThird 96 = .ok (.iconst 0, 1) := by decide +kernel
theorem dX4_expandedThird_97 : decode cX4_expandedThird 97 = .ok (.goto 30, 3) := by decide +kernel
theorem dX4_expandedThird_100 : decode cX4_expandedThird 100 = .ok (.iload_n 0, 1) := by decide +kernel
theorem dX4_expandedThird_101 : decode cX4_expandedThird 101 = .ok (.bipush 7, 2) := by decide +kernel
theorem dX4_expandedThird_103 : decode cX4_expandedThird 103 = .ok (.ishr, 1) := by decide +kernel
theorem dX4_expandedThird_104 : decode cX4_expandedThird 104 = .ok (.bipush 32, 2) := by decide +kernel
theorem dX4_expandedThird_106 : decode cX4_expandedThird 106 = .ok (.iand, 1) := by decide +kernel
theorem dX4_expandedThird_107 : decode cX4_expandedThird 107 = .ok (.iload_n 0, 1) := by decide +kernel
theorem dX4_expandedThird_108 : decode cX4_expandedThird 108 = .ok (.iconst 2, 1) := by decide +kernel
theorem dX4_expandedThird_109 : decode cX4_expandedThird 109 = .ok (.ishr, 1) := by decide +kernel
theorem dX4_expandedThird_110 : decode cX4_expandedThird 110 = .ok (.bipush 28, 2) := by decide +kernel
theorem dX4_expandedThird_112 : decode cX4_expandedThird 112 = .ok (.iand, 1) := by decide +kernel
theorem dX4_expandedThird_113 : decode cX4_expandedThird 113 = .ok (.ior, 1) := by decide +kernel
theorem dX4_expandedThird_114 : decode cX4_expandedThird 114 = .ok (.iload_n 0, 1) := by decide +kernel
theorem dX4_expandedThird_115 : decode cX4_expandedThird 115 = .ok (.iconst 4, 1) := by decide +kernel
theorem dX4_expandedThird_116 : decode cX4_expandedThird 116 = .ok (.ishl, 1) := by decide +kernel
theorem dX4_expandedThird_117 : decode cX4_expandedThird 117 = .ok (.sipush 192, 3) := by decide +kernel
theorem dX4_expandedThird_120 : decode cX4_expandedThird 120 = .ok (.iand, 1) := by decide +kernel
theorem dX4_expandedThird_121 : decode cX4_expandedThird 121 = .ok (.ior, 1) := by decide +kernel
theorem dX4_expandedThird_122 : decode cX4_expandedThird 122 = .ok (.iconst 2, 1) := by decide +kernel
theorem dX4_expandedThird_123 : decode cX4_expandedThird 123 = .ok (.iload_n 1, 1) := by decide +kernel
theorem dX4_expandedThird_124 : decode cX4_expandedThird 124 = .ok (.invokestatic 156, 3) := by decide +kernel
theorem dX4_expandedThird_127 : decode cX4_expandedThird 127 = .ok (.ireturn, 1) := by decide +kernel
theorem dX4_expandedThird_128 : decode cX4_expandedThird 128 = .ok (.iload_n 2, 1) := by decide +kernel
theorem dX4_expandedThird_129 : decode cX4_expandedThird 129 = .ok (.ifCond .eq 29, 3) := by decide +kernel
theorem dX4_expandedThird_132 : decode cX4_expandedThird 132 = .ok (.iload_n 2, 1) := by decide +kernel
theorem dX4_expandedThird_133 : decode cX4_expandedThird 133 = .ok (.bipush 20, 2) := by decide +kernel
theorem dX4_expandedThird_135 : decode cX4_expandedThird 135 = .ok (.ishl, 1) := by decide +kernel
theorem dX4_expandedThird_136 : decode cX4_expandedThird 136 = .ok (.iload_n 3, 1) := by decide +kernel
theorem dX4_expandedThird_137 : decode cX4_expandedThird 137 = .ok (.ifCond .eq 7, 3) := by decide +kernel
theorem dX4_expandedThird_140 : decode cX4_expandedThird 140 = .ok (.iload_n 1, 1) := by decide +kernel
theorem dX4_expandedThird_141 : decode cX4_expandedThird 141 = .ok (.goto 4, 3) := by decide +kernel
theorem dX4_expandedThird_144 : decode cX4_expandedThird 144 = .ok (.iconst 0, 1) := by decide +kernel
theorem dX4_expandedThird_145 : decode cX4_expandedThird 145 = .ok (.bipush 15, 2) := by decide +kernel
theorem dX4_expandedThird_147 : decode cX4_expandedThird 147 = .ok (.ishl, 1) := by decide +kernel
theorem dX4_expandedThird_148 : decode cX4_expandedThird 148 = .ok (.ior, 1) := by decide +kernel
theorem dX4_expandedThird_149 : decode cX4_expandedThird 149 = .ok (.iload_n 1, 1) := by decide +kernel
theorem dX4_expandedThird_150 : decode cX4_expandedThird 150 = .ok (.bipush 7, 2) := by decide +kernel
theorem dX4_expandedThird_152 : decode cX4_expandedThird 152 = .ok (.ishl, 1) := by decide +kernel
theorem dX4_expandedThird_153 : decode cX4_expandedThird 153 = .ok (.ior, 1) := by decide +kernel
theorem dX4_expandedThird_154 : decode cX4_expandedThird 154 = .ok (.bipush 51, 2) := by decide +kernel
theorem dX4_expandedThird_156 : decode cX4_expandedThird 156 = .ok (.ior, 1) := by decide +kernel
theorem dX4_expandedThird_157 : decode cX4_expandedThird 157 = .ok (.ireturn, 1) := by decide +kernel
theorem dX4_expandedThird_158 : decode cX4_expandedThird 158 = .ok (.iload_n 1, 1) := by decide +kernel
theorem dX4_expandedThird_159 : decode cX4_expandedThird 159 = .ok (.ifCond .ne 14, 3) := by decide +kernel
theorem dX4_expandedThird_162 : decode cX4_expandedThird 162 = .ok (.iload_n 3, 1) := by decide +kernel
theorem dX4_expandedThird_163 : decode cX4_expandedThird 163 = .ok (.ifCond .eq 8, 3) := by decide +kernel
theorem dX4_expandedThird_166 : decode cX4_expandedThird 166 = .ok (.ldc 136, 2) := by decide +kernel
theorem dX4_expandedThird_168 : decode cX4_expandedThird 168 = .ok (.goto 4, 3) := by decide +kernel
theorem dX4_expandedThird_171 : decode cX4_expandedThird 171 = .ok (.iconst 0, 1) := by decide +kernel
theorem dX4_expandedThird_172 : decode cX4_expandedThird 172 = .ok (.ireturn, 1) := by decide +kernel
theorem dX4_expandedThird_173 : decode cX4_expandedThird 173 = .ok (.iload_n 1, 1) := by decide +kernel
theorem dX4_expandedThird_174 : decode cX4_expandedThird 174 = .ok (.bipush 15, 2) := by decide +kernel
theorem dX4_expandedThird_176 : decode cX4_expandedThird 176 = .ok (.ishl, 1) := by decide +kernel
theorem dX4_expandedThird_177 : decode cX4_expandedThird 177 = .ok (.iload_n 3, 1) := by decide +kernel
theorem dX4_expandedThird_178 : decode cX4_expandedThird 178 = .ok (.ifCond .eq 7, 3) := by decide +kernel
theorem dX4_expandedThird_181 : decode cX4_expandedThird 181 = .ok (.iconst 1, 1) := by decide +kernel
theorem dX4_expandedThird_182 : decode cX4_expandedThird 182 = .ok (.goto 4, 3) := by decide +kernel
theorem dX4_expandedThird_185 : decode cX4_expandedThird 185 = .ok (.iconst 0, 1) := by decide +kernel
theorem dX4_expandedThird_186 : decode cX4_expandedThird 186 = .ok (.bipush 7, 2) := by decide +kernel
theorem dX4_expandedThird_188 : decode cX4_expandedThird 188 = .ok (.ishl, 1) := by decide +kernel
theorem dX4_expandedThird_189 : decode cX4_expandedThird 189 = .ok (.ior, 1) := by decide +kernel
theorem dX4_expandedThird_190 : decode cX4_expandedThird 190 = .ok (.bipush 103, 2) := by decide +kernel
theorem dX4_expandedThird_192 : decode cX4_expandedThird 192 = .ok (.ior, 1) := by decide +kernel
theorem dX4_expandedThird_193 : decode cX4_expandedThird 193 = .ok (.ireturn, 1) := by decide +kernel
theorem dX4_expandedThird_194 : decode cX4_expandedThird 194 = .ok (.iload_n 0, 1) := by decide +kernel
theorem dX4_expandedThird_195 : decode cX4_expandedThird 195 = .ok (.bipush 7, 2) := by decide +kernel
theorem dX4_expandedThird_197 : decode cX4_expandedThird 197 = .ok (.ishr, 1) := by decide +kernel
theorem dX4_expandedThird_198 : decode cX4_expandedThird 198 = .ok (.bipush 60, 2) := by decide +kernel
theorem dX4_expandedThird_200 : decode cX4_expandedThird 200 = .ok (.iand, 1) := by decide +kernel
theorem dX4_expandedThird_201 : decode cX4_expandedThird 201 = .ok (.iload_n 0, 1) := by decide +kernel
theorem dX4_expandedThird_202 : decode cX4_expandedThird 202 = .ok (.iconst 1, 1) := by decide +kernel
theorem dX4_expandedThird_203 : decode cX4_expandedThird 203 = .ok (.ishr, 1) := by decide +kernel
theorem dX4_expandedThird_204 : decode cX4_expandedThird 204 = .ok (.sipush 192, 3) := by decide +kernel
theorem dX4_expandedThird_207 : decode cX4_expandedThird 207 = .ok (.iand, 1) := by decide +kernel
theorem dX4_expandedThird_208 : decode cX4_expandedThird 208 = .ok (.ior, 1) := by decide +kernel
theorem dX4_expandedThird_209 : decode cX4_expandedThird 209 = .ok (.iconst 2, 1) := by decide +kernel
theorem dX4_expandedThird_210 : decode cX4_expandedThird 210 = .ok (.iload_n 2, 1) := by decide +kernel
theorem dX4_expandedThird_211 : decode cX4_expandedThird 211 = .ok (.invokestatic 159, 3) := by decide +kernel
theorem dX4_expandedThird_214 : decode cX4_expandedThird 214 = .ok (.ireturn, 1) := by decide +kernel
theorem dX4_expandedThird_215 : decode cX4_expandedThird 215 = .ok (.iconst 0, 1) := by decide +kernel
theorem dX4_expandedThird_216 : decode cX4_expandedThird 216 = .ok (.ireturn, 1) := by decide +kernel
theorem dX6_start_0 : decode cX6_start 0 = .ok (.aload_n 0, 1) := by decide +kernel
theorem dX6_start_1 : decode cX6_start 1 = .ok (.getfield 14, 3) := by decide +kernel
theorem dX6_start_4 : decode cX6_start 4 = .ok (.iconst 0, 1) := by decide +kernel
theorem dX6_start_5 : decode cX6_start 5 = .ok (.invokestatic 46, 3) := by decide +kernel
theorem dX6_start_8 : decode cX6_start 8 = .ok (.aload_n 0, 1) := by decide +kernel
theorem dX6_start_9 : decode cX6_start 9 = .ok (.getfield 17, 3) := by decide +kernel
theorem dX6_start_12 : decode cX6_start 12 = .ok (.iconst 0, 1) := by decide +kernel
theorem dX6_start_13 : decode cX6_start 13 = .ok (.invokestatic 46, 3) := by decide +kernel
theorem dX6_start_16 : decode cX6_start 16 = .ok (.aload_n 0, 1) := by decide +kernel
theorem dX6_start_17 : decode cX6_start 17 = .ok (.iconst 0, 1) := by decide +kernel
theorem dX6_start_18 : decode cX6_start 18 = .ok (.putfield 52, 3) := by decide +kernel
theorem dX6_start_21 : decode cX6_start 21 = .ok (.iconst 0, 1) := by decide +kernel
theorem dX6_start_22 : decode cX6_start 22 = .ok (.istore_n 2, 1) := by decide +kernel
theorem dX6_start_23 : decode cX6_start 23 = .ok (.iload_n 2, 1) := by decide +kernel
theorem dX6_start_24 : decode cX6_start 24 = .ok (.bipush 16, 2) := by decide +kernel
theorem dX6_start_26 : decode cX6_start 26 = .ok (.if_icmp .ge 14, 3) := by decide +kernel
theorem dX6_start_29 : decode cX6_start 29 = .ok (.aload_n 0, 1) := by decide +kernel
theorem dX6_start_30 : decode cX6_start 30 = .ok (.iload_n 2, 1) := by decide +kernel
theorem dX6_start_31 : decode cX6_start 31 = .ok (.invokevirtual 56, 3) := by decide +kernel
theorem dX6_start_34 : decode cX6_start 34 = .ok (.iinc 2 1, 3) := by decide +kernel
theorem dX6_start_37 : decode cX6_start 37 = .ok (.goto (-14), 3) := by decide +kernel
theorem dX6_start_40 : decode cX6_start 40 = .ok (.aload_n 0, 1) := by decide +kernel
theorem dX6_start_41 : decode cX6_start 41 = .ok (.iconst 0, 1) := by decide +kernel
theorem dX6_start_42 : decode cX6_start 42 = .ok (.putfield 60, 3) := by decide +kernel
theorem dX6_start_45 : decode cX6_start 45 = .ok (.aload_n 0, 1) := by decide +kernel
theorem dX6_start_46 : decode cX6_start 46 = .ok (.iconst 0, 1) := by decide +kernel
theorem dX6_start_47 : decode cX6_start 47 = .ok (.putfield 63, 3) := by decide +kernel
theorem dX6_start_50 : decode cX6_start 50 = .ok (.aload_n 0, 1) := by decide +kernel
theorem dX6_start_51 : decode cX6_start 51 = .ok (.iconst (-1), 1) := by decide +kernel
theorem dX6_start_52 : decode cX6_start 52 = .ok (.putfield 66, 3) := by decide +kernel
theorem dX6_start_55 : decode cX6_start 55 = .ok (.aload_n 0, 1) := by decide +kernel
theorem dX6_start_56 : decode cX6_start 56 = .ok (.bipush 15, 2) := by decide +kernel
theorem dX6_start_58 : decode cX6_start 58 = .ok (.putfield 69, 3) := by decide +kernel
theorem dX6_start_61 : decode cX6_start 61 = .ok (.aload_n 0, 1) := by decide +kernel
theorem dX6_start_62 : decode cX6_start 62 = .ok (.iconst (-1), 1) := by decide +kernel
theorem dX6_start_63 : decode cX6_start 63 = .ok (.putfield 72, 3) := by decide +kernel
theorem dX6_start_66 : decode cX6_start 66 = .ok (.aload_n 0, 1) := by decide +kernel
theorem dX6_start_67 : decode cX6_start 67 = .ok (.lconst 0, 1) := by decide +kernel
theorem dX6_start_68 : decode cX6_start 68 = .ok (.putfield 75, 3) := by decide +kernel
theorem dX6_start_71 : decode cX6_start 71 = .ok (.aload_n 0, 1) := by decide +kernel
theorem dX6_start_72 : decode cX6_start 72 = .ok (.lconst 0, 1) := by decide +kernel
theorem dX6_start_73 : decode cX6_start 73 = .ok (.putfield 79, 3) := by decide +kernel
theorem dX6_start_76 : decode cX6_start 76 = .ok (.aload_n 0, 1) := by decide +kernel
theorem dX6_start_77 : decode cX6_start 77 = .ok (.iconst 0, 1) := by decide +kernel
theorem dX6_start_78 : decode cX6_start 78 = .ok (.putfield 82, 3) := by decide +kernel
theorem dX6_start_81 : decode cX6_start 81 = .ok (.aload_n 0, 1) := by decide +kernel
theorem dX6_start_82 : decode cX6_start 82 = .ok (.getfield 42, 3) := by decide +kernel
theorem dX6_start_85 : decode cX6_start 85 = .ok (.invokevirtual 85, 3) := by decide +kernel
theorem dX6_start_88 : decode cX6_start 88 = .ok (.aload_n 0, 1) := by decide +kernel
theorem dX6_start_89 : decode cX6_start 89 = .ok (.iconst 0, 1) := by decide +kernel
theorem dX6_start_90 : decode cX6_start 90 = .ok (.aload_n 1, 1) := by decide +kernel
theorem dX6_start_91 : decode cX6_start 91 = .ok (.invokevirtual 88, 3) := by decide +kernel
theorem dX6_start_94 : decode cX6_start 94 = .ok (.aload_n 0, 1) := by decide +kernel
theorem dX6_start_95 : decode cX6_start 95 = .ok (.getfield 29, 3) := by decide +kernel
theorem dX6_start_98 : decode cX6_start 98 = .ok (.iconst 0, 1) := by decide +kernel
theorem dX6_start_99 : decode cX6_start 99 = .ok (.iconst 1, 1) := by decide +kernel
theorem dX6_start_100 : decode cX6_start 100 = .ok (.iastore, 1) := by decide +kernel
theorem dX6_start_101 : decode cX6_start 101 = .ok (.aload_n 0, 1) := by decide +kernel
theorem dX6_start_102 : decode cX6_start 102 = .ok (.invokevirtual 92, 3) := by decide +kernel
theorem dX6_start_105 : decode cX6_start 105 = .ok (.return_, 1) := by decide +kernel
theorem dX6_become_0 : decode cX6_become 0 = .ok (.iconst 0, 1) := by decide +kernel
theorem dX6_become_1 : decode cX6_become 1 = .ok (.istore_n 2, 1) := by decide +kernel
theorem dX6_become_2 : decode cX6_become 2 = .ok (.iload_n 2, 1) := by decide +kernel
theorem dX6_become_3 : decode cX6_become 3 = .ok (.sipush 256, 3) := by decide +kernel
theorem dX6_become_6 : decode cX6_become 6 = .ok (.if_icmp .ge 42, 3) := by decide +kernel
theorem dX6_become_9 : decode cX6_become 9 = .ok (.aload_n 1, 1) := by decide +kernel
theorem dX6_become_10 : decode cX6_become 10 = .ok (.getfield 14, 3) := by decide +kernel
theorem dX6_become_13 : decode cX6_become 13 = .ok (.iload_n 2, 1) := by decide +kernel
theorem dX6_become_14 : decode cX6_become 14 = .ok (.iaload, 1) := by decide +kernel
theorem dX6_become_15 : decode cX6_become 15 = .ok (.ifCond .le 27, 3) := by decide +kernel
theorem dX6_become_18 : decode cX6_become 18 = .ok (.aload_n 1, 1) := by decide +kernel
theorem dX6_become_19 : decode cX6_become 19 = .ok (.getfield 10, 3) := by decide +kernel
theorem dX6_become_22 : decode cX6_become 22 = .ok (.iload_n 2, 1) := by decide +kernel
theorem dX6_become_23 : decode cX6_become 23 = .ok (.sipush 256, 3) := by decide +kernel
theorem dX6_become_26 : decode cX6_become 26 = .ok (.imul, 1) := by decide +kernel
theorem dX6_become_27 : decode cX6_become 27 = .ok (.aload_n 0, 1) := by decide +kernel
theorem dX6_become_28 : decode cX6_become 28 = .ok (.getfield 10, 3) := by decide +kernel
theorem dX6_become_31 : decode cX6_become 31 = .ok (.iload_n 2, 1) := by decide +kernel
theorem dX6_become_32 : decode cX6_become 32 = .ok (.sipush 256, 3) := by decide +kernel
theorem dX6_become_35 : decode cX6_become 35 = .ok (.imul, 1) := by decide +kernel
theorem dX6_become_36 : decode cX6_become 36 = .ok (.sipush 256, 3) := by decide +kernel
theorem dX6_become_39 : decode cX6_become 39 = .ok (.invokestatic 95, 3) := by decide +kernel
theorem dX6_become_42 : decode cX6_become 42 = .ok (.iinc 2 1, 3) := by decide +kernel
theorem dX6_become_45 : decode cX6_become 45 = .ok (.goto (-43), 3) := by decide +kernel
theorem dX6_become_48 : decode cX6_become 48 = .ok (.aload_n 1, 1) := by decide +kernel
theorem dX6_become_49 : decode cX6_become 49 = .ok (.getfield 14, 3) := by decide +kernel
theorem dX6_become_52 : decode cX6_become 52 = .ok (.iconst 0, 1) := by decide +kernel
