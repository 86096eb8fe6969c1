theorem dX15_take_38 : decode cX15_take 38 = .ok (.getfield 131, 3) := by decide +kernel
theorem dX15_take_41 : decode cX15_take 41 = .ok (.iconst 1, 1) := by decide +kernel
theorem dX15_take_42 : decode cX15_take 42 = .ok (.iadd, 1) := by decide +kernel
theorem dX15_take_43 : decode cX15_take 43 = .ok (.putfield 131, 3) := by decide +kernel
theorem dX15_take_46 : decode cX15_take 46 = .ok (.return_, 1) := by decide +kernel
theorem dX15_shut_0 : decode cX15_shut 0 = .ok (.aload_n 0, 1) := by decide +kernel
theorem dX15_shut_1 : decode cX15_shut 1 = .ok (.dup, 1) := by decide +kernel
theorem dX15_shut_2 : decode cX15_shut 2 = .ok (.getfield 128, 3) := by decide +kernel
theorem dX15_shut_5 : decode cX15_shut 5 = .ok (.iconst 1, 1) := by decide +kernel
theorem dX15_shut_6 : decode cX15_shut 6 = .ok (.isub, 1) := by decide +kernel
theorem dX15_shut_7 : decode cX15_shut 7 = .ok (.putfield 128, 3) := by decide +kernel
theorem dX15_shut_10 : decode cX15_shut 10 = .ok (.aload_n 0, 1) := by decide +kernel
theorem dX15_shut_11 : decode cX15_shut 11 = .ok (.getfield 37, 3) := by decide +kernel
theorem dX15_shut_14 : decode cX15_shut 14 = .ok (.aload_n 0, 1) := by decide +kernel
theorem dX15_shut_15 : decode cX15_shut 15 = .ok (.getfield 40, 3) := by decide +kernel
theorem dX15_shut_18 : decode cX15_shut 18 = .ok (.aload_n 0, 1) := by decide +kernel
theorem dX15_shut_19 : decode cX15_shut 19 = .ok (.getfield 128, 3) := by decide +kernel
theorem dX15_shut_22 : decode cX15_shut 22 = .ok (.iaload, 1) := by decide +kernel
theorem dX15_shut_23 : decode cX15_shut 23 = .ok (.aload_n 0, 1) := by decide +kernel
theorem dX15_shut_24 : decode cX15_shut 24 = .ok (.getfield 131, 3) := by decide +kernel
theorem dX15_shut_27 : decode cX15_shut 27 = .ok (.iastore, 1) := by decide +kernel
theorem dX15_shut_28 : decode cX15_shut 28 = .ok (.aload_n 0, 1) := by decide +kernel
theorem dX15_shut_29 : decode cX15_shut 29 = .ok (.invokevirtual 134, 3) := by decide +kernel
theorem dX15_shut_32 : decode cX15_shut 32 = .ok (.aload_n 0, 1) := by decide +kernel
theorem dX15_shut_33 : decode cX15_shut 33 = .ok (.getfield 37, 3) := by decide +kernel
theorem dX15_shut_36 : decode cX15_shut 36 = .ok (.aload_n 0, 1) := by decide +kernel
theorem dX15_shut_37 : decode cX15_shut 37 = .ok (.getfield 131, 3) := by decide +kernel
theorem dX15_shut_40 : decode cX15_shut 40 = .ok (.iconst 1, 1) := by decide +kernel
theorem dX15_shut_41 : decode cX15_shut 41 = .ok (.isub, 1) := by decide +kernel
theorem dX15_shut_42 : decode cX15_shut 42 = .ok (.aload_n 0, 1) := by decide +kernel
theorem dX15_shut_43 : decode cX15_shut 43 = .ok (.getfield 40, 3) := by decide +kernel
theorem dX15_shut_46 : decode cX15_shut 46 = .ok (.aload_n 0, 1) := by decide +kernel
theorem dX15_shut_47 : decode cX15_shut 47 = .ok (.getfield 128, 3) := by decide +kernel
theorem dX15_shut_50 : decode cX15_shut 50 = .ok (.iaload, 1) := by decide +kernel
theorem dX15_shut_51 : decode cX15_shut 51 = .ok (.iastore, 1) := by decide +kernel
theorem dX15_shut_52 : decode cX15_shut 52 = .ok (.return_, 1) := by decide +kernel
theorem dX15_read_0 : decode cX15_read 0 = .ok (.aload_n 0, 1) := by decide +kernel
theorem dX15_read_1 : decode cX15_read 1 = .ok (.aload_n 0, 1) := by decide +kernel
theorem dX15_read_2 : decode cX15_read 2 = .ok (.aload_n 0, 1) := by decide +kernel
theorem dX15_read_3 : decode cX15_read 3 = .ok (.aload_n 0, 1) := by decide +kernel
theorem dX15_read_4 : decode cX15_read 4 = .ok (.iconst 0, 1) := by decide +kernel
theorem dX15_read_5 : decode cX15_read 5 = .ok (.dup_x1, 1) := by decide +kernel
theorem dX15_read_6 : decode cX15_read 6 = .ok (.putfield 125, 3) := by decide +kernel
theorem dX15_read_9 : decode cX15_read 9 = .ok (.dup_x1, 1) := by decide +kernel
theorem dX15_read_10 : decode cX15_read 10 = .ok (.putfield 128, 3) := by decide +kernel
theorem dX15_read_13 : decode cX15_read 13 = .ok (.dup_x1, 1) := by decide +kernel
theorem dX15_read_14 : decode cX15_read 14 = .ok (.putfield 131, 3) := by decide +kernel
theorem dX15_read_17 : decode cX15_read 17 = .ok (.putfield 73, 3) := by decide +kernel
theorem dX15_read_20 : decode cX15_read 20 = .ok (.iconst 0, 1) := by decide +kernel
theorem dX15_read_21 : decode cX15_read 21 = .ok (.istore_n 1, 1) := by decide +kernel
theorem dX15_read_22 : decode cX15_read 22 = .ok (.iconst 0, 1) := by decide +kernel
theorem dX15_read_23 : decode cX15_read 23 = .ok (.istore_n 2, 1) := by decide +kernel
theorem dX15_read_24 : decode cX15_read 24 = .ok (.aload_n 0, 1) := by decide +kernel
theorem dX15_read_25 : decode cX15_read 25 = .ok (.getfield 125, 3) := by decide +kernel
theorem dX15_read_28 : decode cX15_read 28 = .ok (.ifCond .ne 435, 3) := by decide +kernel
theorem dX15_read_31 : decode cX15_read 31 = .ok (.aload_n 0, 1) := by decide +kernel
theorem dX15_read_32 : decode cX15_read 32 = .ok (.aload_n 0, 1) := by decide +kernel
theorem dX15_read_33 : decode cX15_read 33 = .ok (.getfield 73, 3) := by decide +kernel
theorem dX15_read_36 : decode cX15_read 36 = .ok (.invokevirtual 76, 3) := by decide +kernel
theorem dX15_read_39 : decode cX15_read 39 = .ok (.bipush 32, 2) := by decide +kernel
theorem dX15_read_41 : decode cX15_read 41 = .ok (.if_icmp .ne 16, 3) := by decide +kernel
theorem dX15_read_44 : decode cX15_read 44 = .ok (.aload_n 0, 1) := by decide +kernel
theorem dX15_read_45 : decode cX15_read 45 = .ok (.dup, 1) := by decide +kernel
theorem dX15_read_46 : decode cX15_read 46 = .ok (.getfield 73, 3) := by decide +kernel
theorem dX15_read_49 : decode cX15_read 49 = .ok (.iconst 1, 1) := by decide +kernel
theorem dX15_read_50 : decode cX15_read 50 = .ok (.iadd, 1) := by decide +kernel
theorem dX15_read_51 : decode cX15_read 51 = .ok (.putfield 73, 3) := by decide +kernel
theorem dX15_read_54 : decode cX15_read 54 = .ok (.goto (-23), 3) := by decide +kernel
theorem dX15_read_57 : decode cX15_read 57 = .ok (.aload_n 0, 1) := by decide +kernel
theorem dX15_read_58 : decode cX15_read 58 = .ok (.getfield 73, 3) := by decide +kernel
theorem dX15_read_61 : decode cX15_read 61 = .ok (.aload_n 0, 1) := by decide +kernel
theorem dX15_read_62 : decode cX15_read 62 = .ok (.getfield 65, 3) := by decide +kernel
theorem dX15_read_65 : decode cX15_read 65 = .ok (.if_icmp .ne 6, 3) := by decide +kernel
theorem dX15_read_68 : decode cX15_read 68 = .ok (.goto 395, 3) := by decide +kernel
theorem dX15_read_71 : decode cX15_read 71 = .ok (.aload_n 0, 1) := by decide +kernel
theorem dX15_read_72 : decode cX15_read 72 = .ok (.invokevirtual 137, 3) := by decide +kernel
theorem dX15_read_75 : decode cX15_read 75 = .ok (.iload_n 2, 1) := by decide +kernel
theorem dX15_read_76 : decode cX15_read 76 = .ok (.iconst 1, 1) := by decide +kernel
theorem dX15_read_77 : decode cX15_read 77 = .ok (.if_icmp .ne 49, 3) := by decide +kernel
theorem dX15_read_80 : decode cX15_read 80 = .ok (.aload_n 0, 1) := by decide +kernel
theorem dX15_read_81 : decode cX15_read 81 = .ok (.getfield 128, 3) := by decide +kernel
theorem dX15_read_84 : decode cX15_read 84 = .ok (.ifCond .le 42, 3) := by decide +kernel
theorem dX15_read_87 : decode cX15_read 87 = .ok (.aload_n 0, 1) := by decide +kernel
theorem dX15_read_88 : decode cX15_read 88 = .ok (.getfield 92, 3) := by decide +kernel
theorem dX15_read_91 : decode cX15_read 91 = .ok (.aload_n 0, 1) := by decide +kernel
theorem dX15_read_92 : decode cX15_read 92 = .ok (.getfield 34, 3) := by decide +kernel
theorem dX15_read_95 : decode cX15_read 95 = .ok (.aload_n 0, 1) := by decide +kernel
theorem dX15_read_96 : decode cX15_read 96 = .ok (.getfield 40, 3) := by decide +kernel
theorem dX15_read_99 : decode cX15_read 99 = .ok (.aload_n 0, 1) := by decide +kernel
theorem dX15_read_100 : decode cX15_read 100 = .ok (.getfield 128, 3) := by decide +kernel
theorem dX15_read_103 : decode cX15_read 103 = .ok (.iconst 1, 1) := by decide +kernel
theorem dX15_read_104 : decode cX15_read 104 = .ok (.isub, 1) := by decide +kernel
theorem dX15_read_105 : decode cX15_read 105 = .ok (.iaload, 1) := by decide +kernel
theorem dX15_read_106 : decode cX15_read 106 = .ok (.iaload, 1) := by decide +kernel
theorem dX15_read_107 : decode cX15_read 107 = .ok (.bipush 30, 2) := by decide +kernel
theorem dX15_read_109 : decode cX15_read 109 = .ok (.if_icmp .ne 8, 3) := by decide +kernel
theorem dX15_read_112 : decode cX15_read 112 = .ok (.bipush 31, 2) := by decide +kernel
theorem dX15_read_114 : decode cX15_read 114 = .ok (.goto 5, 3) := by decide +kernel
theorem dX15_read_117 : decode cX15_read 117 = .ok (.bipush 33, 2) := by decide +kernel
theorem dX15_read_119 : decode cX15_read 119 = .ok (.if_icmp .ne 7, 3) := by decide +kernel
theorem dX15_read_122 : decode cX15_read 122 = .ok (.iconst 1, 1) := by decide +kernel
theorem dX15_read_123 : decode cX15_read 123 = .ok (.goto 4, 3) := by decide +kernel
theorem dX15_read_126 : decode cX15_read 126 = .ok (.iconst 0, 1) := by decide +kernel
theorem dX15_read_127 : decode cX15_read 127 = .ok (.istore_n 3, 1) := by decide +kernel
theorem dX15_read_128 : decode cX15_read 128 = .ok (.aload_n 0, 1) := by decide +kernel
theorem dX15_read_129 : decode cX15_read 129 = .ok (.getfield 92, 3) := by decide +kernel
theorem dX15_read_132 : decode cX15_read 132 = .ok (.bipush 34, 2) := by decide +kernel
theorem dX15_read_134 : decode cX15_read 134 = .ok (.if_icmp .eq 65, 3) := by decide +kernel
theorem dX15_read_137 : decode cX15_read 137 = .ok (.iload_n 2, 1) := by decide +kernel
theorem dX15_read_138 : decode cX15_read 138 = .ok (.ifCond .ne 16, 3) := by decide +kernel
theorem dX15_read_141 : decode cX15_read 141 = .ok (.aload_n 0, 1) := by decide +kernel
theorem dX15_read_142 : decode cX15_read 142 = .ok (.getfield 92, 3) := by decide +kernel
theorem dX15_read_145 : decode cX15_read 145 = .ok (.invokestatic 140, 3) := by decide +kernel
theorem dX15_read_148 : decode cX15_read 148 = .ok (.ifCond .eq 51, 3) := by decide +kernel
theorem dX15_read_151 : decode cX15_read 151 = .ok (.goto 44, 3) := by decide +kernel
theorem dX15_read_154 : decode cX15_read 154 = .ok (.iload_n 2, 1) := by decide +kernel
theorem dX15_read_155 : decode cX15_read 155 = .ok (.iconst 1, 1) := by decide +kernel
theorem dX15_read_156 : decode cX15_read 156 = .ok (.if_icmp .ne 20, 3) := by decide +kernel
theorem dX15_read_159 : decode cX15_read 159 = .ok (.aload_n 0, 1) := by decide +kernel
theorem dX15_read_160 : decode cX15_read 160 = .ok (.getfield 92, 3) := by decide +kernel
theorem dX15_read_163 : decode cX15_read 163 = .ok (.invokestatic 143, 3) := by decide +kernel
theorem dX15_read_166 : decode cX15_read 166 = .ok (.ifCond .ne 29, 3) := by decide +kernel
theorem dX15_read_169 : decode cX15_read 169 = .ok (.iload_n 3, 1) := by decide +kernel
theorem dX15_read_170 : decode cX15_read 170 = .ok (.ifCond .eq 29, 3) := by decide +kernel
theorem dX15_read_173 : decode cX15_read 173 = .ok (.goto 22, 3) := by decide +kernel
theorem dX15_read_176 : decode cX15_read 176 = .ok (.aload_n 0, 1) := by decide +kernel
theorem dX15_read_177 : decode cX15_read 177 = .ok (.getfield 92, 3) := by decide +kernel
theorem dX15_read_180 : decode cX15_read 180 = .ok (.iload_n 2, 1) := by decide +kernel
theorem dX15_read_181 : decode cX15_read 181 = .ok (.iconst 2, 1) := by decide +kernel
theorem dX15_read_182 : decode cX15_read 182 = .ok (.if_icmp .ne 8, 3) := by decide +kernel
theorem dX15_read_185 : decode cX15_read 185 = .ok (.bipush 32, 2) := by decide +kernel
theorem dX15_read_187 : decode cX15_read 187 = .ok (.goto 5, 3) := by decide +kernel
theorem dX15_read_190 : decode cX15_read 190 = .ok (.bipush 30, 2) := by decide +kernel
theorem dX15_read_192 : decode cX15_read 192 = .ok (.if_icmp .ne 7, 3) := by decide +kernel
theorem dX15_read_195 : decode cX15_read 195 = .ok (.iconst 1, 1) := by decide +kernel
theorem dX15_read_196 : decode cX15_read 196 = .ok (.goto 4, 3) := by decide +kernel
theorem dX15_read_199 : decode cX15_read 199 = .ok (.iconst 0, 1) := by decide +kernel
theorem dX15_read_200 : decode cX15_read 200 = .ok (.istore 4, 2) := by decide +kernel
theorem dX15_read_202 : decode cX15_read 202 = .ok (.aload_n 0, 1) := by decide +kernel
theorem dX15_read_203 : decode cX15_read 203 = .ok (.getfield 92, 3) := by decide +kernel
theorem dX15_read_206 : decode cX15_read 206 = .ok (.bipush 30, 2) := by decide +kernel
theorem dX15_read_208 : decode cX15_read 208 = .ok (.if_icmp .eq 12, 3) := by decide +kernel
theorem dX15_read_211 : decode cX15_read 211 = .ok (.aload_n 0, 1) := by decide +kernel
theorem dX15_read_212 : decode cX15_read 212 = .ok (.getfield 92, 3) := by decide +kernel
theorem dX15_read_215 : decode cX15_read 215 = .ok (.bipush 32, 2) := by decide +kernel
theorem dX15_read_217 : decode cX15_read 217 = .ok (.if_icmp .ne 7, 3) := by decide +kernel
theorem dX15_read_220 : decode cX15_read 220 = .ok (.iconst 1, 1) := by decide +kernel
theorem dX15_read_221 : decode cX15_read 221 = .ok (.goto 4, 3) := by decide +kernel
theorem dX15_read_224 : decode cX15_read 224 = .ok (.iconst 0, 1) := by decide +kernel
theorem dX15_read_225 : decode cX15_read 225 = .ok (.istore 5, 2) := by decide +kernel
theorem dX15_read_227 : decode cX15_read 227 = .ok (.iload 4, 2) := by decide +kernel
theorem dX15_read_229 : decode cX15_read 229 = .ok (.ifCond .eq 32, 3) := by decide +kernel
theorem dX15_read_232 : decode cX15_read 232 = .ok (.aload_n 0, 1) := by decide +kernel
theorem dX15_read_233 : decode cX15_read 233 = .ok (.getfield 92, 3) := by decide +kernel
theorem dX15_read_236 : decode cX15_read 236 = .ok (.bipush 8, 2) := by decide +kernel
theorem dX15_read_238 : decode cX15_read 238 = .ok (.if_icmp .eq 12, 3) := by decide +kernel
theorem dX15_read_241 : decode cX15_read 241 = .ok (.aload_n 0, 1) := by decide +kernel
theorem dX15_read_242 : decode cX15_read 242 = .ok (.getfield 92, 3) := by decide +kernel
theorem dX15_read_245 : decode cX15_read 245 = .ok (.bipush 9, 2) := by decide +kernel
theorem dX15_read_247 : decode cX15_read 247 = .ok (.if_icmp .ne 10, 3) := by decide +kernel
theorem dX15_read_250 : decode cX15_read 250 = .ok (.aload_n 0, 1) := by decide +kernel
theorem dX15_read_251 : decode cX15_read 251 = .ok (.invokevirtual 146, 3) := by decide +kernel
theorem dX15_read_254 : decode cX15_read 254 = .ok (.ifCond .ne 7, 3) := by decide +kernel
theorem dX15_read_257 : decode cX15_read 257 = .ok (.iconst 1, 1) := by decide +kernel
theorem dX15_read_258 : decode cX15_read 258 = .ok (.goto 4, 3) := by decide +kernel
theorem dX15_read_261 : decode cX15_read 261 = .ok (.iconst 0, 1) := by decide +kernel
theorem dX15_read_262 : decode cX15_read 262 = .ok (.istore 4, 2) := by decide +kernel
theorem dX15_read_264 : decode cX15_read 264 = .ok (.iload 4, 2) := by decide +kernel
theorem dX15_read_266 : decode cX15_read 266 = .ok (.ifCond .ne 15, 3) := by decide +kernel
theorem dX15_read_269 : decode cX15_read 269 = .ok (.aload_n 0, 1) := by decide +kernel
theorem dX15_read_270 : decode cX15_read 270 = .ok (.iconst 1, 1) := by decide +kernel
theorem dX15_read_271 : decode cX15_read 271 = .ok (.aload_n 0, 1) := by decide +kernel
theorem dX15_read_272 : decode cX15_read 272 = .ok (.getfield 80, 3) := by decide +kernel
theorem dX15_read_275 : decode cX15_read 275 = .ok (.invokevirtual 150, 3) := by decide +kernel
theorem dX15_read_278 : decode cX15_read 278 = .ok (.goto 67, 3) := by decide +kernel
theorem dX15_read_281 : decode cX15_read 281 = .ok (.aload_n 0, 1) := by decide +kernel
theorem dX15_read_282 : decode cX15_read 282 = .ok (.getfield 92, 3) := by decide +kernel
theorem dX15_read_285 : decode cX15_read 285 = .ok (.ifCond .ne 15, 3) := by decide +kernel
theorem dX15_read_288 : decode cX15_read 288 = .ok (.aload_n 0, 1) := by decide +kernel
theorem dX15_read_289 : decode cX15_read 289 = .ok (.iconst 2, 1) := by decide +kernel
theorem dX15_read_290 : decode cX15_read 290 = .ok (.aload_n 0, 1) := by decide +kernel
theorem dX15_read_291 : decode cX15_read 291 = .ok (.getfield 80, 3) := by decide +kernel
theorem dX15_read_294 : decode cX15_read 294 = .ok (.invokevirtual 150, 3) := by decide +kernel
theorem dX15_read_297 : decode cX15_read 297 = .ok (.goto 48, 3) := by decide +kernel
theorem dX15_read_300 : decode cX15_read 300 = .ok (.iload_n 3, 1) := by decide +kernel
theorem dX15_read_301 : decode cX15_read 301 = .ok (.ifCond .ne 21, 3) := by decide +kernel
theorem dX15_read_304 : decode cX15_read 304 = .ok (.iload_n 1, 1) := by decide +kernel
theorem dX15_read_305 : decode cX15_read 305 = .ok (.bipush 40, 2) := by decide +kernel
theorem dX15_read_307 : decode cX15_read 307 = .ok (.if_icmp .ne 15, 3) := by decide +kernel
theorem dX15_read_310 : decode cX15_read 310 = .ok (.aload_n 0, 1) := by decide +kernel
theorem dX15_read_311 : decode cX15_read 311 = .ok (.iconst 3, 1) := by decide +kernel
theorem dX15_read_312 : decode cX15_read 312 = .ok (.aload_n 0, 1) := by decide +kernel
theorem dX15_read_313 : decode cX15_read 313 = .ok (.getfield 80, 3) := by decide +kernel
theorem dX15_read_316 : decode cX15_read 316 = .ok (.invokevirtual 150, 3) := by decide +kernel
theorem dX15_read_319 : decode cX15_read 319 = .ok (.goto 26, 3) := by decide +kernel
theorem dX15_read_322 : decode cX15_read 322 = .ok (.iload 5, 2) := by decide +kernel
theorem dX15_read_324 : decode cX15_read 324 = .ok (.ifCond .eq 21, 3) := by decide +kernel
theorem dX15_read_327 : decode cX15_read 327 = .ok (.aload_n 0, 1) := by decide +kernel
theorem dX15_read_328 : decode cX15_read 328 = .ok (.getfield 128, 3) := by decide +kernel
theorem dX15_read_331 : decode cX15_read 331 = .ok (.bipush 8, 2) := by decide +kernel
theorem dX15_read_333 : decode cX15_read 333 = .ok (.if_icmp .ne 12, 3) := by decide +kernel
theorem dX15_read_336 : decode cX15_read 336 = .ok (.aload_n 0, 1) := by decide +kernel
theorem dX15_read_337 : decode cX15_read 337 = .ok (.iconst 4, 1) := by decide +kernel
theorem dX15_read_338 : decode cX15_read 338 = .ok (.aload_n 0, 1) := by decide +kernel
theorem dX15_read_339 : decode cX15_read 339 = .ok (.getfield 80, 3) := by decide +kernel
theorem dX15_read_342 : decode cX15_read 342 = .ok (.invokevirtual 150, 3) := by decide +kernel
theorem dX15_read_345 : decode cX15_read 345 = .ok (.aload_n 0, 1) := by decide +kernel
theorem dX15_read_346 : decode cX15_read 346 = .ok (.getfield 125, 3) := by decide +kernel
theorem dX15_read_349 : decode cX15_read 349 = .ok (.ifCond .le 6, 3) := by decide +kernel
theorem dX15_read_352 : decode cX15_read 352 = .ok (.goto 111, 3) := by decide +kernel
theorem dX15_read_355 : decode cX15_read 355 = .ok (.iload_n 3, 1) := by decide +kernel
theorem dX15_read_356 : decode cX15_read 356 = .ok (.ifCond .eq 10, 3) := by decide +kernel
theorem dX15_read_359 : decode cX15_read 359 = .ok (.aload_n 0, 1) := by decide +kernel
theorem dX15_read_360 : decode cX15_read 360 = .ok (.invokevirtual 154, 3) := by decide +kernel
theorem dX15_read_363 : decode cX15_read 363 = .ok (.goto (-339), 3) := by decide +kernel
theorem dX15_read_366 : decode cX15_read 366 = .ok (.iinc 1 1, 3) := by decide +kernel
theorem dX15_read_369 : decode cX15_read 369 = .ok (.iload 5, 2) := by decide +kernel
theorem dX15_read_371 : decode cX15_read 371 = .ok (.ifCond .eq 26, 3) := by decide +kernel
theorem dX15_read_374 : decode cX15_read 374 = .ok (.aload_n 0, 1) := by decide +kernel
theorem dX15_read_375 : decode cX15_read 375 = .ok (.getfield 40, 3) := by decide +kernel
theorem dX15_read_378 : decode cX15_read 378 = .ok (.aload_n 0, 1) := by decide +kernel
theorem dX15_read_379 : decode cX15_read 379 = .ok (.getfield 128, 3) := by decide +kernel
theorem dX15_read_382 : decode cX15_read 382 = .ok (.aload_n 0, 1) := by decide +kernel
theorem dX15_read_383 : decode cX15_read 383 = .ok (.getfield 131, 3) := by decide +kernel
theorem dX15_read_386 : decode cX15_read 386 = .ok (.iastore, 1) := by decide +kernel
theorem dX15_read_387 : decode cX15_read 387 = .ok (.aload_n 0, 1) := by decide +kernel
theorem dX15_read_388 : decode cX15_read 388 = .ok (.dup, 1) := by decide +kernel
theorem dX15_read_389 : decode cX15_read 389 = .ok (.getfield 128, 3) := by decide +kernel
theorem dX15_read_392 : decode cX15_read 392 = .ok (.iconst 1, 1) := by decide +kernel
theorem dX15_read_393 : decode cX15_read 393 = .ok (.iadd, 1) := by decide +kernel
theorem dX15_read_394 : decode cX15_read 394 = .ok (.putfield 128, 3) := by decide +kernel
theorem dX15_read_397 : decode cX15_read 397 = .ok (.aload_n 0, 1) := by decide +kernel
theorem dX15_read_398 : decode cX15_read 398 = .ok (.invokevirtual 134, 3) := by decide +kernel
theorem dX15_read_401 : decode cX15_read 401 = .ok (.aload_n 0, 1) := by decide +kernel
theorem dX15_read_402 : decode cX15_read 402 = .ok (.getfield 92, 3) := by decide +kernel
theorem dX15_read_405 : decode cX15_read 405 = .ok (.bipush 6, 2) := by decide +kernel
theorem dX15_read_407 : decode cX15_read 407 = .ok (.if_icmp .eq 12, 3) := by decide +kernel
theorem dX15_read_410 : decode cX15_read 410 = .ok (.aload_n 0, 1) := by decide +kernel
theorem dX15_read_411 : decode cX15_read 411 = .ok (.getfield 92, 3) := by decide +kernel
theorem dX15_read_414 : decode cX15_read 414 = .ok (.bipush 7, 2) := by decide +kernel
theorem dX15_read_416 : decode cX15_read 416 = .ok (.if_icmp .ne 7, 3) := by decide +kernel
theorem dX15_read_419 : decode cX15_read 419 = .ok (.iconst 2, 1) := by decide +kernel
theorem dX15_read_420 : decode cX15_read 420 = .ok (.goto 39, 3) := by decide +kernel
theorem dX15_read_423 : decode cX15_read 423 = .ok (.aload_n 0, 1) := by decide +kernel
theorem dX15_read_424 : decode cX15_read 424 = .ok (.getfield 92, 3) := by decide +kernel
theorem dX15_read_427 : decode cX15_read 427 = .ok (.bipush 8, 2) := by decide +kernel
theorem dX15_read_429 : decode cX15_read 429 = .ok (.if_icmp .eq 12, 3) := by decide +kernel
theorem dX15_read_432 : decode cX15_read 432 = .ok (.aload_n 0, 1) := by decide +kernel
theorem dX15_read_433 : decode cX15_read 433 = .ok (.getfield 92, 3) := by decide +kernel
theorem dX15_read_436 : decode cX15_read 436 = .ok (.bipush 9, 2) := by decide +kernel
theorem dX15_read_438 : decode cX15_read 438 = .ok (.if_icmp .ne 7, 3) := by decide +kernel
theorem dX15_read_441 : decode cX15_read 441 = .ok (.iconst 3, 1) := by decide +kernel
theorem dX15_read_442 : decode cX15_read 442 = .ok (.goto 17, 3) := by decide +kernel
theorem dX15_read_445 : decode cX15_read 445 = .ok (.aload_n 0, 1) := by decide +kernel
theorem dX15_read_446 : decode cX15_read 446 = .ok (.getfield 92, 3) := by decide +kernel
theorem dX15_read_449 : decode cX15_read 449 = .ok (.bipush 6, 2) := by decide +kernel
theorem dX15_read_451 : decode cX15_read 451 = .ok (.if_icmp .ge 7, 3) := by decide +kernel
theorem dX15_read_454 : decode cX15_read 454 = .ok (.iconst 1, 1) := by decide +kernel
theorem dX15_read_455 : decode cX15_read 455 = .ok (.goto 4, 3) := by decide +kernel
theorem dX15_read_458 : decode cX15_read 458 = .ok (.iconst 0, 1) := by decide +kernel
theorem dX15_read_459 : decode cX15_read 459 = .ok (.istore_n 2, 1) := by decide +kernel
theorem dX15_read_460 : decode cX15_read 460 = .ok (.goto (-436), 3) := by decide +kernel
theorem dX15_read_463 : decode cX15_read 463 = .ok (.iload_n 2, 1) := by decide +kernel
theorem dX15_read_464 : decode cX15_read 464 = .ok (.iconst 1, 1) := by decide +kernel
theorem dX15_read_465 : decode cX15_read 465 = .ok (.if_icmp .ne 10, 3) := by decide +kernel
theorem dX15_read_468 : decode cX15_read 468 = .ok (.aload_n 0, 1) := by decide +kernel
theorem dX15_read_469 : decode cX15_read 469 = .ok (.getfield 128, 3) := by decide +kernel
theorem dX15_read_472 : decode cX15_read 472 = .ok (.ifCond .le 12, 3) := by decide +kernel
theorem dX15_read_475 : decode cX15_read 475 = .ok (.aload_n 0, 1) := by decide +kernel
theorem dX15_read_476 : decode cX15_read 476 = .ok (.iconst 1, 1) := by decide +kernel
theorem dX15_read_477 : decode cX15_read 477 = .ok (.aload_n 0, 1) := by decide +kernel
theorem dX15_read_478 : decode cX15_read 478 = .ok (.getfield 65, 3) := by decide +kernel
theorem dX15_read_481 : decode cX15_read 481 = .ok (.invokevirtual 150, 3) := by decide +kernel
theorem dX15_read_484 : decode cX15_read 484 = .ok (.iload_n 1, 1) := by decide +kernel
theorem dX15_read_485 : decode cX15_read 485 = .ok (.ireturn, 1) := by decide +kernel
theorem dX15_drop_0 : decode cX15_drop 0 = .ok (.aload_n 0, 1) := by decide +kernel
theorem dX15_drop_1 : decode cX15_drop 1 = .ok (.getfield 13, 3) := by decide +kernel
theorem dX15_drop_4 : decode cX15_drop 4 = .ok (.iload_n 1, 1) := by decide +kernel
theorem dX15_drop_5 : decode cX15_drop 5 = .ok (.baload, 1) := by decide +kernel
theorem dX15_drop_6 : decode cX15_drop 6 = .ok (.istore_n 2, 1) := by decide +kernel
theorem dX15_drop_7 : decode cX15_drop 7 = .ok (.aload_n 0, 1) := by decide +kernel
theorem dX15_drop_8 : decode cX15_drop 8 = .ok (.getfield 13, 3) := by decide +kernel
theorem dX15_drop_11 : decode cX15_drop 11 = .ok (.iload_n 1, 1) := by decide +kernel
theorem dX15_drop_12 : decode cX15_drop 12 = .ok (.iconst 0, 1) := by decide +kernel
theorem dX15_drop_13 : decode cX15_drop 13 = .ok (.bastore, 1) := by decide +kernel
theorem dX15_drop_14 : decode cX15_drop 14 = .ok (.iload_n 2, 1) := by decide +kernel
theorem dX15_drop_15 : decode cX15_drop 15 = .ok (.ireturn, 1) := by decide +kernel
theorem dX15_rank_0 : decode cX15_rank 0 = .ok (.iload_n 0, 1) := by decide +kernel
theorem dX15_rank_1 : decode cX15_rank 1 = .ok (.bipush 10, 2) := by decide +kernel
theorem dX15_rank_3 : decode cX15_rank 3 = .ok (.if_icmp .ne 7, 3) := by decide +kernel
theorem dX15_rank_6 : decode cX15_rank 6 = .ok (.iconst 0, 1) := by decide +kernel
theorem dX15_rank_7 : decode cX15_rank 7 = .ok (.goto 77, 3) := by decide +kernel
theorem dX15_rank_10 : decode cX15_rank 10 = .ok (.iload_n 0, 1) := by decide +kernel
theorem dX15_rank_11 : decode cX15_rank 11 = .ok (.bipush 11, 2) := by decide +kernel
theorem dX15_rank_13 : decode cX15_rank 13 = .ok (.if_icmp .ne 7, 3) := by decide +kernel
theorem dX15_rank_16 : decode cX15_rank 16 = .ok (.iconst 1, 1) := by decide +kernel
theorem dX15_rank_17 : decode cX15_rank 17 = .ok (.goto 67, 3) := by decide +kernel
theorem dX15_rank_20 : decode cX15_rank 20 = .ok (.iload_n 0, 1) := by decide +kernel
theorem dX15_rank_21 : decode cX15_rank 21 = .ok (.bipush 18, 2) := by decide +kernel
theorem dX15_rank_23 : decode cX15_rank 23 = .ok (.if_icmp .ge 7, 3) := by decide +kernel
theorem dX15_rank_26 : decode cX15_rank 26 = .ok (.iconst 2, 1) := by decide +kernel
theorem dX15_rank_27 : decode cX15_rank 27 = .ok (.goto 57, 3) := by decide +kernel
theorem dX15_rank_30 : decode cX15_rank 30 = .ok (.iload_n 0, 1) := by decide +kernel
theorem dX15_rank_31 : decode cX15_rank 31 = .ok (.bipush 18, 2) := by decide +kernel
theorem dX15_rank_33 : decode cX15_rank 33 = .ok (.if_icmp .ne 7, 3) := by decide +kernel
theorem dX15_rank_36 : decode cX15_rank 36 = .ok (.iconst 3, 1) := by decide +kernel
theorem dX15_rank_37 : decode cX15_rank 37 = .ok (.goto 47, 3) := by decide +kernel
theorem dX15_rank_40 : decode cX15_rank 40 = .ok (.iload_n 0, 1) := by decide +kernel
theorem dX15_rank_41 : decode cX15_rank 41 = .ok (.bipush 19, 2) := by decide +kernel
theorem dX15_rank_43 : decode cX15_rank 43 = .ok (.if_icmp .ne 7, 3) := by decide +kernel
theorem dX15_rank_46 : decode cX15_rank 46 = .ok (.iconst 4, 1) := by decide +kernel
theorem dX15_rank_47 : decode cX15_rank 47 = .ok (.goto 37, 3) := by decide +kernel
theorem dX15_rank_50 : decode cX15_rank 50 = .ok (.iload_n 0, 1) := by decide +kernel
theorem dX15_rank_51 : decode cX15_rank 51 = .ok (.bipush 20, 2) := by decide +kernel
theorem dX15_rank_53 : decode cX15_rank 53 = .ok (.if_icmp .ne 7, 3) := by decide +kernel
theorem dX15_rank_56 : decode cX15_rank 56 = .ok (.iconst 5, 1) := by decide +kernel
theorem dX15_rank_57 : decode cX15_rank 57 = .ok (.goto 27, 3) := by decide +kernel
theorem dX15_rank_60 : decode cX15_rank 60 = .ok (.iload_n 0, 1) := by decide +kernel
theorem dX15_rank_61 : decode cX15_rank 61 = .ok (.bipush 23, 2) := by decide +kernel
theorem dX15_rank_63 : decode cX15_rank 63 = .ok (.if_icmp .ge 8, 3) := by decide +kernel
theorem dX15_rank_66 : decode cX15_rank 66 = .ok (.bipush 6, 2) := by decide +kernel
theorem dX15_rank_68 : decode cX15_rank 68 = .ok (.goto 16, 3) := by decide +kernel
theorem dX15_rank_71 : decode cX15_rank 71 = .ok (.iload_n 0, 1) := by decide +kernel
theorem dX15_rank_72 : decode cX15_rank 72 = .ok (.bipush 25, 2) := by decide +kernel
theorem dX15_rank_74 : decode cX15_rank 74 = .ok (.if_icmp .ge 8, 3) := by decide +kernel
theorem dX15_rank_77 : decode cX15_rank 77 = .ok (.bipush 7, 2) := by decide +kernel
theorem dX15_rank_79 : decode cX15_rank 79 = .ok (.goto 5, 3) := by decide +kernel
theorem dX15_rank_82 : decode cX15_rank 82 = .ok (.bipush 8, 2) := by decide +kernel
theorem dX15_rank_84 : decode cX15_rank 84 = .ok (.ireturn, 1) := by decide +kernel
theorem dX15_least_0 : decode cX15_least 0 = .ok (.iconst (-1), 1) := by decide +kernel
theorem dX15_least_1 : decode cX15_least 1 = .ok (.istore_n 3, 1) := by decide +kernel
theorem dX15_least_2 : decode cX15_least 2 = .ok (.iconst 0, 1) := by decide +kernel
theorem dX15_least_3 : decode cX15_least 3 = .ok (.istore 4, 2) := by decide +kernel
theorem dX15_least_5 : decode cX15_least 5 = .ok (.iload_n 1, 1) := by decide +kernel
theorem dX15_least_6 : decode cX15_least 6 = .ok (.istore 5, 2) := by decide +kernel
theorem dX15_least_8 : decode cX15_least 8 = .ok (.iload 5, 2) := by decide +kernel
theorem dX15_least_10 : decode cX15_least 10 = .ok (.iload_n 2, 1) := by decide +kernel
theorem dX15_least_11 : decode cX15_least 11 = .ok (.if_icmp .ge 98, 3) := by decide +kernel
theorem dX15_least_14 : decode cX15_least 14 = .ok (.aload_n 0, 1) := by decide +kernel
theorem dX15_least_15 : decode cX15_least 15 = .ok (.getfield 21, 3) := by decide +kernel
theorem dX15_least_18 : decode cX15_least 18 = .ok (.iload 5, 2) := by decide +kernel
theorem dX15_least_20 : decode cX15_least 20 = .ok (.iaload, 1) := by decide +kernel
theorem dX15_least_21 : decode cX15_least 21 = .ok (.istore 6, 2) := by decide +kernel
theorem dX15_least_23 : decode cX15_least 23 = .ok (.iload 6, 2) := by decide +kernel
theorem dX15_least_25 : decode cX15_least 25 = .ok (.bipush 30, 2) := by decide +kernel
theorem dX15_least_27 : decode cX15_least 27 = .ok (.if_icmp .eq 10, 3) := by decide +kernel
theorem dX15_least_30 : decode cX15_least 30 = .ok (.iload 6, 2) := by decide +kernel
theorem dX15_least_32 : decode cX15_least 32 = .ok (.bipush 32, 2) := by decide +kernel
theorem dX15_least_34 : decode cX15_least 34 = .ok (.if_icmp .ne 18, 3) := by decide +kernel
theorem dX15_least_37 : decode cX15_least 37 = .ok (.aload_n 0, 1) := by decide +kernel
