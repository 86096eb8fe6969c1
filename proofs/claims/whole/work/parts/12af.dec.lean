theorem dX13_statement_26 : decode cX13_statement 26 = .ok (.getfield 368, 3) := by decide +kernel
theorem dX13_statement_29 : decode cX13_statement 29 = .ok (.aload_n 0, 1) := by decide +kernel
theorem dX13_statement_30 : decode cX13_statement 30 = .ok (.getfield 371, 3) := by decide +kernel
theorem dX13_statement_33 : decode cX13_statement 33 = .ok (.invokevirtual 648, 3) := by decide +kernel
theorem dX13_statement_36 : decode cX13_statement 36 = .ok (.istore 4, 2) := by decide +kernel
theorem dX13_statement_38 : decode cX13_statement 38 = .ok (.iconst 0, 1) := by decide +kernel
theorem dX13_statement_39 : decode cX13_statement 39 = .ok (.istore 5, 2) := by decide +kernel
theorem dX13_statement_41 : decode cX13_statement 41 = .ok (.iload 4, 2) := by decide +kernel
theorem dX13_statement_43 : decode cX13_statement 43 = .ok (.ifCond .ge 93, 3) := by decide +kernel
theorem dX13_statement_46 : decode cX13_statement 46 = .ok (.iload_n 3, 1) := by decide +kernel
theorem dX13_statement_47 : decode cX13_statement 47 = .ok (.ifCond .le 89, 3) := by decide +kernel
theorem dX13_statement_50 : decode cX13_statement 50 = .ok (.aload_n 0, 1) := by decide +kernel
theorem dX13_statement_51 : decode cX13_statement 51 = .ok (.aload_n 0, 1) := by decide +kernel
theorem dX13_statement_52 : decode cX13_statement 52 = .ok (.getfield 368, 3) := by decide +kernel
theorem dX13_statement_55 : decode cX13_statement 55 = .ok (.aload_n 0, 1) := by decide +kernel
theorem dX13_statement_56 : decode cX13_statement 56 = .ok (.getfield 371, 3) := by decide +kernel
theorem dX13_statement_59 : decode cX13_statement 59 = .ok (.iload_n 3, 1) := by decide +kernel
theorem dX13_statement_60 : decode cX13_statement 60 = .ok (.isub, 1) := by decide +kernel
theorem dX13_statement_61 : decode cX13_statement 61 = .ok (.invokevirtual 648, 3) := by decide +kernel
theorem dX13_statement_64 : decode cX13_statement 64 = .ok (.istore 4, 2) := by decide +kernel
theorem dX13_statement_66 : decode cX13_statement 66 = .ok (.iload_n 3, 1) := by decide +kernel
theorem dX13_statement_67 : decode cX13_statement 67 = .ok (.iconst 5, 1) := by decide +kernel
theorem dX13_statement_68 : decode cX13_statement 68 = .ok (.if_icmp .ne 9, 3) := by decide +kernel
theorem dX13_statement_71 : decode cX13_statement 71 = .ok (.ldc_w 651, 3) := by decide +kernel
theorem dX13_statement_74 : decode cX13_statement 74 = .ok (.goto 28, 3) := by decide +kernel
theorem dX13_statement_77 : decode cX13_statement 77 = .ok (.aload_n 0, 1) := by decide +kernel
theorem dX13_statement_78 : decode cX13_statement 78 = .ok (.getfield 324, 3) := by decide +kernel
theorem dX13_statement_81 : decode cX13_statement 81 = .ok (.aload_n 0, 1) := by decide +kernel
theorem dX13_statement_82 : decode cX13_statement 82 = .ok (.getfield 371, 3) := by decide +kernel
theorem dX13_statement_85 : decode cX13_statement 85 = .ok (.iconst 1, 1) := by decide +kernel
theorem dX13_statement_86 : decode cX13_statement 86 = .ok (.isub, 1) := by decide +kernel
theorem dX13_statement_87 : decode cX13_statement 87 = .ok (.caload, 1) := by decide +kernel
theorem dX13_statement_88 : decode cX13_statement 88 = .ok (.bipush 113, 2) := by decide +kernel
theorem dX13_statement_90 : decode cX13_statement 90 = .ok (.if_icmp .ne 9, 3) := by decide +kernel
theorem dX13_statement_93 : decode cX13_statement 93 = .ok (.ldc_w 652, 3) := by decide +kernel
theorem dX13_statement_96 : decode cX13_statement 96 = .ok (.goto 6, 3) := by decide +kernel
theorem dX13_statement_99 : decode cX13_statement 99 = .ok (.ldc_w 653, 3) := by decide +kernel
theorem dX13_statement_102 : decode cX13_statement 102 = .ok (.istore 5, 2) := by decide +kernel
theorem dX13_statement_104 : decode cX13_statement 104 = .ok (.iload 4, 2) := by decide +kernel
theorem dX13_statement_106 : decode cX13_statement 106 = .ok (.ifCond .lt 30, 3) := by decide +kernel
theorem dX13_statement_109 : decode cX13_statement 109 = .ok (.aload_n 0, 1) := by decide +kernel
theorem dX13_statement_110 : decode cX13_statement 110 = .ok (.getfield 269, 3) := by decide +kernel
theorem dX13_statement_113 : decode cX13_statement 113 = .ok (.iload 4, 2) := by decide +kernel
theorem dX13_statement_115 : decode cX13_statement 115 = .ok (.baload, 1) := by decide +kernel
theorem dX13_statement_116 : decode cX13_statement 116 = .ok (.bipush 9, 2) := by decide +kernel
theorem dX13_statement_118 : decode cX13_statement 118 = .ok (.if_icmp .eq 18, 3) := by decide +kernel
theorem dX13_statement_121 : decode cX13_statement 121 = .ok (.aload_n 0, 1) := by decide +kernel
theorem dX13_statement_122 : decode cX13_statement 122 = .ok (.getfield 269, 3) := by decide +kernel
theorem dX13_statement_125 : decode cX13_statement 125 = .ok (.iload 4, 2) := by decide +kernel
theorem dX13_statement_127 : decode cX13_statement 127 = .ok (.baload, 1) := by decide +kernel
theorem dX13_statement_128 : decode cX13_statement 128 = .ok (.bipush 10, 2) := by decide +kernel
theorem dX13_statement_130 : decode cX13_statement 130 = .ok (.if_icmp .eq 6, 3) := by decide +kernel
theorem dX13_statement_133 : decode cX13_statement 133 = .ok (.iconst (-1), 1) := by decide +kernel
theorem dX13_statement_134 : decode cX13_statement 134 = .ok (.istore 4, 2) := by decide +kernel
theorem dX13_statement_136 : decode cX13_statement 136 = .ok (.iload 4, 2) := by decide +kernel
theorem dX13_statement_138 : decode cX13_statement 138 = .ok (.ifCond .ge 9, 3) := by decide +kernel
theorem dX13_statement_141 : decode cX13_statement 141 = .ok (.aload_n 0, 1) := by decide +kernel
theorem dX13_statement_142 : decode cX13_statement 142 = .ok (.iconst 2, 1) := by decide +kernel
theorem dX13_statement_143 : decode cX13_statement 143 = .ok (.invokevirtual 419, 3) := by decide +kernel
theorem dX13_statement_146 : decode cX13_statement 146 = .ok (.return_, 1) := by decide +kernel
theorem dX13_statement_147 : decode cX13_statement 147 = .ok (.aload_n 0, 1) := by decide +kernel
theorem dX13_statement_148 : decode cX13_statement 148 = .ok (.getfield 269, 3) := by decide +kernel
theorem dX13_statement_151 : decode cX13_statement 151 = .ok (.iload 4, 2) := by decide +kernel
theorem dX13_statement_153 : decode cX13_statement 153 = .ok (.baload, 1) := by decide +kernel
theorem dX13_statement_154 : decode cX13_statement 154 = .ok (.istore 6, 2) := by decide +kernel
theorem dX13_statement_156 : decode cX13_statement 156 = .ok (.aload_n 0, 1) := by decide +kernel
theorem dX13_statement_157 : decode cX13_statement 157 = .ok (.getfield 319, 3) := by decide +kernel
theorem dX13_statement_160 : decode cX13_statement 160 = .ok (.iload 4, 2) := by decide +kernel
theorem dX13_statement_162 : decode cX13_statement 162 = .ok (.iaload, 1) := by decide +kernel
theorem dX13_statement_163 : decode cX13_statement 163 = .ok (.iload 5, 2) := by decide +kernel
theorem dX13_statement_165 : decode cX13_statement 165 = .ok (.ior, 1) := by decide +kernel
theorem dX13_statement_166 : decode cX13_statement 166 = .ok (.istore 7, 2) := by decide +kernel
theorem dX13_statement_168 : decode cX13_statement 168 = .ok (.iload 6, 2) := by decide +kernel
theorem dX13_statement_170 : decode cX13_statement 170 = .ok (.bipush 39, 2) := by decide +kernel
theorem dX13_statement_172 : decode cX13_statement 172 = .ok (.if_icmp .le 14, 3) := by decide +kernel
theorem dX13_statement_175 : decode cX13_statement 175 = .ok (.aload_n 0, 1) := by decide +kernel
theorem dX13_statement_176 : decode cX13_statement 176 = .ok (.iload 6, 2) := by decide +kernel
theorem dX13_statement_178 : decode cX13_statement 178 = .ok (.iload 7, 2) := by decide +kernel
theorem dX13_statement_180 : decode cX13_statement 180 = .ok (.invokevirtual 654, 3) := by decide +kernel
theorem dX13_statement_183 : decode cX13_statement 183 = .ok (.goto 143, 3) := by decide +kernel
theorem dX13_statement_186 : decode cX13_statement 186 = .ok (.iload 6, 2) := by decide +kernel
theorem dX13_statement_188 : decode cX13_statement 188 = .ok (.bipush 12, 2) := by decide +kernel
theorem dX13_statement_190 : decode cX13_statement 190 = .ok (.if_icmp .ne 12, 3) := by decide +kernel
theorem dX13_statement_193 : decode cX13_statement 193 = .ok (.aload_n 0, 1) := by decide +kernel
theorem dX13_statement_194 : decode cX13_statement 194 = .ok (.iload 7, 2) := by decide +kernel
theorem dX13_statement_196 : decode cX13_statement 196 = .ok (.invokevirtual 570, 3) := by decide +kernel
theorem dX13_statement_199 : decode cX13_statement 199 = .ok (.goto 127, 3) := by decide +kernel
theorem dX13_statement_202 : decode cX13_statement 202 = .ok (.iload 6, 2) := by decide +kernel
theorem dX13_statement_204 : decode cX13_statement 204 = .ok (.bipush 16, 2) := by decide +kernel
theorem dX13_statement_206 : decode cX13_statement 206 = .ok (.if_icmp .ne 12, 3) := by decide +kernel
theorem dX13_statement_209 : decode cX13_statement 209 = .ok (.aload_n 0, 1) := by decide +kernel
theorem dX13_statement_210 : decode cX13_statement 210 = .ok (.iload 7, 2) := by decide +kernel
theorem dX13_statement_212 : decode cX13_statement 212 = .ok (.invokevirtual 547, 3) := by decide +kernel
theorem dX13_statement_215 : decode cX13_statement 215 = .ok (.goto 111, 3) := by decide +kernel
theorem dX13_statement_218 : decode cX13_statement 218 = .ok (.iload 6, 2) := by decide +kernel
theorem dX13_statement_220 : decode cX13_statement 220 = .ok (.bipush 8, 2) := by decide +kernel
theorem dX13_statement_222 : decode cX13_statement 222 = .ok (.if_icmp .eq 10, 3) := by decide +kernel
theorem dX13_statement_225 : decode cX13_statement 225 = .ok (.iload 6, 2) := by decide +kernel
theorem dX13_statement_227 : decode cX13_statement 227 = .ok (.bipush 34, 2) := by decide +kernel
theorem dX13_statement_229 : decode cX13_statement 229 = .ok (.if_icmp .ne 14, 3) := by decide +kernel
theorem dX13_statement_232 : decode cX13_statement 232 = .ok (.aload_n 0, 1) := by decide +kernel
theorem dX13_statement_233 : decode cX13_statement 233 = .ok (.iload 6, 2) := by decide +kernel
theorem dX13_statement_235 : decode cX13_statement 235 = .ok (.iload 7, 2) := by decide +kernel
theorem dX13_statement_237 : decode cX13_statement 237 = .ok (.invokevirtual 658, 3) := by decide +kernel
theorem dX13_statement_240 : decode cX13_statement 240 = .ok (.goto 86, 3) := by decide +kernel
theorem dX13_statement_243 : decode cX13_statement 243 = .ok (.iload 6, 2) := by decide +kernel
theorem dX13_statement_245 : decode cX13_statement 245 = .ok (.bipush 7, 2) := by decide +kernel
theorem dX13_statement_247 : decode cX13_statement 247 = .ok (.if_icmp .eq 17, 3) := by decide +kernel
theorem dX13_statement_250 : decode cX13_statement 250 = .ok (.iload 6, 2) := by decide +kernel
theorem dX13_statement_252 : decode cX13_statement 252 = .ok (.bipush 34, 2) := by decide +kernel
theorem dX13_statement_254 : decode cX13_statement 254 = .ok (.if_icmp .le 21, 3) := by decide +kernel
theorem dX13_statement_257 : decode cX13_statement 257 = .ok (.iload 6, 2) := by decide +kernel
theorem dX13_statement_259 : decode cX13_statement 259 = .ok (.bipush 38, 2) := by decide +kernel
theorem dX13_statement_261 : decode cX13_statement 261 = .ok (.if_icmp .ge 14, 3) := by decide +kernel
theorem dX13_statement_264 : decode cX13_statement 264 = .ok (.aload_n 0, 1) := by decide +kernel
theorem dX13_statement_265 : decode cX13_statement 265 = .ok (.iload 6, 2) := by decide +kernel
theorem dX13_statement_267 : decode cX13_statement 267 = .ok (.iload 7, 2) := by decide +kernel
theorem dX13_statement_269 : decode cX13_statement 269 = .ok (.invokevirtual 661, 3) := by decide +kernel
theorem dX13_statement_272 : decode cX13_statement 272 = .ok (.goto 54, 3) := by decide +kernel
theorem dX13_statement_275 : decode cX13_statement 275 = .ok (.iload 6, 2) := by decide +kernel
theorem dX13_statement_277 : decode cX13_statement 277 = .ok (.bipush 12, 2) := by decide +kernel
theorem dX13_statement_279 : decode cX13_statement 279 = .ok (.if_icmp .lt 10, 3) := by decide +kernel
theorem dX13_statement_282 : decode cX13_statement 282 = .ok (.iload 6, 2) := by decide +kernel
theorem dX13_statement_284 : decode cX13_statement 284 = .ok (.bipush 30, 2) := by decide +kernel
theorem dX13_statement_286 : decode cX13_statement 286 = .ok (.if_icmp .ne 14, 3) := by decide +kernel
theorem dX13_statement_289 : decode cX13_statement 289 = .ok (.aload_n 0, 1) := by decide +kernel
theorem dX13_statement_290 : decode cX13_statement 290 = .ok (.iload 6, 2) := by decide +kernel
theorem dX13_statement_292 : decode cX13_statement 292 = .ok (.iload 7, 2) := by decide +kernel
theorem dX13_statement_294 : decode cX13_statement 294 = .ok (.invokevirtual 664, 3) := by decide +kernel
theorem dX13_statement_297 : decode cX13_statement 297 = .ok (.goto 29, 3) := by decide +kernel
theorem dX13_statement_300 : decode cX13_statement 300 = .ok (.iload 6, 2) := by decide +kernel
theorem dX13_statement_302 : decode cX13_statement 302 = .ok (.bipush 30, 2) := by decide +kernel
theorem dX13_statement_304 : decode cX13_statement 304 = .ok (.if_icmp .ge 14, 3) := by decide +kernel
theorem dX13_statement_307 : decode cX13_statement 307 = .ok (.aload_n 0, 1) := by decide +kernel
theorem dX13_statement_308 : decode cX13_statement 308 = .ok (.iload 6, 2) := by decide +kernel
theorem dX13_statement_310 : decode cX13_statement 310 = .ok (.iload 7, 2) := by decide +kernel
theorem dX13_statement_312 : decode cX13_statement 312 = .ok (.invokevirtual 667, 3) := by decide +kernel
theorem dX13_statement_315 : decode cX13_statement 315 = .ok (.goto 11, 3) := by decide +kernel
theorem dX13_statement_318 : decode cX13_statement 318 = .ok (.aload_n 0, 1) := by decide +kernel
theorem dX13_statement_319 : decode cX13_statement 319 = .ok (.iload 6, 2) := by decide +kernel
theorem dX13_statement_321 : decode cX13_statement 321 = .ok (.iload 7, 2) := by decide +kernel
theorem dX13_statement_323 : decode cX13_statement 323 = .ok (.invokevirtual 670, 3) := by decide +kernel
theorem dX13_statement_326 : decode cX13_statement 326 = .ok (.aload_n 0, 1) := by decide +kernel
theorem dX13_statement_327 : decode cX13_statement 327 = .ok (.getfield 522, 3) := by decide +kernel
theorem dX13_statement_330 : decode cX13_statement 330 = .ok (.ifCond .ne 16, 3) := by decide +kernel
theorem dX13_statement_333 : decode cX13_statement 333 = .ok (.aload_n 0, 1) := by decide +kernel
theorem dX13_statement_334 : decode cX13_statement 334 = .ok (.getfield 410, 3) := by decide +kernel
theorem dX13_statement_337 : decode cX13_statement 337 = .ok (.ifCond .ne 9, 3) := by decide +kernel
theorem dX13_statement_340 : decode cX13_statement 340 = .ok (.aload_n 0, 1) := by decide +kernel
theorem dX13_statement_341 : decode cX13_statement 341 = .ok (.iconst 0, 1) := by decide +kernel
theorem dX13_statement_342 : decode cX13_statement 342 = .ok (.invokevirtual 506, 3) := by decide +kernel
theorem dX13_statement_345 : decode cX13_statement 345 = .ok (.pop, 1) := by decide +kernel
theorem dX13_statement_346 : decode cX13_statement 346 = .ok (.return_, 1) := by decide +kernel
theorem dX13_labelled_0 : decode cX13_labelled 0 = .ok (.aload_n 0, 1) := by decide +kernel
theorem dX13_labelled_1 : decode cX13_labelled 1 = .ok (.getfield 410, 3) := by decide +kernel
theorem dX13_labelled_4 : decode cX13_labelled 4 = .ok (.ifCond .ne 165, 3) := by decide +kernel
theorem dX13_labelled_7 : decode cX13_labelled 7 = .ok (.aload_n 0, 1) := by decide +kernel
theorem dX13_labelled_8 : decode cX13_labelled 8 = .ok (.invokevirtual 416, 3) := by decide +kernel
theorem dX13_labelled_11 : decode cX13_labelled 11 = .ok (.aload_n 0, 1) := by decide +kernel
theorem dX13_labelled_12 : decode cX13_labelled 12 = .ok (.getfield 368, 3) := by decide +kernel
theorem dX13_labelled_15 : decode cX13_labelled 15 = .ok (.istore_n 1, 1) := by decide +kernel
theorem dX13_labelled_16 : decode cX13_labelled 16 = .ok (.aload_n 0, 1) := by decide +kernel
theorem dX13_labelled_17 : decode cX13_labelled 17 = .ok (.getfield 371, 3) := by decide +kernel
theorem dX13_labelled_20 : decode cX13_labelled 20 = .ok (.istore_n 2, 1) := by decide +kernel
theorem dX13_labelled_21 : decode cX13_labelled 21 = .ok (.aload_n 0, 1) := by decide +kernel
theorem dX13_labelled_22 : decode cX13_labelled 22 = .ok (.getfield 365, 3) := by decide +kernel
theorem dX13_labelled_25 : decode cX13_labelled 25 = .ok (.istore_n 3, 1) := by decide +kernel
theorem dX13_labelled_26 : decode cX13_labelled 26 = .ok (.iload_n 3, 1) := by decide +kernel
theorem dX13_labelled_27 : decode cX13_labelled 27 = .ok (.iconst 2, 1) := by decide +kernel
theorem dX13_labelled_28 : decode cX13_labelled 28 = .ok (.if_icmp .ne 14, 3) := by decide +kernel
theorem dX13_labelled_31 : decode cX13_labelled 31 = .ok (.iload_n 2, 1) := by decide +kernel
theorem dX13_labelled_32 : decode cX13_labelled 32 = .ok (.iload_n 1, 1) := by decide +kernel
theorem dX13_labelled_33 : decode cX13_labelled 33 = .ok (.isub, 1) := by decide +kernel
theorem dX13_labelled_34 : decode cX13_labelled 34 = .ok (.iconst 1, 1) := by decide +kernel
theorem dX13_labelled_35 : decode cX13_labelled 35 = .ok (.if_icmp .ne 7, 3) := by decide +kernel
theorem dX13_labelled_38 : decode cX13_labelled 38 = .ok (.iconst 1, 1) := by decide +kernel
theorem dX13_labelled_39 : decode cX13_labelled 39 = .ok (.goto 4, 3) := by decide +kernel
theorem dX13_labelled_42 : decode cX13_labelled 42 = .ok (.iconst 0, 1) := by decide +kernel
theorem dX13_labelled_43 : decode cX13_labelled 43 = .ok (.istore 4, 2) := by decide +kernel
theorem dX13_labelled_45 : decode cX13_labelled 45 = .ok (.iload_n 3, 1) := by decide +kernel
theorem dX13_labelled_46 : decode cX13_labelled 46 = .ok (.ifCond .ne 5, 3) := by decide +kernel
theorem dX13_labelled_49 : decode cX13_labelled 49 = .ok (.iconst 0, 1) := by decide +kernel
theorem dX13_labelled_50 : decode cX13_labelled 50 = .ok (.ireturn, 1) := by decide +kernel
theorem dX13_labelled_51 : decode cX13_labelled 51 = .ok (.iload_n 3, 1) := by decide +kernel
theorem dX13_labelled_52 : decode cX13_labelled 52 = .ok (.iconst 1, 1) := by decide +kernel
theorem dX13_labelled_53 : decode cX13_labelled 53 = .ok (.if_icmp .eq 15, 3) := by decide +kernel
theorem dX13_labelled_56 : decode cX13_labelled 56 = .ok (.iload 4, 2) := by decide +kernel
theorem dX13_labelled_58 : decode cX13_labelled 58 = .ok (.ifCond .ne 10, 3) := by decide +kernel
theorem dX13_labelled_61 : decode cX13_labelled 61 = .ok (.aload_n 0, 1) := by decide +kernel
theorem dX13_labelled_62 : decode cX13_labelled 62 = .ok (.iconst 1, 1) := by decide +kernel
theorem dX13_labelled_63 : decode cX13_labelled 63 = .ok (.invokevirtual 419, 3) := by decide +kernel
theorem dX13_labelled_66 : decode cX13_labelled 66 = .ok (.iconst 0, 1) := by decide +kernel
theorem dX13_labelled_67 : decode cX13_labelled 67 = .ok (.ireturn, 1) := by decide +kernel
theorem dX13_labelled_68 : decode cX13_labelled 68 = .ok (.aload_n 0, 1) := by decide +kernel
theorem dX13_labelled_69 : decode cX13_labelled 69 = .ok (.invokevirtual 416, 3) := by decide +kernel
theorem dX13_labelled_72 : decode cX13_labelled 72 = .ok (.aload_n 0, 1) := by decide +kernel
theorem dX13_labelled_73 : decode cX13_labelled 73 = .ok (.getfield 365, 3) := by decide +kernel
theorem dX13_labelled_76 : decode cX13_labelled 76 = .ok (.bipush 58, 2) := by decide +kernel
theorem dX13_labelled_78 : decode cX13_labelled 78 = .ok (.if_icmp .eq 31, 3) := by decide +kernel
theorem dX13_labelled_81 : decode cX13_labelled 81 = .ok (.iload 4, 2) := by decide +kernel
theorem dX13_labelled_83 : decode cX13_labelled 83 = .ok (.ifCond .eq 8, 3) := by decide +kernel
theorem dX13_labelled_86 : decode cX13_labelled 86 = .ok (.aload_n 0, 1) := by decide +kernel
theorem dX13_labelled_87 : decode cX13_labelled 87 = .ok (.iconst 1, 1) := by decide +kernel
theorem dX13_labelled_88 : decode cX13_labelled 88 = .ok (.invokevirtual 419, 3) := by decide +kernel
theorem dX13_labelled_91 : decode cX13_labelled 91 = .ok (.aload_n 0, 1) := by decide +kernel
theorem dX13_labelled_92 : decode cX13_labelled 92 = .ok (.iload_n 1, 1) := by decide +kernel
theorem dX13_labelled_93 : decode cX13_labelled 93 = .ok (.putfield 374, 3) := by decide +kernel
theorem dX13_labelled_96 : decode cX13_labelled 96 = .ok (.aload_n 0, 1) := by decide +kernel
theorem dX13_labelled_97 : decode cX13_labelled 97 = .ok (.getfield 410, 3) := by decide +kernel
theorem dX13_labelled_100 : decode cX13_labelled 100 = .ok (.ifCond .ne 7, 3) := by decide +kernel
theorem dX13_labelled_103 : decode cX13_labelled 103 = .ok (.iconst 1, 1) := by decide +kernel
theorem dX13_labelled_104 : decode cX13_labelled 104 = .ok (.goto 4, 3) := by decide +kernel
theorem dX13_labelled_107 : decode cX13_labelled 107 = .ok (.iconst 0, 1) := by decide +kernel
theorem dX13_labelled_108 : decode cX13_labelled 108 = .ok (.ireturn, 1) := by decide +kernel
theorem dX13_labelled_109 : decode cX13_labelled 109 = .ok (.iload 4, 2) := by decide +kernel
theorem dX13_labelled_111 : decode cX13_labelled 111 = .ok (.ifCond .ne 26, 3) := by decide +kernel
theorem dX13_labelled_114 : decode cX13_labelled 114 = .ok (.aload_n 0, 1) := by decide +kernel
theorem dX13_labelled_115 : decode cX13_labelled 115 = .ok (.iload_n 1, 1) := by decide +kernel
theorem dX13_labelled_116 : decode cX13_labelled 116 = .ok (.iload_n 2, 1) := by decide +kernel
theorem dX13_labelled_117 : decode cX13_labelled 117 = .ok (.invokevirtual 477, 3) := by decide +kernel
theorem dX13_labelled_120 : decode cX13_labelled 120 = .ok (.ifCond .ge 12, 3) := by decide +kernel
theorem dX13_labelled_123 : decode cX13_labelled 123 = .ok (.aload_n 0, 1) := by decide +kernel
theorem dX13_labelled_124 : decode cX13_labelled 124 = .ok (.iload_n 1, 1) := by decide +kernel
theorem dX13_labelled_125 : decode cX13_labelled 125 = .ok (.iload_n 2, 1) := by decide +kernel
theorem dX13_labelled_126 : decode cX13_labelled 126 = .ok (.invokevirtual 480, 3) := by decide +kernel
theorem dX13_labelled_129 : decode cX13_labelled 129 = .ok (.ifCond .lt 8, 3) := by decide +kernel
theorem dX13_labelled_132 : decode cX13_labelled 132 = .ok (.aload_n 0, 1) := by decide +kernel
theorem dX13_labelled_133 : decode cX13_labelled 133 = .ok (.iconst 4, 1) := by decide +kernel
theorem dX13_labelled_134 : decode cX13_labelled 134 = .ok (.invokevirtual 419, 3) := by decide +kernel
theorem dX13_labelled_137 : decode cX13_labelled 137 = .ok (.aload_n 0, 1) := by decide +kernel
theorem dX13_labelled_138 : decode cX13_labelled 138 = .ok (.getfield 410, 3) := by decide +kernel
theorem dX13_labelled_141 : decode cX13_labelled 141 = .ok (.ifCond .ne 25, 3) := by decide +kernel
theorem dX13_labelled_144 : decode cX13_labelled 144 = .ok (.aload_n 0, 1) := by decide +kernel
theorem dX13_labelled_145 : decode cX13_labelled 145 = .ok (.iload_n 1, 1) := by decide +kernel
theorem dX13_labelled_146 : decode cX13_labelled 146 = .ok (.iload_n 2, 1) := by decide +kernel
theorem dX13_labelled_147 : decode cX13_labelled 147 = .ok (.aload_n 0, 1) := by decide +kernel
theorem dX13_labelled_148 : decode cX13_labelled 148 = .ok (.getfield 634, 3) := by decide +kernel
theorem dX13_labelled_151 : decode cX13_labelled 151 = .ok (.iload 4, 2) := by decide +kernel
theorem dX13_labelled_153 : decode cX13_labelled 153 = .ok (.ifCond .eq 7, 3) := by decide +kernel
theorem dX13_labelled_156 : decode cX13_labelled 156 = .ok (.iconst 3, 1) := by decide +kernel
theorem dX13_labelled_157 : decode cX13_labelled 157 = .ok (.goto 4, 3) := by decide +kernel
theorem dX13_labelled_160 : decode cX13_labelled 160 = .ok (.iconst 0, 1) := by decide +kernel
theorem dX13_labelled_161 : decode cX13_labelled 161 = .ok (.iadd, 1) := by decide +kernel
theorem dX13_labelled_162 : decode cX13_labelled 162 = .ok (.iconst 0, 1) := by decide +kernel
theorem dX13_labelled_163 : decode cX13_labelled 163 = .ok (.invokevirtual 631, 3) := by decide +kernel
theorem dX13_labelled_166 : decode cX13_labelled 166 = .ok (.goto (-166), 3) := by decide +kernel
theorem dX13_labelled_169 : decode cX13_labelled 169 = .ok (.iconst 0, 1) := by decide +kernel
theorem dX13_labelled_170 : decode cX13_labelled 170 = .ok (.ireturn, 1) := by decide +kernel
theorem dX13_readAll_0 : decode cX13_readAll 0 = .ok (.aload_n 0, 1) := by decide +kernel
theorem dX13_readAll_1 : decode cX13_readAll 1 = .ok (.iconst 0, 1) := by decide +kernel
theorem dX13_readAll_2 : decode cX13_readAll 2 = .ok (.putfield 374, 3) := by decide +kernel
theorem dX13_readAll_5 : decode cX13_readAll 5 = .ok (.aload_n 0, 1) := by decide +kernel
theorem dX13_readAll_6 : decode cX13_readAll 6 = .ok (.iconst 1, 1) := by decide +kernel
theorem dX13_readAll_7 : decode cX13_readAll 7 = .ok (.putfield 413, 3) := by decide +kernel
theorem dX13_readAll_10 : decode cX13_readAll 10 = .ok (.aload_n 0, 1) := by decide +kernel
theorem dX13_readAll_11 : decode cX13_readAll 11 = .ok (.iconst 0, 1) := by decide +kernel
theorem dX13_readAll_12 : decode cX13_readAll 12 = .ok (.putfield 634, 3) := by decide +kernel
theorem dX13_readAll_15 : decode cX13_readAll 15 = .ok (.aload_n 0, 1) := by decide +kernel
theorem dX13_readAll_16 : decode cX13_readAll 16 = .ok (.iconst 0, 1) := by decide +kernel
theorem dX13_readAll_17 : decode cX13_readAll 17 = .ok (.putfield 673, 3) := by decide +kernel
theorem dX13_readAll_20 : decode cX13_readAll 20 = .ok (.aload_n 0, 1) := by decide +kernel
theorem dX13_readAll_21 : decode cX13_readAll 21 = .ok (.iconst 0, 1) := by decide +kernel
theorem dX13_readAll_22 : decode cX13_readAll 22 = .ok (.putfield 439, 3) := by decide +kernel
theorem dX13_readAll_25 : decode cX13_readAll 25 = .ok (.aload_n 0, 1) := by decide +kernel
theorem dX13_readAll_26 : decode cX13_readAll 26 = .ok (.getfield 410, 3) := by decide +kernel
theorem dX13_readAll_29 : decode cX13_readAll 29 = .ok (.ifCond .ne 172, 3) := by decide +kernel
theorem dX13_readAll_32 : decode cX13_readAll 32 = .ok (.aload_n 0, 1) := by decide +kernel
theorem dX13_readAll_33 : decode cX13_readAll 33 = .ok (.getfield 374, 3) := by decide +kernel
theorem dX13_readAll_36 : decode cX13_readAll 36 = .ok (.aload_n 0, 1) := by decide +kernel
theorem dX13_readAll_37 : decode cX13_readAll 37 = .ok (.getfield 347, 3) := by decide +kernel
theorem dX13_readAll_40 : decode cX13_readAll 40 = .ok (.if_icmp .ge 161, 3) := by decide +kernel
theorem dX13_readAll_43 : decode cX13_readAll 43 = .ok (.aload_n 0, 1) := by decide +kernel
theorem dX13_readAll_44 : decode cX13_readAll 44 = .ok (.invokevirtual 676, 3) := by decide +kernel
theorem dX13_readAll_47 : decode cX13_readAll 47 = .ok (.ifCond .eq 105, 3) := by decide +kernel
theorem dX13_readAll_50 : decode cX13_readAll 50 = .ok (.aload_n 0, 1) := by decide +kernel
theorem dX13_readAll_51 : decode cX13_readAll 51 = .ok (.aload_n 0, 1) := by decide +kernel
theorem dX13_readAll_52 : decode cX13_readAll 52 = .ok (.getfield 673, 3) := by decide +kernel
theorem dX13_readAll_55 : decode cX13_readAll 55 = .ok (.putfield 454, 3) := by decide +kernel
theorem dX13_readAll_58 : decode cX13_readAll 58 = .ok (.aload_n 0, 1) := by decide +kernel
theorem dX13_readAll_59 : decode cX13_readAll 59 = .ok (.getfield 374, 3) := by decide +kernel
theorem dX13_readAll_62 : decode cX13_readAll 62 = .ok (.istore_n 1, 1) := by decide +kernel
theorem dX13_readAll_63 : decode cX13_readAll 63 = .ok (.aload_n 0, 1) := by decide +kernel
theorem dX13_readAll_64 : decode cX13_readAll 64 = .ok (.getfield 328, 3) := by decide +kernel
theorem dX13_readAll_67 : decode cX13_readAll 67 = .ok (.aload_n 0, 1) := by decide +kernel
theorem dX13_readAll_68 : decode cX13_readAll 68 = .ok (.getfield 454, 3) := by decide +kernel
theorem dX13_readAll_71 : decode cX13_readAll 71 = .ok (.iload_n 1, 1) := by decide +kernel
theorem dX13_readAll_72 : decode cX13_readAll 72 = .ok (.aload_n 0, 1) := by decide +kernel
theorem dX13_readAll_73 : decode cX13_readAll 73 = .ok (.getfield 634, 3) := by decide +kernel
theorem dX13_readAll_76 : decode cX13_readAll 76 = .ok (.bipush 19, 2) := by decide +kernel
theorem dX13_readAll_78 : decode cX13_readAll 78 = .ok (.ishl, 1) := by decide +kernel
theorem dX13_readAll_79 : decode cX13_readAll 79 = .ok (.ior, 1) := by decide +kernel
theorem dX13_readAll_80 : decode cX13_readAll 80 = .ok (.iastore, 1) := by decide +kernel
theorem dX13_readAll_81 : decode cX13_readAll 81 = .ok (.aload_n 0, 1) := by decide +kernel
theorem dX13_readAll_82 : decode cX13_readAll 82 = .ok (.getfield 334, 3) := by decide +kernel
theorem dX13_readAll_85 : decode cX13_readAll 85 = .ok (.aload_n 0, 1) := by decide +kernel
theorem dX13_readAll_86 : decode cX13_readAll 86 = .ok (.getfield 454, 3) := by decide +kernel
theorem dX13_readAll_89 : decode cX13_readAll 89 = .ok (.iconst 0, 1) := by decide +kernel
theorem dX13_readAll_90 : decode cX13_readAll 90 = .ok (.iastore, 1) := by decide +kernel
theorem dX13_readAll_91 : decode cX13_readAll 91 = .ok (.aload_n 0, 1) := by decide +kernel
theorem dX13_readAll_92 : decode cX13_readAll 92 = .ok (.getfield 634, 3) := by decide +kernel
theorem dX13_readAll_95 : decode cX13_readAll 95 = .ok (.istore_n 2, 1) := by decide +kernel
theorem dX13_readAll_96 : decode cX13_readAll 96 = .ok (.aload_n 0, 1) := by decide +kernel
theorem dX13_readAll_97 : decode cX13_readAll 97 = .ok (.iload_n 1, 1) := by decide +kernel
theorem dX13_readAll_98 : decode cX13_readAll 98 = .ok (.iconst 0, 1) := by decide +kernel
theorem dX13_readAll_99 : decode cX13_readAll 99 = .ok (.invokevirtual 679, 3) := by decide +kernel
theorem dX13_readAll_102 : decode cX13_readAll 102 = .ok (.iload_n 2, 1) := by decide +kernel
theorem dX13_readAll_103 : decode cX13_readAll 103 = .ok (.aload_n 0, 1) := by decide +kernel
theorem dX13_readAll_104 : decode cX13_readAll 104 = .ok (.getfield 634, 3) := by decide +kernel
theorem dX13_readAll_107 : decode cX13_readAll 107 = .ok (.if_icmp .ne 10, 3) := by decide +kernel
theorem dX13_readAll_110 : decode cX13_readAll 110 = .ok (.aload_n 0, 1) := by decide +kernel
theorem dX13_readAll_111 : decode cX13_readAll 111 = .ok (.getfield 454, 3) := by decide +kernel
theorem dX13_readAll_114 : decode cX13_readAll 114 = .ok (.goto 4, 3) := by decide +kernel
theorem dX13_readAll_117 : decode cX13_readAll 117 = .ok (.iconst (-1), 1) := by decide +kernel
theorem dX13_readAll_118 : decode cX13_readAll 118 = .ok (.istore_n 3, 1) := by decide +kernel
theorem dX13_readAll_119 : decode cX13_readAll 119 = .ok (.iload_n 3, 1) := by decide +kernel
theorem dX13_readAll_120 : decode cX13_readAll 120 = .ok (.ifCond .lt 32, 3) := by decide +kernel
theorem dX13_readAll_123 : decode cX13_readAll 123 = .ok (.aload_n 0, 1) := by decide +kernel
theorem dX13_readAll_124 : decode cX13_readAll 124 = .ok (.dup, 1) := by decide +kernel
theorem dX13_readAll_125 : decode cX13_readAll 125 = .ok (.getfield 673, 3) := by decide +kernel
theorem dX13_readAll_128 : decode cX13_readAll 128 = .ok (.iconst 1, 1) := by decide +kernel
theorem dX13_readAll_129 : decode cX13_readAll 129 = .ok (.iadd, 1) := by decide +kernel
theorem dX13_readAll_130 : decode cX13_readAll 130 = .ok (.putfield 673, 3) := by decide +kernel
theorem dX13_readAll_133 : decode cX13_readAll 133 = .ok (.aload_n 0, 1) := by decide +kernel
theorem dX13_readAll_134 : decode cX13_readAll 134 = .ok (.getfield 334, 3) := by decide +kernel
theorem dX13_readAll_137 : decode cX13_readAll 137 = .ok (.iload_n 3, 1) := by decide +kernel
theorem dX13_readAll_138 : decode cX13_readAll 138 = .ok (.iaload, 1) := by decide +kernel
theorem dX13_readAll_139 : decode cX13_readAll 139 = .ok (.ifCond .ne 13, 3) := by decide +kernel
theorem dX13_readAll_142 : decode cX13_readAll 142 = .ok (.aload_n 0, 1) := by decide +kernel
theorem dX13_readAll_143 : decode cX13_readAll 143 = .ok (.getfield 334, 3) := by decide +kernel
theorem dX13_readAll_146 : decode cX13_readAll 146 = .ok (.iload_n 3, 1) := by decide +kernel
theorem dX13_readAll_147 : decode cX13_readAll 147 = .ok (.aload_n 0, 1) := by decide +kernel
theorem dX13_readAll_148 : decode cX13_readAll 148 = .ok (.getfield 541, 3) := by decide +kernel
theorem dX13_readAll_151 : decode cX13_readAll 151 = .ok (.iastore, 1) := by decide +kernel
theorem dX13_readAll_152 : decode cX13_readAll 152 = .ok (.aload_n 0, 1) := by decide +kernel
theorem dX13_readAll_153 : decode cX13_readAll 153 = .ok (.aload_n 0, 1) := by decide +kernel
theorem dX13_readAll_154 : decode cX13_readAll 154 = .ok (.getfield 374, 3) := by decide +kernel
theorem dX13_readAll_157 : decode cX13_readAll 157 = .ok (.invokevirtual 358, 3) := by decide +kernel
theorem dX13_readAll_160 : decode cX13_readAll 160 = .ok (.bipush 10, 2) := by decide +kernel
theorem dX13_readAll_162 : decode cX13_readAll 162 = .ok (.if_icmp .eq 16, 3) := by decide +kernel
theorem dX13_readAll_165 : decode cX13_readAll 165 = .ok (.aload_n 0, 1) := by decide +kernel
theorem dX13_readAll_166 : decode cX13_readAll 166 = .ok (.dup, 1) := by decide +kernel
theorem dX13_readAll_167 : decode cX13_readAll 167 = .ok (.getfield 374, 3) := by decide +kernel
theorem dX13_readAll_170 : decode cX13_readAll 170 = .ok (.iconst 1, 1) := by decide +kernel
theorem dX13_readAll_171 : decode cX13_readAll 171 = .ok (.iadd, 1) := by decide +kernel
theorem dX13_readAll_172 : decode cX13_readAll 172 = .ok (.putfield 374, 3) := by decide +kernel
theorem dX13_readAll_175 : decode cX13_readAll 175 = .ok (.goto (-23), 3) := by decide +kernel
theorem dX13_readAll_178 : decode cX13_readAll 178 = .ok (.aload_n 0, 1) := by decide +kernel
theorem dX13_readAll_179 : decode cX13_readAll 179 = .ok (.dup, 1) := by decide +kernel
theorem dX13_readAll_180 : decode cX13_readAll 180 = .ok (.getfield 374, 3) := by decide +kernel
theorem dX13_readAll_183 : decode cX13_readAll 183 = .ok (.iconst 1, 1) := by decide +kernel
theorem dX13_readAll_184 : decode cX13_readAll 184 = .ok (.iadd, 1) := by decide +kernel
theorem dX13_readAll_185 : decode cX13_readAll 185 = .ok (.putfield 374, 3) := by decide +kernel
theorem dX13_readAll_188 : decode cX13_readAll 188 = .ok (.aload_n 0, 1) := by decide +kernel
theorem dX13_readAll_189 : decode cX13_readAll 189 = .ok (.dup, 1) := by decide +kernel
theorem dX13_readAll_190 : decode cX13_readAll 190 = .ok (.getfield 413, 3) := by decide +kernel
theorem dX13_readAll_193 : decode cX13_readAll 193 = .ok (.iconst 1, 1) := by decide +kernel
theorem dX13_readAll_194 : decode cX13_readAll 194 = .ok (.iadd, 1) := by decide +kernel
theorem dX13_readAll_195 : decode cX13_readAll 195 = .ok (.putfield 413, 3) := by decide +kernel
theorem dX13_readAll_198 : decode cX13_readAll 198 = .ok (.goto (-173), 3) := by decide +kernel
theorem dX13_readAll_201 : decode cX13_readAll 201 = .ok (.return_, 1) := by decide +kernel
theorem dX13_sizeAt_0 : decode cX13_sizeAt 0 = .ok (.aload_n 0, 1) := by decide +kernel
theorem dX13_sizeAt_1 : decode cX13_sizeAt 1 = .ok (.getfield 334, 3) := by decide +kernel
theorem dX13_sizeAt_4 : decode cX13_sizeAt 4 = .ok (.iload_n 1, 1) := by decide +kernel
theorem dX13_sizeAt_5 : decode cX13_sizeAt 5 = .ok (.iaload, 1) := by decide +kernel
theorem dX13_sizeAt_6 : decode cX13_sizeAt 6 = .ok (.ifCond .ge 19, 3) := by decide +kernel
theorem dX13_sizeAt_9 : decode cX13_sizeAt 9 = .ok (.iload_n 2, 1) := by decide +kernel
theorem dX13_sizeAt_10 : decode cX13_sizeAt 10 = .ok (.ineg, 1) := by decide +kernel
theorem dX13_sizeAt_11 : decode cX13_sizeAt 11 = .ok (.iconst 1, 1) := by decide +kernel
theorem dX13_sizeAt_12 : decode cX13_sizeAt 12 = .ok (.iconst (-1), 1) := by decide +kernel
theorem dX13_sizeAt_13 : decode cX13_sizeAt 13 = .ok (.aload_n 0, 1) := by decide +kernel
theorem dX13_sizeAt_14 : decode cX13_sizeAt 14 = .ok (.getfield 334, 3) := by decide +kernel
theorem dX13_sizeAt_17 : decode cX13_sizeAt 17 = .ok (.iload_n 1, 1) := by decide +kernel
theorem dX13_sizeAt_18 : decode cX13_sizeAt 18 = .ok (.iaload, 1) := by decide +kernel
theorem dX13_sizeAt_19 : decode cX13_sizeAt 19 = .ok (.isub, 1) := by decide +kernel
theorem dX13_sizeAt_20 : decode cX13_sizeAt 20 = .ok (.ishl, 1) := by decide +kernel
theorem dX13_sizeAt_21 : decode cX13_sizeAt 21 = .ok (.iconst 1, 1) := by decide +kernel
theorem dX13_sizeAt_22 : decode cX13_sizeAt 22 = .ok (.isub, 1) := by decide +kernel
theorem dX13_sizeAt_23 : decode cX13_sizeAt 23 = .ok (.iand, 1) := by decide +kernel
theorem dX13_sizeAt_24 : decode cX13_sizeAt 24 = .ok (.ireturn, 1) := by decide +kernel
theorem dX13_sizeAt_25 : decode cX13_sizeAt 25 = .ok (.aload_n 0, 1) := by decide +kernel
theorem dX13_sizeAt_26 : decode cX13_sizeAt 26 = .ok (.getfield 328, 3) := by decide +kernel
theorem dX13_sizeAt_29 : decode cX13_sizeAt 29 = .ok (.iload_n 1, 1) := by decide +kernel
theorem dX13_sizeAt_30 : decode cX13_sizeAt 30 = .ok (.iaload, 1) := by decide +kernel
theorem dX13_sizeAt_31 : decode cX13_sizeAt 31 = .ok (.bipush 20, 2) := by decide +kernel
theorem dX13_sizeAt_33 : decode cX13_sizeAt 33 = .ok (.ishr, 1) := by decide +kernel
theorem dX13_sizeAt_34 : decode cX13_sizeAt 34 = .ok (.ifCond .le 19, 3) := by decide +kernel
theorem dX13_sizeAt_37 : decode cX13_sizeAt 37 = .ok (.iconst 2, 1) := by decide +kernel
theorem dX13_sizeAt_38 : decode cX13_sizeAt 38 = .ok (.aload_n 0, 1) := by decide +kernel
theorem dX13_sizeAt_39 : decode cX13_sizeAt 39 = .ok (.getfield 328, 3) := by decide +kernel
theorem dX13_sizeAt_42 : decode cX13_sizeAt 42 = .ok (.iload_n 1, 1) := by decide +kernel
theorem dX13_sizeAt_43 : decode cX13_sizeAt 43 = .ok (.iaload, 1) := by decide +kernel
theorem dX13_sizeAt_44 : decode cX13_sizeAt 44 = .ok (.bipush 17, 2) := by decide +kernel
theorem dX13_sizeAt_46 : decode cX13_sizeAt 46 = .ok (.ishr, 1) := by decide +kernel
theorem dX13_sizeAt_47 : decode cX13_sizeAt 47 = .ok (.iconst 3, 1) := by decide +kernel
theorem dX13_sizeAt_48 : decode cX13_sizeAt 48 = .ok (.iand, 1) := by decide +kernel
theorem dX13_sizeAt_49 : decode cX13_sizeAt 49 = .ok (.ishl, 1) := by decide +kernel
theorem dX13_sizeAt_50 : decode cX13_sizeAt 50 = .ok (.goto 9, 3) := by decide +kernel
theorem dX13_sizeAt_53 : decode cX13_sizeAt 53 = .ok (.aload_n 0, 1) := by decide +kernel
theorem dX13_sizeAt_54 : decode cX13_sizeAt 54 = .ok (.getfield 334, 3) := by decide +kernel
theorem dX13_sizeAt_57 : decode cX13_sizeAt 57 = .ok (.iload_n 1, 1) := by decide +kernel
theorem dX13_sizeAt_58 : decode cX13_sizeAt 58 = .ok (.iaload, 1) := by decide +kernel
theorem dX13_sizeAt_59 : decode cX13_sizeAt 59 = .ok (.ireturn, 1) := by decide +kernel
theorem dX13_sectionOf_0 : decode cX13_sectionOf 0 = .ok (.aload_n 0, 1) := by decide +kernel
theorem dX13_sectionOf_1 : decode cX13_sectionOf 1 = .ok (.getfield 328, 3) := by decide +kernel
theorem dX13_sectionOf_4 : decode cX13_sectionOf 4 = .ok (.iload_n 1, 1) := by decide +kernel
theorem dX13_sectionOf_5 : decode cX13_sectionOf 5 = .ok (.iaload, 1) := by decide +kernel
theorem dX13_sectionOf_6 : decode cX13_sectionOf 6 = .ok (.bipush 19, 2) := by decide +kernel
theorem dX13_sectionOf_8 : decode cX13_sectionOf 8 = .ok (.ishr, 1) := by decide +kernel
theorem dX13_sectionOf_9 : decode cX13_sectionOf 9 = .ok (.iconst 1, 1) := by decide +kernel
theorem dX13_sectionOf_10 : decode cX13_sectionOf 10 = .ok (.iand, 1) := by decide +kernel
theorem dX13_sectionOf_11 : decode cX13_sectionOf 11 = .ok (.ireturn, 1) := by decide +kernel
theorem dX13_layout_0 : decode cX13_layout 0 = .ok (.aload_n 0, 1) := by decide +kernel
theorem dX13_layout_1 : decode cX13_layout 1 = .ok (.iconst 0, 1) := by decide +kernel
theorem dX13_layout_2 : decode cX13_layout 2 = .ok (.putfield 447, 3) := by decide +kernel
theorem dX13_layout_5 : decode cX13_layout 5 = .ok (.aload_n 0, 1) := by decide +kernel
theorem dX13_layout_6 : decode cX13_layout 6 = .ok (.iconst 0, 1) := by decide +kernel
theorem dX13_layout_7 : decode cX13_layout 7 = .ok (.putfield 682, 3) := by decide +kernel
theorem dX13_layout_10 : decode cX13_layout 10 = .ok (.iconst 0, 1) := by decide +kernel
theorem dX13_layout_11 : decode cX13_layout 11 = .ok (.istore_n 1, 1) := by decide +kernel
theorem dX13_layout_12 : decode cX13_layout 12 = .ok (.iconst 0, 1) := by decide +kernel
theorem dX13_layout_13 : decode cX13_layout 13 = .ok (.istore_n 2, 1) := by decide +kernel
theorem dX13_layout_14 : decode cX13_layout 14 = .ok (.iload_n 2, 1) := by decide +kernel
theorem dX13_layout_15 : decode cX13_layout 15 = .ok (.aload_n 0, 1) := by decide +kernel
theorem dX13_layout_16 : decode cX13_layout 16 = .ok (.getfield 673, 3) := by decide +kernel
theorem dX13_layout_19 : decode cX13_layout 19 = .ok (.if_icmp .gt 204, 3) := by decide +kernel
theorem dX13_layout_22 : decode cX13_layout 22 = .ok (.iload_n 2, 1) := by decide +kernel
theorem dX13_layout_23 : decode cX13_layout 23 = .ok (.aload_n 0, 1) := by decide +kernel
theorem dX13_layout_24 : decode cX13_layout 24 = .ok (.getfield 673, 3) := by decide +kernel
theorem dX13_layout_27 : decode cX13_layout 27 = .ok (.if_icmp .ge 16, 3) := by decide +kernel
theorem dX13_layout_30 : decode cX13_layout 30 = .ok (.aload_n 0, 1) := by decide +kernel
theorem dX13_layout_31 : decode cX13_layout 31 = .ok (.getfield 328, 3) := by decide +kernel
theorem dX13_layout_34 : decode cX13_layout 34 = .ok (.iload_n 2, 1) := by decide +kernel
theorem dX13_layout_35 : decode cX13_layout 35 = .ok (.iaload, 1) := by decide +kernel
theorem dX13_layout_36 : decode cX13_layout 36 = .ok (.ldc_w 442, 3) := by decide +kernel
theorem dX13_layout_39 : decode cX13_layout 39 = .ok (.iand, 1) := by decide +kernel
theorem dX13_layout_40 : decode cX13_layout 40 = .ok (.goto 6, 3) := by decide +kernel
theorem dX13_layout_43 : decode cX13_layout 43 = .ok (.ldc_w 442, 3) := by decide +kernel
theorem dX13_layout_46 : decode cX13_layout 46 = .ok (.istore_n 3, 1) := by decide +kernel
theorem dX13_layout_47 : decode cX13_layout 47 = .ok (.iload_n 1, 1) := by decide +kernel
theorem dX13_layout_48 : decode cX13_layout 48 = .ok (.aload_n 0, 1) := by decide +kernel
theorem dX13_layout_49 : decode cX13_layout 49 = .ok (.getfield 439, 3) := by decide +kernel
theorem dX13_layout_52 : decode cX13_layout 52 = .ok (.if_icmp .ge 69, 3) := by decide +kernel
theorem dX13_layout_55 : decode cX13_layout 55 = .ok (.aload_n 0, 1) := by decide +kernel
theorem dX13_layout_56 : decode cX13_layout 56 = .ok (.getfield 337, 3) := by decide +kernel
theorem dX13_layout_59 : decode cX13_layout 59 = .ok (.iload_n 1, 1) := by decide +kernel
theorem dX13_layout_60 : decode cX13_layout 60 = .ok (.iaload, 1) := by decide +kernel
theorem dX13_layout_61 : decode cX13_layout 61 = .ok (.ldc_w 442, 3) := by decide +kernel
theorem dX13_layout_64 : decode cX13_layout 64 = .ok (.iand, 1) := by decide +kernel
theorem dX13_layout_65 : decode cX13_layout 65 = .ok (.iload_n 3, 1) := by decide +kernel
theorem dX13_layout_66 : decode cX13_layout 66 = .ok (.if_icmp .ge 55, 3) := by decide +kernel
theorem dX13_layout_69 : decode cX13_layout 69 = .ok (.aload_n 0, 1) := by decide +kernel
theorem dX13_layout_70 : decode cX13_layout 70 = .ok (.getfield 337, 3) := by decide +kernel
theorem dX13_layout_73 : decode cX13_layout 73 = .ok (.iload_n 1, 1) := by decide +kernel
theorem dX13_layout_74 : decode cX13_layout 74 = .ok (.iaload, 1) := by decide +kernel
theorem dX13_layout_75 : decode cX13_layout 75 = .ok (.bipush 17, 2) := by decide +kernel
theorem dX13_layout_77 : decode cX13_layout 77 = .ok (.ishr, 1) := by decide +kernel
theorem dX13_layout_78 : decode cX13_layout 78 = .ok (.istore 4, 2) := by decide +kernel
theorem dX13_layout_80 : decode cX13_layout 80 = .ok (.iload 4, 2) := by decide +kernel
theorem dX13_layout_82 : decode cX13_layout 82 = .ok (.iconst 2, 1) := by decide +kernel
theorem dX13_layout_83 : decode cX13_layout 83 = .ok (.if_icmp .eq 32, 3) := by decide +kernel
theorem dX13_layout_86 : decode cX13_layout 86 = .ok (.aload_n 0, 1) := by decide +kernel
theorem dX13_layout_87 : decode cX13_layout 87 = .ok (.getfield 340, 3) := by decide +kernel
theorem dX13_layout_90 : decode cX13_layout 90 = .ok (.iload_n 1, 1) := by decide +kernel
theorem dX13_layout_91 : decode cX13_layout 91 = .ok (.iload 4, 2) := by decide +kernel
theorem dX13_layout_93 : decode cX13_layout 93 = .ok (.iconst 1, 1) := by decide +kernel
theorem dX13_layout_94 : decode cX13_layout 94 = .ok (.if_icmp .eq 9, 3) := by decide +kernel
theorem dX13_layout_97 : decode cX13_layout 97 = .ok (.iload 4, 2) := by decide +kernel
theorem dX13_layout_99 : decode cX13_layout 99 = .ok (.iconst 4, 1) := by decide +kernel
theorem dX13_layout_100 : decode cX13_layout 100 = .ok (.if_icmp .ne 10, 3) := by decide +kernel
theorem dX13_layout_103 : decode cX13_layout 103 = .ok (.aload_n 0, 1) := by decide +kernel
theorem dX13_layout_104 : decode cX13_layout 104 = .ok (.getfield 682, 3) := by decide +kernel
theorem dX13_layout_107 : decode cX13_layout 107 = .ok (.goto 7, 3) := by decide +kernel
theorem dX13_layout_110 : decode cX13_layout 110 = .ok (.aload_n 0, 1) := by decide +kernel
theorem dX13_layout_111 : decode cX13_layout 111 = .ok (.getfield 447, 3) := by decide +kernel
theorem dX13_layout_114 : decode cX13_layout 114 = .ok (.iastore, 1) := by decide +kernel
theorem dX13_layout_115 : decode cX13_layout 115 = .ok (.iinc 1 1, 3) := by decide +kernel
theorem dX13_layout_118 : decode cX13_layout 118 = .ok (.goto (-71), 3) := by decide +kernel
theorem dX13_layout_121 : decode cX13_layout 121 = .ok (.iload_n 2, 1) := by decide +kernel
theorem dX13_layout_122 : decode cX13_layout 122 = .ok (.aload_n 0, 1) := by decide +kernel
theorem dX13_layout_123 : decode cX13_layout 123 = .ok (.getfield 673, 3) := by decide +kernel
theorem dX13_layout_126 : decode cX13_layout 126 = .ok (.if_icmp .ne 4, 3) := by decide +kernel
theorem dX13_layout_129 : decode cX13_layout 129 = .ok (.return_, 1) := by decide +kernel
theorem dX13_layout_130 : decode cX13_layout 130 = .ok (.aload_n 0, 1) := by decide +kernel
theorem dX13_layout_131 : decode cX13_layout 131 = .ok (.getfield 331, 3) := by decide +kernel
theorem dX13_layout_134 : decode cX13_layout 134 = .ok (.iload_n 2, 1) := by decide +kernel
theorem dX13_layout_135 : decode cX13_layout 135 = .ok (.aload_n 0, 1) := by decide +kernel
theorem dX13_layout_136 : decode cX13_layout 136 = .ok (.iload_n 2, 1) := by decide +kernel
theorem dX13_layout_137 : decode cX13_layout 137 = .ok (.invokevirtual 685, 3) := by decide +kernel
theorem dX13_layout_140 : decode cX13_layout 140 = .ok (.iconst 1, 1) := by decide +kernel
theorem dX13_layout_141 : decode cX13_layout 141 = .ok (.if_icmp .ne 10, 3) := by decide +kernel
theorem dX13_layout_144 : decode cX13_layout 144 = .ok (.aload_n 0, 1) := by decide +kernel
theorem dX13_layout_145 : decode cX13_layout 145 = .ok (.getfield 682, 3) := by decide +kernel
theorem dX13_layout_148 : decode cX13_layout 148 = .ok (.goto 7, 3) := by decide +kernel
theorem dX13_layout_151 : decode cX13_layout 151 = .ok (.aload_n 0, 1) := by decide +kernel
theorem dX13_layout_152 : decode cX13_layout 152 = .ok (.getfield 447, 3) := by decide +kernel
theorem dX13_layout_155 : decode cX13_layout 155 = .ok (.iastore, 1) := by decide +kernel
theorem dX13_layout_156 : decode cX13_layout 156 = .ok (.aload_n 0, 1) := by decide +kernel
theorem dX13_layout_157 : decode cX13_layout 157 = .ok (.iload_n 2, 1) := by decide +kernel
theorem dX13_layout_158 : decode cX13_layout 158 = .ok (.aload_n 0, 1) := by decide +kernel
theorem dX13_layout_159 : decode cX13_layout 159 = .ok (.getfield 331, 3) := by decide +kernel
theorem dX13_layout_162 : decode cX13_layout 162 = .ok (.iload_n 2, 1) := by decide +kernel
theorem dX13_layout_163 : decode cX13_layout 163 = .ok (.iaload, 1) := by decide +kernel
theorem dX13_layout_164 : decode cX13_layout 164 = .ok (.invokevirtual 688, 3) := by decide +kernel
theorem dX13_layout_167 : decode cX13_layout 167 = .ok (.istore 4, 2) := by decide +kernel
theorem dX13_layout_169 : decode cX13_layout 169 = .ok (.aload_n 0, 1) := by decide +kernel
theorem dX13_layout_170 : decode cX13_layout 170 = .ok (.dup, 1) := by decide +kernel
theorem dX13_layout_171 : decode cX13_layout 171 = .ok (.getfield 682, 3) := by decide +kernel
theorem dX13_layout_174 : decode cX13_layout 174 = .ok (.aload_n 0, 1) := by decide +kernel
theorem dX13_layout_175 : decode cX13_layout 175 = .ok (.iload_n 2, 1) := by decide +kernel
theorem dX13_layout_176 : decode cX13_layout 176 = .ok (.invokevirtual 685, 3) := by decide +kernel
theorem dX13_layout_179 : decode cX13_layout 179 = .ok (.iconst 1, 1) := by decide +kernel
theorem dX13_layout_180 : decode cX13_layout 180 = .ok (.if_icmp .ne 8, 3) := by decide +kernel
theorem dX13_layout_183 : decode cX13_layout 183 = .ok (.iload 4, 2) := by decide +kernel
theorem dX13_layout_185 : decode cX13_layout 185 = .ok (.goto 4, 3) := by decide +kernel
theorem dX13_layout_188 : decode cX13_layout 188 = .ok (.iconst 0, 1) := by decide +kernel
theorem dX13_layout_189 : decode cX13_layout 189 = .ok (.iadd, 1) := by decide +kernel
theorem dX13_layout_190 : decode cX13_layout 190 = .ok (.putfield 682, 3) := by decide +kernel
theorem dX13_layout_193 : decode cX13_layout 193 = .ok (.aload_n 0, 1) := by decide +kernel
theorem dX13_layout_194 : decode cX13_layout 194 = .ok (.dup, 1) := by decide +kernel
theorem dX13_layout_195 : decode cX13_layout 195 = .ok (.getfield 447, 3) := by decide +kernel
theorem dX13_layout_198 : decode cX13_layout 198 = .ok (.aload_n 0, 1) := by decide +kernel
theorem dX13_layout_199 : decode cX13_layout 199 = .ok (.iload_n 2, 1) := by decide +kernel
theorem dX13_layout_200 : decode cX13_layout 200 = .ok (.invokevirtual 685, 3) := by decide +kernel
theorem dX13_layout_203 : decode cX13_layout 203 = .ok (.iconst 1, 1) := by decide +kernel
theorem dX13_layout_204 : decode cX13_layout 204 = .ok (.if_icmp .ne 7, 3) := by decide +kernel
theorem dX13_layout_207 : decode cX13_layout 207 = .ok (.iconst 0, 1) := by decide +kernel
theorem dX13_layout_208 : decode cX13_layout 208 = .ok (.goto 5, 3) := by decide +kernel
theorem dX13_layout_211 : decode cX13_layout 211 = .ok (.iload 4, 2) := by decide +kernel
theorem dX13_layout_213 : decode cX13_layout 213 = .ok (.iadd, 1) := by decide +kernel
theorem dX13_layout_214 : decode cX13_layout 214 = .ok (.putfield 447, 3) := by decide +kernel
theorem dX13_layout_217 : decode cX13_layout 217 = .ok (.iinc 2 1, 3) := by decide +kernel
theorem dX13_layout_220 : decode cX13_layout 220 = .ok (.goto (-206), 3) := by decide +kernel
theorem dX13_layout_223 : decode cX13_layout 223 = .ok (.return_, 1) := by decide +kernel
theorem dX13_addressOf_0 : decode cX13_addressOf 0 = .ok (.aload_n 0, 1) := by decide +kernel
theorem dX13_addressOf_1 : decode cX13_addressOf 1 = .ok (.getfield 331, 3) := by decide +kernel
theorem dX13_addressOf_4 : decode cX13_addressOf 4 = .ok (.iload_n 1, 1) := by decide +kernel
theorem dX13_addressOf_5 : decode cX13_addressOf 5 = .ok (.iaload, 1) := by decide +kernel
theorem dX13_addressOf_6 : decode cX13_addressOf 6 = .ok (.aload_n 0, 1) := by decide +kernel
theorem dX13_addressOf_7 : decode cX13_addressOf 7 = .ok (.iload_n 1, 1) := by decide +kernel
theorem dX13_addressOf_8 : decode cX13_addressOf 8 = .ok (.invokevirtual 685, 3) := by decide +kernel
theorem dX13_addressOf_11 : decode cX13_addressOf 11 = .ok (.iconst 1, 1) := by decide +kernel
theorem dX13_addressOf_12 : decode cX13_addressOf 12 = .ok (.if_icmp .ne 10, 3) := by decide +kernel
theorem dX13_addressOf_15 : decode cX13_addressOf 15 = .ok (.aload_n 0, 1) := by decide +kernel
theorem dX13_addressOf_16 : decode cX13_addressOf 16 = .ok (.invokevirtual 450, 3) := by decide +kernel
theorem dX13_addressOf_19 : decode cX13_addressOf 19 = .ok (.goto 4, 3) := by decide +kernel
theorem dX13_addressOf_22 : decode cX13_addressOf 22 = .ok (.iconst 0, 1) := by decide +kernel
theorem dX13_addressOf_23 : decode cX13_addressOf 23 = .ok (.iadd, 1) := by decide +kernel
theorem dX13_addressOf_24 : decode cX13_addressOf 24 = .ok (.ireturn, 1) := by decide +kernel
theorem dX13_again_0 : decode cX13_again 0 = .ok (.aload_n 0, 1) := by decide +kernel
theorem dX13_again_1 : decode cX13_again 1 = .ok (.iload_n 1, 1) := by decide +kernel
theorem dX13_again_2 : decode cX13_again 2 = .ok (.putfield 454, 3) := by decide +kernel
theorem dX13_again_5 : decode cX13_again 5 = .ok (.aload_n 0, 1) := by decide +kernel
theorem dX13_again_6 : decode cX13_again 6 = .ok (.aload_n 0, 1) := by decide +kernel
theorem dX13_again_7 : decode cX13_again 7 = .ok (.iload_n 1, 1) := by decide +kernel
theorem dX13_again_8 : decode cX13_again 8 = .ok (.invokevirtual 691, 3) := by decide +kernel
theorem dX13_again_11 : decode cX13_again 11 = .ok (.putfield 486, 3) := by decide +kernel
theorem dX13_again_14 : decode cX13_again 14 = .ok (.aload_n 0, 1) := by decide +kernel
theorem dX13_again_15 : decode cX13_again 15 = .ok (.aload_n 0, 1) := by decide +kernel
theorem dX13_again_16 : decode cX13_again 16 = .ok (.iload_n 1, 1) := by decide +kernel
theorem dX13_again_17 : decode cX13_again 17 = .ok (.invokevirtual 685, 3) := by decide +kernel
theorem dX13_again_20 : decode cX13_again 20 = .ok (.putfield 634, 3) := by decide +kernel
theorem dX13_again_23 : decode cX13_again 23 = .ok (.aload_n 0, 1) := by decide +kernel
theorem dX13_again_24 : decode cX13_again 24 = .ok (.aload_n 0, 1) := by decide +kernel
theorem dX13_again_25 : decode cX13_again 25 = .ok (.getfield 328, 3) := by decide +kernel
theorem dX13_again_28 : decode cX13_again 28 = .ok (.iload_n 1, 1) := by decide +kernel
theorem dX13_again_29 : decode cX13_again 29 = .ok (.iaload, 1) := by decide +kernel
theorem dX13_again_30 : decode cX13_again 30 = .ok (.ldc_w 442, 3) := by decide +kernel
theorem dX13_again_33 : decode cX13_again 33 = .ok (.iand, 1) := by decide +kernel
theorem dX13_again_34 : decode cX13_again 34 = .ok (.iload_n 2, 1) := by decide +kernel
theorem dX13_again_35 : decode cX13_again 35 = .ok (.invokevirtual 679, 3) := by decide +kernel
theorem dX13_again_38 : decode cX13_again 38 = .ok (.return_, 1) := by decide +kernel
theorem dX13_stretch_0 : decode cX13_stretch 0 = .ok (.aload_n 0, 1) := by decide +kernel
theorem dX13_stretch_1 : decode cX13_stretch 1 = .ok (.iconst 0, 1) := by decide +kernel
theorem dX13_stretch_2 : decode cX13_stretch 2 = .ok (.putfield 694, 3) := by decide +kernel
theorem dX13_stretch_5 : decode cX13_stretch 5 = .ok (.iconst 1, 1) := by decide +kernel
theorem dX13_stretch_6 : decode cX13_stretch 6 = .ok (.istore_n 1, 1) := by decide +kernel
theorem dX13_stretch_7 : decode cX13_stretch 7 = .ok (.iload_n 1, 1) := by decide +kernel
theorem dX13_stretch_8 : decode cX13_stretch 8 = .ok (.ifCond .eq 111, 3) := by decide +kernel
theorem dX13_stretch_11 : decode cX13_stretch 11 = .ok (.iconst 0, 1) := by decide +kernel
theorem dX13_stretch_12 : decode cX13_stretch 12 = .ok (.istore_n 1, 1) := by decide +kernel
theorem dX13_stretch_13 : decode cX13_stretch 13 = .ok (.aload_n 0, 1) := by decide +kernel
theorem dX13_stretch_14 : decode cX13_stretch 14 = .ok (.invokevirtual 697, 3) := by decide +kernel
theorem dX13_stretch_17 : decode cX13_stretch 17 = .ok (.iconst 0, 1) := by decide +kernel
theorem dX13_stretch_18 : decode cX13_stretch 18 = .ok (.istore_n 2, 1) := by decide +kernel
theorem dX13_stretch_19 : decode cX13_stretch 19 = .ok (.iload_n 2, 1) := by decide +kernel
theorem dX13_stretch_20 : decode cX13_stretch 20 = .ok (.aload_n 0, 1) := by decide +kernel
theorem dX13_stretch_21 : decode cX13_stretch 21 = .ok (.getfield 673, 3) := by decide +kernel
theorem dX13_stretch_24 : decode cX13_stretch 24 = .ok (.if_icmp .ge 71, 3) := by decide +kernel
theorem dX13_stretch_27 : decode cX13_stretch 27 = .ok (.aload_n 0, 1) := by decide +kernel
theorem dX13_stretch_28 : decode cX13_stretch 28 = .ok (.getfield 328, 3) := by decide +kernel
theorem dX13_stretch_31 : decode cX13_stretch 31 = .ok (.iload_n 2, 1) := by decide +kernel
theorem dX13_stretch_32 : decode cX13_stretch 32 = .ok (.iaload, 1) := by decide +kernel
theorem dX13_stretch_33 : decode cX13_stretch 33 = .ok (.bipush 20, 2) := by decide +kernel
theorem dX13_stretch_35 : decode cX13_stretch 35 = .ok (.ishr, 1) := by decide +kernel
theorem dX13_stretch_36 : decode cX13_stretch 36 = .ok (.ifCond .ne 6, 3) := by decide +kernel
theorem dX13_stretch_39 : decode cX13_stretch 39 = .ok (.goto 50, 3) := by decide +kernel
theorem dX13_stretch_42 : decode cX13_stretch 42 = .ok (.aload_n 0, 1) := by decide +kernel
theorem dX13_stretch_43 : decode cX13_stretch 43 = .ok (.iconst 0, 1) := by decide +kernel
theorem dX13_stretch_44 : decode cX13_stretch 44 = .ok (.putfield 558, 3) := by decide +kernel
theorem dX13_stretch_47 : decode cX13_stretch 47 = .ok (.aload_n 0, 1) := by decide +kernel
theorem dX13_stretch_48 : decode cX13_stretch 48 = .ok (.iload_n 2, 1) := by decide +kernel
theorem dX13_stretch_49 : decode cX13_stretch 49 = .ok (.iconst 1, 1) := by decide +kernel
theorem dX13_stretch_50 : decode cX13_stretch 50 = .ok (.invokevirtual 700, 3) := by decide +kernel
theorem dX13_stretch_53 : decode cX13_stretch 53 = .ok (.aload_n 0, 1) := by decide +kernel
theorem dX13_stretch_54 : decode cX13_stretch 54 = .ok (.getfield 558, 3) := by decide +kernel
theorem dX13_stretch_57 : decode cX13_stretch 57 = .ok (.ifCond .eq 15, 3) := by decide +kernel
theorem dX13_stretch_60 : decode cX13_stretch 60 = .ok (.aload_n 0, 1) := by decide +kernel
theorem dX13_stretch_61 : decode cX13_stretch 61 = .ok (.getfield 328, 3) := by decide +kernel
theorem dX13_stretch_64 : decode cX13_stretch 64 = .ok (.iload_n 2, 1) := by decide +kernel
theorem dX13_stretch_65 : decode cX13_stretch 65 = .ok (.dup2, 1) := by decide +kernel
theorem dX13_stretch_66 : decode cX13_stretch 66 = .ok (.iaload, 1) := by decide +kernel
theorem dX13_stretch_67 : decode cX13_stretch 67 = .ok (.ldc_w 703, 3) := by decide +kernel
theorem dX13_stretch_70 : decode cX13_stretch 70 = .ok (.iadd, 1) := by decide +kernel
theorem dX13_stretch_71 : decode cX13_stretch 71 = .ok (.iastore, 1) := by decide +kernel
theorem dX13_stretch_72 : decode cX13_stretch 72 = .ok (.iload_n 1, 1) := by decide +kernel
theorem dX13_stretch_73 : decode cX13_stretch 73 = .ok (.ifCond .ne 10, 3) := by decide +kernel
theorem dX13_stretch_76 : decode cX13_stretch 76 = .ok (.aload_n 0, 1) := by decide +kernel
theorem dX13_stretch_77 : decode cX13_stretch 77 = .ok (.getfield 558, 3) := by decide +kernel
theorem dX13_stretch_80 : decode cX13_stretch 80 = .ok (.ifCond .eq 7, 3) := by decide +kernel
theorem dX13_stretch_83 : decode cX13_stretch 83 = .ok (.iconst 1, 1) := by decide +kernel
theorem dX13_stretch_84 : decode cX13_stretch 84 = .ok (.goto 4, 3) := by decide +kernel
theorem dX13_stretch_87 : decode cX13_stretch 87 = .ok (.iconst 0, 1) := by decide +kernel
theorem dX13_stretch_88 : decode cX13_stretch 88 = .ok (.istore_n 1, 1) := by decide +kernel
theorem dX13_stretch_89 : decode cX13_stretch 89 = .ok (.iinc 2 1, 3) := by decide +kernel
theorem dX13_stretch_92 : decode cX13_stretch 92 = .ok (.goto (-73), 3) := by decide +kernel
theorem dX13_stretch_95 : decode cX13_stretch 95 = .ok (.aload_n 0, 1) := by decide +kernel
theorem dX13_stretch_96 : decode cX13_stretch 96 = .ok (.iload_n 1, 1) := by decide +kernel
theorem dX13_stretch_97 : decode cX13_stretch 97 = .ok (.ifCond .eq 12, 3) := by decide +kernel
theorem dX13_stretch_100 : decode cX13_stretch 100 = .ok (.aload_n 0, 1) := by decide +kernel
theorem dX13_stretch_101 : decode cX13_stretch 101 = .ok (.getfield 694, 3) := by decide +kernel
theorem dX13_stretch_104 : decode cX13_stretch 104 = .ok (.iconst 1, 1) := by decide +kernel
theorem dX13_stretch_105 : decode cX13_stretch 105 = .ok (.iadd, 1) := by decide +kernel
theorem dX13_stretch_106 : decode cX13_stretch 106 = .ok (.goto 7, 3) := by decide +kernel
theorem dX13_stretch_109 : decode cX13_stretch 109 = .ok (.aload_n 0, 1) := by decide +kernel
theorem dX13_stretch_110 : decode cX13_stretch 110 = .ok (.getfield 694, 3) := by decide +kernel
theorem dX13_stretch_113 : decode cX13_stretch 113 = .ok (.putfield 694, 3) := by decide +kernel
theorem dX13_stretch_116 : decode cX13_stretch 116 = .ok (.goto (-109), 3) := by decide +kernel
theorem dX13_stretch_119 : decode cX13_stretch 119 = .ok (.return_, 1) := by decide +kernel
theorem dX13_lineOf_0 : decode cX13_lineOf 0 = .ok (.iconst 1, 1) := by decide +kernel
theorem dX13_lineOf_1 : decode cX13_lineOf 1 = .ok (.istore_n 2, 1) := by decide +kernel
theorem dX13_lineOf_2 : decode cX13_lineOf 2 = .ok (.iconst 0, 1) := by decide +kernel
theorem dX13_lineOf_3 : decode cX13_lineOf 3 = .ok (.istore_n 3, 1) := by decide +kernel
theorem dX13_lineOf_4 : decode cX13_lineOf 4 = .ok (.iload_n 3, 1) := by decide +kernel
theorem dX13_lineOf_5 : decode cX13_lineOf 5 = .ok (.iload_n 1, 1) := by decide +kernel
theorem dX13_lineOf_6 : decode cX13_lineOf 6 = .ok (.if_icmp .ge 28, 3) := by decide +kernel
theorem dX13_lineOf_9 : decode cX13_lineOf 9 = .ok (.aload_n 0, 1) := by decide +kernel
theorem dX13_lineOf_10 : decode cX13_lineOf 10 = .ok (.getfield 324, 3) := by decide +kernel
theorem dX13_lineOf_13 : decode cX13_lineOf 13 = .ok (.iload_n 3, 1) := by decide +kernel
theorem dX13_lineOf_14 : decode cX13_lineOf 14 = .ok (.caload, 1) := by decide +kernel
theorem dX13_lineOf_15 : decode cX13_lineOf 15 = .ok (.bipush 10, 2) := by decide +kernel
theorem dX13_lineOf_17 : decode cX13_lineOf 17 = .ok (.if_icmp .ne 9, 3) := by decide +kernel
theorem dX13_lineOf_20 : decode cX13_lineOf 20 = .ok (.iload_n 2, 1) := by decide +kernel
theorem dX13_lineOf_21 : decode cX13_lineOf 21 = .ok (.iconst 1, 1) := by decide +kernel
theorem dX13_lineOf_22 : decode cX13_lineOf 22 = .ok (.iadd, 1) := by decide +kernel
theorem dX13_lineOf_23 : decode cX13_lineOf 23 = .ok (.goto 4, 3) := by decide +kernel
theorem dX13_lineOf_26 : decode cX13_lineOf 26 = .ok (.iload_n 2, 1) := by decide +kernel
theorem dX13_lineOf_27 : decode cX13_lineOf 27 = .ok (.istore_n 2, 1) := by decide +kernel
theorem dX13_lineOf_28 : decode cX13_lineOf 28 = .ok (.iinc 3 1, 3) := by decide +kernel
theorem dX13_lineOf_31 : decode cX13_lineOf 31 = .ok (.goto (-27), 3) := by decide +kernel
theorem dX13_lineOf_34 : decode cX13_lineOf 34 = .ok (.iload_n 2, 1) := by decide +kernel
theorem dX13_lineOf_35 : decode cX13_lineOf 35 = .ok (.ireturn, 1) := by decide +kernel
theorem dX13_all_0 : decode cX13_all 0 = .ok (.aload_n 0, 1) := by decide +kernel
theorem dX13_all_1 : decode cX13_all 1 = .ok (.getfield 704, 3) := by decide +kernel
theorem dX13_all_4 : decode cX13_all 4 = .ok (.ifCond .ne 7, 3) := by decide +kernel
theorem dX13_all_7 : decode cX13_all 7 = .ok (.iconst 0, 1) := by decide +kernel
theorem dX13_all_8 : decode cX13_all 8 = .ok (.goto 26, 3) := by decide +kernel
theorem dX13_all_11 : decode cX13_all 11 = .ok (.aload_n 0, 1) := by decide +kernel
theorem dX13_all_12 : decode cX13_all 12 = .ok (.getfield 682, 3) := by decide +kernel
theorem dX13_all_15 : decode cX13_all 15 = .ok (.ifCond .le 15, 3) := by decide +kernel
theorem dX13_all_18 : decode cX13_all 18 = .ok (.aload_n 0, 1) := by decide +kernel
theorem dX13_all_19 : decode cX13_all 19 = .ok (.invokevirtual 450, 3) := by decide +kernel
theorem dX13_all_22 : decode cX13_all 22 = .ok (.aload_n 0, 1) := by decide +kernel
theorem dX13_all_23 : decode cX13_all 23 = .ok (.getfield 682, 3) := by decide +kernel
theorem dX13_all_26 : decode cX13_all 26 = .ok (.iadd, 1) := by decide +kernel
theorem dX13_all_27 : decode cX13_all 27 = .ok (.goto 7, 3) := by decide +kernel
theorem dX13_all_30 : decode cX13_all 30 = .ok (.aload_n 0, 1) := by decide +kernel
theorem dX13_all_31 : decode cX13_all 31 = .ok (.getfield 447, 3) := by decide +kernel
theorem dX13_all_34 : decode cX13_all 34 = .ok (.ireturn, 1) := by decide +kernel
theorem dX13_countOf_0 : decode cX13_countOf 0 = .ok (.iconst 0, 1) := by decide +kernel
theorem dX13_countOf_1 : decode cX13_countOf 1 = .ok (.istore_n 2, 1) := by decide +kernel
theorem dX13_countOf_2 : decode cX13_countOf 2 = .ok (.iconst 0, 1) := by decide +kernel
theorem dX13_countOf_3 : decode cX13_countOf 3 = .ok (.istore_n 3, 1) := by decide +kernel
theorem dX13_countOf_4 : decode cX13_countOf 4 = .ok (.iload_n 3, 1) := by decide +kernel
theorem dX13_countOf_5 : decode cX13_countOf 5 = .ok (.aload_n 0, 1) := by decide +kernel
theorem dX13_countOf_6 : decode cX13_countOf 6 = .ok (.getfield 439, 3) := by decide +kernel
theorem dX13_countOf_9 : decode cX13_countOf 9 = .ok (.if_icmp .ge 57, 3) := by decide +kernel
theorem dX13_countOf_12 : decode cX13_countOf 12 = .ok (.iload_n 1, 1) := by decide +kernel
theorem dX13_countOf_13 : decode cX13_countOf 13 = .ok (.ifCond .eq 26, 3) := by decide +kernel
theorem dX13_countOf_16 : decode cX13_countOf 16 = .ok (.aload_n 0, 1) := by decide +kernel
theorem dX13_countOf_17 : decode cX13_countOf 17 = .ok (.getfield 337, 3) := by decide +kernel
theorem dX13_countOf_20 : decode cX13_countOf 20 = .ok (.iload_n 3, 1) := by decide +kernel
theorem dX13_countOf_21 : decode cX13_countOf 21 = .ok (.iaload, 1) := by decide +kernel
theorem dX13_countOf_22 : decode cX13_countOf 22 = .ok (.bipush 17, 2) := by decide +kernel
theorem dX13_countOf_24 : decode cX13_countOf 24 = .ok (.ishr, 1) := by decide +kernel
theorem dX13_countOf_25 : decode cX13_countOf 25 = .ok (.iconst 2, 1) := by decide +kernel
theorem dX13_countOf_26 : decode cX13_countOf 26 = .ok (.if_icmp .ne 9, 3) := by decide +kernel
theorem dX13_countOf_29 : decode cX13_countOf 29 = .ok (.iload_n 2, 1) := by decide +kernel
theorem dX13_countOf_30 : decode cX13_countOf 30 = .ok (.iconst 1, 1) := by decide +kernel
theorem dX13_countOf_31 : decode cX13_countOf 31 = .ok (.iadd, 1) := by decide +kernel
theorem dX13_countOf_32 : decode cX13_countOf 32 = .ok (.goto 27, 3) := by decide +kernel
theorem dX13_countOf_35 : decode cX13_countOf 35 = .ok (.iload_n 2, 1) := by decide +kernel
theorem dX13_countOf_36 : decode cX13_countOf 36 = .ok (.goto 23, 3) := by decide +kernel
theorem dX13_countOf_39 : decode cX13_countOf 39 = .ok (.aload_n 0, 1) := by decide +kernel
theorem dX13_countOf_40 : decode cX13_countOf 40 = .ok (.getfield 337, 3) := by decide +kernel
theorem dX13_countOf_43 : decode cX13_countOf 43 = .ok (.iload_n 3, 1) := by decide +kernel
theorem dX13_countOf_44 : decode cX13_countOf 44 = .ok (.iaload, 1) := by decide +kernel
theorem dX13_countOf_45 : decode cX13_countOf 45 = .ok (.bipush 17, 2) := by decide +kernel
theorem dX13_countOf_47 : decode cX13_countOf 47 = .ok (.ishr, 1) := by decide +kernel
theorem dX13_countOf_48 : decode cX13_countOf 48 = .ok (.iconst 2, 1) := by decide +kernel
theorem dX13_countOf_49 : decode cX13_countOf 49 = .ok (.if_icmp .ge 9, 3) := by decide +kernel
theorem dX13_countOf_52 : decode cX13_countOf 52 = .ok (.iload_n 2, 1) := by decide +kernel
theorem dX13_countOf_53 : decode cX13_countOf 53 = .ok (.iconst 1, 1) := by decide +kernel
theorem dX13_countOf_54 : decode cX13_countOf 54 = .ok (.iadd, 1) := by decide +kernel
theorem dX13_countOf_55 : decode cX13_countOf 55 = .ok (.goto 4, 3) := by decide +kernel
theorem dX13_countOf_58 : decode cX13_countOf 58 = .ok (.iload_n 2, 1) := by decide +kernel
theorem dX13_countOf_59 : decode cX13_countOf 59 = .ok (.istore_n 2, 1) := by decide +kernel
theorem dX13_countOf_60 : decode cX13_countOf 60 = .ok (.iinc 3 1, 3) := by decide +kernel
theorem dX13_countOf_63 : decode cX13_countOf 63 = .ok (.goto (-59), 3) := by decide +kernel
theorem dX13_countOf_66 : decode cX13_countOf 66 = .ok (.iload_n 2, 1) := by decide +kernel
theorem dX13_countOf_67 : decode cX13_countOf 67 = .ok (.ireturn, 1) := by decide +kernel
theorem dX13_textSize_0 : decode cX13_textSize 0 = .ok (.aload_n 0, 1) := by decide +kernel
theorem dX13_textSize_1 : decode cX13_textSize 1 = .ok (.getfield 447, 3) := by decide +kernel
theorem dX13_textSize_4 : decode cX13_textSize 4 = .ok (.ireturn, 1) := by decide +kernel
theorem dX13_dataBegin_0 : decode cX13_dataBegin 0 = .ok (.aload_n 0, 1) := by decide +kernel
theorem dX13_dataBegin_1 : decode cX13_dataBegin 1 = .ok (.invokevirtual 450, 3) := by decide +kernel
theorem dX13_dataBegin_4 : decode cX13_dataBegin 4 = .ok (.ireturn, 1) := by decide +kernel
theorem dX13_end_0 : decode cX13_end 0 = .ok (.aload_n 0, 1) := by decide +kernel
theorem dX13_end_1 : decode cX13_end 1 = .ok (.invokevirtual 713, 3) := by decide +kernel
theorem dX13_end_4 : decode cX13_end 4 = .ok (.ireturn, 1) := by decide +kernel
theorem dX13_put__0 : decode cX13_put_ 0 = .ok (.iconst 0, 1) := by decide +kernel
theorem dX13_put__1 : decode cX13_put_ 1 = .ok (.istore_n 3, 1) := by decide +kernel
theorem dX13_put__2 : decode cX13_put_ 2 = .ok (.iload_n 3, 1) := by decide +kernel
theorem dX13_put__3 : decode cX13_put_ 3 = .ok (.aload_n 0, 1) := by decide +kernel
theorem dX13_put__4 : decode cX13_put_ 4 = .ok (.invokevirtual 713, 3) := by decide +kernel
theorem dX13_put__7 : decode cX13_put_ 7 = .ok (.if_icmp .ge 15, 3) := by decide +kernel
theorem dX13_put__10 : decode cX13_put_ 10 = .ok (.aload_n 1, 1) := by decide +kernel
theorem dX13_put__11 : decode cX13_put_ 11 = .ok (.iload_n 2, 1) := by decide +kernel
theorem dX13_put__12 : decode cX13_put_ 12 = .ok (.iload_n 3, 1) := by decide +kernel
theorem dX13_put__13 : decode cX13_put_ 13 = .ok (.iadd, 1) := by decide +kernel
theorem dX13_put__14 : decode cX13_put_ 14 = .ok (.iconst 0, 1) := by decide +kernel
theorem dX13_put__15 : decode cX13_put_ 15 = .ok (.iastore, 1) := by decide +kernel
theorem dX13_put__16 : decode cX13_put_ 16 = .ok (.iinc 3 1, 3) := by decide +kernel
theorem dX13_put__19 : decode cX13_put_ 19 = .ok (.goto (-17), 3) := by decide +kernel
theorem dX13_put__22 : decode cX13_put_ 22 = .ok (.aload_n 0, 1) := by decide +kernel
theorem dX13_put__23 : decode cX13_put_ 23 = .ok (.aload_n 1, 1) := by decide +kernel
theorem dX13_put__24 : decode cX13_put_ 24 = .ok (.putfield 535, 3) := by decide +kernel
theorem dX13_put__27 : decode cX13_put_ 27 = .ok (.iconst 1, 1) := by decide +kernel
theorem dX13_put__28 : decode cX13_put_ 28 = .ok (.istore_n 3, 1) := by decide +kernel
theorem dX13_put__29 : decode cX13_put_ 29 = .ok (.iconst 0, 1) := by decide +kernel
theorem dX13_put__30 : decode cX13_put_ 30 = .ok (.istore 4, 2) := by decide +kernel
theorem dX13_put__32 : decode cX13_put_ 32 = .ok (.iconst 0, 1) := by decide +kernel
theorem dX13_put__33 : decode cX13_put_ 33 = .ok (.istore 5, 2) := by decide +kernel
theorem dX13_put__35 : decode cX13_put_ 35 = .ok (.iload 5, 2) := by decide +kernel
theorem dX13_put__37 : decode cX13_put_ 37 = .ok (.aload_n 0, 1) := by decide +kernel
theorem dX13_put__38 : decode cX13_put_ 38 = .ok (.getfield 673, 3) := by decide +kernel
theorem dX13_put__41 : decode cX13_put_ 41 = .ok (.if_icmp .ge 117, 3) := by decide +kernel
theorem dX13_put__44 : decode cX13_put_ 44 = .ok (.iload 4, 2) := by decide +kernel
theorem dX13_put__46 : decode cX13_put_ 46 = .ok (.aload_n 0, 1) := by decide +kernel
theorem dX13_put__47 : decode cX13_put_ 47 = .ok (.getfield 328, 3) := by decide +kernel
theorem dX13_put__50 : decode cX13_put_ 50 = .ok (.iload 5, 2) := by decide +kernel
theorem dX13_put__52 : decode cX13_put_ 52 = .ok (.iaload, 1) := by decide +kernel
theorem dX13_put__53 : decode cX13_put_ 53 = .ok (.ldc_w 442, 3) := by decide +kernel
theorem dX13_put__56 : decode cX13_put_ 56 = .ok (.iand, 1) := by decide +kernel
theorem dX13_put__57 : decode cX13_put_ 57 = .ok (.if_icmp .ge 29, 3) := by decide +kernel
theorem dX13_put__60 : decode cX13_put_ 60 = .ok (.aload_n 0, 1) := by decide +kernel
theorem dX13_put__61 : decode cX13_put_ 61 = .ok (.getfield 324, 3) := by decide +kernel
theorem dX13_put__64 : decode cX13_put_ 64 = .ok (.iload 4, 2) := by decide +kernel
theorem dX13_put__66 : decode cX13_put_ 66 = .ok (.caload, 1) := by decide +kernel
theorem dX13_put__67 : decode cX13_put_ 67 = .ok (.bipush 10, 2) := by decide +kernel
theorem dX13_put__69 : decode cX13_put_ 69 = .ok (.if_icmp .ne 9, 3) := by decide +kernel
theorem dX13_put__72 : decode cX13_put_ 72 = .ok (.iload_n 3, 1) := by decide +kernel
theorem dX13_put__73 : decode cX13_put_ 73 = .ok (.iconst 1, 1) := by decide +kernel
theorem dX13_put__74 : decode cX13_put_ 74 = .ok (.iadd, 1) := by decide +kernel
theorem dX13_put__75 : decode cX13_put_ 75 = .ok (.goto 4, 3) := by decide +kernel
theorem dX13_put__78 : decode cX13_put_ 78 = .ok (.iload_n 3, 1) := by decide +kernel
theorem dX13_put__79 : decode cX13_put_ 79 = .ok (.istore_n 3, 1) := by decide +kernel
theorem dX13_put__80 : decode cX13_put_ 80 = .ok (.iinc 4 1, 3) := by decide +kernel
theorem dX13_put__83 : decode cX13_put_ 83 = .ok (.goto (-39), 3) := by decide +kernel
theorem dX13_put__86 : decode cX13_put_ 86 = .ok (.aload_n 0, 1) := by decide +kernel
theorem dX13_put__87 : decode cX13_put_ 87 = .ok (.iload 5, 2) := by decide +kernel
theorem dX13_put__89 : decode cX13_put_ 89 = .ok (.invokevirtual 691, 3) := by decide +kernel
theorem dX13_put__92 : decode cX13_put_ 92 = .ok (.istore 6, 2) := by decide +kernel
theorem dX13_put__94 : decode cX13_put_ 94 = .ok (.aload_n 0, 1) := by decide +kernel
theorem dX13_put__95 : decode cX13_put_ 95 = .ok (.iload_n 2, 1) := by decide +kernel
theorem dX13_put__96 : decode cX13_put_ 96 = .ok (.iload 6, 2) := by decide +kernel
theorem dX13_put__98 : decode cX13_put_ 98 = .ok (.iadd, 1) := by decide +kernel
theorem dX13_put__99 : decode cX13_put_ 99 = .ok (.putfield 538, 3) := by decide +kernel
theorem dX13_put__102 : decode cX13_put_ 102 = .ok (.aload_n 0, 1) := by decide +kernel
theorem dX13_put__103 : decode cX13_put_ 103 = .ok (.iload 5, 2) := by decide +kernel
theorem dX13_put__105 : decode cX13_put_ 105 = .ok (.iconst 3, 1) := by decide +kernel
theorem dX13_put__106 : decode cX13_put_ 106 = .ok (.invokevirtual 700, 3) := by decide +kernel
theorem dX13_put__109 : decode cX13_put_ 109 = .ok (.iconst 0, 1) := by decide +kernel
theorem dX13_put__110 : decode cX13_put_ 110 = .ok (.istore 7, 2) := by decide +kernel
theorem dX13_put__112 : decode cX13_put_ 112 = .ok (.iload 7, 2) := by decide +kernel
theorem dX13_put__114 : decode cX13_put_ 114 = .ok (.aload_n 0, 1) := by decide +kernel
theorem dX13_put__115 : decode cX13_put_ 115 = .ok (.iload 5, 2) := by decide +kernel
theorem dX13_put__117 : decode cX13_put_ 117 = .ok (.aload_n 0, 1) := by decide +kernel
theorem dX13_put__118 : decode cX13_put_ 118 = .ok (.getfield 331, 3) := by decide +kernel
theorem dX13_put__121 : decode cX13_put_ 121 = .ok (.iload 5, 2) := by decide +kernel
theorem dX13_put__123 : decode cX13_put_ 123 = .ok (.iaload, 1) := by decide +kernel
theorem dX13_put__124 : decode cX13_put_ 124 = .ok (.invokevirtual 688, 3) := by decide +kernel
theorem dX13_put__127 : decode cX13_put_ 127 = .ok (.if_icmp .ge 25, 3) := by decide +kernel
theorem dX13_put__130 : decode cX13_put_ 130 = .ok (.aload_n 1, 1) := by decide +kernel
theorem dX13_put__131 : decode cX13_put_ 131 = .ok (.aload_n 0, 1) := by decide +kernel
theorem dX13_put__132 : decode cX13_put_ 132 = .ok (.getfield 538, 3) := by decide +kernel
theorem dX13_put__135 : decode cX13_put_ 135 = .ok (.iload 7, 2) := by decide +kernel
theorem dX13_put__137 : decode cX13_put_ 137 = .ok (.iadd, 1) := by decide +kernel
theorem dX13_put__138 : decode cX13_put_ 138 = .ok (.dup2, 1) := by decide +kernel
theorem dX13_put__139 : decode cX13_put_ 139 = .ok (.iaload, 1) := by decide +kernel
theorem dX13_put__140 : decode cX13_put_ 140 = .ok (.iload_n 3, 1) := by decide +kernel
theorem dX13_put__141 : decode cX13_put_ 141 = .ok (.bipush 8, 2) := by decide +kernel
theorem dX13_put__143 : decode cX13_put_ 143 = .ok (.ishl, 1) := by decide +kernel
theorem dX13_put__144 : decode cX13_put_ 144 = .ok (.ior, 1) := by decide +kernel
theorem dX13_put__145 : decode cX13_put_ 145 = .ok (.iastore, 1) := by decide +kernel
theorem dX13_put__146 : decode cX13_put_ 146 = .ok (.iinc 7 1, 3) := by decide +kernel
theorem dX13_put__149 : decode cX13_put_ 149 = .ok (.goto (-37), 3) := by decide +kernel
theorem dX13_put__152 : decode cX13_put_ 152 = .ok (.iinc 5 1, 3) := by decide +kernel
theorem dX13_put__155 : decode cX13_put_ 155 = .ok (.goto (-120), 3) := by decide +kernel
theorem dX13_put__158 : decode cX13_put_ 158 = .ok (.return_, 1) := by decide +kernel
