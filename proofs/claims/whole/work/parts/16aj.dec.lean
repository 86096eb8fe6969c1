theorem dX13_notZero_4 : decode cX13_notZero 4 = .ok (.iconst 2, 1) := by decide +kernel
theorem dX13_notZero_5 : decode cX13_notZero 5 = .ok (.if_icmp .ne 13, 3) := by decide +kernel
theorem dX13_notZero_8 : decode cX13_notZero 8 = .ok (.iload_n 1, 1) := by decide +kernel
theorem dX13_notZero_9 : decode cX13_notZero 9 = .ok (.ifCond .ne 9, 3) := by decide +kernel
theorem dX13_notZero_12 : decode cX13_notZero 12 = .ok (.aload_n 0, 1) := by decide +kernel
theorem dX13_notZero_13 : decode cX13_notZero 13 = .ok (.bipush 10, 2) := by decide +kernel
theorem dX13_notZero_15 : decode cX13_notZero 15 = .ok (.invokevirtual 419, 3) := by decide +kernel
theorem dX13_notZero_18 : decode cX13_notZero 18 = .ok (.return_, 1) := by decide +kernel
theorem dX13_shorts_0 : decode cX13_shorts 0 = .ok (.iload_n 1, 1) := by decide +kernel
theorem dX13_shorts_1 : decode cX13_shorts 1 = .ok (.bipush 19, 2) := by decide +kernel
theorem dX13_shorts_3 : decode cX13_shorts 3 = .ok (.if_icmp .ne 36, 3) := by decide +kernel
theorem dX13_shorts_6 : decode cX13_shorts 6 = .ok (.aload_n 0, 1) := by decide +kernel
theorem dX13_shorts_7 : decode cX13_shorts 7 = .ok (.invokevirtual 525, 3) := by decide +kernel
theorem dX13_shorts_10 : decode cX13_shorts 10 = .ok (.aload_n 0, 1) := by decide +kernel
theorem dX13_shorts_11 : decode cX13_shorts 11 = .ok (.getfield 486, 3) := by decide +kernel
theorem dX13_shorts_14 : decode cX13_shorts 14 = .ok (.isub, 1) := by decide +kernel
theorem dX13_shorts_15 : decode cX13_shorts 15 = .ok (.istore_n 3, 1) := by decide +kernel
theorem dX13_shorts_16 : decode cX13_shorts 16 = .ok (.aload_n 0, 1) := by decide +kernel
theorem dX13_shorts_17 : decode cX13_shorts 17 = .ok (.iload_n 3, 1) := by decide +kernel
theorem dX13_shorts_18 : decode cX13_shorts 18 = .ok (.sipush (-2048), 3) := by decide +kernel
theorem dX13_shorts_21 : decode cX13_shorts 21 = .ok (.sipush 2046, 3) := by decide +kernel
theorem dX13_shorts_24 : decode cX13_shorts 24 = .ok (.iconst 2, 1) := by decide +kernel
theorem dX13_shorts_25 : decode cX13_shorts 25 = .ok (.invokevirtual 528, 3) := by decide +kernel
theorem dX13_shorts_28 : decode cX13_shorts 28 = .ok (.aload_n 0, 1) := by decide +kernel
theorem dX13_shorts_29 : decode cX13_shorts 29 = .ok (.iload_n 2, 1) := by decide +kernel
theorem dX13_shorts_30 : decode cX13_shorts 30 = .ok (.iload_n 3, 1) := by decide +kernel
theorem dX13_shorts_31 : decode cX13_shorts 31 = .ok (.invokestatic 564, 3) := by decide +kernel
theorem dX13_shorts_34 : decode cX13_shorts 34 = .ok (.ior, 1) := by decide +kernel
theorem dX13_shorts_35 : decode cX13_shorts 35 = .ok (.invokevirtual 547, 3) := by decide +kernel
theorem dX13_shorts_38 : decode cX13_shorts 38 = .ok (.return_, 1) := by decide +kernel
theorem dX13_shorts_39 : decode cX13_shorts 39 = .ok (.iload_n 1, 1) := by decide +kernel
theorem dX13_shorts_40 : decode cX13_shorts 40 = .ok (.bipush 20, 2) := by decide +kernel
theorem dX13_shorts_42 : decode cX13_shorts 42 = .ok (.if_icmp .ne 75, 3) := by decide +kernel
theorem dX13_shorts_45 : decode cX13_shorts 45 = .ok (.aload_n 0, 1) := by decide +kernel
theorem dX13_shorts_46 : decode cX13_shorts 46 = .ok (.sipush (-512), 3) := by decide +kernel
theorem dX13_shorts_49 : decode cX13_shorts 49 = .ok (.sipush 496, 3) := by decide +kernel
theorem dX13_shorts_52 : decode cX13_shorts 52 = .ok (.bipush 16, 2) := by decide +kernel
theorem dX13_shorts_54 : decode cX13_shorts 54 = .ok (.invokevirtual 585, 3) := by decide +kernel
theorem dX13_shorts_57 : decode cX13_shorts 57 = .ok (.istore_n 3, 1) := by decide +kernel
theorem dX13_shorts_58 : decode cX13_shorts 58 = .ok (.aload_n 0, 1) := by decide +kernel
theorem dX13_shorts_59 : decode cX13_shorts 59 = .ok (.iload_n 3, 1) := by decide +kernel
theorem dX13_shorts_60 : decode cX13_shorts 60 = .ok (.invokevirtual 611, 3) := by decide +kernel
theorem dX13_shorts_63 : decode cX13_shorts 63 = .ok (.aload_n 0, 1) := by decide +kernel
theorem dX13_shorts_64 : decode cX13_shorts 64 = .ok (.iload_n 2, 1) := by decide +kernel
theorem dX13_shorts_65 : decode cX13_shorts 65 = .ok (.iload_n 3, 1) := by decide +kernel
theorem dX13_shorts_66 : decode cX13_shorts 66 = .ok (.bipush 9, 2) := by decide +kernel
theorem dX13_shorts_68 : decode cX13_shorts 68 = .ok (.bipush 9, 2) := by decide +kernel
theorem dX13_shorts_70 : decode cX13_shorts 70 = .ok (.bipush 12, 2) := by decide +kernel
theorem dX13_shorts_72 : decode cX13_shorts 72 = .ok (.invokestatic 550, 3) := by decide +kernel
theorem dX13_shorts_75 : decode cX13_shorts 75 = .ok (.ior, 1) := by decide +kernel
theorem dX13_shorts_76 : decode cX13_shorts 76 = .ok (.iload_n 3, 1) := by decide +kernel
theorem dX13_shorts_77 : decode cX13_shorts 77 = .ok (.iconst 4, 1) := by decide +kernel
theorem dX13_shorts_78 : decode cX13_shorts 78 = .ok (.iconst 4, 1) := by decide +kernel
theorem dX13_shorts_79 : decode cX13_shorts 79 = .ok (.bipush 6, 2) := by decide +kernel
theorem dX13_shorts_81 : decode cX13_shorts 81 = .ok (.invokestatic 550, 3) := by decide +kernel
theorem dX13_shorts_84 : decode cX13_shorts 84 = .ok (.ior, 1) := by decide +kernel
theorem dX13_shorts_85 : decode cX13_shorts 85 = .ok (.iload_n 3, 1) := by decide +kernel
theorem dX13_shorts_86 : decode cX13_shorts 86 = .ok (.bipush 6, 2) := by decide +kernel
theorem dX13_shorts_88 : decode cX13_shorts 88 = .ok (.bipush 6, 2) := by decide +kernel
theorem dX13_shorts_90 : decode cX13_shorts 90 = .ok (.iconst 5, 1) := by decide +kernel
theorem dX13_shorts_91 : decode cX13_shorts 91 = .ok (.invokestatic 550, 3) := by decide +kernel
theorem dX13_shorts_94 : decode cX13_shorts 94 = .ok (.ior, 1) := by decide +kernel
theorem dX13_shorts_95 : decode cX13_shorts 95 = .ok (.iload_n 3, 1) := by decide +kernel
theorem dX13_shorts_96 : decode cX13_shorts 96 = .ok (.bipush 8, 2) := by decide +kernel
theorem dX13_shorts_98 : decode cX13_shorts 98 = .ok (.bipush 7, 2) := by decide +kernel
theorem dX13_shorts_100 : decode cX13_shorts 100 = .ok (.iconst 3, 1) := by decide +kernel
theorem dX13_shorts_101 : decode cX13_shorts 101 = .ok (.invokestatic 550, 3) := by decide +kernel
theorem dX13_shorts_104 : decode cX13_shorts 104 = .ok (.ior, 1) := by decide +kernel
theorem dX13_shorts_105 : decode cX13_shorts 105 = .ok (.iload_n 3, 1) := by decide +kernel
theorem dX13_shorts_106 : decode cX13_shorts 106 = .ok (.iconst 5, 1) := by decide +kernel
theorem dX13_shorts_107 : decode cX13_shorts 107 = .ok (.iconst 5, 1) := by decide +kernel
theorem dX13_shorts_108 : decode cX13_shorts 108 = .ok (.iconst 2, 1) := by decide +kernel
theorem dX13_shorts_109 : decode cX13_shorts 109 = .ok (.invokestatic 550, 3) := by decide +kernel
theorem dX13_shorts_112 : decode cX13_shorts 112 = .ok (.ior, 1) := by decide +kernel
theorem dX13_shorts_113 : decode cX13_shorts 113 = .ok (.invokevirtual 547, 3) := by decide +kernel
theorem dX13_shorts_116 : decode cX13_shorts 116 = .ok (.return_, 1) := by decide +kernel
theorem dX13_shorts_117 : decode cX13_shorts 117 = .ok (.iload_n 1, 1) := by decide +kernel
theorem dX13_shorts_118 : decode cX13_shorts 118 = .ok (.bipush 16, 2) := by decide +kernel
theorem dX13_shorts_120 : decode cX13_shorts 120 = .ok (.if_icmp .lt 15, 3) := by decide +kernel
theorem dX13_shorts_123 : decode cX13_shorts 123 = .ok (.iload_n 1, 1) := by decide +kernel
theorem dX13_shorts_124 : decode cX13_shorts 124 = .ok (.bipush 20, 2) := by decide +kernel
theorem dX13_shorts_126 : decode cX13_shorts 126 = .ok (.if_icmp .le 13, 3) := by decide +kernel
theorem dX13_shorts_129 : decode cX13_shorts 129 = .ok (.iload_n 1, 1) := by decide +kernel
theorem dX13_shorts_130 : decode cX13_shorts 130 = .ok (.bipush 25, 2) := by decide +kernel
theorem dX13_shorts_132 : decode cX13_shorts 132 = .ok (.if_icmp .ge 7, 3) := by decide +kernel
theorem dX13_shorts_135 : decode cX13_shorts 135 = .ok (.iconst 1, 1) := by decide +kernel
theorem dX13_shorts_136 : decode cX13_shorts 136 = .ok (.goto 4, 3) := by decide +kernel
theorem dX13_shorts_139 : decode cX13_shorts 139 = .ok (.iconst 0, 1) := by decide +kernel
theorem dX13_shorts_140 : decode cX13_shorts 140 = .ok (.istore_n 3, 1) := by decide +kernel
theorem dX13_shorts_141 : decode cX13_shorts 141 = .ok (.iload_n 3, 1) := by decide +kernel
theorem dX13_shorts_142 : decode cX13_shorts 142 = .ok (.ifCond .eq 10, 3) := by decide +kernel
theorem dX13_shorts_145 : decode cX13_shorts 145 = .ok (.aload_n 0, 1) := by decide +kernel
theorem dX13_shorts_146 : decode cX13_shorts 146 = .ok (.invokevirtual 614, 3) := by decide +kernel
theorem dX13_shorts_149 : decode cX13_shorts 149 = .ok (.goto 7, 3) := by decide +kernel
theorem dX13_shorts_152 : decode cX13_shorts 152 = .ok (.aload_n 0, 1) := by decide +kernel
theorem dX13_shorts_153 : decode cX13_shorts 153 = .ok (.invokevirtual 532, 3) := by decide +kernel
theorem dX13_shorts_156 : decode cX13_shorts 156 = .ok (.istore 4, 2) := by decide +kernel
theorem dX13_shorts_158 : decode cX13_shorts 158 = .ok (.iload_n 1, 1) := by decide +kernel
theorem dX13_shorts_159 : decode cX13_shorts 159 = .ok (.bipush 27, 2) := by decide +kernel
theorem dX13_shorts_161 : decode cX13_shorts 161 = .ok (.if_icmp .ne 20, 3) := by decide +kernel
theorem dX13_shorts_164 : decode cX13_shorts 164 = .ok (.aload_n 0, 1) := by decide +kernel
theorem dX13_shorts_165 : decode cX13_shorts 165 = .ok (.iload_n 2, 1) := by decide +kernel
theorem dX13_shorts_166 : decode cX13_shorts 166 = .ok (.aload_n 0, 1) := by decide +kernel
theorem dX13_shorts_167 : decode cX13_shorts 167 = .ok (.iload 4, 2) := by decide +kernel
theorem dX13_shorts_169 : decode cX13_shorts 169 = .ok (.iconst 0, 1) := by decide +kernel
theorem dX13_shorts_170 : decode cX13_shorts 170 = .ok (.invokevirtual 617, 3) := by decide +kernel
theorem dX13_shorts_173 : decode cX13_shorts 173 = .ok (.bipush 7, 2) := by decide +kernel
theorem dX13_shorts_175 : decode cX13_shorts 175 = .ok (.ishl, 1) := by decide +kernel
theorem dX13_shorts_176 : decode cX13_shorts 176 = .ok (.ior, 1) := by decide +kernel
theorem dX13_shorts_177 : decode cX13_shorts 177 = .ok (.invokevirtual 547, 3) := by decide +kernel
theorem dX13_shorts_180 : decode cX13_shorts 180 = .ok (.return_, 1) := by decide +kernel
theorem dX13_shorts_181 : decode cX13_shorts 181 = .ok (.iload_n 1, 1) := by decide +kernel
theorem dX13_shorts_182 : decode cX13_shorts 182 = .ok (.bipush 26, 2) := by decide +kernel
theorem dX13_shorts_184 : decode cX13_shorts 184 = .ok (.if_icmp .ne 11, 3) := by decide +kernel
theorem dX13_shorts_187 : decode cX13_shorts 187 = .ok (.aload_n 0, 1) := by decide +kernel
theorem dX13_shorts_188 : decode cX13_shorts 188 = .ok (.iload 4, 2) := by decide +kernel
theorem dX13_shorts_190 : decode cX13_shorts 190 = .ok (.iconst 0, 1) := by decide +kernel
theorem dX13_shorts_191 : decode cX13_shorts 191 = .ok (.invokevirtual 617, 3) := by decide +kernel
theorem dX13_shorts_194 : decode cX13_shorts 194 = .ok (.pop, 1) := by decide +kernel
theorem dX13_shorts_195 : decode cX13_shorts 195 = .ok (.iload_n 1, 1) := by decide +kernel
theorem dX13_shorts_196 : decode cX13_shorts 196 = .ok (.bipush 18, 2) := by decide +kernel
theorem dX13_shorts_198 : decode cX13_shorts 198 = .ok (.if_icmp .ne 7, 3) := by decide +kernel
theorem dX13_shorts_201 : decode cX13_shorts 201 = .ok (.iconst 1, 1) := by decide +kernel
theorem dX13_shorts_202 : decode cX13_shorts 202 = .ok (.goto 4, 3) := by decide +kernel
theorem dX13_shorts_205 : decode cX13_shorts 205 = .ok (.iconst 0, 1) := by decide +kernel
theorem dX13_shorts_206 : decode cX13_shorts 206 = .ok (.istore 5, 2) := by decide +kernel
theorem dX13_shorts_208 : decode cX13_shorts 208 = .ok (.iload 5, 2) := by decide +kernel
theorem dX13_shorts_210 : decode cX13_shorts 210 = .ok (.ifCond .eq 11, 3) := by decide +kernel
theorem dX13_shorts_213 : decode cX13_shorts 213 = .ok (.aload_n 0, 1) := by decide +kernel
theorem dX13_shorts_214 : decode cX13_shorts 214 = .ok (.iload 4, 2) := by decide +kernel
theorem dX13_shorts_216 : decode cX13_shorts 216 = .ok (.iconst 2, 1) := by decide +kernel
theorem dX13_shorts_217 : decode cX13_shorts 217 = .ok (.invokevirtual 617, 3) := by decide +kernel
theorem dX13_shorts_220 : decode cX13_shorts 220 = .ok (.pop, 1) := by decide +kernel
theorem dX13_shorts_221 : decode cX13_shorts 221 = .ok (.aload_n 0, 1) := by decide +kernel
theorem dX13_shorts_222 : decode cX13_shorts 222 = .ok (.invokevirtual 582, 3) := by decide +kernel
theorem dX13_shorts_225 : decode cX13_shorts 225 = .ok (.ifCond .ne 4, 3) := by decide +kernel
theorem dX13_shorts_228 : decode cX13_shorts 228 = .ok (.return_, 1) := by decide +kernel
theorem dX13_shorts_229 : decode cX13_shorts 229 = .ok (.iload_n 3, 1) := by decide +kernel
theorem dX13_shorts_230 : decode cX13_shorts 230 = .ok (.ifCond .eq 14, 3) := by decide +kernel
theorem dX13_shorts_233 : decode cX13_shorts 233 = .ok (.aload_n 0, 1) := by decide +kernel
theorem dX13_shorts_234 : decode cX13_shorts 234 = .ok (.iload_n 1, 1) := by decide +kernel
theorem dX13_shorts_235 : decode cX13_shorts 235 = .ok (.iload_n 2, 1) := by decide +kernel
theorem dX13_shorts_236 : decode cX13_shorts 236 = .ok (.iload 4, 2) := by decide +kernel
theorem dX13_shorts_238 : decode cX13_shorts 238 = .ok (.invokevirtual 620, 3) := by decide +kernel
theorem dX13_shorts_241 : decode cX13_shorts 241 = .ok (.goto 100, 3) := by decide +kernel
theorem dX13_shorts_244 : decode cX13_shorts 244 = .ok (.iload_n 1, 1) := by decide +kernel
theorem dX13_shorts_245 : decode cX13_shorts 245 = .ok (.bipush 28, 2) := by decide +kernel
theorem dX13_shorts_247 : decode cX13_shorts 247 = .ok (.if_icmp .ne 29, 3) := by decide +kernel
theorem dX13_shorts_250 : decode cX13_shorts 250 = .ok (.aload_n 0, 1) := by decide +kernel
theorem dX13_shorts_251 : decode cX13_shorts 251 = .ok (.iload_n 2, 1) := by decide +kernel
theorem dX13_shorts_252 : decode cX13_shorts 252 = .ok (.iload 4, 2) := by decide +kernel
theorem dX13_shorts_254 : decode cX13_shorts 254 = .ok (.bipush 7, 2) := by decide +kernel
theorem dX13_shorts_256 : decode cX13_shorts 256 = .ok (.ishl, 1) := by decide +kernel
theorem dX13_shorts_257 : decode cX13_shorts 257 = .ok (.ior, 1) := by decide +kernel
theorem dX13_shorts_258 : decode cX13_shorts 258 = .ok (.aload_n 0, 1) := by decide +kernel
theorem dX13_shorts_259 : decode cX13_shorts 259 = .ok (.aload_n 0, 1) := by decide +kernel
theorem dX13_shorts_260 : decode cX13_shorts 260 = .ok (.invokevirtual 532, 3) := by decide +kernel
theorem dX13_shorts_263 : decode cX13_shorts 263 = .ok (.iconst 0, 1) := by decide +kernel
theorem dX13_shorts_264 : decode cX13_shorts 264 = .ok (.invokevirtual 617, 3) := by decide +kernel
theorem dX13_shorts_267 : decode cX13_shorts 267 = .ok (.iconst 2, 1) := by decide +kernel
theorem dX13_shorts_268 : decode cX13_shorts 268 = .ok (.ishl, 1) := by decide +kernel
theorem dX13_shorts_269 : decode cX13_shorts 269 = .ok (.ior, 1) := by decide +kernel
theorem dX13_shorts_270 : decode cX13_shorts 270 = .ok (.invokevirtual 547, 3) := by decide +kernel
theorem dX13_shorts_273 : decode cX13_shorts 273 = .ok (.goto 68, 3) := by decide +kernel
theorem dX13_shorts_276 : decode cX13_shorts 276 = .ok (.iload_n 1, 1) := by decide +kernel
theorem dX13_shorts_277 : decode cX13_shorts 277 = .ok (.bipush 17, 2) := by decide +kernel
theorem dX13_shorts_279 : decode cX13_shorts 279 = .ok (.if_icmp .eq 8, 3) := by decide +kernel
theorem dX13_shorts_282 : decode cX13_shorts 282 = .ok (.iload 5, 2) := by decide +kernel
theorem dX13_shorts_284 : decode cX13_shorts 284 = .ok (.ifCond .eq 15, 3) := by decide +kernel
theorem dX13_shorts_287 : decode cX13_shorts 287 = .ok (.aload_n 0, 1) := by decide +kernel
theorem dX13_shorts_288 : decode cX13_shorts 288 = .ok (.iload_n 2, 1) := by decide +kernel
theorem dX13_shorts_289 : decode cX13_shorts 289 = .ok (.iload 4, 2) := by decide +kernel
theorem dX13_shorts_291 : decode cX13_shorts 291 = .ok (.iload 5, 2) := by decide +kernel
theorem dX13_shorts_293 : decode cX13_shorts 293 = .ok (.invokevirtual 624, 3) := by decide +kernel
theorem dX13_shorts_296 : decode cX13_shorts 296 = .ok (.goto 45, 3) := by decide +kernel
theorem dX13_shorts_299 : decode cX13_shorts 299 = .ok (.iload_n 1, 1) := by decide +kernel
theorem dX13_shorts_300 : decode cX13_shorts 300 = .ok (.bipush 25, 2) := by decide +kernel
theorem dX13_shorts_302 : decode cX13_shorts 302 = .ok (.if_icmp .ne 31, 3) := by decide +kernel
theorem dX13_shorts_305 : decode cX13_shorts 305 = .ok (.aload_n 0, 1) := by decide +kernel
theorem dX13_shorts_306 : decode cX13_shorts 306 = .ok (.iload_n 2, 1) := by decide +kernel
theorem dX13_shorts_307 : decode cX13_shorts 307 = .ok (.iload 4, 2) := by decide +kernel
theorem dX13_shorts_309 : decode cX13_shorts 309 = .ok (.bipush 7, 2) := by decide +kernel
theorem dX13_shorts_311 : decode cX13_shorts 311 = .ok (.ishl, 1) := by decide +kernel
theorem dX13_shorts_312 : decode cX13_shorts 312 = .ok (.ior, 1) := by decide +kernel
theorem dX13_shorts_313 : decode cX13_shorts 313 = .ok (.aload_n 0, 1) := by decide +kernel
theorem dX13_shorts_314 : decode cX13_shorts 314 = .ok (.iconst 0, 1) := by decide +kernel
theorem dX13_shorts_315 : decode cX13_shorts 315 = .ok (.bipush 31, 2) := by decide +kernel
theorem dX13_shorts_317 : decode cX13_shorts 317 = .ok (.iconst 1, 1) := by decide +kernel
theorem dX13_shorts_318 : decode cX13_shorts 318 = .ok (.invokevirtual 585, 3) := by decide +kernel
theorem dX13_shorts_321 : decode cX13_shorts 321 = .ok (.bipush 31, 2) := by decide +kernel
theorem dX13_shorts_323 : decode cX13_shorts 323 = .ok (.iand, 1) := by decide +kernel
theorem dX13_shorts_324 : decode cX13_shorts 324 = .ok (.iconst 2, 1) := by decide +kernel
theorem dX13_shorts_325 : decode cX13_shorts 325 = .ok (.ishl, 1) := by decide +kernel
theorem dX13_shorts_326 : decode cX13_shorts 326 = .ok (.ior, 1) := by decide +kernel
theorem dX13_shorts_327 : decode cX13_shorts 327 = .ok (.invokevirtual 547, 3) := by decide +kernel
theorem dX13_shorts_330 : decode cX13_shorts 330 = .ok (.goto 11, 3) := by decide +kernel
theorem dX13_shorts_333 : decode cX13_shorts 333 = .ok (.aload_n 0, 1) := by decide +kernel
theorem dX13_shorts_334 : decode cX13_shorts 334 = .ok (.iload_n 1, 1) := by decide +kernel
theorem dX13_shorts_335 : decode cX13_shorts 335 = .ok (.iload_n 2, 1) := by decide +kernel
theorem dX13_shorts_336 : decode cX13_shorts 336 = .ok (.iload 4, 2) := by decide +kernel
theorem dX13_shorts_338 : decode cX13_shorts 338 = .ok (.invokevirtual 628, 3) := by decide +kernel
theorem dX13_shorts_341 : decode cX13_shorts 341 = .ok (.return_, 1) := by decide +kernel
theorem dX13_plainSix_0 : decode cX13_plainSix 0 = .ok (.aload_n 0, 1) := by decide +kernel
theorem dX13_plainSix_1 : decode cX13_plainSix 1 = .ok (.bipush (-32), 2) := by decide +kernel
theorem dX13_plainSix_3 : decode cX13_plainSix 3 = .ok (.bipush 31, 2) := by decide +kernel
theorem dX13_plainSix_5 : decode cX13_plainSix 5 = .ok (.iconst 1, 1) := by decide +kernel
theorem dX13_plainSix_6 : decode cX13_plainSix 6 = .ok (.invokevirtual 585, 3) := by decide +kernel
theorem dX13_plainSix_9 : decode cX13_plainSix 9 = .ok (.istore 4, 2) := by decide +kernel
theorem dX13_plainSix_11 : decode cX13_plainSix 11 = .ok (.iload_n 3, 1) := by decide +kernel
theorem dX13_plainSix_12 : decode cX13_plainSix 12 = .ok (.ifCond .eq 9, 3) := by decide +kernel
theorem dX13_plainSix_15 : decode cX13_plainSix 15 = .ok (.aload_n 0, 1) := by decide +kernel
theorem dX13_plainSix_16 : decode cX13_plainSix 16 = .ok (.iload 4, 2) := by decide +kernel
theorem dX13_plainSix_18 : decode cX13_plainSix 18 = .ok (.invokevirtual 611, 3) := by decide +kernel
theorem dX13_plainSix_21 : decode cX13_plainSix 21 = .ok (.aload_n 0, 1) := by decide +kernel
theorem dX13_plainSix_22 : decode cX13_plainSix 22 = .ok (.iload_n 1, 1) := by decide +kernel
theorem dX13_plainSix_23 : decode cX13_plainSix 23 = .ok (.iload_n 2, 1) := by decide +kernel
theorem dX13_plainSix_24 : decode cX13_plainSix 24 = .ok (.bipush 7, 2) := by decide +kernel
theorem dX13_plainSix_26 : decode cX13_plainSix 26 = .ok (.ishl, 1) := by decide +kernel
theorem dX13_plainSix_27 : decode cX13_plainSix 27 = .ok (.ior, 1) := by decide +kernel
theorem dX13_plainSix_28 : decode cX13_plainSix 28 = .ok (.iload 4, 2) := by decide +kernel
theorem dX13_plainSix_30 : decode cX13_plainSix 30 = .ok (.invokestatic 608, 3) := by decide +kernel
theorem dX13_plainSix_33 : decode cX13_plainSix 33 = .ok (.ior, 1) := by decide +kernel
theorem dX13_plainSix_34 : decode cX13_plainSix 34 = .ok (.invokevirtual 547, 3) := by decide +kernel
theorem dX13_plainSix_37 : decode cX13_plainSix 37 = .ok (.return_, 1) := by decide +kernel
theorem dX13_stacked_0 : decode cX13_stacked 0 = .ok (.aload_n 0, 1) := by decide +kernel
theorem dX13_stacked_1 : decode cX13_stacked 1 = .ok (.iconst 0, 1) := by decide +kernel
theorem dX13_stacked_2 : decode cX13_stacked 2 = .ok (.sipush 252, 3) := by decide +kernel
theorem dX13_stacked_5 : decode cX13_stacked 5 = .ok (.iconst 4, 1) := by decide +kernel
theorem dX13_stacked_6 : decode cX13_stacked 6 = .ok (.invokevirtual 585, 3) := by decide +kernel
theorem dX13_stacked_9 : decode cX13_stacked 9 = .ok (.istore 4, 2) := by decide +kernel
theorem dX13_stacked_11 : decode cX13_stacked 11 = .ok (.aload_n 0, 1) := by decide +kernel
theorem dX13_stacked_12 : decode cX13_stacked 12 = .ok (.iload_n 1, 1) := by decide +kernel
theorem dX13_stacked_13 : decode cX13_stacked 13 = .ok (.bipush 26, 2) := by decide +kernel
theorem dX13_stacked_15 : decode cX13_stacked 15 = .ok (.if_icmp .ne 42, 3) := by decide +kernel
theorem dX13_stacked_18 : decode cX13_stacked 18 = .ok (.iload_n 2, 1) := by decide +kernel
theorem dX13_stacked_19 : decode cX13_stacked 19 = .ok (.iload_n 3, 1) := by decide +kernel
theorem dX13_stacked_20 : decode cX13_stacked 20 = .ok (.bipush 7, 2) := by decide +kernel
theorem dX13_stacked_22 : decode cX13_stacked 22 = .ok (.ishl, 1) := by decide +kernel
theorem dX13_stacked_23 : decode cX13_stacked 23 = .ok (.ior, 1) := by decide +kernel
theorem dX13_stacked_24 : decode cX13_stacked 24 = .ok (.iload 4, 2) := by decide +kernel
theorem dX13_stacked_26 : decode cX13_stacked 26 = .ok (.iconst 5, 1) := by decide +kernel
theorem dX13_stacked_27 : decode cX13_stacked 27 = .ok (.iconst 5, 1) := by decide +kernel
theorem dX13_stacked_28 : decode cX13_stacked 28 = .ok (.bipush 12, 2) := by decide +kernel
theorem dX13_stacked_30 : decode cX13_stacked 30 = .ok (.invokestatic 550, 3) := by decide +kernel
theorem dX13_stacked_33 : decode cX13_stacked 33 = .ok (.ior, 1) := by decide +kernel
theorem dX13_stacked_34 : decode cX13_stacked 34 = .ok (.iload 4, 2) := by decide +kernel
theorem dX13_stacked_36 : decode cX13_stacked 36 = .ok (.iconst 4, 1) := by decide +kernel
theorem dX13_stacked_37 : decode cX13_stacked 37 = .ok (.iconst 2, 1) := by decide +kernel
theorem dX13_stacked_38 : decode cX13_stacked 38 = .ok (.iconst 4, 1) := by decide +kernel
theorem dX13_stacked_39 : decode cX13_stacked 39 = .ok (.invokestatic 550, 3) := by decide +kernel
theorem dX13_stacked_42 : decode cX13_stacked 42 = .ok (.ior, 1) := by decide +kernel
theorem dX13_stacked_43 : decode cX13_stacked 43 = .ok (.iload 4, 2) := by decide +kernel
theorem dX13_stacked_45 : decode cX13_stacked 45 = .ok (.bipush 7, 2) := by decide +kernel
theorem dX13_stacked_47 : decode cX13_stacked 47 = .ok (.bipush 6, 2) := by decide +kernel
theorem dX13_stacked_49 : decode cX13_stacked 49 = .ok (.iconst 2, 1) := by decide +kernel
theorem dX13_stacked_50 : decode cX13_stacked 50 = .ok (.invokestatic 550, 3) := by decide +kernel
theorem dX13_stacked_53 : decode cX13_stacked 53 = .ok (.ior, 1) := by decide +kernel
theorem dX13_stacked_54 : decode cX13_stacked 54 = .ok (.goto 30, 3) := by decide +kernel
theorem dX13_stacked_57 : decode cX13_stacked 57 = .ok (.iload_n 2, 1) := by decide +kernel
theorem dX13_stacked_58 : decode cX13_stacked 58 = .ok (.iload_n 3, 1) := by decide +kernel
theorem dX13_stacked_59 : decode cX13_stacked 59 = .ok (.iconst 2, 1) := by decide +kernel
theorem dX13_stacked_60 : decode cX13_stacked 60 = .ok (.ishl, 1) := by decide +kernel
theorem dX13_stacked_61 : decode cX13_stacked 61 = .ok (.ior, 1) := by decide +kernel
theorem dX13_stacked_62 : decode cX13_stacked 62 = .ok (.iload 4, 2) := by decide +kernel
theorem dX13_stacked_64 : decode cX13_stacked 64 = .ok (.iconst 5, 1) := by decide +kernel
theorem dX13_stacked_65 : decode cX13_stacked 65 = .ok (.iconst 2, 1) := by decide +kernel
theorem dX13_stacked_66 : decode cX13_stacked 66 = .ok (.bipush 9, 2) := by decide +kernel
theorem dX13_stacked_68 : decode cX13_stacked 68 = .ok (.invokestatic 550, 3) := by decide +kernel
theorem dX13_stacked_71 : decode cX13_stacked 71 = .ok (.ior, 1) := by decide +kernel
theorem dX13_stacked_72 : decode cX13_stacked 72 = .ok (.iload 4, 2) := by decide +kernel
theorem dX13_stacked_74 : decode cX13_stacked 74 = .ok (.bipush 7, 2) := by decide +kernel
theorem dX13_stacked_76 : decode cX13_stacked 76 = .ok (.bipush 6, 2) := by decide +kernel
theorem dX13_stacked_78 : decode cX13_stacked 78 = .ok (.bipush 7, 2) := by decide +kernel
theorem dX13_stacked_80 : decode cX13_stacked 80 = .ok (.invokestatic 550, 3) := by decide +kernel
theorem dX13_stacked_83 : decode cX13_stacked 83 = .ok (.ior, 1) := by decide +kernel
theorem dX13_stacked_84 : decode cX13_stacked 84 = .ok (.invokevirtual 547, 3) := by decide +kernel
theorem dX13_stacked_87 : decode cX13_stacked 87 = .ok (.return_, 1) := by decide +kernel
theorem dX13_smalls_0 : decode cX13_smalls 0 = .ok (.iload_n 1, 1) := by decide +kernel
theorem dX13_smalls_1 : decode cX13_smalls 1 = .ok (.bipush 13, 2) := by decide +kernel
theorem dX13_smalls_3 : decode cX13_smalls 3 = .ok (.if_icmp .ne 67, 3) := by decide +kernel
theorem dX13_smalls_6 : decode cX13_smalls 6 = .ok (.aload_n 0, 1) := by decide +kernel
theorem dX13_smalls_7 : decode cX13_smalls 7 = .ok (.iconst 4, 1) := by decide +kernel
theorem dX13_smalls_8 : decode cX13_smalls 8 = .ok (.sipush 1020, 3) := by decide +kernel
theorem dX13_smalls_11 : decode cX13_smalls 11 = .ok (.iconst 4, 1) := by decide +kernel
theorem dX13_smalls_12 : decode cX13_smalls 12 = .ok (.invokevirtual 585, 3) := by decide +kernel
theorem dX13_smalls_15 : decode cX13_smalls 15 = .ok (.istore 4, 2) := by decide +kernel
theorem dX13_smalls_17 : decode cX13_smalls 17 = .ok (.aload_n 0, 1) := by decide +kernel
theorem dX13_smalls_18 : decode cX13_smalls 18 = .ok (.iload_n 2, 1) := by decide +kernel
theorem dX13_smalls_19 : decode cX13_smalls 19 = .ok (.iload 4, 2) := by decide +kernel
theorem dX13_smalls_21 : decode cX13_smalls 21 = .ok (.iconst 5, 1) := by decide +kernel
theorem dX13_smalls_22 : decode cX13_smalls 22 = .ok (.iconst 4, 1) := by decide +kernel
theorem dX13_smalls_23 : decode cX13_smalls 23 = .ok (.bipush 11, 2) := by decide +kernel
theorem dX13_smalls_25 : decode cX13_smalls 25 = .ok (.invokestatic 550, 3) := by decide +kernel
theorem dX13_smalls_28 : decode cX13_smalls 28 = .ok (.ior, 1) := by decide +kernel
theorem dX13_smalls_29 : decode cX13_smalls 29 = .ok (.iload 4, 2) := by decide +kernel
theorem dX13_smalls_31 : decode cX13_smalls 31 = .ok (.bipush 9, 2) := by decide +kernel
theorem dX13_smalls_33 : decode cX13_smalls 33 = .ok (.bipush 6, 2) := by decide +kernel
theorem dX13_smalls_35 : decode cX13_smalls 35 = .ok (.bipush 7, 2) := by decide +kernel
theorem dX13_smalls_37 : decode cX13_smalls 37 = .ok (.invokestatic 550, 3) := by decide +kernel
theorem dX13_smalls_40 : decode cX13_smalls 40 = .ok (.ior, 1) := by decide +kernel
theorem dX13_smalls_41 : decode cX13_smalls 41 = .ok (.iload 4, 2) := by decide +kernel
theorem dX13_smalls_43 : decode cX13_smalls 43 = .ok (.iconst 2, 1) := by decide +kernel
theorem dX13_smalls_44 : decode cX13_smalls 44 = .ok (.iconst 2, 1) := by decide +kernel
theorem dX13_smalls_45 : decode cX13_smalls 45 = .ok (.bipush 6, 2) := by decide +kernel
theorem dX13_smalls_47 : decode cX13_smalls 47 = .ok (.invokestatic 550, 3) := by decide +kernel
theorem dX13_smalls_50 : decode cX13_smalls 50 = .ok (.ior, 1) := by decide +kernel
theorem dX13_smalls_51 : decode cX13_smalls 51 = .ok (.iload 4, 2) := by decide +kernel
theorem dX13_smalls_53 : decode cX13_smalls 53 = .ok (.iconst 3, 1) := by decide +kernel
theorem dX13_smalls_54 : decode cX13_smalls 54 = .ok (.iconst 3, 1) := by decide +kernel
theorem dX13_smalls_55 : decode cX13_smalls 55 = .ok (.iconst 5, 1) := by decide +kernel
theorem dX13_smalls_56 : decode cX13_smalls 56 = .ok (.invokestatic 550, 3) := by decide +kernel
theorem dX13_smalls_59 : decode cX13_smalls 59 = .ok (.ior, 1) := by decide +kernel
theorem dX13_smalls_60 : decode cX13_smalls 60 = .ok (.iload_n 3, 1) := by decide +kernel
theorem dX13_smalls_61 : decode cX13_smalls 61 = .ok (.iconst 2, 1) := by decide +kernel
theorem dX13_smalls_62 : decode cX13_smalls 62 = .ok (.ishl, 1) := by decide +kernel
theorem dX13_smalls_63 : decode cX13_smalls 63 = .ok (.ior, 1) := by decide +kernel
theorem dX13_smalls_64 : decode cX13_smalls 64 = .ok (.invokevirtual 547, 3) := by decide +kernel
theorem dX13_smalls_67 : decode cX13_smalls 67 = .ok (.goto 239, 3) := by decide +kernel
theorem dX13_smalls_70 : decode cX13_smalls 70 = .ok (.iload_n 1, 1) := by decide +kernel
theorem dX13_smalls_71 : decode cX13_smalls 71 = .ok (.bipush 16, 2) := by decide +kernel
theorem dX13_smalls_73 : decode cX13_smalls 73 = .ok (.if_icmp .ge 102, 3) := by decide +kernel
theorem dX13_smalls_76 : decode cX13_smalls 76 = .ok (.aload_n 0, 1) := by decide +kernel
theorem dX13_smalls_77 : decode cX13_smalls 77 = .ok (.iconst 0, 1) := by decide +kernel
theorem dX13_smalls_78 : decode cX13_smalls 78 = .ok (.bipush 124, 2) := by decide +kernel
theorem dX13_smalls_80 : decode cX13_smalls 80 = .ok (.iconst 4, 1) := by decide +kernel
theorem dX13_smalls_81 : decode cX13_smalls 81 = .ok (.invokevirtual 585, 3) := by decide +kernel
theorem dX13_smalls_84 : decode cX13_smalls 84 = .ok (.istore 4, 2) := by decide +kernel
theorem dX13_smalls_86 : decode cX13_smalls 86 = .ok (.aload_n 0, 1) := by decide +kernel
theorem dX13_smalls_87 : decode cX13_smalls 87 = .ok (.getfield 410, 3) := by decide +kernel
theorem dX13_smalls_90 : decode cX13_smalls 90 = .ok (.ifCond .ne 19, 3) := by decide +kernel
theorem dX13_smalls_93 : decode cX13_smalls 93 = .ok (.aload_n 0, 1) := by decide +kernel
theorem dX13_smalls_94 : decode cX13_smalls 94 = .ok (.bipush 40, 2) := by decide +kernel
theorem dX13_smalls_96 : decode cX13_smalls 96 = .ok (.invokevirtual 506, 3) := by decide +kernel
theorem dX13_smalls_99 : decode cX13_smalls 99 = .ok (.ifCond .eq 10, 3) := by decide +kernel
theorem dX13_smalls_102 : decode cX13_smalls 102 = .ok (.aload_n 0, 1) := by decide +kernel
theorem dX13_smalls_103 : decode cX13_smalls 103 = .ok (.invokevirtual 614, 3) := by decide +kernel
theorem dX13_smalls_106 : decode cX13_smalls 106 = .ok (.goto 4, 3) := by decide +kernel
theorem dX13_smalls_109 : decode cX13_smalls 109 = .ok (.iconst 0, 1) := by decide +kernel
theorem dX13_smalls_110 : decode cX13_smalls 110 = .ok (.istore 5, 2) := by decide +kernel
theorem dX13_smalls_112 : decode cX13_smalls 112 = .ok (.aload_n 0, 1) := by decide +kernel
theorem dX13_smalls_113 : decode cX13_smalls 113 = .ok (.getfield 410, 3) := by decide +kernel
theorem dX13_smalls_116 : decode cX13_smalls 116 = .ok (.ifCond .ne 10, 3) := by decide +kernel
theorem dX13_smalls_119 : decode cX13_smalls 119 = .ok (.aload_n 0, 1) := by decide +kernel
theorem dX13_smalls_120 : decode cX13_smalls 120 = .ok (.bipush 41, 2) := by decide +kernel
theorem dX13_smalls_122 : decode cX13_smalls 122 = .ok (.invokevirtual 506, 3) := by decide +kernel
theorem dX13_smalls_125 : decode cX13_smalls 125 = .ok (.pop, 1) := by decide +kernel
theorem dX13_smalls_126 : decode cX13_smalls 126 = .ok (.aload_n 0, 1) := by decide +kernel
theorem dX13_smalls_127 : decode cX13_smalls 127 = .ok (.iload_n 2, 1) := by decide +kernel
theorem dX13_smalls_128 : decode cX13_smalls 128 = .ok (.iload 4, 2) := by decide +kernel
theorem dX13_smalls_130 : decode cX13_smalls 130 = .ok (.iconst 5, 1) := by decide +kernel
