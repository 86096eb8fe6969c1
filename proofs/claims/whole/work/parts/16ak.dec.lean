theorem dX13_smalls_131 : decode cX13_smalls 131 = .ok (.iconst 3, 1) := by decide +kernel
theorem dX13_smalls_132 : decode cX13_smalls 132 = .ok (.bipush 10, 2) := by decide +kernel
theorem dX13_smalls_134 : decode cX13_smalls 134 = .ok (.invokestatic 550, 3) := by decide +kernel
theorem dX13_smalls_137 : decode cX13_smalls 137 = .ok (.ior, 1) := by decide +kernel
theorem dX13_smalls_138 : decode cX13_smalls 138 = .ok (.iload 4, 2) := by decide +kernel
theorem dX13_smalls_140 : decode cX13_smalls 140 = .ok (.iconst 2, 1) := by decide +kernel
theorem dX13_smalls_141 : decode cX13_smalls 141 = .ok (.iconst 2, 1) := by decide +kernel
theorem dX13_smalls_142 : decode cX13_smalls 142 = .ok (.bipush 6, 2) := by decide +kernel
theorem dX13_smalls_144 : decode cX13_smalls 144 = .ok (.invokestatic 550, 3) := by decide +kernel
theorem dX13_smalls_147 : decode cX13_smalls 147 = .ok (.ior, 1) := by decide +kernel
theorem dX13_smalls_148 : decode cX13_smalls 148 = .ok (.iload 4, 2) := by decide +kernel
theorem dX13_smalls_150 : decode cX13_smalls 150 = .ok (.bipush 6, 2) := by decide +kernel
theorem dX13_smalls_152 : decode cX13_smalls 152 = .ok (.bipush 6, 2) := by decide +kernel
theorem dX13_smalls_154 : decode cX13_smalls 154 = .ok (.iconst 5, 1) := by decide +kernel
theorem dX13_smalls_155 : decode cX13_smalls 155 = .ok (.invokestatic 550, 3) := by decide +kernel
theorem dX13_smalls_158 : decode cX13_smalls 158 = .ok (.ior, 1) := by decide +kernel
theorem dX13_smalls_159 : decode cX13_smalls 159 = .ok (.iload 5, 2) := by decide +kernel
theorem dX13_smalls_161 : decode cX13_smalls 161 = .ok (.bipush 7, 2) := by decide +kernel
theorem dX13_smalls_163 : decode cX13_smalls 163 = .ok (.ishl, 1) := by decide +kernel
theorem dX13_smalls_164 : decode cX13_smalls 164 = .ok (.ior, 1) := by decide +kernel
theorem dX13_smalls_165 : decode cX13_smalls 165 = .ok (.iload_n 3, 1) := by decide +kernel
theorem dX13_smalls_166 : decode cX13_smalls 166 = .ok (.iconst 2, 1) := by decide +kernel
theorem dX13_smalls_167 : decode cX13_smalls 167 = .ok (.ishl, 1) := by decide +kernel
theorem dX13_smalls_168 : decode cX13_smalls 168 = .ok (.ior, 1) := by decide +kernel
theorem dX13_smalls_169 : decode cX13_smalls 169 = .ok (.invokevirtual 547, 3) := by decide +kernel
theorem dX13_smalls_172 : decode cX13_smalls 172 = .ok (.goto 134, 3) := by decide +kernel
theorem dX13_smalls_175 : decode cX13_smalls 175 = .ok (.iload_n 1, 1) := by decide +kernel
theorem dX13_smalls_176 : decode cX13_smalls 176 = .ok (.bipush 21, 2) := by decide +kernel
theorem dX13_smalls_178 : decode cX13_smalls 178 = .ok (.if_icmp .ne 30, 3) := by decide +kernel
theorem dX13_smalls_181 : decode cX13_smalls 181 = .ok (.aload_n 0, 1) := by decide +kernel
theorem dX13_smalls_182 : decode cX13_smalls 182 = .ok (.iload_n 2, 1) := by decide +kernel
theorem dX13_smalls_183 : decode cX13_smalls 183 = .ok (.iload_n 3, 1) := by decide +kernel
theorem dX13_smalls_184 : decode cX13_smalls 184 = .ok (.bipush 7, 2) := by decide +kernel
theorem dX13_smalls_186 : decode cX13_smalls 186 = .ok (.ishl, 1) := by decide +kernel
theorem dX13_smalls_187 : decode cX13_smalls 187 = .ok (.ior, 1) := by decide +kernel
theorem dX13_smalls_188 : decode cX13_smalls 188 = .ok (.aload_n 0, 1) := by decide +kernel
theorem dX13_smalls_189 : decode cX13_smalls 189 = .ok (.iconst 0, 1) := by decide +kernel
theorem dX13_smalls_190 : decode cX13_smalls 190 = .ok (.bipush 31, 2) := by decide +kernel
theorem dX13_smalls_192 : decode cX13_smalls 192 = .ok (.iconst 1, 1) := by decide +kernel
theorem dX13_smalls_193 : decode cX13_smalls 193 = .ok (.invokevirtual 585, 3) := by decide +kernel
theorem dX13_smalls_196 : decode cX13_smalls 196 = .ok (.bipush 31, 2) := by decide +kernel
theorem dX13_smalls_198 : decode cX13_smalls 198 = .ok (.iand, 1) := by decide +kernel
theorem dX13_smalls_199 : decode cX13_smalls 199 = .ok (.iconst 2, 1) := by decide +kernel
theorem dX13_smalls_200 : decode cX13_smalls 200 = .ok (.ishl, 1) := by decide +kernel
theorem dX13_smalls_201 : decode cX13_smalls 201 = .ok (.ior, 1) := by decide +kernel
theorem dX13_smalls_202 : decode cX13_smalls 202 = .ok (.invokevirtual 547, 3) := by decide +kernel
theorem dX13_smalls_205 : decode cX13_smalls 205 = .ok (.goto 101, 3) := by decide +kernel
theorem dX13_smalls_208 : decode cX13_smalls 208 = .ok (.iload_n 1, 1) := by decide +kernel
theorem dX13_smalls_209 : decode cX13_smalls 209 = .ok (.bipush 22, 2) := by decide +kernel
theorem dX13_smalls_211 : decode cX13_smalls 211 = .ok (.if_icmp .ne 29, 3) := by decide +kernel
theorem dX13_smalls_214 : decode cX13_smalls 214 = .ok (.aload_n 0, 1) := by decide +kernel
theorem dX13_smalls_215 : decode cX13_smalls 215 = .ok (.iload_n 2, 1) := by decide +kernel
theorem dX13_smalls_216 : decode cX13_smalls 216 = .ok (.iload_n 3, 1) := by decide +kernel
theorem dX13_smalls_217 : decode cX13_smalls 217 = .ok (.bipush 7, 2) := by decide +kernel
theorem dX13_smalls_219 : decode cX13_smalls 219 = .ok (.ishl, 1) := by decide +kernel
theorem dX13_smalls_220 : decode cX13_smalls 220 = .ok (.ior, 1) := by decide +kernel
theorem dX13_smalls_221 : decode cX13_smalls 221 = .ok (.aload_n 0, 1) := by decide +kernel
theorem dX13_smalls_222 : decode cX13_smalls 222 = .ok (.bipush (-32), 2) := by decide +kernel
theorem dX13_smalls_224 : decode cX13_smalls 224 = .ok (.bipush 31, 2) := by decide +kernel
theorem dX13_smalls_226 : decode cX13_smalls 226 = .ok (.iconst 1, 1) := by decide +kernel
theorem dX13_smalls_227 : decode cX13_smalls 227 = .ok (.invokevirtual 585, 3) := by decide +kernel
theorem dX13_smalls_230 : decode cX13_smalls 230 = .ok (.invokestatic 608, 3) := by decide +kernel
theorem dX13_smalls_233 : decode cX13_smalls 233 = .ok (.ior, 1) := by decide +kernel
theorem dX13_smalls_234 : decode cX13_smalls 234 = .ok (.invokevirtual 547, 3) := by decide +kernel
theorem dX13_smalls_237 : decode cX13_smalls 237 = .ok (.goto 69, 3) := by decide +kernel
theorem dX13_smalls_240 : decode cX13_smalls 240 = .ok (.iload_n 1, 1) := by decide +kernel
theorem dX13_smalls_241 : decode cX13_smalls 241 = .ok (.bipush 23, 2) := by decide +kernel
theorem dX13_smalls_243 : decode cX13_smalls 243 = .ok (.if_icmp .ne 23, 3) := by decide +kernel
theorem dX13_smalls_246 : decode cX13_smalls 246 = .ok (.aload_n 0, 1) := by decide +kernel
theorem dX13_smalls_247 : decode cX13_smalls 247 = .ok (.iload_n 2, 1) := by decide +kernel
theorem dX13_smalls_248 : decode cX13_smalls 248 = .ok (.iload_n 3, 1) := by decide +kernel
theorem dX13_smalls_249 : decode cX13_smalls 249 = .ok (.bipush 7, 2) := by decide +kernel
theorem dX13_smalls_251 : decode cX13_smalls 251 = .ok (.ishl, 1) := by decide +kernel
theorem dX13_smalls_252 : decode cX13_smalls 252 = .ok (.ior, 1) := by decide +kernel
theorem dX13_smalls_253 : decode cX13_smalls 253 = .ok (.aload_n 0, 1) := by decide +kernel
theorem dX13_smalls_254 : decode cX13_smalls 254 = .ok (.invokevirtual 614, 3) := by decide +kernel
theorem dX13_smalls_257 : decode cX13_smalls 257 = .ok (.iconst 2, 1) := by decide +kernel
theorem dX13_smalls_258 : decode cX13_smalls 258 = .ok (.ishl, 1) := by decide +kernel
theorem dX13_smalls_259 : decode cX13_smalls 259 = .ok (.ior, 1) := by decide +kernel
theorem dX13_smalls_260 : decode cX13_smalls 260 = .ok (.invokevirtual 547, 3) := by decide +kernel
theorem dX13_smalls_263 : decode cX13_smalls 263 = .ok (.goto 43, 3) := by decide +kernel
theorem dX13_smalls_266 : decode cX13_smalls 266 = .ok (.aload_n 0, 1) := by decide +kernel
theorem dX13_smalls_267 : decode cX13_smalls 267 = .ok (.invokevirtual 525, 3) := by decide +kernel
theorem dX13_smalls_270 : decode cX13_smalls 270 = .ok (.aload_n 0, 1) := by decide +kernel
theorem dX13_smalls_271 : decode cX13_smalls 271 = .ok (.getfield 486, 3) := by decide +kernel
theorem dX13_smalls_274 : decode cX13_smalls 274 = .ok (.isub, 1) := by decide +kernel
theorem dX13_smalls_275 : decode cX13_smalls 275 = .ok (.istore 4, 2) := by decide +kernel
theorem dX13_smalls_277 : decode cX13_smalls 277 = .ok (.aload_n 0, 1) := by decide +kernel
theorem dX13_smalls_278 : decode cX13_smalls 278 = .ok (.iload 4, 2) := by decide +kernel
theorem dX13_smalls_280 : decode cX13_smalls 280 = .ok (.sipush (-256), 3) := by decide +kernel
theorem dX13_smalls_283 : decode cX13_smalls 283 = .ok (.sipush 254, 3) := by decide +kernel
theorem dX13_smalls_286 : decode cX13_smalls 286 = .ok (.iconst 2, 1) := by decide +kernel
theorem dX13_smalls_287 : decode cX13_smalls 287 = .ok (.invokevirtual 528, 3) := by decide +kernel
theorem dX13_smalls_290 : decode cX13_smalls 290 = .ok (.aload_n 0, 1) := by decide +kernel
theorem dX13_smalls_291 : decode cX13_smalls 291 = .ok (.iload_n 2, 1) := by decide +kernel
theorem dX13_smalls_292 : decode cX13_smalls 292 = .ok (.iload_n 3, 1) := by decide +kernel
theorem dX13_smalls_293 : decode cX13_smalls 293 = .ok (.bipush 7, 2) := by decide +kernel
theorem dX13_smalls_295 : decode cX13_smalls 295 = .ok (.ishl, 1) := by decide +kernel
theorem dX13_smalls_296 : decode cX13_smalls 296 = .ok (.ior, 1) := by decide +kernel
theorem dX13_smalls_297 : decode cX13_smalls 297 = .ok (.iload 4, 2) := by decide +kernel
theorem dX13_smalls_299 : decode cX13_smalls 299 = .ok (.invokestatic 573, 3) := by decide +kernel
theorem dX13_smalls_302 : decode cX13_smalls 302 = .ok (.ior, 1) := by decide +kernel
theorem dX13_smalls_303 : decode cX13_smalls 303 = .ok (.invokevirtual 547, 3) := by decide +kernel
theorem dX13_smalls_306 : decode cX13_smalls 306 = .ok (.return_, 1) := by decide +kernel
theorem dX13_constant_0 : decode cX13_constant 0 = .ok (.aload_n 0, 1) := by decide +kernel
theorem dX13_constant_1 : decode cX13_constant 1 = .ok (.iconst 1, 1) := by decide +kernel
theorem dX13_constant_2 : decode cX13_constant 2 = .ok (.invokevirtual 506, 3) := by decide +kernel
theorem dX13_constant_5 : decode cX13_constant 5 = .ok (.ifCond .ne 4, 3) := by decide +kernel
theorem dX13_constant_8 : decode cX13_constant 8 = .ok (.return_, 1) := by decide +kernel
theorem dX13_constant_9 : decode cX13_constant 9 = .ok (.aload_n 0, 1) := by decide +kernel
theorem dX13_constant_10 : decode cX13_constant 10 = .ok (.getfield 368, 3) := by decide +kernel
theorem dX13_constant_13 : decode cX13_constant 13 = .ok (.istore_n 1, 1) := by decide +kernel
theorem dX13_constant_14 : decode cX13_constant 14 = .ok (.aload_n 0, 1) := by decide +kernel
theorem dX13_constant_15 : decode cX13_constant 15 = .ok (.getfield 371, 3) := by decide +kernel
theorem dX13_constant_18 : decode cX13_constant 18 = .ok (.istore_n 2, 1) := by decide +kernel
theorem dX13_constant_19 : decode cX13_constant 19 = .ok (.aload_n 0, 1) := by decide +kernel
theorem dX13_constant_20 : decode cX13_constant 20 = .ok (.getfield 522, 3) := by decide +kernel
theorem dX13_constant_23 : decode cX13_constant 23 = .ok (.ifCond .ne 26, 3) := by decide +kernel
theorem dX13_constant_26 : decode cX13_constant 26 = .ok (.aload_n 0, 1) := by decide +kernel
theorem dX13_constant_27 : decode cX13_constant 27 = .ok (.iload_n 1, 1) := by decide +kernel
theorem dX13_constant_28 : decode cX13_constant 28 = .ok (.iload_n 2, 1) := by decide +kernel
theorem dX13_constant_29 : decode cX13_constant 29 = .ok (.invokevirtual 477, 3) := by decide +kernel
theorem dX13_constant_32 : decode cX13_constant 32 = .ok (.ifCond .ge 12, 3) := by decide +kernel
theorem dX13_constant_35 : decode cX13_constant 35 = .ok (.aload_n 0, 1) := by decide +kernel
theorem dX13_constant_36 : decode cX13_constant 36 = .ok (.iload_n 1, 1) := by decide +kernel
theorem dX13_constant_37 : decode cX13_constant 37 = .ok (.iload_n 2, 1) := by decide +kernel
theorem dX13_constant_38 : decode cX13_constant 38 = .ok (.invokevirtual 480, 3) := by decide +kernel
theorem dX13_constant_41 : decode cX13_constant 41 = .ok (.ifCond .lt 8, 3) := by decide +kernel
theorem dX13_constant_44 : decode cX13_constant 44 = .ok (.aload_n 0, 1) := by decide +kernel
theorem dX13_constant_45 : decode cX13_constant 45 = .ok (.iconst 4, 1) := by decide +kernel
theorem dX13_constant_46 : decode cX13_constant 46 = .ok (.invokevirtual 419, 3) := by decide +kernel
theorem dX13_constant_49 : decode cX13_constant 49 = .ok (.aload_n 0, 1) := by decide +kernel
theorem dX13_constant_50 : decode cX13_constant 50 = .ok (.invokevirtual 582, 3) := by decide +kernel
theorem dX13_constant_53 : decode cX13_constant 53 = .ok (.ifCond .ne 4, 3) := by decide +kernel
theorem dX13_constant_56 : decode cX13_constant 56 = .ok (.return_, 1) := by decide +kernel
theorem dX13_constant_57 : decode cX13_constant 57 = .ok (.aload_n 0, 1) := by decide +kernel
theorem dX13_constant_58 : decode cX13_constant 58 = .ok (.ldc_w 603, 3) := by decide +kernel
theorem dX13_constant_61 : decode cX13_constant 61 = .ok (.ldc_w 604, 3) := by decide +kernel
theorem dX13_constant_64 : decode cX13_constant 64 = .ok (.invokevirtual 605, 3) := by decide +kernel
theorem dX13_constant_67 : decode cX13_constant 67 = .ok (.istore_n 3, 1) := by decide +kernel
theorem dX13_constant_68 : decode cX13_constant 68 = .ok (.aload_n 0, 1) := by decide +kernel
theorem dX13_constant_69 : decode cX13_constant 69 = .ok (.getfield 522, 3) := by decide +kernel
theorem dX13_constant_72 : decode cX13_constant 72 = .ok (.ifCond .ne 18, 3) := by decide +kernel
theorem dX13_constant_75 : decode cX13_constant 75 = .ok (.aload_n 0, 1) := by decide +kernel
theorem dX13_constant_76 : decode cX13_constant 76 = .ok (.getfield 410, 3) := by decide +kernel
theorem dX13_constant_79 : decode cX13_constant 79 = .ok (.ifCond .ne 11, 3) := by decide +kernel
theorem dX13_constant_82 : decode cX13_constant 82 = .ok (.aload_n 0, 1) := by decide +kernel
theorem dX13_constant_83 : decode cX13_constant 83 = .ok (.iload_n 1, 1) := by decide +kernel
theorem dX13_constant_84 : decode cX13_constant 84 = .ok (.iload_n 2, 1) := by decide +kernel
theorem dX13_constant_85 : decode cX13_constant 85 = .ok (.iconst 2, 1) := by decide +kernel
theorem dX13_constant_86 : decode cX13_constant 86 = .ok (.iload_n 3, 1) := by decide +kernel
theorem dX13_constant_87 : decode cX13_constant 87 = .ok (.invokevirtual 631, 3) := by decide +kernel
theorem dX13_constant_90 : decode cX13_constant 90 = .ok (.return_, 1) := by decide +kernel
theorem dX13_quoted_0 : decode cX13_quoted 0 = .ok (.aload_n 0, 1) := by decide +kernel
theorem dX13_quoted_1 : decode cX13_quoted 1 = .ok (.iconst 4, 1) := by decide +kernel
theorem dX13_quoted_2 : decode cX13_quoted 2 = .ok (.invokevirtual 506, 3) := by decide +kernel
theorem dX13_quoted_5 : decode cX13_quoted 5 = .ok (.ifCond .ne 4, 3) := by decide +kernel
theorem dX13_quoted_8 : decode cX13_quoted 8 = .ok (.return_, 1) := by decide +kernel
theorem dX13_quoted_9 : decode cX13_quoted 9 = .ok (.aload_n 0, 1) := by decide +kernel
theorem dX13_quoted_10 : decode cX13_quoted 10 = .ok (.getfield 371, 3) := by decide +kernel
theorem dX13_quoted_13 : decode cX13_quoted 13 = .ok (.istore_n 2, 1) := by decide +kernel
theorem dX13_quoted_14 : decode cX13_quoted 14 = .ok (.aload_n 0, 1) := by decide +kernel
theorem dX13_quoted_15 : decode cX13_quoted 15 = .ok (.getfield 368, 3) := by decide +kernel
theorem dX13_quoted_18 : decode cX13_quoted 18 = .ok (.iconst 1, 1) := by decide +kernel
theorem dX13_quoted_19 : decode cX13_quoted 19 = .ok (.iadd, 1) := by decide +kernel
theorem dX13_quoted_20 : decode cX13_quoted 20 = .ok (.istore_n 3, 1) := by decide +kernel
theorem dX13_quoted_21 : decode cX13_quoted 21 = .ok (.iload_n 3, 1) := by decide +kernel
theorem dX13_quoted_22 : decode cX13_quoted 22 = .ok (.iload_n 2, 1) := by decide +kernel
theorem dX13_quoted_23 : decode cX13_quoted 23 = .ok (.iconst 1, 1) := by decide +kernel
theorem dX13_quoted_24 : decode cX13_quoted 24 = .ok (.isub, 1) := by decide +kernel
theorem dX13_quoted_25 : decode cX13_quoted 25 = .ok (.if_icmp .ge 22, 3) := by decide +kernel
theorem dX13_quoted_28 : decode cX13_quoted 28 = .ok (.aload_n 0, 1) := by decide +kernel
theorem dX13_quoted_29 : decode cX13_quoted 29 = .ok (.aload_n 0, 1) := by decide +kernel
theorem dX13_quoted_30 : decode cX13_quoted 30 = .ok (.iload_n 3, 1) := by decide +kernel
theorem dX13_quoted_31 : decode cX13_quoted 31 = .ok (.bipush 34, 2) := by decide +kernel
theorem dX13_quoted_33 : decode cX13_quoted 33 = .ok (.invokevirtual 406, 3) := by decide +kernel
theorem dX13_quoted_36 : decode cX13_quoted 36 = .ok (.invokevirtual 544, 3) := by decide +kernel
theorem dX13_quoted_39 : decode cX13_quoted 39 = .ok (.aload_n 0, 1) := by decide +kernel
theorem dX13_quoted_40 : decode cX13_quoted 40 = .ok (.getfield 371, 3) := by decide +kernel
theorem dX13_quoted_43 : decode cX13_quoted 43 = .ok (.istore_n 3, 1) := by decide +kernel
theorem dX13_quoted_44 : decode cX13_quoted 44 = .ok (.goto (-23), 3) := by decide +kernel
theorem dX13_quoted_47 : decode cX13_quoted 47 = .ok (.aload_n 0, 1) := by decide +kernel
theorem dX13_quoted_48 : decode cX13_quoted 48 = .ok (.iload_n 2, 1) := by decide +kernel
theorem dX13_quoted_49 : decode cX13_quoted 49 = .ok (.putfield 374, 3) := by decide +kernel
theorem dX13_quoted_52 : decode cX13_quoted 52 = .ok (.iload_n 1, 1) := by decide +kernel
theorem dX13_quoted_53 : decode cX13_quoted 53 = .ok (.ifCond .eq 8, 3) := by decide +kernel
theorem dX13_quoted_56 : decode cX13_quoted 56 = .ok (.aload_n 0, 1) := by decide +kernel
theorem dX13_quoted_57 : decode cX13_quoted 57 = .ok (.iconst 0, 1) := by decide +kernel
theorem dX13_quoted_58 : decode cX13_quoted 58 = .ok (.invokevirtual 544, 3) := by decide +kernel
theorem dX13_quoted_61 : decode cX13_quoted 61 = .ok (.return_, 1) := by decide +kernel
theorem dX13_directive_0 : decode cX13_directive 0 = .ok (.iload_n 1, 1) := by decide +kernel
theorem dX13_directive_1 : decode cX13_directive 1 = .ok (.bipush 42, 2) := by decide +kernel
theorem dX13_directive_3 : decode cX13_directive 3 = .ok (.if_icmp .ge 14, 3) := by decide +kernel
theorem dX13_directive_6 : decode cX13_directive 6 = .ok (.aload_n 0, 1) := by decide +kernel
theorem dX13_directive_7 : decode cX13_directive 7 = .ok (.iload_n 1, 1) := by decide +kernel
theorem dX13_directive_8 : decode cX13_directive 8 = .ok (.bipush 40, 2) := by decide +kernel
theorem dX13_directive_10 : decode cX13_directive 10 = .ok (.isub, 1) := by decide +kernel
theorem dX13_directive_11 : decode cX13_directive 11 = .ok (.putfield 634, 3) := by decide +kernel
theorem dX13_directive_14 : decode cX13_directive 14 = .ok (.goto 171, 3) := by decide +kernel
theorem dX13_directive_17 : decode cX13_directive 17 = .ok (.iload_n 1, 1) := by decide +kernel
theorem dX13_directive_18 : decode cX13_directive 18 = .ok (.bipush 42, 2) := by decide +kernel
theorem dX13_directive_20 : decode cX13_directive 20 = .ok (.if_icmp .ne 10, 3) := by decide +kernel
theorem dX13_directive_23 : decode cX13_directive 23 = .ok (.aload_n 0, 1) := by decide +kernel
theorem dX13_directive_24 : decode cX13_directive 24 = .ok (.invokevirtual 637, 3) := by decide +kernel
theorem dX13_directive_27 : decode cX13_directive 27 = .ok (.goto 158, 3) := by decide +kernel
theorem dX13_directive_30 : decode cX13_directive 30 = .ok (.iload_n 1, 1) := by decide +kernel
theorem dX13_directive_31 : decode cX13_directive 31 = .ok (.bipush 48, 2) := by decide +kernel
theorem dX13_directive_33 : decode cX13_directive 33 = .ok (.if_icmp .ne 23, 3) := by decide +kernel
theorem dX13_directive_36 : decode cX13_directive 36 = .ok (.aload_n 0, 1) := by decide +kernel
theorem dX13_directive_37 : decode cX13_directive 37 = .ok (.dup, 1) := by decide +kernel
theorem dX13_directive_38 : decode cX13_directive 38 = .ok (.getfield 541, 3) := by decide +kernel
theorem dX13_directive_41 : decode cX13_directive 41 = .ok (.aload_n 0, 1) := by decide +kernel
theorem dX13_directive_42 : decode cX13_directive 42 = .ok (.iconst 0, 1) := by decide +kernel
theorem dX13_directive_43 : decode cX13_directive 43 = .ok (.ldc_w 640, 3) := by decide +kernel
theorem dX13_directive_46 : decode cX13_directive 46 = .ok (.invokevirtual 605, 3) := by decide +kernel
theorem dX13_directive_49 : decode cX13_directive 49 = .ok (.iadd, 1) := by decide +kernel
theorem dX13_directive_50 : decode cX13_directive 50 = .ok (.putfield 541, 3) := by decide +kernel
theorem dX13_directive_53 : decode cX13_directive 53 = .ok (.goto 132, 3) := by decide +kernel
theorem dX13_directive_56 : decode cX13_directive 56 = .ok (.iload_n 1, 1) := by decide +kernel
theorem dX13_directive_57 : decode cX13_directive 57 = .ok (.bipush 49, 2) := by decide +kernel
theorem dX13_directive_59 : decode cX13_directive 59 = .ok (.if_icmp .ne 26, 3) := by decide +kernel
theorem dX13_directive_62 : decode cX13_directive 62 = .ok (.aload_n 0, 1) := by decide +kernel
theorem dX13_directive_63 : decode cX13_directive 63 = .ok (.iconst 0, 1) := by decide +kernel
theorem dX13_directive_64 : decode cX13_directive 64 = .ok (.bipush 10, 2) := by decide +kernel
theorem dX13_directive_66 : decode cX13_directive 66 = .ok (.invokevirtual 605, 3) := by decide +kernel
theorem dX13_directive_69 : decode cX13_directive 69 = .ok (.istore_n 3, 1) := by decide +kernel
theorem dX13_directive_70 : decode cX13_directive 70 = .ok (.aload_n 0, 1) := by decide +kernel
theorem dX13_directive_71 : decode cX13_directive 71 = .ok (.getfield 334, 3) := by decide +kernel
theorem dX13_directive_74 : decode cX13_directive 74 = .ok (.aload_n 0, 1) := by decide +kernel
theorem dX13_directive_75 : decode cX13_directive 75 = .ok (.getfield 454, 3) := by decide +kernel
theorem dX13_directive_78 : decode cX13_directive 78 = .ok (.iconst (-1), 1) := by decide +kernel
theorem dX13_directive_79 : decode cX13_directive 79 = .ok (.iload_n 3, 1) := by decide +kernel
theorem dX13_directive_80 : decode cX13_directive 80 = .ok (.isub, 1) := by decide +kernel
theorem dX13_directive_81 : decode cX13_directive 81 = .ok (.iastore, 1) := by decide +kernel
theorem dX13_directive_82 : decode cX13_directive 82 = .ok (.goto 103, 3) := by decide +kernel
theorem dX13_directive_85 : decode cX13_directive 85 = .ok (.iconst 1, 1) := by decide +kernel
theorem dX13_directive_86 : decode cX13_directive 86 = .ok (.istore_n 3, 1) := by decide +kernel
theorem dX13_directive_87 : decode cX13_directive 87 = .ok (.iload_n 3, 1) := by decide +kernel
theorem dX13_directive_88 : decode cX13_directive 88 = .ok (.ifCond .eq 97, 3) := by decide +kernel
theorem dX13_directive_91 : decode cX13_directive 91 = .ok (.aload_n 0, 1) := by decide +kernel
theorem dX13_directive_92 : decode cX13_directive 92 = .ok (.getfield 410, 3) := by decide +kernel
theorem dX13_directive_95 : decode cX13_directive 95 = .ok (.ifCond .ne 90, 3) := by decide +kernel
theorem dX13_directive_98 : decode cX13_directive 98 = .ok (.iload_n 2, 1) := by decide +kernel
theorem dX13_directive_99 : decode cX13_directive 99 = .ok (.ifCond .ne 21, 3) := by decide +kernel
theorem dX13_directive_102 : decode cX13_directive 102 = .ok (.aload_n 0, 1) := by decide +kernel
theorem dX13_directive_103 : decode cX13_directive 103 = .ok (.iload_n 1, 1) := by decide +kernel
theorem dX13_directive_104 : decode cX13_directive 104 = .ok (.bipush 47, 2) := by decide +kernel
theorem dX13_directive_106 : decode cX13_directive 106 = .ok (.if_icmp .ne 7, 3) := by decide +kernel
theorem dX13_directive_109 : decode cX13_directive 109 = .ok (.iconst 1, 1) := by decide +kernel
theorem dX13_directive_110 : decode cX13_directive 110 = .ok (.goto 4, 3) := by decide +kernel
theorem dX13_directive_113 : decode cX13_directive 113 = .ok (.iconst 0, 1) := by decide +kernel
theorem dX13_directive_114 : decode cX13_directive 114 = .ok (.invokevirtual 641, 3) := by decide +kernel
theorem dX13_directive_117 : decode cX13_directive 117 = .ok (.goto 36, 3) := by decide +kernel
theorem dX13_directive_120 : decode cX13_directive 120 = .ok (.aload_n 0, 1) := by decide +kernel
theorem dX13_directive_121 : decode cX13_directive 121 = .ok (.invokevirtual 525, 3) := by decide +kernel
theorem dX13_directive_124 : decode cX13_directive 124 = .ok (.istore 4, 2) := by decide +kernel
theorem dX13_directive_126 : decode cX13_directive 126 = .ok (.iconst 0, 1) := by decide +kernel
theorem dX13_directive_127 : decode cX13_directive 127 = .ok (.istore 5, 2) := by decide +kernel
theorem dX13_directive_129 : decode cX13_directive 129 = .ok (.iload 5, 2) := by decide +kernel
theorem dX13_directive_131 : decode cX13_directive 131 = .ok (.iload_n 2, 1) := by decide +kernel
theorem dX13_directive_132 : decode cX13_directive 132 = .ok (.if_icmp .ge 21, 3) := by decide +kernel
theorem dX13_directive_135 : decode cX13_directive 135 = .ok (.aload_n 0, 1) := by decide +kernel
theorem dX13_directive_136 : decode cX13_directive 136 = .ok (.iload 4, 2) := by decide +kernel
theorem dX13_directive_138 : decode cX13_directive 138 = .ok (.bipush 8, 2) := by decide +kernel
theorem dX13_directive_140 : decode cX13_directive 140 = .ok (.iload 5, 2) := by decide +kernel
theorem dX13_directive_142 : decode cX13_directive 142 = .ok (.imul, 1) := by decide +kernel
theorem dX13_directive_143 : decode cX13_directive 143 = .ok (.ishr, 1) := by decide +kernel
theorem dX13_directive_144 : decode cX13_directive 144 = .ok (.invokevirtual 544, 3) := by decide +kernel
theorem dX13_directive_147 : decode cX13_directive 147 = .ok (.iinc 5 1, 3) := by decide +kernel
theorem dX13_directive_150 : decode cX13_directive 150 = .ok (.goto (-21), 3) := by decide +kernel
theorem dX13_directive_153 : decode cX13_directive 153 = .ok (.aload_n 0, 1) := by decide +kernel
theorem dX13_directive_154 : decode cX13_directive 154 = .ok (.getfield 410, 3) := by decide +kernel
theorem dX13_directive_157 : decode cX13_directive 157 = .ok (.ifCond .ne 23, 3) := by decide +kernel
theorem dX13_directive_160 : decode cX13_directive 160 = .ok (.aload_n 0, 1) := by decide +kernel
theorem dX13_directive_161 : decode cX13_directive 161 = .ok (.invokevirtual 579, 3) := by decide +kernel
theorem dX13_directive_164 : decode cX13_directive 164 = .ok (.ifCond .ne 16, 3) := by decide +kernel
theorem dX13_directive_167 : decode cX13_directive 167 = .ok (.aload_n 0, 1) := by decide +kernel
theorem dX13_directive_168 : decode cX13_directive 168 = .ok (.bipush 44, 2) := by decide +kernel
theorem dX13_directive_170 : decode cX13_directive 170 = .ok (.invokevirtual 506, 3) := by decide +kernel
theorem dX13_directive_173 : decode cX13_directive 173 = .ok (.ifCond .eq 7, 3) := by decide +kernel
theorem dX13_directive_176 : decode cX13_directive 176 = .ok (.iconst 1, 1) := by decide +kernel
theorem dX13_directive_177 : decode cX13_directive 177 = .ok (.goto 4, 3) := by decide +kernel
theorem dX13_directive_180 : decode cX13_directive 180 = .ok (.iconst 0, 1) := by decide +kernel
theorem dX13_directive_181 : decode cX13_directive 181 = .ok (.istore_n 3, 1) := by decide +kernel
theorem dX13_directive_182 : decode cX13_directive 182 = .ok (.goto (-95), 3) := by decide +kernel
theorem dX13_directive_185 : decode cX13_directive 185 = .ok (.return_, 1) := by decide +kernel
theorem dX13_named_0 : decode cX13_named 0 = .ok (.aload_n 0, 1) := by decide +kernel
theorem dX13_named_1 : decode cX13_named 1 = .ok (.iload_n 1, 1) := by decide +kernel
theorem dX13_named_2 : decode cX13_named 2 = .ok (.iload_n 2, 1) := by decide +kernel
theorem dX13_named_3 : decode cX13_named 3 = .ok (.invokevirtual 423, 3) := by decide +kernel
theorem dX13_named_6 : decode cX13_named 6 = .ok (.lstore_n 3, 1) := by decide +kernel
theorem dX13_named_7 : decode cX13_named 7 = .ok (.iconst 0, 1) := by decide +kernel
theorem dX13_named_8 : decode cX13_named 8 = .ok (.istore 5, 2) := by decide +kernel
theorem dX13_named_10 : decode cX13_named 10 = .ok (.iload 5, 2) := by decide +kernel
theorem dX13_named_12 : decode cX13_named 12 = .ok (.aload_n 0, 1) := by decide +kernel
theorem dX13_named_13 : decode cX13_named 13 = .ok (.getfield 263, 3) := by decide +kernel
theorem dX13_named_16 : decode cX13_named 16 = .ok (.arraylength, 1) := by decide +kernel
theorem dX13_named_17 : decode cX13_named 17 = .ok (.if_icmp .ge 24, 3) := by decide +kernel
theorem dX13_named_20 : decode cX13_named 20 = .ok (.aload_n 0, 1) := by decide +kernel
theorem dX13_named_21 : decode cX13_named 21 = .ok (.getfield 263, 3) := by decide +kernel
theorem dX13_named_24 : decode cX13_named 24 = .ok (.iload 5, 2) := by decide +kernel
theorem dX13_named_26 : decode cX13_named 26 = .ok (.laload, 1) := by decide +kernel
theorem dX13_named_27 : decode cX13_named 27 = .ok (.lload_n 3, 1) := by decide +kernel
theorem dX13_named_28 : decode cX13_named 28 = .ok (.lcmp, 1) := by decide +kernel
theorem dX13_named_29 : decode cX13_named 29 = .ok (.ifCond .ne 6, 3) := by decide +kernel
theorem dX13_named_32 : decode cX13_named 32 = .ok (.iload 5, 2) := by decide +kernel
theorem dX13_named_34 : decode cX13_named 34 = .ok (.ireturn, 1) := by decide +kernel
theorem dX13_named_35 : decode cX13_named 35 = .ok (.iinc 5 1, 3) := by decide +kernel
theorem dX13_named_38 : decode cX13_named 38 = .ok (.goto (-28), 3) := by decide +kernel
theorem dX13_named_41 : decode cX13_named 41 = .ok (.iconst (-1), 1) := by decide +kernel
theorem dX13_named_42 : decode cX13_named 42 = .ok (.ireturn, 1) := by decide +kernel
theorem dX13_suffix_0 : decode cX13_suffix 0 = .ok (.aload_n 0, 1) := by decide +kernel
theorem dX13_suffix_1 : decode cX13_suffix 1 = .ok (.getfield 371, 3) := by decide +kernel
theorem dX13_suffix_4 : decode cX13_suffix 4 = .ok (.aload_n 0, 1) := by decide +kernel
theorem dX13_suffix_5 : decode cX13_suffix 5 = .ok (.getfield 368, 3) := by decide +kernel
theorem dX13_suffix_8 : decode cX13_suffix 8 = .ok (.isub, 1) := by decide +kernel
theorem dX13_suffix_9 : decode cX13_suffix 9 = .ok (.istore_n 1, 1) := by decide +kernel
theorem dX13_suffix_10 : decode cX13_suffix 10 = .ok (.iload_n 1, 1) := by decide +kernel
theorem dX13_suffix_11 : decode cX13_suffix 11 = .ok (.iconst 5, 1) := by decide +kernel
theorem dX13_suffix_12 : decode cX13_suffix 12 = .ok (.if_icmp .le 85, 3) := by decide +kernel
theorem dX13_suffix_15 : decode cX13_suffix 15 = .ok (.aload_n 0, 1) := by decide +kernel
theorem dX13_suffix_16 : decode cX13_suffix 16 = .ok (.getfield 324, 3) := by decide +kernel
theorem dX13_suffix_19 : decode cX13_suffix 19 = .ok (.aload_n 0, 1) := by decide +kernel
theorem dX13_suffix_20 : decode cX13_suffix 20 = .ok (.getfield 371, 3) := by decide +kernel
theorem dX13_suffix_23 : decode cX13_suffix 23 = .ok (.iconst 5, 1) := by decide +kernel
theorem dX13_suffix_24 : decode cX13_suffix 24 = .ok (.isub, 1) := by decide +kernel
theorem dX13_suffix_25 : decode cX13_suffix 25 = .ok (.caload, 1) := by decide +kernel
theorem dX13_suffix_26 : decode cX13_suffix 26 = .ok (.bipush 46, 2) := by decide +kernel
theorem dX13_suffix_28 : decode cX13_suffix 28 = .ok (.if_icmp .ne 69, 3) := by decide +kernel
theorem dX13_suffix_31 : decode cX13_suffix 31 = .ok (.aload_n 0, 1) := by decide +kernel
theorem dX13_suffix_32 : decode cX13_suffix 32 = .ok (.getfield 324, 3) := by decide +kernel
theorem dX13_suffix_35 : decode cX13_suffix 35 = .ok (.aload_n 0, 1) := by decide +kernel
theorem dX13_suffix_36 : decode cX13_suffix 36 = .ok (.getfield 371, 3) := by decide +kernel
theorem dX13_suffix_39 : decode cX13_suffix 39 = .ok (.iconst 4, 1) := by decide +kernel
theorem dX13_suffix_40 : decode cX13_suffix 40 = .ok (.isub, 1) := by decide +kernel
theorem dX13_suffix_41 : decode cX13_suffix 41 = .ok (.caload, 1) := by decide +kernel
theorem dX13_suffix_42 : decode cX13_suffix 42 = .ok (.bipush 97, 2) := by decide +kernel
theorem dX13_suffix_44 : decode cX13_suffix 44 = .ok (.if_icmp .ne 53, 3) := by decide +kernel
theorem dX13_suffix_47 : decode cX13_suffix 47 = .ok (.aload_n 0, 1) := by decide +kernel
theorem dX13_suffix_48 : decode cX13_suffix 48 = .ok (.getfield 324, 3) := by decide +kernel
theorem dX13_suffix_51 : decode cX13_suffix 51 = .ok (.aload_n 0, 1) := by decide +kernel
theorem dX13_suffix_52 : decode cX13_suffix 52 = .ok (.getfield 371, 3) := by decide +kernel
theorem dX13_suffix_55 : decode cX13_suffix 55 = .ok (.iconst 3, 1) := by decide +kernel
theorem dX13_suffix_56 : decode cX13_suffix 56 = .ok (.isub, 1) := by decide +kernel
theorem dX13_suffix_57 : decode cX13_suffix 57 = .ok (.caload, 1) := by decide +kernel
theorem dX13_suffix_58 : decode cX13_suffix 58 = .ok (.bipush 113, 2) := by decide +kernel
theorem dX13_suffix_60 : decode cX13_suffix 60 = .ok (.if_icmp .ne 37, 3) := by decide +kernel
theorem dX13_suffix_63 : decode cX13_suffix 63 = .ok (.aload_n 0, 1) := by decide +kernel
theorem dX13_suffix_64 : decode cX13_suffix 64 = .ok (.getfield 324, 3) := by decide +kernel
theorem dX13_suffix_67 : decode cX13_suffix 67 = .ok (.aload_n 0, 1) := by decide +kernel
