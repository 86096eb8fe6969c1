theorem dX6_become_143 : decode cX6_become 143 = .ok (.invokestatic 95, 3) := by decide +kernel
theorem dX6_become_146 : decode cX6_become 146 = .ok (.aload_n 1, 1) := by decide +kernel
theorem dX6_become_147 : decode cX6_become 147 = .ok (.getfield 29, 3) := by decide +kernel
theorem dX6_become_150 : decode cX6_become 150 = .ok (.iconst 0, 1) := by decide +kernel
theorem dX6_become_151 : decode cX6_become 151 = .ok (.aload_n 0, 1) := by decide +kernel
theorem dX6_become_152 : decode cX6_become 152 = .ok (.getfield 29, 3) := by decide +kernel
theorem dX6_become_155 : decode cX6_become 155 = .ok (.iconst 0, 1) := by decide +kernel
theorem dX6_become_156 : decode cX6_become 156 = .ok (.aload_n 0, 1) := by decide +kernel
theorem dX6_become_157 : decode cX6_become 157 = .ok (.getfield 29, 3) := by decide +kernel
theorem dX6_become_160 : decode cX6_become 160 = .ok (.arraylength, 1) := by decide +kernel
theorem dX6_become_161 : decode cX6_become 161 = .ok (.invokestatic 95, 3) := by decide +kernel
theorem dX6_become_164 : decode cX6_become 164 = .ok (.aload_n 1, 1) := by decide +kernel
theorem dX6_become_165 : decode cX6_become 165 = .ok (.getfield 32, 3) := by decide +kernel
theorem dX6_become_168 : decode cX6_become 168 = .ok (.iconst 0, 1) := by decide +kernel
theorem dX6_become_169 : decode cX6_become 169 = .ok (.aload_n 0, 1) := by decide +kernel
theorem dX6_become_170 : decode cX6_become 170 = .ok (.getfield 32, 3) := by decide +kernel
theorem dX6_become_173 : decode cX6_become 173 = .ok (.iconst 0, 1) := by decide +kernel
theorem dX6_become_174 : decode cX6_become 174 = .ok (.aload_n 0, 1) := by decide +kernel
theorem dX6_become_175 : decode cX6_become 175 = .ok (.getfield 32, 3) := by decide +kernel
theorem dX6_become_178 : decode cX6_become 178 = .ok (.arraylength, 1) := by decide +kernel
theorem dX6_become_179 : decode cX6_become 179 = .ok (.invokestatic 95, 3) := by decide +kernel
theorem dX6_become_182 : decode cX6_become 182 = .ok (.aload_n 1, 1) := by decide +kernel
theorem dX6_become_183 : decode cX6_become 183 = .ok (.getfield 36, 3) := by decide +kernel
theorem dX6_become_186 : decode cX6_become 186 = .ok (.iconst 0, 1) := by decide +kernel
theorem dX6_become_187 : decode cX6_become 187 = .ok (.aload_n 0, 1) := by decide +kernel
theorem dX6_become_188 : decode cX6_become 188 = .ok (.getfield 36, 3) := by decide +kernel
theorem dX6_become_191 : decode cX6_become 191 = .ok (.iconst 0, 1) := by decide +kernel
theorem dX6_become_192 : decode cX6_become 192 = .ok (.aload_n 0, 1) := by decide +kernel
theorem dX6_become_193 : decode cX6_become 193 = .ok (.getfield 36, 3) := by decide +kernel
theorem dX6_become_196 : decode cX6_become 196 = .ok (.arraylength, 1) := by decide +kernel
theorem dX6_become_197 : decode cX6_become 197 = .ok (.invokestatic 95, 3) := by decide +kernel
theorem dX6_become_200 : decode cX6_become 200 = .ok (.aload_n 0, 1) := by decide +kernel
theorem dX6_become_201 : decode cX6_become 201 = .ok (.aload_n 1, 1) := by decide +kernel
theorem dX6_become_202 : decode cX6_become 202 = .ok (.getfield 60, 3) := by decide +kernel
theorem dX6_become_205 : decode cX6_become 205 = .ok (.putfield 60, 3) := by decide +kernel
theorem dX6_become_208 : decode cX6_become 208 = .ok (.aload_n 0, 1) := by decide +kernel
theorem dX6_become_209 : decode cX6_become 209 = .ok (.getfield 42, 3) := by decide +kernel
theorem dX6_become_212 : decode cX6_become 212 = .ok (.aload_n 1, 1) := by decide +kernel
theorem dX6_become_213 : decode cX6_become 213 = .ok (.getfield 42, 3) := by decide +kernel
theorem dX6_become_216 : decode cX6_become 216 = .ok (.invokevirtual 101, 3) := by decide +kernel
theorem dX6_become_219 : decode cX6_become 219 = .ok (.aload_n 0, 1) := by decide +kernel
theorem dX6_become_220 : decode cX6_become 220 = .ok (.aload_n 1, 1) := by decide +kernel
theorem dX6_become_221 : decode cX6_become 221 = .ok (.getfield 63, 3) := by decide +kernel
theorem dX6_become_224 : decode cX6_become 224 = .ok (.putfield 63, 3) := by decide +kernel
theorem dX6_become_227 : decode cX6_become 227 = .ok (.aload_n 0, 1) := by decide +kernel
theorem dX6_become_228 : decode cX6_become 228 = .ok (.aload_n 1, 1) := by decide +kernel
theorem dX6_become_229 : decode cX6_become 229 = .ok (.getfield 66, 3) := by decide +kernel
theorem dX6_become_232 : decode cX6_become 232 = .ok (.putfield 66, 3) := by decide +kernel
theorem dX6_become_235 : decode cX6_become 235 = .ok (.aload_n 0, 1) := by decide +kernel
theorem dX6_become_236 : decode cX6_become 236 = .ok (.aload_n 1, 1) := by decide +kernel
theorem dX6_become_237 : decode cX6_become 237 = .ok (.getfield 69, 3) := by decide +kernel
theorem dX6_become_240 : decode cX6_become 240 = .ok (.putfield 69, 3) := by decide +kernel
theorem dX6_become_243 : decode cX6_become 243 = .ok (.aload_n 0, 1) := by decide +kernel
theorem dX6_become_244 : decode cX6_become 244 = .ok (.aload_n 1, 1) := by decide +kernel
theorem dX6_become_245 : decode cX6_become 245 = .ok (.getfield 72, 3) := by decide +kernel
theorem dX6_become_248 : decode cX6_become 248 = .ok (.putfield 72, 3) := by decide +kernel
theorem dX6_become_251 : decode cX6_become 251 = .ok (.aload_n 0, 1) := by decide +kernel
theorem dX6_become_252 : decode cX6_become 252 = .ok (.aload_n 1, 1) := by decide +kernel
theorem dX6_become_253 : decode cX6_become 253 = .ok (.getfield 105, 3) := by decide +kernel
theorem dX6_become_256 : decode cX6_become 256 = .ok (.putfield 105, 3) := by decide +kernel
theorem dX6_become_259 : decode cX6_become 259 = .ok (.aload_n 0, 1) := by decide +kernel
theorem dX6_become_260 : decode cX6_become 260 = .ok (.aload_n 1, 1) := by decide +kernel
theorem dX6_become_261 : decode cX6_become 261 = .ok (.getfield 75, 3) := by decide +kernel
theorem dX6_become_264 : decode cX6_become 264 = .ok (.putfield 75, 3) := by decide +kernel
theorem dX6_become_267 : decode cX6_become 267 = .ok (.aload_n 0, 1) := by decide +kernel
theorem dX6_become_268 : decode cX6_become 268 = .ok (.aload_n 1, 1) := by decide +kernel
theorem dX6_become_269 : decode cX6_become 269 = .ok (.getfield 79, 3) := by decide +kernel
theorem dX6_become_272 : decode cX6_become 272 = .ok (.putfield 79, 3) := by decide +kernel
theorem dX6_become_275 : decode cX6_become 275 = .ok (.aload_n 0, 1) := by decide +kernel
theorem dX6_become_276 : decode cX6_become 276 = .ok (.aload_n 1, 1) := by decide +kernel
theorem dX6_become_277 : decode cX6_become 277 = .ok (.getfield 82, 3) := by decide +kernel
theorem dX6_become_280 : decode cX6_become 280 = .ok (.putfield 82, 3) := by decide +kernel
theorem dX6_become_283 : decode cX6_become 283 = .ok (.return_, 1) := by decide +kernel
theorem dX6_may_0 : decode cX6_may 0 = .ok (.iload_n 2, 1) := by decide +kernel
theorem dX6_may_1 : decode cX6_may 1 = .ok (.bipush 16, 2) := by decide +kernel
theorem dX6_may_3 : decode cX6_may 3 = .ok (.iushr, 1) := by decide +kernel
theorem dX6_may_4 : decode cX6_may 4 = .ok (.ifCond .ne 26, 3) := by decide +kernel
theorem dX6_may_7 : decode cX6_may 7 = .ok (.aload_n 0, 1) := by decide +kernel
theorem dX6_may_8 : decode cX6_may 8 = .ok (.getfield 17, 3) := by decide +kernel
theorem dX6_may_11 : decode cX6_may 11 = .ok (.iload_n 1, 1) := by decide +kernel
theorem dX6_may_12 : decode cX6_may 12 = .ok (.bipush 6, 2) := by decide +kernel
theorem dX6_may_14 : decode cX6_may 14 = .ok (.ishl, 1) := by decide +kernel
theorem dX6_may_15 : decode cX6_may 15 = .ok (.iload_n 2, 1) := by decide +kernel
theorem dX6_may_16 : decode cX6_may 16 = .ok (.bipush 10, 2) := by decide +kernel
theorem dX6_may_18 : decode cX6_may 18 = .ok (.iushr, 1) := by decide +kernel
theorem dX6_may_19 : decode cX6_may 19 = .ok (.ior, 1) := by decide +kernel
theorem dX6_may_20 : decode cX6_may 20 = .ok (.iaload, 1) := by decide +kernel
theorem dX6_may_21 : decode cX6_may 21 = .ok (.iload_n 3, 1) := by decide +kernel
theorem dX6_may_22 : decode cX6_may 22 = .ok (.iand, 1) := by decide +kernel
theorem dX6_may_23 : decode cX6_may 23 = .ok (.ifCond .eq 7, 3) := by decide +kernel
theorem dX6_may_26 : decode cX6_may 26 = .ok (.iconst 1, 1) := by decide +kernel
theorem dX6_may_27 : decode cX6_may 27 = .ok (.goto 4, 3) := by decide +kernel
theorem dX6_may_30 : decode cX6_may 30 = .ok (.iconst 0, 1) := by decide +kernel
theorem dX6_may_31 : decode cX6_may 31 = .ok (.ireturn, 1) := by decide +kernel
theorem dX6_mayAll_0 : decode cX6_mayAll 0 = .ok (.iload_n 3, 1) := by decide +kernel
theorem dX6_mayAll_1 : decode cX6_mayAll 1 = .ok (.ifCond .le 29, 3) := by decide +kernel
theorem dX6_mayAll_4 : decode cX6_mayAll 4 = .ok (.aload_n 0, 1) := by decide +kernel
theorem dX6_mayAll_5 : decode cX6_mayAll 5 = .ok (.iload_n 1, 1) := by decide +kernel
theorem dX6_mayAll_6 : decode cX6_mayAll 6 = .ok (.iload_n 2, 1) := by decide +kernel
theorem dX6_mayAll_7 : decode cX6_mayAll 7 = .ok (.iload 4, 2) := by decide +kernel
theorem dX6_mayAll_9 : decode cX6_mayAll 9 = .ok (.invokevirtual 108, 3) := by decide +kernel
theorem dX6_mayAll_12 : decode cX6_mayAll 12 = .ok (.ifCond .eq 22, 3) := by decide +kernel
theorem dX6_mayAll_15 : decode cX6_mayAll 15 = .ok (.aload_n 0, 1) := by decide +kernel
theorem dX6_mayAll_16 : decode cX6_mayAll 16 = .ok (.iload_n 1, 1) := by decide +kernel
theorem dX6_mayAll_17 : decode cX6_mayAll 17 = .ok (.iload_n 2, 1) := by decide +kernel
theorem dX6_mayAll_18 : decode cX6_mayAll 18 = .ok (.iload_n 3, 1) := by decide +kernel
theorem dX6_mayAll_19 : decode cX6_mayAll 19 = .ok (.iadd, 1) := by decide +kernel
theorem dX6_mayAll_20 : decode cX6_mayAll 20 = .ok (.iconst 1, 1) := by decide +kernel
theorem dX6_mayAll_21 : decode cX6_mayAll 21 = .ok (.isub, 1) := by decide +kernel
theorem dX6_mayAll_22 : decode cX6_mayAll 22 = .ok (.iload 4, 2) := by decide +kernel
theorem dX6_mayAll_24 : decode cX6_mayAll 24 = .ok (.invokevirtual 108, 3) := by decide +kernel
theorem dX6_mayAll_27 : decode cX6_mayAll 27 = .ok (.ifCond .eq 7, 3) := by decide +kernel
theorem dX6_mayAll_30 : decode cX6_mayAll 30 = .ok (.iconst 1, 1) := by decide +kernel
theorem dX6_mayAll_31 : decode cX6_mayAll 31 = .ok (.goto 4, 3) := by decide +kernel
theorem dX6_mayAll_34 : decode cX6_mayAll 34 = .ok (.iconst 0, 1) := by decide +kernel
theorem dX6_mayAll_35 : decode cX6_mayAll 35 = .ok (.ireturn, 1) := by decide +kernel
theorem dX6_wordAt_0 : decode cX6_wordAt 0 = .ok (.aload_n 0, 1) := by decide +kernel
theorem dX6_wordAt_1 : decode cX6_wordAt 1 = .ok (.getfield 17, 3) := by decide +kernel
theorem dX6_wordAt_4 : decode cX6_wordAt 4 = .ok (.iload_n 1, 1) := by decide +kernel
theorem dX6_wordAt_5 : decode cX6_wordAt 5 = .ok (.bipush 6, 2) := by decide +kernel
theorem dX6_wordAt_7 : decode cX6_wordAt 7 = .ok (.ishl, 1) := by decide +kernel
theorem dX6_wordAt_8 : decode cX6_wordAt 8 = .ok (.iload_n 2, 1) := by decide +kernel
theorem dX6_wordAt_9 : decode cX6_wordAt 9 = .ok (.bipush 10, 2) := by decide +kernel
theorem dX6_wordAt_11 : decode cX6_wordAt 11 = .ok (.iushr, 1) := by decide +kernel
theorem dX6_wordAt_12 : decode cX6_wordAt 12 = .ok (.bipush 63, 2) := by decide +kernel
theorem dX6_wordAt_14 : decode cX6_wordAt 14 = .ok (.iand, 1) := by decide +kernel
theorem dX6_wordAt_15 : decode cX6_wordAt 15 = .ok (.ior, 1) := by decide +kernel
theorem dX6_wordAt_16 : decode cX6_wordAt 16 = .ok (.iaload, 1) := by decide +kernel
theorem dX6_wordAt_17 : decode cX6_wordAt 17 = .ok (.iconst 3, 1) := by decide +kernel
theorem dX6_wordAt_18 : decode cX6_wordAt 18 = .ok (.ishr, 1) := by decide +kernel
theorem dX6_wordAt_19 : decode cX6_wordAt 19 = .ok (.istore_n 3, 1) := by decide +kernel
theorem dX6_wordAt_20 : decode cX6_wordAt 20 = .ok (.aload_n 0, 1) := by decide +kernel
theorem dX6_wordAt_21 : decode cX6_wordAt 21 = .ok (.getfield 10, 3) := by decide +kernel
theorem dX6_wordAt_24 : decode cX6_wordAt 24 = .ok (.iload_n 3, 1) := by decide +kernel
theorem dX6_wordAt_25 : decode cX6_wordAt 25 = .ok (.bipush 8, 2) := by decide +kernel
theorem dX6_wordAt_27 : decode cX6_wordAt 27 = .ok (.ishl, 1) := by decide +kernel
theorem dX6_wordAt_28 : decode cX6_wordAt 28 = .ok (.iload_n 2, 1) := by decide +kernel
theorem dX6_wordAt_29 : decode cX6_wordAt 29 = .ok (.iconst 2, 1) := by decide +kernel
theorem dX6_wordAt_30 : decode cX6_wordAt 30 = .ok (.iushr, 1) := by decide +kernel
theorem dX6_wordAt_31 : decode cX6_wordAt 31 = .ok (.sipush 255, 3) := by decide +kernel
theorem dX6_wordAt_34 : decode cX6_wordAt 34 = .ok (.iand, 1) := by decide +kernel
theorem dX6_wordAt_35 : decode cX6_wordAt 35 = .ok (.ior, 1) := by decide +kernel
theorem dX6_wordAt_36 : decode cX6_wordAt 36 = .ok (.iaload, 1) := by decide +kernel
theorem dX6_wordAt_37 : decode cX6_wordAt 37 = .ok (.ireturn, 1) := by decide +kernel
theorem dX6_halfAt_0 : decode cX6_halfAt 0 = .ok (.aload_n 0, 1) := by decide +kernel
theorem dX6_halfAt_1 : decode cX6_halfAt 1 = .ok (.getfield 17, 3) := by decide +kernel
theorem dX6_halfAt_4 : decode cX6_halfAt 4 = .ok (.iload_n 1, 1) := by decide +kernel
theorem dX6_halfAt_5 : decode cX6_halfAt 5 = .ok (.bipush 6, 2) := by decide +kernel
theorem dX6_halfAt_7 : decode cX6_halfAt 7 = .ok (.ishl, 1) := by decide +kernel
theorem dX6_halfAt_8 : decode cX6_halfAt 8 = .ok (.iload_n 2, 1) := by decide +kernel
theorem dX6_halfAt_9 : decode cX6_halfAt 9 = .ok (.bipush 10, 2) := by decide +kernel
theorem dX6_halfAt_11 : decode cX6_halfAt 11 = .ok (.iushr, 1) := by decide +kernel
theorem dX6_halfAt_12 : decode cX6_halfAt 12 = .ok (.bipush 63, 2) := by decide +kernel
theorem dX6_halfAt_14 : decode cX6_halfAt 14 = .ok (.iand, 1) := by decide +kernel
theorem dX6_halfAt_15 : decode cX6_halfAt 15 = .ok (.ior, 1) := by decide +kernel
theorem dX6_halfAt_16 : decode cX6_halfAt 16 = .ok (.iaload, 1) := by decide +kernel
theorem dX6_halfAt_17 : decode cX6_halfAt 17 = .ok (.iconst 3, 1) := by decide +kernel
theorem dX6_halfAt_18 : decode cX6_halfAt 18 = .ok (.ishr, 1) := by decide +kernel
theorem dX6_halfAt_19 : decode cX6_halfAt 19 = .ok (.istore_n 3, 1) := by decide +kernel
theorem dX6_halfAt_20 : decode cX6_halfAt 20 = .ok (.aload_n 0, 1) := by decide +kernel
theorem dX6_halfAt_21 : decode cX6_halfAt 21 = .ok (.getfield 10, 3) := by decide +kernel
theorem dX6_halfAt_24 : decode cX6_halfAt 24 = .ok (.iload_n 3, 1) := by decide +kernel
theorem dX6_halfAt_25 : decode cX6_halfAt 25 = .ok (.bipush 8, 2) := by decide +kernel
theorem dX6_halfAt_27 : decode cX6_halfAt 27 = .ok (.ishl, 1) := by decide +kernel
theorem dX6_halfAt_28 : decode cX6_halfAt 28 = .ok (.iload_n 2, 1) := by decide +kernel
theorem dX6_halfAt_29 : decode cX6_halfAt 29 = .ok (.iconst 2, 1) := by decide +kernel
theorem dX6_halfAt_30 : decode cX6_halfAt 30 = .ok (.iushr, 1) := by decide +kernel
theorem dX6_halfAt_31 : decode cX6_halfAt 31 = .ok (.sipush 255, 3) := by decide +kernel
theorem dX6_halfAt_34 : decode cX6_halfAt 34 = .ok (.iand, 1) := by decide +kernel
theorem dX6_halfAt_35 : decode cX6_halfAt 35 = .ok (.ior, 1) := by decide +kernel
theorem dX6_halfAt_36 : decode cX6_halfAt 36 = .ok (.iaload, 1) := by decide +kernel
theorem dX6_halfAt_37 : decode cX6_halfAt 37 = .ok (.bipush 8, 2) := by decide +kernel
theorem dX6_halfAt_39 : decode cX6_halfAt 39 = .ok (.iload_n 2, 1) := by decide +kernel
theorem dX6_halfAt_40 : decode cX6_halfAt 40 = .ok (.iconst 2, 1) := by decide +kernel
theorem dX6_halfAt_41 : decode cX6_halfAt 41 = .ok (.iand, 1) := by decide +kernel
theorem dX6_halfAt_42 : decode cX6_halfAt 42 = .ok (.imul, 1) := by decide +kernel
theorem dX6_halfAt_43 : decode cX6_halfAt 43 = .ok (.iushr, 1) := by decide +kernel
theorem dX6_halfAt_44 : decode cX6_halfAt 44 = .ok (.ldc 112, 2) := by decide +kernel
theorem dX6_halfAt_46 : decode cX6_halfAt 46 = .ok (.iand, 1) := by decide +kernel
theorem dX6_halfAt_47 : decode cX6_halfAt 47 = .ok (.ireturn, 1) := by decide +kernel
theorem dX6_byteAt_0 : decode cX6_byteAt 0 = .ok (.aload_n 0, 1) := by decide +kernel
theorem dX6_byteAt_1 : decode cX6_byteAt 1 = .ok (.getfield 17, 3) := by decide +kernel
theorem dX6_byteAt_4 : decode cX6_byteAt 4 = .ok (.iload_n 1, 1) := by decide +kernel
theorem dX6_byteAt_5 : decode cX6_byteAt 5 = .ok (.bipush 6, 2) := by decide +kernel
theorem dX6_byteAt_7 : decode cX6_byteAt 7 = .ok (.ishl, 1) := by decide +kernel
theorem dX6_byteAt_8 : decode cX6_byteAt 8 = .ok (.iload_n 2, 1) := by decide +kernel
theorem dX6_byteAt_9 : decode cX6_byteAt 9 = .ok (.bipush 10, 2) := by decide +kernel
theorem dX6_byteAt_11 : decode cX6_byteAt 11 = .ok (.iushr, 1) := by decide +kernel
theorem dX6_byteAt_12 : decode cX6_byteAt 12 = .ok (.bipush 63, 2) := by decide +kernel
theorem dX6_byteAt_14 : decode cX6_byteAt 14 = .ok (.iand, 1) := by decide +kernel
theorem dX6_byteAt_15 : decode cX6_byteAt 15 = .ok (.ior, 1) := by decide +kernel
theorem dX6_byteAt_16 : decode cX6_byteAt 16 = .ok (.iaload, 1) := by decide +kernel
theorem dX6_byteAt_17 : decode cX6_byteAt 17 = .ok (.iconst 3, 1) := by decide +kernel
theorem dX6_byteAt_18 : decode cX6_byteAt 18 = .ok (.ishr, 1) := by decide +kernel
theorem dX6_byteAt_19 : decode cX6_byteAt 19 = .ok (.istore_n 3, 1) := by decide +kernel
theorem dX6_byteAt_20 : decode cX6_byteAt 20 = .ok (.aload_n 0, 1) := by decide +kernel
theorem dX6_byteAt_21 : decode cX6_byteAt 21 = .ok (.getfield 10, 3) := by decide +kernel
theorem dX6_byteAt_24 : decode cX6_byteAt 24 = .ok (.iload_n 3, 1) := by decide +kernel
theorem dX6_byteAt_25 : decode cX6_byteAt 25 = .ok (.bipush 8, 2) := by decide +kernel
theorem dX6_byteAt_27 : decode cX6_byteAt 27 = .ok (.ishl, 1) := by decide +kernel
theorem dX6_byteAt_28 : decode cX6_byteAt 28 = .ok (.iload_n 2, 1) := by decide +kernel
theorem dX6_byteAt_29 : decode cX6_byteAt 29 = .ok (.iconst 2, 1) := by decide +kernel
theorem dX6_byteAt_30 : decode cX6_byteAt 30 = .ok (.iushr, 1) := by decide +kernel
theorem dX6_byteAt_31 : decode cX6_byteAt 31 = .ok (.sipush 255, 3) := by decide +kernel
theorem dX6_byteAt_34 : decode cX6_byteAt 34 = .ok (.iand, 1) := by decide +kernel
theorem dX6_byteAt_35 : decode cX6_byteAt 35 = .ok (.ior, 1) := by decide +kernel
theorem dX6_byteAt_36 : decode cX6_byteAt 36 = .ok (.iaload, 1) := by decide +kernel
theorem dX6_byteAt_37 : decode cX6_byteAt 37 = .ok (.bipush 8, 2) := by decide +kernel
theorem dX6_byteAt_39 : decode cX6_byteAt 39 = .ok (.iload_n 2, 1) := by decide +kernel
theorem dX6_byteAt_40 : decode cX6_byteAt 40 = .ok (.iconst 3, 1) := by decide +kernel
theorem dX6_byteAt_41 : decode cX6_byteAt 41 = .ok (.iand, 1) := by decide +kernel
theorem dX6_byteAt_42 : decode cX6_byteAt 42 = .ok (.imul, 1) := by decide +kernel
theorem dX6_byteAt_43 : decode cX6_byteAt 43 = .ok (.iushr, 1) := by decide +kernel
theorem dX6_byteAt_44 : decode cX6_byteAt 44 = .ok (.sipush 255, 3) := by decide +kernel
theorem dX6_byteAt_47 : decode cX6_byteAt 47 = .ok (.iand, 1) := by decide +kernel
theorem dX6_byteAt_48 : decode cX6_byteAt 48 = .ok (.ireturn, 1) := by decide +kernel
theorem dX6_put_0 : decode cX6_put 0 = .ok (.bipush 8, 2) := by decide +kernel
theorem dX6_put_2 : decode cX6_put 2 = .ok (.iload_n 2, 1) := by decide +kernel
theorem dX6_put_3 : decode cX6_put 3 = .ok (.iconst 3, 1) := by decide +kernel
theorem dX6_put_4 : decode cX6_put 4 = .ok (.iand, 1) := by decide +kernel
theorem dX6_put_5 : decode cX6_put 5 = .ok (.imul, 1) := by decide +kernel
theorem dX6_put_6 : decode cX6_put 6 = .ok (.istore 5, 2) := by decide +kernel
theorem dX6_put_8 : decode cX6_put 8 = .ok (.aload_n 0, 1) := by decide +kernel
theorem dX6_put_9 : decode cX6_put 9 = .ok (.getfield 17, 3) := by decide +kernel
theorem dX6_put_12 : decode cX6_put 12 = .ok (.iload_n 1, 1) := by decide +kernel
theorem dX6_put_13 : decode cX6_put 13 = .ok (.bipush 6, 2) := by decide +kernel
theorem dX6_put_15 : decode cX6_put 15 = .ok (.ishl, 1) := by decide +kernel
theorem dX6_put_16 : decode cX6_put 16 = .ok (.iload_n 2, 1) := by decide +kernel
theorem dX6_put_17 : decode cX6_put 17 = .ok (.bipush 10, 2) := by decide +kernel
theorem dX6_put_19 : decode cX6_put 19 = .ok (.iushr, 1) := by decide +kernel
theorem dX6_put_20 : decode cX6_put 20 = .ok (.bipush 63, 2) := by decide +kernel
theorem dX6_put_22 : decode cX6_put 22 = .ok (.iand, 1) := by decide +kernel
theorem dX6_put_23 : decode cX6_put 23 = .ok (.ior, 1) := by decide +kernel
theorem dX6_put_24 : decode cX6_put 24 = .ok (.iaload, 1) := by decide +kernel
theorem dX6_put_25 : decode cX6_put 25 = .ok (.iconst 3, 1) := by decide +kernel
theorem dX6_put_26 : decode cX6_put 26 = .ok (.ishr, 1) := by decide +kernel
theorem dX6_put_27 : decode cX6_put 27 = .ok (.bipush 8, 2) := by decide +kernel
theorem dX6_put_29 : decode cX6_put 29 = .ok (.ishl, 1) := by decide +kernel
theorem dX6_put_30 : decode cX6_put 30 = .ok (.iload_n 2, 1) := by decide +kernel
theorem dX6_put_31 : decode cX6_put 31 = .ok (.iconst 2, 1) := by decide +kernel
theorem dX6_put_32 : decode cX6_put 32 = .ok (.iushr, 1) := by decide +kernel
theorem dX6_put_33 : decode cX6_put 33 = .ok (.sipush 255, 3) := by decide +kernel
theorem dX6_put_36 : decode cX6_put 36 = .ok (.iand, 1) := by decide +kernel
theorem dX6_put_37 : decode cX6_put 37 = .ok (.ior, 1) := by decide +kernel
theorem dX6_put_38 : decode cX6_put 38 = .ok (.istore 6, 2) := by decide +kernel
theorem dX6_put_40 : decode cX6_put 40 = .ok (.aload_n 0, 1) := by decide +kernel
theorem dX6_put_41 : decode cX6_put 41 = .ok (.getfield 10, 3) := by decide +kernel
theorem dX6_put_44 : decode cX6_put 44 = .ok (.iload 6, 2) := by decide +kernel
theorem dX6_put_46 : decode cX6_put 46 = .ok (.aload_n 0, 1) := by decide +kernel
theorem dX6_put_47 : decode cX6_put 47 = .ok (.getfield 10, 3) := by decide +kernel
theorem dX6_put_50 : decode cX6_put 50 = .ok (.iload 6, 2) := by decide +kernel
theorem dX6_put_52 : decode cX6_put 52 = .ok (.iaload, 1) := by decide +kernel
theorem dX6_put_53 : decode cX6_put 53 = .ok (.iload_n 3, 1) := by decide +kernel
theorem dX6_put_54 : decode cX6_put 54 = .ok (.iload 5, 2) := by decide +kernel
theorem dX6_put_56 : decode cX6_put 56 = .ok (.ishl, 1) := by decide +kernel
theorem dX6_put_57 : decode cX6_put 57 = .ok (.iconst (-1), 1) := by decide +kernel
theorem dX6_put_58 : decode cX6_put 58 = .ok (.ixor, 1) := by decide +kernel
theorem dX6_put_59 : decode cX6_put 59 = .ok (.iand, 1) := by decide +kernel
theorem dX6_put_60 : decode cX6_put 60 = .ok (.iload 4, 2) := by decide +kernel
theorem dX6_put_62 : decode cX6_put 62 = .ok (.iload_n 3, 1) := by decide +kernel
theorem dX6_put_63 : decode cX6_put 63 = .ok (.iand, 1) := by decide +kernel
theorem dX6_put_64 : decode cX6_put 64 = .ok (.iload 5, 2) := by decide +kernel
theorem dX6_put_66 : decode cX6_put 66 = .ok (.ishl, 1) := by decide +kernel
theorem dX6_put_67 : decode cX6_put 67 = .ok (.ior, 1) := by decide +kernel
theorem dX6_put_68 : decode cX6_put 68 = .ok (.iastore, 1) := by decide +kernel
theorem dX6_put_69 : decode cX6_put 69 = .ok (.return_, 1) := by decide +kernel
theorem dX6_framesFree_0 : decode cX6_framesFree 0 = .ok (.sipush 256, 3) := by decide +kernel
theorem dX6_framesFree_3 : decode cX6_framesFree 3 = .ok (.aload_n 0, 1) := by decide +kernel
theorem dX6_framesFree_4 : decode cX6_framesFree 4 = .ok (.getfield 52, 3) := by decide +kernel
theorem dX6_framesFree_7 : decode cX6_framesFree 7 = .ok (.isub, 1) := by decide +kernel
theorem dX6_framesFree_8 : decode cX6_framesFree 8 = .ok (.ireturn, 1) := by decide +kernel
theorem dX6_framesFor_0 : decode cX6_framesFor 0 = .ok (.iload_n 3, 1) := by decide +kernel
theorem dX6_framesFor_1 : decode cX6_framesFor 1 = .ok (.ifCond .gt 5, 3) := by decide +kernel
theorem dX6_framesFor_4 : decode cX6_framesFor 4 = .ok (.iconst 0, 1) := by decide +kernel
theorem dX6_framesFor_5 : decode cX6_framesFor 5 = .ok (.ireturn, 1) := by decide +kernel
theorem dX6_framesFor_6 : decode cX6_framesFor 6 = .ok (.iload_n 1, 1) := by decide +kernel
theorem dX6_framesFor_7 : decode cX6_framesFor 7 = .ok (.bipush 6, 2) := by decide +kernel
theorem dX6_framesFor_9 : decode cX6_framesFor 9 = .ok (.ishl, 1) := by decide +kernel
theorem dX6_framesFor_10 : decode cX6_framesFor 10 = .ok (.iload_n 2, 1) := by decide +kernel
theorem dX6_framesFor_11 : decode cX6_framesFor 11 = .ok (.bipush 10, 2) := by decide +kernel
theorem dX6_framesFor_13 : decode cX6_framesFor 13 = .ok (.iushr, 1) := by decide +kernel
theorem dX6_framesFor_14 : decode cX6_framesFor 14 = .ok (.bipush 63, 2) := by decide +kernel
theorem dX6_framesFor_16 : decode cX6_framesFor 16 = .ok (.iand, 1) := by decide +kernel
theorem dX6_framesFor_17 : decode cX6_framesFor 17 = .ok (.ior, 1) := by decide +kernel
theorem dX6_framesFor_18 : decode cX6_framesFor 18 = .ok (.istore 4, 2) := by decide +kernel
theorem dX6_framesFor_20 : decode cX6_framesFor 20 = .ok (.iload_n 1, 1) := by decide +kernel
theorem dX6_framesFor_21 : decode cX6_framesFor 21 = .ok (.bipush 6, 2) := by decide +kernel
theorem dX6_framesFor_23 : decode cX6_framesFor 23 = .ok (.ishl, 1) := by decide +kernel
theorem dX6_framesFor_24 : decode cX6_framesFor 24 = .ok (.iload_n 2, 1) := by decide +kernel
theorem dX6_framesFor_25 : decode cX6_framesFor 25 = .ok (.iload_n 3, 1) := by decide +kernel
theorem dX6_framesFor_26 : decode cX6_framesFor 26 = .ok (.iadd, 1) := by decide +kernel
theorem dX6_framesFor_27 : decode cX6_framesFor 27 = .ok (.iconst 1, 1) := by decide +kernel
theorem dX6_framesFor_28 : decode cX6_framesFor 28 = .ok (.isub, 1) := by decide +kernel
theorem dX6_framesFor_29 : decode cX6_framesFor 29 = .ok (.bipush 10, 2) := by decide +kernel
theorem dX6_framesFor_31 : decode cX6_framesFor 31 = .ok (.iushr, 1) := by decide +kernel
theorem dX6_framesFor_32 : decode cX6_framesFor 32 = .ok (.bipush 63, 2) := by decide +kernel
theorem dX6_framesFor_34 : decode cX6_framesFor 34 = .ok (.iand, 1) := by decide +kernel
theorem dX6_framesFor_35 : decode cX6_framesFor 35 = .ok (.ior, 1) := by decide +kernel
theorem dX6_framesFor_36 : decode cX6_framesFor 36 = .ok (.istore 5, 2) := by decide +kernel
theorem dX6_framesFor_38 : decode cX6_framesFor 38 = .ok (.aload_n 0, 1) := by decide +kernel
theorem dX6_framesFor_39 : decode cX6_framesFor 39 = .ok (.getfield 14, 3) := by decide +kernel
theorem dX6_framesFor_42 : decode cX6_framesFor 42 = .ok (.aload_n 0, 1) := by decide +kernel
theorem dX6_framesFor_43 : decode cX6_framesFor 43 = .ok (.getfield 17, 3) := by decide +kernel
theorem dX6_framesFor_46 : decode cX6_framesFor 46 = .ok (.iload 4, 2) := by decide +kernel
theorem dX6_framesFor_48 : decode cX6_framesFor 48 = .ok (.iaload, 1) := by decide +kernel
theorem dX6_framesFor_49 : decode cX6_framesFor 49 = .ok (.iconst 3, 1) := by decide +kernel
theorem dX6_framesFor_50 : decode cX6_framesFor 50 = .ok (.ishr, 1) := by decide +kernel
theorem dX6_framesFor_51 : decode cX6_framesFor 51 = .ok (.iaload, 1) := by decide +kernel
theorem dX6_framesFor_52 : decode cX6_framesFor 52 = .ok (.iconst 1, 1) := by decide +kernel
theorem dX6_framesFor_53 : decode cX6_framesFor 53 = .ok (.if_icmp .le 7, 3) := by decide +kernel
theorem dX6_framesFor_56 : decode cX6_framesFor 56 = .ok (.iconst 1, 1) := by decide +kernel
theorem dX6_framesFor_57 : decode cX6_framesFor 57 = .ok (.goto 4, 3) := by decide +kernel
theorem dX6_framesFor_60 : decode cX6_framesFor 60 = .ok (.iconst 0, 1) := by decide +kernel
theorem dX6_framesFor_61 : decode cX6_framesFor 61 = .ok (.istore 6, 2) := by decide +kernel
theorem dX6_framesFor_63 : decode cX6_framesFor 63 = .ok (.iload 5, 2) := by decide +kernel
theorem dX6_framesFor_65 : decode cX6_framesFor 65 = .ok (.iload 4, 2) := by decide +kernel
theorem dX6_framesFor_67 : decode cX6_framesFor 67 = .ok (.if_icmp .eq 28, 3) := by decide +kernel
theorem dX6_framesFor_70 : decode cX6_framesFor 70 = .ok (.aload_n 0, 1) := by decide +kernel
theorem dX6_framesFor_71 : decode cX6_framesFor 71 = .ok (.getfield 14, 3) := by decide +kernel
theorem dX6_framesFor_74 : decode cX6_framesFor 74 = .ok (.aload_n 0, 1) := by decide +kernel
theorem dX6_framesFor_75 : decode cX6_framesFor 75 = .ok (.getfield 17, 3) := by decide +kernel
theorem dX6_framesFor_78 : decode cX6_framesFor 78 = .ok (.iload 5, 2) := by decide +kernel
theorem dX6_framesFor_80 : decode cX6_framesFor 80 = .ok (.iaload, 1) := by decide +kernel
theorem dX6_framesFor_81 : decode cX6_framesFor 81 = .ok (.iconst 3, 1) := by decide +kernel
theorem dX6_framesFor_82 : decode cX6_framesFor 82 = .ok (.ishr, 1) := by decide +kernel
theorem dX6_framesFor_83 : decode cX6_framesFor 83 = .ok (.iaload, 1) := by decide +kernel
theorem dX6_framesFor_84 : decode cX6_framesFor 84 = .ok (.iconst 1, 1) := by decide +kernel
theorem dX6_framesFor_85 : decode cX6_framesFor 85 = .ok (.if_icmp .le 10, 3) := by decide +kernel
theorem dX6_framesFor_88 : decode cX6_framesFor 88 = .ok (.iload 6, 2) := by decide +kernel
theorem dX6_framesFor_90 : decode cX6_framesFor 90 = .ok (.iconst 1, 1) := by decide +kernel
theorem dX6_framesFor_91 : decode cX6_framesFor 91 = .ok (.iadd, 1) := by decide +kernel
theorem dX6_framesFor_92 : decode cX6_framesFor 92 = .ok (.goto 5, 3) := by decide +kernel
theorem dX6_framesFor_95 : decode cX6_framesFor 95 = .ok (.iload 6, 2) := by decide +kernel
theorem dX6_framesFor_97 : decode cX6_framesFor 97 = .ok (.ireturn, 1) := by decide +kernel
theorem dX6_own_0 : decode cX6_own 0 = .ok (.iload_n 1, 1) := by decide +kernel
theorem dX6_own_1 : decode cX6_own 1 = .ok (.bipush 6, 2) := by decide +kernel
theorem dX6_own_3 : decode cX6_own 3 = .ok (.ishl, 1) := by decide +kernel
theorem dX6_own_4 : decode cX6_own 4 = .ok (.iload_n 2, 1) := by decide +kernel
theorem dX6_own_5 : decode cX6_own 5 = .ok (.bipush 10, 2) := by decide +kernel
theorem dX6_own_7 : decode cX6_own 7 = .ok (.iushr, 1) := by decide +kernel
theorem dX6_own_8 : decode cX6_own 8 = .ok (.bipush 63, 2) := by decide +kernel
theorem dX6_own_10 : decode cX6_own 10 = .ok (.iand, 1) := by decide +kernel
theorem dX6_own_11 : decode cX6_own 11 = .ok (.ior, 1) := by decide +kernel
theorem dX6_own_12 : decode cX6_own 12 = .ok (.istore_n 3, 1) := by decide +kernel
theorem dX6_own_13 : decode cX6_own 13 = .ok (.aload_n 0, 1) := by decide +kernel
theorem dX6_own_14 : decode cX6_own 14 = .ok (.getfield 17, 3) := by decide +kernel
theorem dX6_own_17 : decode cX6_own 17 = .ok (.iload_n 3, 1) := by decide +kernel
theorem dX6_own_18 : decode cX6_own 18 = .ok (.iaload, 1) := by decide +kernel
theorem dX6_own_19 : decode cX6_own 19 = .ok (.iconst 3, 1) := by decide +kernel
theorem dX6_own_20 : decode cX6_own 20 = .ok (.ishr, 1) := by decide +kernel
theorem dX6_own_21 : decode cX6_own 21 = .ok (.istore 4, 2) := by decide +kernel
theorem dX6_own_23 : decode cX6_own 23 = .ok (.aload_n 0, 1) := by decide +kernel
theorem dX6_own_24 : decode cX6_own 24 = .ok (.getfield 14, 3) := by decide +kernel
theorem dX6_own_27 : decode cX6_own 27 = .ok (.iload 4, 2) := by decide +kernel
theorem dX6_own_29 : decode cX6_own 29 = .ok (.iaload, 1) := by decide +kernel
theorem dX6_own_30 : decode cX6_own 30 = .ok (.iconst 1, 1) := by decide +kernel
theorem dX6_own_31 : decode cX6_own 31 = .ok (.if_icmp .gt 5, 3) := by decide +kernel
theorem dX6_own_34 : decode cX6_own 34 = .ok (.iconst 1, 1) := by decide +kernel
theorem dX6_own_35 : decode cX6_own 35 = .ok (.ireturn, 1) := by decide +kernel
theorem dX6_own_36 : decode cX6_own 36 = .ok (.iconst 0, 1) := by decide +kernel
theorem dX6_own_37 : decode cX6_own 37 = .ok (.istore 5, 2) := by decide +kernel
theorem dX6_own_39 : decode cX6_own 39 = .ok (.iload 5, 2) := by decide +kernel
theorem dX6_own_41 : decode cX6_own 41 = .ok (.sipush 256, 3) := by decide +kernel
theorem dX6_own_44 : decode cX6_own 44 = .ok (.if_icmp .ge 96, 3) := by decide +kernel
theorem dX6_own_47 : decode cX6_own 47 = .ok (.aload_n 0, 1) := by decide +kernel
theorem dX6_own_48 : decode cX6_own 48 = .ok (.getfield 14, 3) := by decide +kernel
theorem dX6_own_51 : decode cX6_own 51 = .ok (.iload 5, 2) := by decide +kernel
theorem dX6_own_53 : decode cX6_own 53 = .ok (.iaload, 1) := by decide +kernel
theorem dX6_own_54 : decode cX6_own 54 = .ok (.ifCond .ne 80, 3) := by decide +kernel
theorem dX6_own_57 : decode cX6_own 57 = .ok (.aload_n 0, 1) := by decide +kernel
theorem dX6_own_58 : decode cX6_own 58 = .ok (.getfield 10, 3) := by decide +kernel
theorem dX6_own_61 : decode cX6_own 61 = .ok (.iload 4, 2) := by decide +kernel
theorem dX6_own_63 : decode cX6_own 63 = .ok (.sipush 256, 3) := by decide +kernel
theorem dX6_own_66 : decode cX6_own 66 = .ok (.imul, 1) := by decide +kernel
theorem dX6_own_67 : decode cX6_own 67 = .ok (.aload_n 0, 1) := by decide +kernel
theorem dX6_own_68 : decode cX6_own 68 = .ok (.getfield 10, 3) := by decide +kernel
theorem dX6_own_71 : decode cX6_own 71 = .ok (.iload 5, 2) := by decide +kernel
theorem dX6_own_73 : decode cX6_own 73 = .ok (.sipush 256, 3) := by decide +kernel
theorem dX6_own_76 : decode cX6_own 76 = .ok (.imul, 1) := by decide +kernel
theorem dX6_own_77 : decode cX6_own 77 = .ok (.sipush 256, 3) := by decide +kernel
theorem dX6_own_80 : decode cX6_own 80 = .ok (.invokestatic 95, 3) := by decide +kernel
theorem dX6_own_83 : decode cX6_own 83 = .ok (.aload_n 0, 1) := by decide +kernel
theorem dX6_own_84 : decode cX6_own 84 = .ok (.getfield 14, 3) := by decide +kernel
theorem dX6_own_87 : decode cX6_own 87 = .ok (.iload 4, 2) := by decide +kernel
theorem dX6_own_89 : decode cX6_own 89 = .ok (.dup2, 1) := by decide +kernel
theorem dX6_own_90 : decode cX6_own 90 = .ok (.iaload, 1) := by decide +kernel
theorem dX6_own_91 : decode cX6_own 91 = .ok (.iconst 1, 1) := by decide +kernel
theorem dX6_own_92 : decode cX6_own 92 = .ok (.isub, 1) := by decide +kernel
theorem dX6_own_93 : decode cX6_own 93 = .ok (.iastore, 1) := by decide +kernel
theorem dX6_own_94 : decode cX6_own 94 = .ok (.aload_n 0, 1) := by decide +kernel
theorem dX6_own_95 : decode cX6_own 95 = .ok (.getfield 14, 3) := by decide +kernel
theorem dX6_own_98 : decode cX6_own 98 = .ok (.iload 5, 2) := by decide +kernel
theorem dX6_own_100 : decode cX6_own 100 = .ok (.iconst 1, 1) := by decide +kernel
theorem dX6_own_101 : decode cX6_own 101 = .ok (.iastore, 1) := by decide +kernel
theorem dX6_own_102 : decode cX6_own 102 = .ok (.aload_n 0, 1) := by decide +kernel
theorem dX6_own_103 : decode cX6_own 103 = .ok (.dup, 1) := by decide +kernel
theorem dX6_own_104 : decode cX6_own 104 = .ok (.getfield 52, 3) := by decide +kernel
theorem dX6_own_107 : decode cX6_own 107 = .ok (.iconst 1, 1) := by decide +kernel
theorem dX6_own_108 : decode cX6_own 108 = .ok (.iadd, 1) := by decide +kernel
theorem dX6_own_109 : decode cX6_own 109 = .ok (.putfield 52, 3) := by decide +kernel
theorem dX6_own_112 : decode cX6_own 112 = .ok (.aload_n 0, 1) := by decide +kernel
theorem dX6_own_113 : decode cX6_own 113 = .ok (.getfield 17, 3) := by decide +kernel
theorem dX6_own_116 : decode cX6_own 116 = .ok (.iload_n 3, 1) := by decide +kernel
theorem dX6_own_117 : decode cX6_own 117 = .ok (.iload 5, 2) := by decide +kernel
theorem dX6_own_119 : decode cX6_own 119 = .ok (.iconst 3, 1) := by decide +kernel
theorem dX6_own_120 : decode cX6_own 120 = .ok (.ishl, 1) := by decide +kernel
theorem dX6_own_121 : decode cX6_own 121 = .ok (.aload_n 0, 1) := by decide +kernel
theorem dX6_own_122 : decode cX6_own 122 = .ok (.getfield 17, 3) := by decide +kernel
theorem dX6_own_125 : decode cX6_own 125 = .ok (.iload_n 3, 1) := by decide +kernel
theorem dX6_own_126 : decode cX6_own 126 = .ok (.iaload, 1) := by decide +kernel
theorem dX6_own_127 : decode cX6_own 127 = .ok (.bipush 7, 2) := by decide +kernel
theorem dX6_own_129 : decode cX6_own 129 = .ok (.iand, 1) := by decide +kernel
theorem dX6_own_130 : decode cX6_own 130 = .ok (.ior, 1) := by decide +kernel
theorem dX6_own_131 : decode cX6_own 131 = .ok (.iastore, 1) := by decide +kernel
theorem dX6_own_132 : decode cX6_own 132 = .ok (.iconst 1, 1) := by decide +kernel
theorem dX6_own_133 : decode cX6_own 133 = .ok (.ireturn, 1) := by decide +kernel
theorem dX6_own_134 : decode cX6_own 134 = .ok (.iinc 5 1, 3) := by decide +kernel
theorem dX6_own_137 : decode cX6_own 137 = .ok (.goto (-98), 3) := by decide +kernel
theorem dX6_own_140 : decode cX6_own 140 = .ok (.iconst 0, 1) := by decide +kernel
theorem dX6_own_141 : decode cX6_own 141 = .ok (.ireturn, 1) := by decide +kernel
theorem dX6_addPages_0 : decode cX6_addPages 0 = .ok (.iload_n 2, 1) := by decide +kernel
theorem dX6_addPages_1 : decode cX6_addPages 1 = .ok (.istore 5, 2) := by decide +kernel
theorem dX6_addPages_3 : decode cX6_addPages 3 = .ok (.iconst 0, 1) := by decide +kernel
theorem dX6_addPages_4 : decode cX6_addPages 4 = .ok (.istore 6, 2) := by decide +kernel
theorem dX6_addPages_6 : decode cX6_addPages 6 = .ok (.iload 6, 2) := by decide +kernel
theorem dX6_addPages_8 : decode cX6_addPages 8 = .ok (.sipush 256, 3) := by decide +kernel
theorem dX6_addPages_11 : decode cX6_addPages 11 = .ok (.if_icmp .ge 106, 3) := by decide +kernel
theorem dX6_addPages_14 : decode cX6_addPages 14 = .ok (.iload 5, 2) := by decide +kernel
theorem dX6_addPages_16 : decode cX6_addPages 16 = .ok (.iload_n 2, 1) := by decide +kernel
theorem dX6_addPages_17 : decode cX6_addPages 17 = .ok (.iload_n 3, 1) := by decide +kernel
theorem dX6_addPages_18 : decode cX6_addPages 18 = .ok (.iadd, 1) := by decide +kernel
theorem dX6_addPages_19 : decode cX6_addPages 19 = .ok (.if_icmp .ge 98, 3) := by decide +kernel
theorem dX6_addPages_22 : decode cX6_addPages 22 = .ok (.iload 5, 2) := by decide +kernel
theorem dX6_addPages_24 : decode cX6_addPages 24 = .ok (.bipush 64, 2) := by decide +kernel
theorem dX6_addPages_26 : decode cX6_addPages 26 = .ok (.if_icmp .ge 91, 3) := by decide +kernel
theorem dX6_addPages_29 : decode cX6_addPages 29 = .ok (.aload_n 0, 1) := by decide +kernel
theorem dX6_addPages_30 : decode cX6_addPages 30 = .ok (.getfield 14, 3) := by decide +kernel
theorem dX6_addPages_33 : decode cX6_addPages 33 = .ok (.iload 6, 2) := by decide +kernel
theorem dX6_addPages_35 : decode cX6_addPages 35 = .ok (.iaload, 1) := by decide +kernel
theorem dX6_addPages_36 : decode cX6_addPages 36 = .ok (.ifCond .ne 75, 3) := by decide +kernel
theorem dX6_addPages_39 : decode cX6_addPages 39 = .ok (.iconst 0, 1) := by decide +kernel
theorem dX6_addPages_40 : decode cX6_addPages 40 = .ok (.istore 7, 2) := by decide +kernel
theorem dX6_addPages_42 : decode cX6_addPages 42 = .ok (.iload 7, 2) := by decide +kernel
theorem dX6_addPages_44 : decode cX6_addPages 44 = .ok (.sipush 256, 3) := by decide +kernel
theorem dX6_addPages_47 : decode cX6_addPages 47 = .ok (.if_icmp .ge 24, 3) := by decide +kernel
theorem dX6_addPages_50 : decode cX6_addPages 50 = .ok (.aload_n 0, 1) := by decide +kernel
theorem dX6_addPages_51 : decode cX6_addPages 51 = .ok (.getfield 10, 3) := by decide +kernel
theorem dX6_addPages_54 : decode cX6_addPages 54 = .ok (.iload 6, 2) := by decide +kernel
theorem dX6_addPages_56 : decode cX6_addPages 56 = .ok (.sipush 256, 3) := by decide +kernel
theorem dX6_addPages_59 : decode cX6_addPages 59 = .ok (.imul, 1) := by decide +kernel
theorem dX6_addPages_60 : decode cX6_addPages 60 = .ok (.iload 7, 2) := by decide +kernel
theorem dX6_addPages_62 : decode cX6_addPages 62 = .ok (.iadd, 1) := by decide +kernel
theorem dX6_addPages_63 : decode cX6_addPages 63 = .ok (.iconst 0, 1) := by decide +kernel
theorem dX6_addPages_64 : decode cX6_addPages 64 = .ok (.iastore, 1) := by decide +kernel
theorem dX6_addPages_65 : decode cX6_addPages 65 = .ok (.iinc 7 1, 3) := by decide +kernel
theorem dX6_addPages_68 : decode cX6_addPages 68 = .ok (.goto (-26), 3) := by decide +kernel
theorem dX6_addPages_71 : decode cX6_addPages 71 = .ok (.aload_n 0, 1) := by decide +kernel
theorem dX6_addPages_72 : decode cX6_addPages 72 = .ok (.getfield 14, 3) := by decide +kernel
theorem dX6_addPages_75 : decode cX6_addPages 75 = .ok (.iload 6, 2) := by decide +kernel
theorem dX6_addPages_77 : decode cX6_addPages 77 = .ok (.iconst 1, 1) := by decide +kernel
theorem dX6_addPages_78 : decode cX6_addPages 78 = .ok (.iastore, 1) := by decide +kernel
theorem dX6_addPages_79 : decode cX6_addPages 79 = .ok (.aload_n 0, 1) := by decide +kernel
theorem dX6_addPages_80 : decode cX6_addPages 80 = .ok (.dup, 1) := by decide +kernel
theorem dX6_addPages_81 : decode cX6_addPages 81 = .ok (.getfield 52, 3) := by decide +kernel
theorem dX6_addPages_84 : decode cX6_addPages 84 = .ok (.iconst 1, 1) := by decide +kernel
theorem dX6_addPages_85 : decode cX6_addPages 85 = .ok (.iadd, 1) := by decide +kernel
theorem dX6_addPages_86 : decode cX6_addPages 86 = .ok (.putfield 52, 3) := by decide +kernel
theorem dX6_addPages_89 : decode cX6_addPages 89 = .ok (.aload_n 0, 1) := by decide +kernel
theorem dX6_addPages_90 : decode cX6_addPages 90 = .ok (.getfield 17, 3) := by decide +kernel
theorem dX6_addPages_93 : decode cX6_addPages 93 = .ok (.iload_n 1, 1) := by decide +kernel
theorem dX6_addPages_94 : decode cX6_addPages 94 = .ok (.bipush 6, 2) := by decide +kernel
theorem dX6_addPages_96 : decode cX6_addPages 96 = .ok (.ishl, 1) := by decide +kernel
theorem dX6_addPages_97 : decode cX6_addPages 97 = .ok (.iload 5, 2) := by decide +kernel
theorem dX6_addPages_99 : decode cX6_addPages 99 = .ok (.ior, 1) := by decide +kernel
theorem dX6_addPages_100 : decode cX6_addPages 100 = .ok (.iload 6, 2) := by decide +kernel
theorem dX6_addPages_102 : decode cX6_addPages 102 = .ok (.iconst 3, 1) := by decide +kernel
theorem dX6_addPages_103 : decode cX6_addPages 103 = .ok (.ishl, 1) := by decide +kernel
theorem dX6_addPages_104 : decode cX6_addPages 104 = .ok (.iload 4, 2) := by decide +kernel
theorem dX6_addPages_106 : decode cX6_addPages 106 = .ok (.ior, 1) := by decide +kernel
theorem dX6_addPages_107 : decode cX6_addPages 107 = .ok (.iastore, 1) := by decide +kernel
theorem dX6_addPages_108 : decode cX6_addPages 108 = .ok (.iinc 5 1, 3) := by decide +kernel
theorem dX6_addPages_111 : decode cX6_addPages 111 = .ok (.iinc 6 1, 3) := by decide +kernel
theorem dX6_addPages_114 : decode cX6_addPages 114 = .ok (.goto (-108), 3) := by decide +kernel
theorem dX6_addPages_117 : decode cX6_addPages 117 = .ok (.return_, 1) := by decide +kernel
theorem dX6_dropPage_0 : decode cX6_dropPage 0 = .ok (.aload_n 0, 1) := by decide +kernel
theorem dX6_dropPage_1 : decode cX6_dropPage 1 = .ok (.getfield 17, 3) := by decide +kernel
theorem dX6_dropPage_4 : decode cX6_dropPage 4 = .ok (.iload_n 1, 1) := by decide +kernel
theorem dX6_dropPage_5 : decode cX6_dropPage 5 = .ok (.bipush 6, 2) := by decide +kernel
theorem dX6_dropPage_7 : decode cX6_dropPage 7 = .ok (.ishl, 1) := by decide +kernel
theorem dX6_dropPage_8 : decode cX6_dropPage 8 = .ok (.iload_n 2, 1) := by decide +kernel
theorem dX6_dropPage_9 : decode cX6_dropPage 9 = .ok (.bipush 63, 2) := by decide +kernel
theorem dX6_dropPage_11 : decode cX6_dropPage 11 = .ok (.iand, 1) := by decide +kernel
theorem dX6_dropPage_12 : decode cX6_dropPage 12 = .ok (.ior, 1) := by decide +kernel
theorem dX6_dropPage_13 : decode cX6_dropPage 13 = .ok (.iaload, 1) := by decide +kernel
theorem dX6_dropPage_14 : decode cX6_dropPage 14 = .ok (.istore_n 3, 1) := by decide +kernel
theorem dX6_dropPage_15 : decode cX6_dropPage 15 = .ok (.iload_n 3, 1) := by decide +kernel
theorem dX6_dropPage_16 : decode cX6_dropPage 16 = .ok (.ifCond .eq 51, 3) := by decide +kernel
theorem dX6_dropPage_19 : decode cX6_dropPage 19 = .ok (.aload_n 0, 1) := by decide +kernel
theorem dX6_dropPage_20 : decode cX6_dropPage 20 = .ok (.getfield 17, 3) := by decide +kernel
theorem dX6_dropPage_23 : decode cX6_dropPage 23 = .ok (.iload_n 1, 1) := by decide +kernel
theorem dX6_dropPage_24 : decode cX6_dropPage 24 = .ok (.bipush 6, 2) := by decide +kernel
theorem dX6_dropPage_26 : decode cX6_dropPage 26 = .ok (.ishl, 1) := by decide +kernel
theorem dX6_dropPage_27 : decode cX6_dropPage 27 = .ok (.iload_n 2, 1) := by decide +kernel
theorem dX6_dropPage_28 : decode cX6_dropPage 28 = .ok (.bipush 63, 2) := by decide +kernel
theorem dX6_dropPage_30 : decode cX6_dropPage 30 = .ok (.iand, 1) := by decide +kernel
theorem dX6_dropPage_31 : decode cX6_dropPage 31 = .ok (.ior, 1) := by decide +kernel
theorem dX6_dropPage_32 : decode cX6_dropPage 32 = .ok (.iconst 0, 1) := by decide +kernel
theorem dX6_dropPage_33 : decode cX6_dropPage 33 = .ok (.iastore, 1) := by decide +kernel
theorem dX6_dropPage_34 : decode cX6_dropPage 34 = .ok (.aload_n 0, 1) := by decide +kernel
theorem dX6_dropPage_35 : decode cX6_dropPage 35 = .ok (.getfield 14, 3) := by decide +kernel
theorem dX6_dropPage_38 : decode cX6_dropPage 38 = .ok (.iload_n 3, 1) := by decide +kernel
theorem dX6_dropPage_39 : decode cX6_dropPage 39 = .ok (.iconst 3, 1) := by decide +kernel
theorem dX6_dropPage_40 : decode cX6_dropPage 40 = .ok (.ishr, 1) := by decide +kernel
theorem dX6_dropPage_41 : decode cX6_dropPage 41 = .ok (.dup2, 1) := by decide +kernel
theorem dX6_dropPage_42 : decode cX6_dropPage 42 = .ok (.iaload, 1) := by decide +kernel
theorem dX6_dropPage_43 : decode cX6_dropPage 43 = .ok (.iconst 1, 1) := by decide +kernel
theorem dX6_dropPage_44 : decode cX6_dropPage 44 = .ok (.isub, 1) := by decide +kernel
theorem dX6_dropPage_45 : decode cX6_dropPage 45 = .ok (.iastore, 1) := by decide +kernel
theorem dX6_dropPage_46 : decode cX6_dropPage 46 = .ok (.aload_n 0, 1) := by decide +kernel
theorem dX6_dropPage_47 : decode cX6_dropPage 47 = .ok (.getfield 14, 3) := by decide +kernel
theorem dX6_dropPage_50 : decode cX6_dropPage 50 = .ok (.iload_n 3, 1) := by decide +kernel
theorem dX6_dropPage_51 : decode cX6_dropPage 51 = .ok (.iconst 3, 1) := by decide +kernel
theorem dX6_dropPage_52 : decode cX6_dropPage 52 = .ok (.ishr, 1) := by decide +kernel
theorem dX6_dropPage_53 : decode cX6_dropPage 53 = .ok (.iaload, 1) := by decide +kernel
theorem dX6_dropPage_54 : decode cX6_dropPage 54 = .ok (.ifCond .ne 13, 3) := by decide +kernel
theorem dX6_dropPage_57 : decode cX6_dropPage 57 = .ok (.aload_n 0, 1) := by decide +kernel
theorem dX6_dropPage_58 : decode cX6_dropPage 58 = .ok (.dup, 1) := by decide +kernel
theorem dX6_dropPage_59 : decode cX6_dropPage 59 = .ok (.getfield 52, 3) := by decide +kernel
theorem dX6_dropPage_62 : decode cX6_dropPage 62 = .ok (.iconst 1, 1) := by decide +kernel
theorem dX6_dropPage_63 : decode cX6_dropPage 63 = .ok (.isub, 1) := by decide +kernel
theorem dX6_dropPage_64 : decode cX6_dropPage 64 = .ok (.putfield 52, 3) := by decide +kernel
theorem dX6_dropPage_67 : decode cX6_dropPage 67 = .ok (.return_, 1) := by decide +kernel
theorem dX6_dropPages_0 : decode cX6_dropPages 0 = .ok (.iconst 0, 1) := by decide +kernel
theorem dX6_dropPages_1 : decode cX6_dropPages 1 = .ok (.istore_n 2, 1) := by decide +kernel
theorem dX6_dropPages_2 : decode cX6_dropPages 2 = .ok (.iload_n 2, 1) := by decide +kernel
theorem dX6_dropPages_3 : decode cX6_dropPages 3 = .ok (.bipush 64, 2) := by decide +kernel
theorem dX6_dropPages_5 : decode cX6_dropPages 5 = .ok (.if_icmp .ge 15, 3) := by decide +kernel
theorem dX6_dropPages_8 : decode cX6_dropPages 8 = .ok (.aload_n 0, 1) := by decide +kernel
theorem dX6_dropPages_9 : decode cX6_dropPages 9 = .ok (.iload_n 1, 1) := by decide +kernel
theorem dX6_dropPages_10 : decode cX6_dropPages 10 = .ok (.iload_n 2, 1) := by decide +kernel
theorem dX6_dropPages_11 : decode cX6_dropPages 11 = .ok (.invokevirtual 113, 3) := by decide +kernel
theorem dX6_dropPages_14 : decode cX6_dropPages 14 = .ok (.iinc 2 1, 3) := by decide +kernel
theorem dX6_dropPages_17 : decode cX6_dropPages 17 = .ok (.goto (-15), 3) := by decide +kernel
theorem dX6_dropPages_20 : decode cX6_dropPages 20 = .ok (.return_, 1) := by decide +kernel
theorem dX6_pagesOf_0 : decode cX6_pagesOf 0 = .ok (.iconst 0, 1) := by decide +kernel
theorem dX6_pagesOf_1 : decode cX6_pagesOf 1 = .ok (.istore_n 2, 1) := by decide +kernel
theorem dX6_pagesOf_2 : decode cX6_pagesOf 2 = .ok (.iconst 0, 1) := by decide +kernel
theorem dX6_pagesOf_3 : decode cX6_pagesOf 3 = .ok (.istore_n 3, 1) := by decide +kernel
theorem dX6_pagesOf_4 : decode cX6_pagesOf 4 = .ok (.iload_n 3, 1) := by decide +kernel
theorem dX6_pagesOf_5 : decode cX6_pagesOf 5 = .ok (.bipush 64, 2) := by decide +kernel
theorem dX6_pagesOf_7 : decode cX6_pagesOf 7 = .ok (.if_icmp .ge 26, 3) := by decide +kernel
theorem dX6_pagesOf_10 : decode cX6_pagesOf 10 = .ok (.aload_n 0, 1) := by decide +kernel
theorem dX6_pagesOf_11 : decode cX6_pagesOf 11 = .ok (.getfield 17, 3) := by decide +kernel
theorem dX6_pagesOf_14 : decode cX6_pagesOf 14 = .ok (.iload_n 1, 1) := by decide +kernel
theorem dX6_pagesOf_15 : decode cX6_pagesOf 15 = .ok (.bipush 6, 2) := by decide +kernel
theorem dX6_pagesOf_17 : decode cX6_pagesOf 17 = .ok (.ishl, 1) := by decide +kernel
theorem dX6_pagesOf_18 : decode cX6_pagesOf 18 = .ok (.iload_n 3, 1) := by decide +kernel
theorem dX6_pagesOf_19 : decode cX6_pagesOf 19 = .ok (.ior, 1) := by decide +kernel
theorem dX6_pagesOf_20 : decode cX6_pagesOf 20 = .ok (.iaload, 1) := by decide +kernel
theorem dX6_pagesOf_21 : decode cX6_pagesOf 21 = .ok (.ifCond .eq 6, 3) := by decide +kernel
theorem dX6_pagesOf_24 : decode cX6_pagesOf 24 = .ok (.iinc 2 1, 3) := by decide +kernel
theorem dX6_pagesOf_27 : decode cX6_pagesOf 27 = .ok (.iinc 3 1, 3) := by decide +kernel
theorem dX6_pagesOf_30 : decode cX6_pagesOf 30 = .ok (.goto (-26), 3) := by decide +kernel
theorem dX6_pagesOf_33 : decode cX6_pagesOf 33 = .ok (.iload_n 2, 1) := by decide +kernel
theorem dX6_pagesOf_34 : decode cX6_pagesOf 34 = .ok (.ireturn, 1) := by decide +kernel
theorem dX6_pagesFor_0 : decode cX6_pagesFor 0 = .ok (.aload_n 0, 1) := by decide +kernel
theorem dX6_pagesFor_1 : decode cX6_pagesFor 1 = .ok (.invokevirtual 117, 3) := by decide +kernel
theorem dX6_pagesFor_4 : decode cX6_pagesFor 4 = .ok (.aload_n 0, 1) := by decide +kernel
theorem dX6_pagesFor_5 : decode cX6_pagesFor 5 = .ok (.invokevirtual 123, 3) := by decide +kernel
theorem dX6_pagesFor_8 : decode cX6_pagesFor 8 = .ok (.iadd, 1) := by decide +kernel
theorem dX6_pagesFor_9 : decode cX6_pagesFor 9 = .ok (.iconst 4, 1) := by decide +kernel
theorem dX6_pagesFor_10 : decode cX6_pagesFor 10 = .ok (.iadd, 1) := by decide +kernel
theorem dX6_pagesFor_11 : decode cX6_pagesFor 11 = .ok (.ireturn, 1) := by decide +kernel
theorem dX6_load_0 : decode cX6_load 0 = .ok (.aload_n 0, 1) := by decide +kernel
theorem dX6_load_1 : decode cX6_load 1 = .ok (.iload_n 1, 1) := by decide +kernel
theorem dX6_load_2 : decode cX6_load 2 = .ok (.iconst 0, 1) := by decide +kernel
theorem dX6_load_3 : decode cX6_load 3 = .ok (.aload_n 2, 1) := by decide +kernel
theorem dX6_load_4 : decode cX6_load 4 = .ok (.invokevirtual 117, 3) := by decide +kernel
theorem dX6_load_7 : decode cX6_load 7 = .ok (.iconst 5, 1) := by decide +kernel
theorem dX6_load_8 : decode cX6_load 8 = .ok (.invokevirtual 126, 3) := by decide +kernel
theorem dX6_load_11 : decode cX6_load 11 = .ok (.aload_n 0, 1) := by decide +kernel
theorem dX6_load_12 : decode cX6_load 12 = .ok (.iload_n 1, 1) := by decide +kernel
theorem dX6_load_13 : decode cX6_load 13 = .ok (.aload_n 2, 1) := by decide +kernel
theorem dX6_load_14 : decode cX6_load 14 = .ok (.getfield 130, 3) := by decide +kernel
theorem dX6_load_17 : decode cX6_load 17 = .ok (.sipush 1024, 3) := by decide +kernel
theorem dX6_load_20 : decode cX6_load 20 = .ok (.idiv, 1) := by decide +kernel
theorem dX6_load_21 : decode cX6_load 21 = .ok (.aload_n 2, 1) := by decide +kernel
theorem dX6_load_22 : decode cX6_load 22 = .ok (.invokevirtual 123, 3) := by decide +kernel
theorem dX6_load_25 : decode cX6_load 25 = .ok (.iconst 3, 1) := by decide +kernel
theorem dX6_load_26 : decode cX6_load 26 = .ok (.invokevirtual 126, 3) := by decide +kernel
theorem dX6_load_29 : decode cX6_load 29 = .ok (.aload_n 0, 1) := by decide +kernel
theorem dX6_load_30 : decode cX6_load 30 = .ok (.iload_n 1, 1) := by decide +kernel
theorem dX6_load_31 : decode cX6_load 31 = .ok (.bipush 60, 2) := by decide +kernel
theorem dX6_load_33 : decode cX6_load 33 = .ok (.iconst 4, 1) := by decide +kernel
theorem dX6_load_34 : decode cX6_load 34 = .ok (.iconst 3, 1) := by decide +kernel
theorem dX6_load_35 : decode cX6_load 35 = .ok (.invokevirtual 126, 3) := by decide +kernel
theorem dX6_load_38 : decode cX6_load 38 = .ok (.iconst 0, 1) := by decide +kernel
theorem dX6_load_39 : decode cX6_load 39 = .ok (.istore_n 3, 1) := by decide +kernel
theorem dX6_load_40 : decode cX6_load 40 = .ok (.iload_n 3, 1) := by decide +kernel
theorem dX6_load_41 : decode cX6_load 41 = .ok (.aload_n 2, 1) := by decide +kernel
theorem dX6_load_42 : decode cX6_load 42 = .ok (.getfield 133, 3) := by decide +kernel
theorem dX6_load_45 : decode cX6_load 45 = .ok (.if_icmp .ge 33, 3) := by decide +kernel
theorem dX6_load_48 : decode cX6_load 48 = .ok (.aload_n 2, 1) := by decide +kernel
theorem dX6_load_49 : decode cX6_load 49 = .ok (.getfield 136, 3) := by decide +kernel
theorem dX6_load_52 : decode cX6_load 52 = .ok (.iload_n 3, 1) := by decide +kernel
theorem dX6_load_53 : decode cX6_load 53 = .ok (.baload, 1) := by decide +kernel
theorem dX6_load_54 : decode cX6_load 54 = .ok (.ifCond .eq 18, 3) := by decide +kernel
theorem dX6_load_57 : decode cX6_load 57 = .ok (.aload_n 0, 1) := by decide +kernel
theorem dX6_load_58 : decode cX6_load 58 = .ok (.iload_n 1, 1) := by decide +kernel
theorem dX6_load_59 : decode cX6_load 59 = .ok (.iload_n 3, 1) := by decide +kernel
theorem dX6_load_60 : decode cX6_load 60 = .ok (.sipush 255, 3) := by decide +kernel
theorem dX6_load_63 : decode cX6_load 63 = .ok (.aload_n 2, 1) := by decide +kernel
theorem dX6_load_64 : decode cX6_load 64 = .ok (.getfield 136, 3) := by decide +kernel
theorem dX6_load_67 : decode cX6_load 67 = .ok (.iload_n 3, 1) := by decide +kernel
theorem dX6_load_68 : decode cX6_load 68 = .ok (.baload, 1) := by decide +kernel
theorem dX6_load_69 : decode cX6_load 69 = .ok (.invokevirtual 140, 3) := by decide +kernel
theorem dX6_load_72 : decode cX6_load 72 = .ok (.iinc 3 1, 3) := by decide +kernel
theorem dX6_load_75 : decode cX6_load 75 = .ok (.goto (-35), 3) := by decide +kernel
theorem dX6_load_78 : decode cX6_load 78 = .ok (.iconst 0, 1) := by decide +kernel
theorem dX6_load_79 : decode cX6_load 79 = .ok (.istore_n 3, 1) := by decide +kernel
theorem dX6_load_80 : decode cX6_load 80 = .ok (.iload_n 3, 1) := by decide +kernel
theorem dX6_load_81 : decode cX6_load 81 = .ok (.bipush 33, 2) := by decide +kernel
theorem dX6_load_83 : decode cX6_load 83 = .ok (.if_icmp .ge 31, 3) := by decide +kernel
theorem dX6_load_86 : decode cX6_load 86 = .ok (.aload_n 0, 1) := by decide +kernel
theorem dX6_load_87 : decode cX6_load 87 = .ok (.getfield 20, 3) := by decide +kernel
theorem dX6_load_90 : decode cX6_load 90 = .ok (.iload_n 1, 1) := by decide +kernel
theorem dX6_load_91 : decode cX6_load 91 = .ok (.bipush 33, 2) := by decide +kernel
theorem dX6_load_93 : decode cX6_load 93 = .ok (.imul, 1) := by decide +kernel
theorem dX6_load_94 : decode cX6_load 94 = .ok (.iload_n 3, 1) := by decide +kernel
theorem dX6_load_95 : decode cX6_load 95 = .ok (.iadd, 1) := by decide +kernel
theorem dX6_load_96 : decode cX6_load 96 = .ok (.iload_n 3, 1) := by decide +kernel
theorem dX6_load_97 : decode cX6_load 97 = .ok (.iconst 2, 1) := by decide +kernel
theorem dX6_load_98 : decode cX6_load 98 = .ok (.if_icmp .ne 8, 3) := by decide +kernel
theorem dX6_load_101 : decode cX6_load 101 = .ok (.ldc 9, 2) := by decide +kernel
theorem dX6_load_103 : decode cX6_load 103 = .ok (.goto 4, 3) := by decide +kernel
theorem dX6_load_106 : decode cX6_load 106 = .ok (.iconst 0, 1) := by decide +kernel
theorem dX6_load_107 : decode cX6_load 107 = .ok (.iastore, 1) := by decide +kernel
theorem dX6_load_108 : decode cX6_load 108 = .ok (.iinc 3 1, 3) := by decide +kernel
theorem dX6_load_111 : decode cX6_load 111 = .ok (.goto (-31), 3) := by decide +kernel
theorem dX6_load_114 : decode cX6_load 114 = .ok (.iconst 0, 1) := by decide +kernel
theorem dX6_load_115 : decode cX6_load 115 = .ok (.istore_n 3, 1) := by decide +kernel
theorem dX6_load_116 : decode cX6_load 116 = .ok (.iload_n 3, 1) := by decide +kernel
theorem dX6_load_117 : decode cX6_load 117 = .ok (.bipush 16, 2) := by decide +kernel
theorem dX6_load_119 : decode cX6_load 119 = .ok (.if_icmp .ge 21, 3) := by decide +kernel
theorem dX6_load_122 : decode cX6_load 122 = .ok (.aload_n 0, 1) := by decide +kernel
theorem dX6_load_123 : decode cX6_load 123 = .ok (.getfield 26, 3) := by decide +kernel
theorem dX6_load_126 : decode cX6_load 126 = .ok (.iload_n 1, 1) := by decide +kernel
theorem dX6_load_127 : decode cX6_load 127 = .ok (.bipush 16, 2) := by decide +kernel
theorem dX6_load_129 : decode cX6_load 129 = .ok (.imul, 1) := by decide +kernel
theorem dX6_load_130 : decode cX6_load 130 = .ok (.iload_n 3, 1) := by decide +kernel
theorem dX6_load_131 : decode cX6_load 131 = .ok (.iadd, 1) := by decide +kernel
theorem dX6_load_132 : decode cX6_load 132 = .ok (.iconst 0, 1) := by decide +kernel
theorem dX6_load_133 : decode cX6_load 133 = .ok (.iastore, 1) := by decide +kernel
theorem dX6_load_134 : decode cX6_load 134 = .ok (.iinc 3 1, 3) := by decide +kernel
theorem dX6_load_137 : decode cX6_load 137 = .ok (.goto (-21), 3) := by decide +kernel
theorem dX6_load_140 : decode cX6_load 140 = .ok (.aload_n 0, 1) := by decide +kernel
theorem dX6_load_141 : decode cX6_load 141 = .ok (.getfield 29, 3) := by decide +kernel
theorem dX6_load_144 : decode cX6_load 144 = .ok (.iload_n 1, 1) := by decide +kernel
theorem dX6_load_145 : decode cX6_load 145 = .ok (.bipush 7, 2) := by decide +kernel
theorem dX6_load_147 : decode cX6_load 147 = .ok (.imul, 1) := by decide +kernel
theorem dX6_load_148 : decode cX6_load 148 = .ok (.iconst 4, 1) := by decide +kernel
theorem dX6_load_149 : decode cX6_load 149 = .ok (.iadd, 1) := by decide +kernel
theorem dX6_load_150 : decode cX6_load 150 = .ok (.iconst 0, 1) := by decide +kernel
theorem dX6_load_151 : decode cX6_load 151 = .ok (.iastore, 1) := by decide +kernel
theorem dX6_load_152 : decode cX6_load 152 = .ok (.aload_n 0, 1) := by decide +kernel
theorem dX6_load_153 : decode cX6_load 153 = .ok (.getfield 29, 3) := by decide +kernel
theorem dX6_load_156 : decode cX6_load 156 = .ok (.iload_n 1, 1) := by decide +kernel
theorem dX6_load_157 : decode cX6_load 157 = .ok (.bipush 7, 2) := by decide +kernel
theorem dX6_load_159 : decode cX6_load 159 = .ok (.imul, 1) := by decide +kernel
theorem dX6_load_160 : decode cX6_load 160 = .ok (.iconst 5, 1) := by decide +kernel
theorem dX6_load_161 : decode cX6_load 161 = .ok (.iadd, 1) := by decide +kernel
theorem dX6_load_162 : decode cX6_load 162 = .ok (.aload_n 2, 1) := by decide +kernel
theorem dX6_load_163 : decode cX6_load 163 = .ok (.invokevirtual 143, 3) := by decide +kernel
theorem dX6_load_166 : decode cX6_load 166 = .ok (.iastore, 1) := by decide +kernel
theorem dX6_load_167 : decode cX6_load 167 = .ok (.aload_n 0, 1) := by decide +kernel
theorem dX6_load_168 : decode cX6_load 168 = .ok (.getfield 29, 3) := by decide +kernel
theorem dX6_load_171 : decode cX6_load 171 = .ok (.iload_n 1, 1) := by decide +kernel
theorem dX6_load_172 : decode cX6_load 172 = .ok (.bipush 7, 2) := by decide +kernel
theorem dX6_load_174 : decode cX6_load 174 = .ok (.imul, 1) := by decide +kernel
theorem dX6_load_175 : decode cX6_load 175 = .ok (.bipush 6, 2) := by decide +kernel
theorem dX6_load_177 : decode cX6_load 177 = .ok (.iadd, 1) := by decide +kernel
theorem dX6_load_178 : decode cX6_load 178 = .ok (.aload_n 2, 1) := by decide +kernel
theorem dX6_load_179 : decode cX6_load 179 = .ok (.invokevirtual 143, 3) := by decide +kernel
theorem dX6_load_182 : decode cX6_load 182 = .ok (.iastore, 1) := by decide +kernel
theorem dX6_load_183 : decode cX6_load 183 = .ok (.aload_n 0, 1) := by decide +kernel
theorem dX6_load_184 : decode cX6_load 184 = .ok (.getfield 32, 3) := by decide +kernel
theorem dX6_load_187 : decode cX6_load 187 = .ok (.iload_n 1, 1) := by decide +kernel
theorem dX6_load_188 : decode cX6_load 188 = .ok (.ldc2_w 146, 3) := by decide +kernel
theorem dX6_load_191 : decode cX6_load 191 = .ok (.lastore, 1) := by decide +kernel
theorem dX6_load_192 : decode cX6_load 192 = .ok (.aload_n 0, 1) := by decide +kernel
theorem dX6_load_193 : decode cX6_load 193 = .ok (.iconst (-1), 1) := by decide +kernel
theorem dX6_load_194 : decode cX6_load 194 = .ok (.putfield 105, 3) := by decide +kernel
theorem dX6_load_197 : decode cX6_load 197 = .ok (.return_, 1) := by decide +kernel
theorem dX6_noteWrite_0 : decode cX6_noteWrite 0 = .ok (.iload_n 3, 1) := by decide +kernel
theorem dX6_noteWrite_1 : decode cX6_noteWrite 1 = .ok (.ifCond .le 50, 3) := by decide +kernel
theorem dX6_noteWrite_4 : decode cX6_noteWrite 4 = .ok (.aload_n 0, 1) := by decide +kernel
theorem dX6_noteWrite_5 : decode cX6_noteWrite 5 = .ok (.iload_n 1, 1) := by decide +kernel
theorem dX6_noteWrite_6 : decode cX6_noteWrite 6 = .ok (.bipush 26, 2) := by decide +kernel
theorem dX6_noteWrite_8 : decode cX6_noteWrite 8 = .ok (.ishl, 1) := by decide +kernel
theorem dX6_noteWrite_9 : decode cX6_noteWrite 9 = .ok (.iload_n 2, 1) := by decide +kernel
theorem dX6_noteWrite_10 : decode cX6_noteWrite 10 = .ok (.bipush 10, 2) := by decide +kernel
theorem dX6_noteWrite_12 : decode cX6_noteWrite 12 = .ok (.ishl, 1) := by decide +kernel
theorem dX6_noteWrite_13 : decode cX6_noteWrite 13 = .ok (.ior, 1) := by decide +kernel
theorem dX6_noteWrite_14 : decode cX6_noteWrite 14 = .ok (.iload_n 3, 1) := by decide +kernel
theorem dX6_noteWrite_15 : decode cX6_noteWrite 15 = .ok (.ior, 1) := by decide +kernel
theorem dX6_noteWrite_16 : decode cX6_noteWrite 16 = .ok (.putfield 82, 3) := by decide +kernel
theorem dX6_noteWrite_19 : decode cX6_noteWrite 19 = .ok (.aload_n 0, 1) := by decide +kernel
theorem dX6_noteWrite_20 : decode cX6_noteWrite 20 = .ok (.getfield 105, 3) := by decide +kernel
theorem dX6_noteWrite_23 : decode cX6_noteWrite 23 = .ok (.ifCond .lt 28, 3) := by decide +kernel
theorem dX6_noteWrite_26 : decode cX6_noteWrite 26 = .ok (.iload_n 2, 1) := by decide +kernel
theorem dX6_noteWrite_27 : decode cX6_noteWrite 27 = .ok (.aload_n 0, 1) := by decide +kernel
theorem dX6_noteWrite_28 : decode cX6_noteWrite 28 = .ok (.getfield 105, 3) := by decide +kernel
theorem dX6_noteWrite_31 : decode cX6_noteWrite 31 = .ok (.iconst 4, 1) := by decide +kernel
theorem dX6_noteWrite_32 : decode cX6_noteWrite 32 = .ok (.iadd, 1) := by decide +kernel
theorem dX6_noteWrite_33 : decode cX6_noteWrite 33 = .ok (.if_icmp .ge 18, 3) := by decide +kernel
theorem dX6_noteWrite_36 : decode cX6_noteWrite 36 = .ok (.iload_n 2, 1) := by decide +kernel
theorem dX6_noteWrite_37 : decode cX6_noteWrite 37 = .ok (.iload_n 3, 1) := by decide +kernel
theorem dX6_noteWrite_38 : decode cX6_noteWrite 38 = .ok (.iadd, 1) := by decide +kernel
theorem dX6_noteWrite_39 : decode cX6_noteWrite 39 = .ok (.aload_n 0, 1) := by decide +kernel
theorem dX6_noteWrite_40 : decode cX6_noteWrite 40 = .ok (.getfield 105, 3) := by decide +kernel
theorem dX6_noteWrite_43 : decode cX6_noteWrite 43 = .ok (.if_icmp .le 8, 3) := by decide +kernel
theorem dX6_noteWrite_46 : decode cX6_noteWrite 46 = .ok (.aload_n 0, 1) := by decide +kernel
theorem dX6_noteWrite_47 : decode cX6_noteWrite 47 = .ok (.iconst (-1), 1) := by decide +kernel
theorem dX6_noteWrite_48 : decode cX6_noteWrite 48 = .ok (.putfield 105, 3) := by decide +kernel
theorem dX6_noteWrite_51 : decode cX6_noteWrite 51 = .ok (.return_, 1) := by decide +kernel
theorem dX6_status_0 : decode cX6_status 0 = .ok (.aload_n 0, 1) := by decide +kernel
theorem dX6_status_1 : decode cX6_status 1 = .ok (.getfield 29, 3) := by decide +kernel
theorem dX6_status_4 : decode cX6_status 4 = .ok (.iload_n 1, 1) := by decide +kernel
theorem dX6_status_5 : decode cX6_status 5 = .ok (.bipush 7, 2) := by decide +kernel
theorem dX6_status_7 : decode cX6_status 7 = .ok (.imul, 1) := by decide +kernel
theorem dX6_status_8 : decode cX6_status 8 = .ok (.iconst 0, 1) := by decide +kernel
theorem dX6_status_9 : decode cX6_status 9 = .ok (.iadd, 1) := by decide +kernel
theorem dX6_status_10 : decode cX6_status 10 = .ok (.iaload, 1) := by decide +kernel
theorem dX6_status_11 : decode cX6_status 11 = .ok (.ireturn, 1) := by decide +kernel
theorem dX6_takeable_0 : decode cX6_takeable 0 = .ok (.aload_n 0, 1) := by decide +kernel
theorem dX6_takeable_1 : decode cX6_takeable 1 = .ok (.getfield 29, 3) := by decide +kernel
theorem dX6_takeable_4 : decode cX6_takeable 4 = .ok (.iload_n 1, 1) := by decide +kernel
theorem dX6_takeable_5 : decode cX6_takeable 5 = .ok (.bipush 7, 2) := by decide +kernel
theorem dX6_takeable_7 : decode cX6_takeable 7 = .ok (.imul, 1) := by decide +kernel
theorem dX6_takeable_8 : decode cX6_takeable 8 = .ok (.iconst 3, 1) := by decide +kernel
theorem dX6_takeable_9 : decode cX6_takeable 9 = .ok (.iadd, 1) := by decide +kernel
theorem dX6_takeable_10 : decode cX6_takeable 10 = .ok (.iaload, 1) := by decide +kernel
theorem dX6_takeable_11 : decode cX6_takeable 11 = .ok (.istore_n 2, 1) := by decide +kernel
theorem dX6_takeable_12 : decode cX6_takeable 12 = .ok (.aload_n 0, 1) := by decide +kernel
theorem dX6_takeable_13 : decode cX6_takeable 13 = .ok (.getfield 29, 3) := by decide +kernel
theorem dX6_takeable_16 : decode cX6_takeable 16 = .ok (.iload_n 1, 1) := by decide +kernel
theorem dX6_takeable_17 : decode cX6_takeable 17 = .ok (.bipush 7, 2) := by decide +kernel
theorem dX6_takeable_19 : decode cX6_takeable 19 = .ok (.imul, 1) := by decide +kernel
theorem dX6_takeable_20 : decode cX6_takeable 20 = .ok (.iconst 4, 1) := by decide +kernel
theorem dX6_takeable_21 : decode cX6_takeable 21 = .ok (.iadd, 1) := by decide +kernel
theorem dX6_takeable_22 : decode cX6_takeable 22 = .ok (.iaload, 1) := by decide +kernel
theorem dX6_takeable_23 : decode cX6_takeable 23 = .ok (.ifCond .eq 9, 3) := by decide +kernel
theorem dX6_takeable_26 : decode cX6_takeable 26 = .ok (.iload_n 2, 1) := by decide +kernel
theorem dX6_takeable_27 : decode cX6_takeable 27 = .ok (.sipush 512, 3) := by decide +kernel
theorem dX6_takeable_30 : decode cX6_takeable 30 = .ok (.iand, 1) := by decide +kernel
theorem dX6_takeable_31 : decode cX6_takeable 31 = .ok (.istore_n 2, 1) := by decide +kernel
theorem dX6_takeable_32 : decode cX6_takeable 32 = .ok (.iload_n 2, 1) := by decide +kernel
theorem dX6_takeable_33 : decode cX6_takeable 33 = .ok (.sipush 512, 3) := by decide +kernel
theorem dX6_takeable_36 : decode cX6_takeable 36 = .ok (.iand, 1) := by decide +kernel
theorem dX6_takeable_37 : decode cX6_takeable 37 = .ok (.ifCond .eq 6, 3) := by decide +kernel
theorem dX6_takeable_40 : decode cX6_takeable 40 = .ok (.bipush 9, 2) := by decide +kernel
theorem dX6_takeable_42 : decode cX6_takeable 42 = .ok (.ireturn, 1) := by decide +kernel
theorem dX6_takeable_43 : decode cX6_takeable 43 = .ok (.iload_n 2, 1) := by decide +kernel
theorem dX6_takeable_44 : decode cX6_takeable 44 = .ok (.ifCond .ne 7, 3) := by decide +kernel
theorem dX6_takeable_47 : decode cX6_takeable 47 = .ok (.iconst 0, 1) := by decide +kernel
theorem dX6_takeable_48 : decode cX6_takeable 48 = .ok (.goto 7, 3) := by decide +kernel
theorem dX6_takeable_51 : decode cX6_takeable 51 = .ok (.iload_n 2, 1) := by decide +kernel
theorem dX6_takeable_52 : decode cX6_takeable 52 = .ok (.invokestatic 150, 3) := by decide +kernel
theorem dX6_takeable_55 : decode cX6_takeable 55 = .ok (.ireturn, 1) := by decide +kernel
theorem dX6_nextReady_0 : decode cX6_nextReady 0 = .ok (.iconst 1, 1) := by decide +kernel
theorem dX6_nextReady_1 : decode cX6_nextReady 1 = .ok (.istore_n 2, 1) := by decide +kernel
theorem dX6_nextReady_2 : decode cX6_nextReady 2 = .ok (.iload_n 2, 1) := by decide +kernel
theorem dX6_nextReady_3 : decode cX6_nextReady 3 = .ok (.bipush 16, 2) := by decide +kernel
theorem dX6_nextReady_5 : decode cX6_nextReady 5 = .ok (.if_icmp .gt 33, 3) := by decide +kernel
theorem dX6_nextReady_8 : decode cX6_nextReady 8 = .ok (.iload_n 1, 1) := by decide +kernel
theorem dX6_nextReady_9 : decode cX6_nextReady 9 = .ok (.iload_n 2, 1) := by decide +kernel
theorem dX6_nextReady_10 : decode cX6_nextReady 10 = .ok (.iadd, 1) := by decide +kernel
theorem dX6_nextReady_11 : decode cX6_nextReady 11 = .ok (.bipush 15, 2) := by decide +kernel
theorem dX6_nextReady_13 : decode cX6_nextReady 13 = .ok (.iand, 1) := by decide +kernel
theorem dX6_nextReady_14 : decode cX6_nextReady 14 = .ok (.istore_n 3, 1) := by decide +kernel
theorem dX6_nextReady_15 : decode cX6_nextReady 15 = .ok (.aload_n 0, 1) := by decide +kernel
theorem dX6_nextReady_16 : decode cX6_nextReady 16 = .ok (.getfield 29, 3) := by decide +kernel
theorem dX6_nextReady_19 : decode cX6_nextReady 19 = .ok (.iload_n 3, 1) := by decide +kernel
theorem dX6_nextReady_20 : decode cX6_nextReady 20 = .ok (.bipush 7, 2) := by decide +kernel
theorem dX6_nextReady_22 : decode cX6_nextReady 22 = .ok (.imul, 1) := by decide +kernel
theorem dX6_nextReady_23 : decode cX6_nextReady 23 = .ok (.iconst 0, 1) := by decide +kernel
theorem dX6_nextReady_24 : decode cX6_nextReady 24 = .ok (.iadd, 1) := by decide +kernel
theorem dX6_nextReady_25 : decode cX6_nextReady 25 = .ok (.iaload, 1) := by decide +kernel
theorem dX6_nextReady_26 : decode cX6_nextReady 26 = .ok (.iconst 1, 1) := by decide +kernel
theorem dX6_nextReady_27 : decode cX6_nextReady 27 = .ok (.if_icmp .ne 5, 3) := by decide +kernel
theorem dX6_nextReady_30 : decode cX6_nextReady 30 = .ok (.iload_n 3, 1) := by decide +kernel
theorem dX6_nextReady_31 : decode cX6_nextReady 31 = .ok (.ireturn, 1) := by decide +kernel
theorem dX6_nextReady_32 : decode cX6_nextReady 32 = .ok (.iinc 2 1, 3) := by decide +kernel
theorem dX6_nextReady_35 : decode cX6_nextReady 35 = .ok (.goto (-33), 3) := by decide +kernel
theorem dX6_nextReady_38 : decode cX6_nextReady 38 = .ok (.iconst (-1), 1) := by decide +kernel
theorem dX6_nextReady_39 : decode cX6_nextReady 39 = .ok (.ireturn, 1) := by decide +kernel
theorem dX6_chooseCurrent_0 : decode cX6_chooseCurrent 0 = .ok (.aload_n 0, 1) := by decide +kernel
theorem dX6_chooseCurrent_1 : decode cX6_chooseCurrent 1 = .ok (.getfield 66, 3) := by decide +kernel
theorem dX6_chooseCurrent_4 : decode cX6_chooseCurrent 4 = .ok (.ifCond .lt 18, 3) := by decide +kernel
theorem dX6_chooseCurrent_7 : decode cX6_chooseCurrent 7 = .ok (.aload_n 0, 1) := by decide +kernel
theorem dX6_chooseCurrent_8 : decode cX6_chooseCurrent 8 = .ok (.aload_n 0, 1) := by decide +kernel
theorem dX6_chooseCurrent_9 : decode cX6_chooseCurrent 9 = .ok (.getfield 66, 3) := by decide +kernel
theorem dX6_chooseCurrent_12 : decode cX6_chooseCurrent 12 = .ok (.bipush 15, 2) := by decide +kernel
theorem dX6_chooseCurrent_14 : decode cX6_chooseCurrent 14 = .ok (.iand, 1) := by decide +kernel
theorem dX6_chooseCurrent_15 : decode cX6_chooseCurrent 15 = .ok (.invokevirtual 156, 3) := by decide +kernel
theorem dX6_chooseCurrent_18 : decode cX6_chooseCurrent 18 = .ok (.iconst 1, 1) := by decide +kernel
theorem dX6_chooseCurrent_19 : decode cX6_chooseCurrent 19 = .ok (.if_icmp .eq 15, 3) := by decide +kernel
theorem dX6_chooseCurrent_22 : decode cX6_chooseCurrent 22 = .ok (.aload_n 0, 1) := by decide +kernel
theorem dX6_chooseCurrent_23 : decode cX6_chooseCurrent 23 = .ok (.aload_n 0, 1) := by decide +kernel
theorem dX6_chooseCurrent_24 : decode cX6_chooseCurrent 24 = .ok (.aload_n 0, 1) := by decide +kernel
theorem dX6_chooseCurrent_25 : decode cX6_chooseCurrent 25 = .ok (.getfield 69, 3) := by decide +kernel
theorem dX6_chooseCurrent_28 : decode cX6_chooseCurrent 28 = .ok (.invokevirtual 159, 3) := by decide +kernel
theorem dX6_chooseCurrent_31 : decode cX6_chooseCurrent 31 = .ok (.invokevirtual 162, 3) := by decide +kernel
theorem dX6_chooseCurrent_34 : decode cX6_chooseCurrent 34 = .ok (.return_, 1) := by decide +kernel
theorem dX6_makeCurrent_0 : decode cX6_makeCurrent 0 = .ok (.aload_n 0, 1) := by decide +kernel
theorem dX6_makeCurrent_1 : decode cX6_makeCurrent 1 = .ok (.iload_n 1, 1) := by decide +kernel
theorem dX6_makeCurrent_2 : decode cX6_makeCurrent 2 = .ok (.putfield 66, 3) := by decide +kernel
theorem dX6_makeCurrent_5 : decode cX6_makeCurrent 5 = .ok (.iload_n 1, 1) := by decide +kernel
theorem dX6_makeCurrent_6 : decode cX6_makeCurrent 6 = .ok (.ifCond .lt 8, 3) := by decide +kernel
theorem dX6_makeCurrent_9 : decode cX6_makeCurrent 9 = .ok (.aload_n 0, 1) := by decide +kernel
theorem dX6_makeCurrent_10 : decode cX6_makeCurrent 10 = .ok (.iload_n 1, 1) := by decide +kernel
theorem dX6_makeCurrent_11 : decode cX6_makeCurrent 11 = .ok (.putfield 69, 3) := by decide +kernel
theorem dX6_makeCurrent_14 : decode cX6_makeCurrent 14 = .ok (.return_, 1) := by decide +kernel
theorem dX6_processesThere_0 : decode cX6_processesThere 0 = .ok (.iconst 0, 1) := by decide +kernel
theorem dX6_processesThere_1 : decode cX6_processesThere 1 = .ok (.istore_n 1, 1) := by decide +kernel
theorem dX6_processesThere_2 : decode cX6_processesThere 2 = .ok (.iconst 0, 1) := by decide +kernel
theorem dX6_processesThere_3 : decode cX6_processesThere 3 = .ok (.istore_n 2, 1) := by decide +kernel
theorem dX6_processesThere_4 : decode cX6_processesThere 4 = .ok (.iload_n 2, 1) := by decide +kernel
theorem dX6_processesThere_5 : decode cX6_processesThere 5 = .ok (.bipush 16, 2) := by decide +kernel
theorem dX6_processesThere_7 : decode cX6_processesThere 7 = .ok (.if_icmp .ge 20, 3) := by decide +kernel
theorem dX6_processesThere_10 : decode cX6_processesThere 10 = .ok (.aload_n 0, 1) := by decide +kernel
theorem dX6_processesThere_11 : decode cX6_processesThere 11 = .ok (.iload_n 2, 1) := by decide +kernel
theorem dX6_processesThere_12 : decode cX6_processesThere 12 = .ok (.invokevirtual 156, 3) := by decide +kernel
theorem dX6_processesThere_15 : decode cX6_processesThere 15 = .ok (.ifCond .eq 6, 3) := by decide +kernel
theorem dX6_processesThere_18 : decode cX6_processesThere 18 = .ok (.iinc 1 1, 3) := by decide +kernel
theorem dX6_processesThere_21 : decode cX6_processesThere 21 = .ok (.iinc 2 1, 3) := by decide +kernel
theorem dX6_processesThere_24 : decode cX6_processesThere 24 = .ok (.goto (-20), 3) := by decide +kernel
theorem dX6_processesThere_27 : decode cX6_processesThere 27 = .ok (.iload_n 1, 1) := by decide +kernel
theorem dX6_processesThere_28 : decode cX6_processesThere 28 = .ok (.ireturn, 1) := by decide +kernel
theorem dX6_leastChild_0 : decode cX6_leastChild 0 = .ok (.iconst 0, 1) := by decide +kernel
theorem dX6_leastChild_1 : decode cX6_leastChild 1 = .ok (.istore_n 3, 1) := by decide +kernel
theorem dX6_leastChild_2 : decode cX6_leastChild 2 = .ok (.iload_n 3, 1) := by decide +kernel
theorem dX6_leastChild_3 : decode cX6_leastChild 3 = .ok (.bipush 16, 2) := by decide +kernel
theorem dX6_leastChild_5 : decode cX6_leastChild 5 = .ok (.if_icmp .ge 54, 3) := by decide +kernel
theorem dX6_leastChild_8 : decode cX6_leastChild 8 = .ok (.aload_n 0, 1) := by decide +kernel
theorem dX6_leastChild_9 : decode cX6_leastChild 9 = .ok (.getfield 29, 3) := by decide +kernel
theorem dX6_leastChild_12 : decode cX6_leastChild 12 = .ok (.iload_n 3, 1) := by decide +kernel
theorem dX6_leastChild_13 : decode cX6_leastChild 13 = .ok (.bipush 7, 2) := by decide +kernel
theorem dX6_leastChild_15 : decode cX6_leastChild 15 = .ok (.imul, 1) := by decide +kernel
theorem dX6_leastChild_16 : decode cX6_leastChild 16 = .ok (.iconst 0, 1) := by decide +kernel
theorem dX6_leastChild_17 : decode cX6_leastChild 17 = .ok (.iadd, 1) := by decide +kernel
theorem dX6_leastChild_18 : decode cX6_leastChild 18 = .ok (.iaload, 1) := by decide +kernel
theorem dX6_leastChild_19 : decode cX6_leastChild 19 = .ok (.istore 4, 2) := by decide +kernel
theorem dX6_leastChild_21 : decode cX6_leastChild 21 = .ok (.iload 4, 2) := by decide +kernel
theorem dX6_leastChild_23 : decode cX6_leastChild 23 = .ok (.ifCond .eq 30, 3) := by decide +kernel
theorem dX6_leastChild_26 : decode cX6_leastChild 26 = .ok (.aload_n 0, 1) := by decide +kernel
theorem dX6_leastChild_27 : decode cX6_leastChild 27 = .ok (.getfield 29, 3) := by decide +kernel
theorem dX6_leastChild_30 : decode cX6_leastChild 30 = .ok (.iload_n 3, 1) := by decide +kernel
theorem dX6_leastChild_31 : decode cX6_leastChild 31 = .ok (.bipush 7, 2) := by decide +kernel
theorem dX6_leastChild_33 : decode cX6_leastChild 33 = .ok (.imul, 1) := by decide +kernel
theorem dX6_leastChild_34 : decode cX6_leastChild 34 = .ok (.iconst 1, 1) := by decide +kernel
theorem dX6_leastChild_35 : decode cX6_leastChild 35 = .ok (.iadd, 1) := by decide +kernel
theorem dX6_leastChild_36 : decode cX6_leastChild 36 = .ok (.iaload, 1) := by decide +kernel
theorem dX6_leastChild_37 : decode cX6_leastChild 37 = .ok (.iload_n 1, 1) := by decide +kernel
theorem dX6_leastChild_38 : decode cX6_leastChild 38 = .ok (.if_icmp .ne 15, 3) := by decide +kernel
theorem dX6_leastChild_41 : decode cX6_leastChild 41 = .ok (.iload_n 2, 1) := by decide +kernel
theorem dX6_leastChild_42 : decode cX6_leastChild 42 = .ok (.ifCond .ne 9, 3) := by decide +kernel
theorem dX6_leastChild_45 : decode cX6_leastChild 45 = .ok (.iload 4, 2) := by decide +kernel
theorem dX6_leastChild_47 : decode cX6_leastChild 47 = .ok (.iconst 3, 1) := by decide +kernel
theorem dX6_leastChild_48 : decode cX6_leastChild 48 = .ok (.if_icmp .ne 5, 3) := by decide +kernel
theorem dX6_leastChild_51 : decode cX6_leastChild 51 = .ok (.iload_n 3, 1) := by decide +kernel
theorem dX6_leastChild_52 : decode cX6_leastChild 52 = .ok (.ireturn, 1) := by decide +kernel
theorem dX6_leastChild_53 : decode cX6_leastChild 53 = .ok (.iinc 3 1, 3) := by decide +kernel
theorem dX6_leastChild_56 : decode cX6_leastChild 56 = .ok (.goto (-54), 3) := by decide +kernel
theorem dX6_leastChild_59 : decode cX6_leastChild 59 = .ok (.iconst (-1), 1) := by decide +kernel
theorem dX6_leastChild_60 : decode cX6_leastChild 60 = .ok (.ireturn, 1) := by decide +kernel
theorem dX6_makeAbsent_0 : decode cX6_makeAbsent 0 = .ok (.iconst 0, 1) := by decide +kernel
theorem dX6_makeAbsent_1 : decode cX6_makeAbsent 1 = .ok (.istore_n 2, 1) := by decide +kernel
theorem dX6_makeAbsent_2 : decode cX6_makeAbsent 2 = .ok (.iload_n 2, 1) := by decide +kernel
theorem dX6_makeAbsent_3 : decode cX6_makeAbsent 3 = .ok (.bipush 7, 2) := by decide +kernel
theorem dX6_makeAbsent_5 : decode cX6_makeAbsent 5 = .ok (.if_icmp .ge 30, 3) := by decide +kernel
theorem dX6_makeAbsent_8 : decode cX6_makeAbsent 8 = .ok (.aload_n 0, 1) := by decide +kernel
theorem dX6_makeAbsent_9 : decode cX6_makeAbsent 9 = .ok (.getfield 29, 3) := by decide +kernel
theorem dX6_makeAbsent_12 : decode cX6_makeAbsent 12 = .ok (.iload_n 1, 1) := by decide +kernel
theorem dX6_makeAbsent_13 : decode cX6_makeAbsent 13 = .ok (.bipush 7, 2) := by decide +kernel
theorem dX6_makeAbsent_15 : decode cX6_makeAbsent 15 = .ok (.imul, 1) := by decide +kernel
theorem dX6_makeAbsent_16 : decode cX6_makeAbsent 16 = .ok (.iload_n 2, 1) := by decide +kernel
theorem dX6_makeAbsent_17 : decode cX6_makeAbsent 17 = .ok (.iadd, 1) := by decide +kernel
theorem dX6_makeAbsent_18 : decode cX6_makeAbsent 18 = .ok (.iload_n 2, 1) := by decide +kernel
theorem dX6_makeAbsent_19 : decode cX6_makeAbsent 19 = .ok (.iconst 1, 1) := by decide +kernel
theorem dX6_makeAbsent_20 : decode cX6_makeAbsent 20 = .ok (.if_icmp .ne 7, 3) := by decide +kernel
theorem dX6_makeAbsent_23 : decode cX6_makeAbsent 23 = .ok (.iconst (-1), 1) := by decide +kernel
theorem dX6_makeAbsent_24 : decode cX6_makeAbsent 24 = .ok (.goto 4, 3) := by decide +kernel
theorem dX6_makeAbsent_27 : decode cX6_makeAbsent 27 = .ok (.iconst 0, 1) := by decide +kernel
theorem dX6_makeAbsent_28 : decode cX6_makeAbsent 28 = .ok (.iastore, 1) := by decide +kernel
theorem dX6_makeAbsent_29 : decode cX6_makeAbsent 29 = .ok (.iinc 2 1, 3) := by decide +kernel
theorem dX6_makeAbsent_32 : decode cX6_makeAbsent 32 = .ok (.goto (-30), 3) := by decide +kernel
theorem dX6_makeAbsent_35 : decode cX6_makeAbsent 35 = .ok (.return_, 1) := by decide +kernel
theorem dX6_finish_0 : decode cX6_finish 0 = .ok (.iconst 0, 1) := by decide +kernel
theorem dX6_finish_1 : decode cX6_finish 1 = .ok (.istore_n 3, 1) := by decide +kernel
