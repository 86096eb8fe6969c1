theorem dX6_become_53 : decode cX6_become 53 = .ok (.aload_n 0, 1) := by decide +kernel
theorem dX6_become_54 : decode cX6_become 54 = .ok (.getfield 14, 3) := by decide +kernel
theorem dX6_become_57 : decode cX6_become 57 = .ok (.iconst 0, 1) := by decide +kernel
theorem dX6_become_58 : decode cX6_become 58 = .ok (.aload_n 0, 1) := by decide +kernel
theorem dX6_become_59 : decode cX6_become 59 = .ok (.getfield 14, 3) := by decide +kernel
theorem dX6_become_62 : decode cX6_become 62 = .ok (.arraylength, 1) := by decide +kernel
theorem dX6_become_63 : decode cX6_become 63 = .ok (.invokestatic 95, 3) := by decide +kernel
theorem dX6_become_66 : decode cX6_become 66 = .ok (.aload_n 1, 1) := by decide +kernel
theorem dX6_become_67 : decode cX6_become 67 = .ok (.getfield 17, 3) := by decide +kernel
theorem dX6_become_70 : decode cX6_become 70 = .ok (.iconst 0, 1) := by decide +kernel
theorem dX6_become_71 : decode cX6_become 71 = .ok (.aload_n 0, 1) := by decide +kernel
theorem dX6_become_72 : decode cX6_become 72 = .ok (.getfield 17, 3) := by decide +kernel
theorem dX6_become_75 : decode cX6_become 75 = .ok (.iconst 0, 1) := by decide +kernel
theorem dX6_become_76 : decode cX6_become 76 = .ok (.aload_n 0, 1) := by decide +kernel
theorem dX6_become_77 : decode cX6_become 77 = .ok (.getfield 17, 3) := by decide +kernel
theorem dX6_become_80 : decode cX6_become 80 = .ok (.arraylength, 1) := by decide +kernel
theorem dX6_become_81 : decode cX6_become 81 = .ok (.invokestatic 95, 3) := by decide +kernel
theorem dX6_become_84 : decode cX6_become 84 = .ok (.aload_n 0, 1) := by decide +kernel
theorem dX6_become_85 : decode cX6_become 85 = .ok (.aload_n 1, 1) := by decide +kernel
theorem dX6_become_86 : decode cX6_become 86 = .ok (.getfield 52, 3) := by decide +kernel
theorem dX6_become_89 : decode cX6_become 89 = .ok (.putfield 52, 3) := by decide +kernel
theorem dX6_become_92 : decode cX6_become 92 = .ok (.aload_n 1, 1) := by decide +kernel
theorem dX6_become_93 : decode cX6_become 93 = .ok (.getfield 20, 3) := by decide +kernel
theorem dX6_become_96 : decode cX6_become 96 = .ok (.iconst 0, 1) := by decide +kernel
theorem dX6_become_97 : decode cX6_become 97 = .ok (.aload_n 0, 1) := by decide +kernel
theorem dX6_become_98 : decode cX6_become 98 = .ok (.getfield 20, 3) := by decide +kernel
theorem dX6_become_101 : decode cX6_become 101 = .ok (.iconst 0, 1) := by decide +kernel
theorem dX6_become_102 : decode cX6_become 102 = .ok (.aload_n 0, 1) := by decide +kernel
theorem dX6_become_103 : decode cX6_become 103 = .ok (.getfield 20, 3) := by decide +kernel
theorem dX6_become_106 : decode cX6_become 106 = .ok (.arraylength, 1) := by decide +kernel
theorem dX6_become_107 : decode cX6_become 107 = .ok (.invokestatic 95, 3) := by decide +kernel
theorem dX6_become_110 : decode cX6_become 110 = .ok (.aload_n 1, 1) := by decide +kernel
theorem dX6_become_111 : decode cX6_become 111 = .ok (.getfield 23, 3) := by decide +kernel
theorem dX6_become_114 : decode cX6_become 114 = .ok (.iconst 0, 1) := by decide +kernel
theorem dX6_become_115 : decode cX6_become 115 = .ok (.aload_n 0, 1) := by decide +kernel
theorem dX6_become_116 : decode cX6_become 116 = .ok (.getfield 23, 3) := by decide +kernel
theorem dX6_become_119 : decode cX6_become 119 = .ok (.iconst 0, 1) := by decide +kernel
theorem dX6_become_120 : decode cX6_become 120 = .ok (.aload_n 0, 1) := by decide +kernel
theorem dX6_become_121 : decode cX6_become 121 = .ok (.getfield 23, 3) := by decide +kernel
theorem dX6_become_124 : decode cX6_become 124 = .ok (.arraylength, 1) := by decide +kernel
theorem dX6_become_125 : decode cX6_become 125 = .ok (.invokestatic 95, 3) := by decide +kernel
theorem dX6_become_128 : decode cX6_become 128 = .ok (.aload_n 1, 1) := by decide +kernel
theorem dX6_become_129 : decode cX6_become 129 = .ok (.getfield 26, 3) := by decide +kernel
theorem dX6_become_132 : decode cX6_become 132 = .ok (.iconst 0, 1) := by decide +kernel
theorem dX6_become_133 : decode cX6_become 133 = .ok (.aload_n 0, 1) := by decide +kernel
theorem dX6_become_134 : decode cX6_become 134 = .ok (.getfield 26, 3) := by decide +kernel
theorem dX6_become_137 : decode cX6_become 137 = .ok (.iconst 0, 1) := by decide +kernel
theorem dX6_become_138 : decode cX6_become 138 = .ok (.aload_n 0, 1) := by decide +kernel
theorem dX6_become_139 : decode cX6_become 139 = .ok (.getfield 26, 3) := by decide +kernel
theorem dX6_become_142 : decode cX6_become 142 = .ok (.arraylength, 1) := by decide +kernel
theorem dX6_become_143 : decode cX6_become 143 = .ok (.invokestatic 95, 3) := by decide +kernel
theorem dX6_become_146 : decode cX6_become 146 = .ok (.aload_n 1, 1) := by decide +kernel
theorem dX6_become_147 : decode cX6_become 147 = .ok (.getfield 29, 3) := by decide +kernel
theorem dX6_become_150 : decode cX6_become 150 = .ok (.iconst 0, 1) := by decide +kernel
theorem dX6_become_151 : decode cX6_become 151 = .ok (.aload_n 0, 1) := by decide +kernel
theorem dX6_become_152 : decode cX6_become 152 = .ok (.getfield 29, 3) := by decide +kernel
theorem dX6_become_155 : decode cX6_become 155 = .ok (.iconst 0, 1) := by decide +kernel
theorem dX6_become_156 : decode cX6_become 156 = .ok (.aload_n 0, 1) := by decide +kernel
theorem dX6_become_157 : decode cX6_become 157 = .ok (.getfield 29, 3) := by decide +kernel
theorem dX6_become_160 : decode cX6_become 160 = .ok (.arraylength, 1) := by decide +kernel
theorem dX6_become_161 : decode cX6_become 161 = .ok (.invokestatic 95, 3) := by decide +kernel
theorem dX6_become_164 : decode cX6_become 164 = .ok (.aload_n 1, 1) := by decide +kernel
theorem dX6_become_165 : decode cX6_become 165 = .ok (.getfield 32, 3) := by decide +kernel
theorem dX6_become_168 : decode cX6_become 168 = .ok (.iconst 0, 1) := by decide +kernel
theorem dX6_become_169 : decode cX6_become 169 = .ok (.aload_n 0, 1) := by decide +kernel
theorem dX6_become_170 : decode cX6_become 170 = .ok (.getfield 32, 3) := by decide +kernel
theorem dX6_become_173 : decode cX6_become 173 = .ok (.iconst 0, 1) := by decide +kernel
theorem dX6_become_174 : decode cX6_become 174 = .ok (.aload_n 0, 1) := by decide +kernel
theorem dX6_become_175 : decode cX6_become 175 = .ok (.getfield 32, 3) := by decide +kernel
theorem dX6_become_178 : decode cX6_become 178 = .ok (.arraylength, 1) := by decide +kernel
theorem dX6_become_179 : decode cX6_become 179 = .ok (.invokestatic 95, 3) := by decide +kernel
theorem dX6_become_182 : decode cX6_become 182 = .ok (.aload_n 1, 1) := by decide +kernel
theorem dX6_become_183 : decode cX6_become 183 = .ok (.getfield 36, 3) := by decide +kernel
theorem dX6_become_186 : decode cX6_become 186 = .ok (.iconst 0, 1) := by decide +kernel
theorem dX6_become_187 : decode cX6_become 187 = .ok (.aload_n 0, 1) := by decide +kernel
theorem dX6_become_188 : decode cX6_become 188 = .ok (.getfield 36, 3) := by decide +kernel
theorem dX6_become_191 : decode cX6_become 191 = .ok (.iconst 0, 1) := by decide +kernel
theorem dX6_become_192 : decode cX6_become 192 = .ok (.aload_n 0, 1) := by decide +kernel
theorem dX6_become_193 : decode cX6_become 193 = .ok (.getfield 36, 3) := by decide +kernel
theorem dX6_become_196 : decode cX6_become 196 = .ok (.arraylength, 1) := by decide +kernel
theorem dX6_become_197 : decode cX6_become 197 = .ok (.invokestatic 95, 3) := by decide +kernel
theorem dX6_become_200 : decode cX6_become 200 = .ok (.aload_n 0, 1) := by decide +kernel
theorem dX6_become_201 : decode cX6_become 201 = .ok (.aload_n 1, 1) := by decide +kernel
theorem dX6_become_202 : decode cX6_become 202 = .ok (.getfield 60, 3) := by decide +kernel
theorem dX6_become_205 : decode cX6_become 205 = .ok (.putfield 60, 3) := by decide +kernel
theorem dX6_become_208 : decode cX6_become 208 = .ok (.aload_n 0, 1) := by decide +kernel
theorem dX6_become_209 : decode cX6_become 209 = .ok (.getfield 42, 3) := by decide +kernel
theorem dX6_become_212 : decode cX6_become 212 = .ok (.aload_n 1, 1) := by decide +kernel
theorem dX6_become_213 : decode cX6_become 213 = .ok (.getfield 42, 3) := by decide +kernel
theorem dX6_become_216 : decode cX6_become 216 = .ok (.invokevirtual 101, 3) := by decide +kernel
theorem dX6_become_219 : decode cX6_become 219 = .ok (.aload_n 0, 1) := by decide +kernel
theorem dX6_become_220 : decode cX6_become 220 = .ok (.aload_n 1, 1) := by decide +kernel
theorem dX6_become_221 : decode cX6_become 221 = .ok (.getfield 63, 3) := by decide +kernel
theorem dX6_become_224 : decode cX6_become 224 = .ok (.putfield 63, 3) := by decide +kernel
theorem dX6_become_227 : decode cX6_become 227 = .ok (.aload_n 0, 1) := by decide +kernel
theorem dX6_become_228 : decode cX6_become 228 = .ok (.aload_n 1, 1) := by decide +kernel
theorem dX6_become_229 : decode cX6_become 229 = .ok (.getfield 66, 3) := by decide +kernel
theorem dX6_become_232 : decode cX6_become 232 = .ok (.putfield 66, 3) := by decide +kernel
theorem dX6_become_235 : decode cX6_become 235 = .ok (.aload_n 0, 1) := by decide +kernel
theorem dX6_become_236 : decode cX6_become 236 = .ok (.aload_n 1, 1) := by decide +kernel
theorem dX6_become_237 : decode cX6_become 237 = .ok (.getfield 69, 3) := by decide +kernel
theorem dX6_become_240 : decode cX6_become 240 = .ok (.putfield 69, 3) := by decide +kernel
theorem dX6_become_243 : decode cX6_become 243 = .ok (.aload_n 0, 1) := by decide +kernel
theorem dX6_become_244 : decode cX6_become 244 = .ok (.aload_n 1, 1) := by decide +kernel
theorem dX6_become_245 : decode cX6_become 245 = .ok (.getfield 72, 3) := by decide +kernel
theorem dX6_become_248 : decode cX6_become 248 = .ok (.putfield 72, 3) := by decide +kernel
theorem dX6_become_251 : decode cX6_become 251 = .ok (.aload_n 0, 1) := by decide +kernel
theorem dX6_become_252 : decode cX6_become 252 = .ok (.aload_n 1, 1) := by decide +kernel
theorem dX6_become_253 : decode cX6_become 253 = .ok (.getfield 105, 3) := by decide +kernel
theorem dX6_become_256 : decode cX6_become 256 = .ok (.putfield 105, 3) := by decide +kernel
theorem dX6_become_259 : decode cX6_become 259 = .ok (.aload_n 0, 1) := by decide +kernel
theorem dX6_become_260 : decode cX6_become 260 = .ok (.aload_n 1, 1) := by decide +kernel
theorem dX6_become_261 : decode cX6_become 261 = .ok (.getfield 75, 3) := by decide +kernel
theorem dX6_become_264 : decode cX6_become 264 = .ok (.putfield 75, 3) := by decide +kernel
theorem dX6_become_267 : decode cX6_become 267 = .ok (.aload_n 0, 1) := by decide +kernel
theorem dX6_become_268 : decode cX6_become 268 = .ok (.aload_n 1, 1) := by decide +kernel
theorem dX6_become_269 : decode cX6_become 269 = .ok (.getfield 79, 3) := by decide +kernel
theorem dX6_become_272 : decode cX6_become 272 = .ok (.putfield 79, 3) := by decide +kernel
theorem dX6_become_275 : decode cX6_become 275 = .ok (.aload_n 0, 1) := by decide +kernel
theorem dX6_become_276 : decode cX6_become 276 = .ok (.aload_n 1, 1) := by decide +kernel
theorem dX6_become_277 : decode cX6_become 277 = .ok (.getfield 82, 3) := by decide +kernel
theorem dX6_become_280 : decode cX6_become 280 = .ok (.putfield 82, 3) := by decide +kernel
theorem dX6_become_283 : decode cX6_become 283 = .ok (.return_, 1) := by decide +kernel
theorem dX6_may_0 : decode cX6_may 0 = .ok (.iload_n 2, 1) := by decide +kernel
theorem dX6_may_1 : decode cX6_may 1 = .ok (.bipush 16, 2) := by decide +kernel
theorem dX6_may_3 : decode cX6_may 3 = .ok (.iushr, 1) := by decide +kernel
theorem dX6_may_4 : decode cX6_may 4 = .ok (.ifCond .ne 26, 3) := by decide +kernel
theorem dX6_may_7 : decode cX6_may 7 = .ok (.aload_n 0, 1) := by decide +kernel
theorem dX6_may_8 : decode cX6_may 8 = .ok (.getfield 17, 3) := by decide +kernel
theorem dX6_may_11 : decode cX6_may 11 = .ok (.iload_n 1, 1) := by decide +kernel
theorem dX6_may_12 : decode cX6_may 12 = .ok (.bipush 6, 2) := by decide +kernel
theorem dX6_may_14 : decode cX6_may 14 = .ok (.ishl, 1) := by decide +kernel
theorem dX6_may_15 : decode cX6_may 15 = .ok (.iload_n 2, 1) := by decide +kernel
theorem dX6_may_16 : decode cX6_may 16 = .ok (.bipush 10, 2) := by decide +kernel
theorem dX6_may_18 : decode cX6_may 18 = .ok (.iushr, 1) := by decide +kernel
theorem dX6_may_19 : decode cX6_may 19 = .ok (.ior, 1) := by decide +kernel
theorem dX6_may_20 : decode cX6_may 20 = .ok (.iaload, 1) := by decide +kernel
theorem dX6_may_21 : decode cX6_may 21 = .ok (.iload_n 3, 1) := by decide +kernel
theorem dX6_may_22 : decode cX6_may 22 = .ok (.iand, 1) := by decide +kernel
theorem dX6_may_23 : decode cX6_may 23 = .ok (.ifCond .eq 7, 3) := by decide +kernel
theorem dX6_may_26 : decode cX6_may 26 = .ok (.iconst 1, 1) := by decide +kernel
theorem dX6_may_27 : decode cX6_may 27 = .ok (.goto 4, 3) := by decide +kernel
theorem dX6_may_30 : decode cX6_may 30 = .ok (.iconst 0, 1) := by decide +kernel
theorem dX6_may_31 : decode cX6_may 31 = .ok (.ireturn, 1) := by decide +kernel
theorem dX6_mayAll_0 : decode cX6_mayAll 0 = .ok (.iload_n 3, 1) := by decide +kernel
theorem dX6_mayAll_1 : decode cX6_mayAll 1 = .ok (.ifCond .le 29, 3) := by decide +kernel
theorem dX6_mayAll_4 : decode cX6_mayAll 4 = .ok (.aload_n 0, 1) := by decide +kernel
theorem dX6_mayAll_5 : decode cX6_mayAll 5 = .ok (.iload_n 1, 1) := by decide +kernel
theorem dX6_mayAll_6 : decode cX6_mayAll 6 = .ok (.iload_n 2, 1) := by decide +kernel
theorem dX6_mayAll_7 : decode cX6_mayAll 7 = .ok (.iload 4, 2) := by decide +kernel
theorem dX6_mayAll_9 : decode cX6_mayAll 9 = .ok (.invokevirtual 108, 3) := by decide +kernel
theorem dX6_mayAll_12 : decode cX6_mayAll 12 = .ok (.ifCond .eq 22, 3) := by decide +kernel
theorem dX6_mayAll_15 : decode cX6_mayAll 15 = .ok (.aload_n 0, 1) := by decide +kernel
theorem dX6_mayAll_16 : decode cX6_mayAll 16 = .ok (.iload_n 1, 1) := by decide +kernel
theorem dX6_mayAll_17 : decode cX6_mayAll 17 = .ok (.iload_n 2, 1) := by decide +kernel
theorem dX6_mayAll_18 : decode cX6_mayAll 18 = .ok (.iload_n 3, 1) := by decide +kernel
theorem dX6_mayAll_19 : decode cX6_mayAll 19 = .ok (.iadd, 1) := by decide +kernel
theorem dX6_mayAll_20 : decode cX6_mayAll 20 = .ok (.iconst 1, 1) := by decide +kernel
theorem dX6_mayAll_21 : decode cX6_mayAll 21 = .ok (.isub, 1) := by decide +kernel
theorem dX6_mayAll_22 : decode cX6_mayAll 22 = .ok (.iload 4, 2) := by decide +kernel
theorem dX6_mayAll_24 : decode cX6_mayAll 24 = .ok (.invokevirtual 108, 3) := by decide +kernel
theorem dX6_mayAll_27 : decode cX6_mayAll 27 = .ok (.ifCond .eq 7, 3) := by decide +kernel
theorem dX6_mayAll_30 : decode cX6_mayAll 30 = .ok (.iconst 1, 1) := by decide +kernel
theorem dX6_mayAll_31 : decode cX6_mayAll 31 = .ok (.goto 4, 3) := by decide +kernel
theorem dX6_mayAll_34 : decode cX6_mayAll 34 = .ok (.iconst 0, 1) := by decide +kernel
theorem dX6_mayAll_35 : decode cX6_mayAll 35 = .ok (.ireturn, 1) := by decide +kernel
theorem dX6_wordAt_0 : decode cX6_wordAt 0 = .ok (.aload_n 0, 1) := by decide +kernel
theorem dX6_wordAt_1 : decode cX6_wordAt 1 = .ok (.getfield 17, 3) := by decide +kernel
theorem dX6_wordAt_4 : decode cX6_wordAt 4 = .ok (.iload_n 1, 1) := by decide +kernel
theorem dX6_wordAt_5 : decode cX6_wordAt 5 = .ok (.bipush 6, 2) := by decide +kernel
theorem dX6_wordAt_7 : decode cX6_wordAt 7 = .ok (.ishl, 1) := by decide +kernel
theorem dX6_wordAt_8 : decode cX6_wordAt 8 = .ok (.iload_n 2, 1) := by decide +kernel
theorem dX6_wordAt_9 : decode cX6_wordAt 9 = .ok (.bipush 10, 2) := by decide +kernel
theorem dX6_wordAt_11 : decode cX6_wordAt 11 = .ok (.iushr, 1) := by decide +kernel
theorem dX6_wordAt_12 : decode cX6_wordAt 12 = .ok (.bipush 63, 2) := by decide +kernel
theorem dX6_wordAt_14 : decode cX6_wordAt 14 = .ok (.iand, 1) := by decide +kernel
theorem dX6_wordAt_15 : decode cX6_wordAt 15 = .ok (.ior, 1) := by decide +kernel
theorem dX6_wordAt_16 : decode cX6_wordAt 16 = .ok (.iaload, 1) := by decide +kernel
theorem dX6_wordAt_17 : decode cX6_wordAt 17 = .ok (.iconst 3, 1) := by decide +kernel
theorem dX6_wordAt_18 : decode cX6_wordAt 18 = .ok (.ishr, 1) := by decide +kernel
theorem dX6_wordAt_19 : decode cX6_wordAt 19 = .ok (.istore_n 3, 1) := by decide +kernel
theorem dX6_wordAt_20 : decode cX6_wordAt 20 = .ok (.aload_n 0, 1) := by decide +kernel
theorem dX6_wordAt_21 : decode cX6_wordAt 21 = .ok (.getfield 10, 3) := by decide +kernel
theorem dX6_wordAt_24 : decode cX6_wordAt 24 = .ok (.iload_n 3, 1) := by decide +kernel
theorem dX6_wordAt_25 : decode cX6_wordAt 25 = .ok (.bipush 8, 2) := by decide +kernel
theorem dX6_wordAt_27 : decode cX6_wordAt 27 = .ok (.ishl, 1) := by decide +kernel
theorem dX6_wordAt_28 : decode cX6_wordAt 28 = .ok (.iload_n 2, 1) := by decide +kernel
theorem dX6_wordAt_29 : decode cX6_wordAt 29 = .ok (.iconst 2, 1) := by decide +kernel
theorem dX6_wordAt_30 : decode cX6_wordAt 30 = .ok (.iushr, 1) := by decide +kernel
theorem dX6_wordAt_31 : decode cX6_wordAt 31 = .ok (.sipush 255, 3) := by decide +kernel
theorem dX6_wordAt_34 : decode cX6_wordAt 34 = .ok (.iand, 1) := by decide +kernel
theorem dX6_wordAt_35 : decode cX6_wordAt 35 = .ok (.ior, 1) := by decide +kernel
theorem dX6_wordAt_36 : decode cX6_wordAt 36 = .ok (.iaload, 1) := by decide +kernel
theorem dX6_wordAt_37 : decode cX6_wordAt 37 = .ok (.ireturn, 1) := by decide +kernel
theorem dX6_halfAt_0 : decode cX6_halfAt 0 = .ok (.aload_n 0, 1) := by decide +kernel
theorem dX6_halfAt_1 : decode cX6_halfAt 1 = .ok (.getfield 17, 3) := by decide +kernel
theorem dX6_halfAt_4 : decode cX6_halfAt 4 = .ok (.iload_n 1, 1) := by decide +kernel
theorem dX6_halfAt_5 : decode cX6_halfAt 5 = .ok (.bipush 6, 2) := by decide +kernel
theorem dX6_halfAt_7 : decode cX6_halfAt 7 = .ok (.ishl, 1) := by decide +kernel
theorem dX6_halfAt_8 : decode cX6_halfAt 8 = .ok (.iload_n 2, 1) := by decide +kernel
theorem dX6_halfAt_9 : decode cX6_halfAt 9 = .ok (.bipush 10, 2) := by decide +kernel
theorem dX6_halfAt_11 : decode cX6_halfAt 11 = .ok (.iushr, 1) := by decide +kernel
theorem dX6_halfAt_12 : decode cX6_halfAt 12 = .ok (.bipush 63, 2) := by decide +kernel
theorem dX6_halfAt_14 : decode cX6_halfAt 14 = .ok (.iand, 1) := by decide +kernel
theorem dX6_halfAt_15 : decode cX6_halfAt 15 = .ok (.ior, 1) := by decide +kernel
theorem dX6_halfAt_16 : decode cX6_halfAt 16 = .ok (.iaload, 1) := by decide +kernel
theorem dX6_halfAt_17 : decode cX6_halfAt 17 = .ok (.iconst 3, 1) := by decide +kernel
theorem dX6_halfAt_18 : decode cX6_halfAt 18 = .ok (.ishr, 1) := by decide +kernel
theorem dX6_halfAt_19 : decode cX6_halfAt 19 = .ok (.istore_n 3, 1) := by decide +kernel
theorem dX6_halfAt_20 : decode cX6_halfAt 20 = .ok (.aload_n 0, 1) := by decide +kernel
theorem dX6_halfAt_21 : decode cX6_halfAt 21 = .ok (.getfield 10, 3) := by decide +kernel
theorem dX6_halfAt_24 : decode cX6_halfAt 24 = .ok (.iload_n 3, 1) := by decide +kernel
theorem dX6_halfAt_25 : decode cX6_halfAt 25 = .ok (.bipush 8, 2) := by decide +kernel
theorem dX6_halfAt_27 : decode cX6_halfAt 27 = .ok (.ishl, 1) := by decide +kernel
theorem dX6_halfAt_28 : decode cX6_halfAt 28 = .ok (.iload_n 2, 1) := by decide +kernel
theorem dX6_halfAt_29 : decode cX6_halfAt 29 = .ok (.iconst 2, 1) := by decide +kernel
theorem dX6_halfAt_30 : decode cX6_halfAt 30 = .ok (.iushr, 1) := by decide +kernel
theorem dX6_halfAt_31 : decode cX6_halfAt 31 = .ok (.sipush 255, 3) := by decide +kernel
theorem dX6_halfAt_34 : decode cX6_halfAt 34 = .ok (.iand, 1) := by decide +kernel
theorem dX6_halfAt_35 : decode cX6_halfAt 35 = .ok (.ior, 1) := by decide +kernel
theorem dX6_halfAt_36 : decode cX6_halfAt 36 = .ok (.iaload, 1) := by decide +kernel
theorem dX6_halfAt_37 : decode cX6_halfAt 37 = .ok (.bipush 8, 2) := by decide +kernel
theorem dX6_halfAt_39 : decode cX6_halfAt 39 = .ok (.iload_n 2, 1) := by decide +kernel
theorem dX6_halfAt_40 : decode cX6_halfAt 40 = .ok (.iconst 2, 1) := by decide +kernel
theorem dX6_halfAt_41 : decode cX6_halfAt 41 = .ok (.iand, 1) := by decide +kernel
theorem dX6_halfAt_42 : decode cX6_halfAt 42 = .ok (.imul, 1) := by decide +kernel
theorem dX6_halfAt_43 : decode cX6_halfAt 43 = .ok (.iushr, 1) := by decide +kernel
theorem dX6_halfAt_44 : decode cX6_halfAt 44 = .ok (.ldc 112, 2) := by decide +kernel
theorem dX6_halfAt_46 : decode cX6_halfAt 46 = .ok (.iand, 1) := by decide +kernel
theorem dX6_halfAt_47 : decode cX6_halfAt 47 = .ok (.ireturn, 1) := by decide +kernel
theorem dX6_byteAt_0 : decode cX6_byteAt 0 = .ok (.aload_n 0, 1) := by decide +kernel
theorem dX6_byteAt_1 : decode cX6_byteAt 1 = .ok (.getfield 17, 3) := by decide +kernel
theorem dX6_byteAt_4 : decode cX6_byteAt 4 = .ok (.iload_n 1, 1) := by decide +kernel
theorem dX6_byteAt_5 : decode cX6_byteAt 5 = .ok (.bipush 6, 2) := by decide +kernel
theorem dX6_byteAt_7 : decode cX6_byteAt 7 = .ok (.ishl, 1) := by decide +kernel
theorem dX6_byteAt_8 : decode cX6_byteAt 8 = .ok (.iload_n 2, 1) := by decide +kernel
theorem dX6_byteAt_9 : decode cX6_byteAt 9 = .ok (.bipush 10, 2) := by decide +kernel
theorem dX6_byteAt_11 : decode cX6_byteAt 11 = .ok (.iushr, 1) := by decide +kernel
theorem dX6_byteAt_12 : decode cX6_byteAt 12 = .ok (.bipush 63, 2) := by decide +kernel
theorem dX6_byteAt_14 : decode cX6_byteAt 14 = .ok (.iand, 1) := by decide +kernel
theorem dX6_byteAt_15 : decode cX6_byteAt 15 = .ok (.ior, 1) := by decide +kernel
theorem dX6_byteAt_16 : decode cX6_byteAt 16 = .ok (.iaload, 1) := by decide +kernel
theorem dX6_byteAt_17 : decode cX6_byteAt 17 = .ok (.iconst 3, 1) := by decide +kernel
theorem dX6_byteAt_18 : decode cX6_byteAt 18 = .ok (.ishr, 1) := by decide +kernel
theorem dX6_byteAt_19 : decode cX6_byteAt 19 = .ok (.istore_n 3, 1) := by decide +kernel
theorem dX6_byteAt_20 : decode cX6_byteAt 20 = .ok (.aload_n 0, 1) := by decide +kernel
theorem dX6_byteAt_21 : decode cX6_byteAt 21 = .ok (.getfield 10, 3) := by decide +kernel
theorem dX6_byteAt_24 : decode cX6_byteAt 24 = .ok (.iload_n 3, 1) := by decide +kernel
theorem dX6_byteAt_25 : decode cX6_byteAt 25 = .ok (.bipush 8, 2) := by decide +kernel
theorem dX6_byteAt_27 : decode cX6_byteAt 27 = .ok (.ishl, 1) := by decide +kernel
theorem dX6_byteAt_28 : decode cX6_byteAt 28 = .ok (.iload_n 2, 1) := by decide +kernel
theorem dX6_byteAt_29 : decode cX6_byteAt 29 = .ok (.iconst 2, 1) := by decide +kernel
theorem dX6_byteAt_30 : decode cX6_byteAt 30 = .ok (.iushr, 1) := by decide +kernel
theorem dX6_byteAt_31 : decode cX6_byteAt 31 = .ok (.sipush 255, 3) := by decide +kernel
theorem dX6_byteAt_34 : decode cX6_byteAt 34 = .ok (.iand, 1) := by decide +kernel
theorem dX6_byteAt_35 : decode cX6_byteAt 35 = .ok (.ior, 1) := by decide +kernel
theorem dX6_byteAt_36 : decode cX6_byteAt 36 = .ok (.iaload, 1) := by decide +kernel
theorem dX6_byteAt_37 : decode cX6_byteAt 37 = .ok (.bipush 8, 2) := by decide +kernel
theorem dX6_byteAt_39 : decode cX6_byteAt 39 = .ok (.iload_n 2, 1) := by decide +kernel
theorem dX6_byteAt_40 : decode cX6_byteAt 40 = .ok (.iconst 3, 1) := by decide +kernel
theorem dX6_byteAt_41 : decode cX6_byteAt 41 = .ok (.iand, 1) := by decide +kernel
theorem dX6_byteAt_42 : decode cX6_byteAt 42 = .ok (.imul, 1) := by decide +kernel
theorem dX6_byteAt_43 : decode cX6_byteAt 43 = .ok (.iushr, 1) := by decide +kernel
theorem dX6_byteAt_44 : decode cX6_byteAt 44 = .ok (.sipush 255, 3) := by decide +kernel
theorem dX6_byteAt_47 : decode cX6_byteAt 47 = .ok (.iand, 1) := by decide +kernel
theorem dX6_byteAt_48 : decode cX6_byteAt 48 = .ok (.ireturn, 1) := by decide +kernel
theorem dX6_put_0 : decode cX6_put 0 = .ok (.bipush 8, 2) := by decide +kernel
theorem dX6_put_2 : decode cX6_put 2 = .ok (.iload_n 2, 1) := by decide +kernel
theorem dX6_put_3 : decode cX6_put 3 = .ok (.iconst 3, 1) := by decide +kernel
theorem dX6_put_4 : decode cX6_put 4 = .ok (.iand, 1) := by decide +kernel
theorem dX6_put_5 : decode cX6_put 5 = .ok (.imul, 1) := by decide +kernel
theorem dX6_put_6 : decode cX6_put 6 = .ok (.istore 5, 2) := by decide +kernel
theorem dX6_put_8 : decode cX6_put 8 = .ok (.aload_n 0, 1) := by decide +kernel
theorem dX6_put_9 : decode cX6_put 9 = .ok (.getfield 17, 3) := by decide +kernel
theorem dX6_put_12 : decode cX6_put 12 = .ok (.iload_n 1, 1) := by decide +kernel
theorem dX6_put_13 : decode cX6_put 13 = .ok (.bipush 6, 2) := by decide +kernel
theorem dX6_put_15 : decode cX6_put 15 = .ok (.ishl, 1) := by decide +kernel
theorem dX6_put_16 : decode cX6_put 16 = .ok (.iload_n 2, 1) := by decide +kernel
theorem dX6_put_17 : decode cX6_put 17 = .ok (.bipush 10, 2) := by decide +kernel
theorem dX6_put_19 : decode cX6_put 19 = .ok (.iushr, 1) := by decide +kernel
theorem dX6_put_20 : decode cX6_put 20 = .ok (.bipush 63, 2) := by decide +kernel
theorem dX6_put_22 : decode cX6_put 22 = .ok (.iand, 1) := by decide +kernel
theorem dX6_put_23 : decode cX6_put 23 = .ok (.ior, 1) := by decide +kernel
theorem dX6_put_24 : decode cX6_put 24 = .ok (.iaload, 1) := by decide +kernel
theorem dX6_put_25 : decode cX6_put 25 = .ok (.iconst 3, 1) := by decide +kernel
theorem dX6_put_26 : decode cX6_put 26 = .ok (.ishr, 1) := by decide +kernel
theorem dX6_put_27 : decode cX6_put 27 = .ok (.bipush 8, 2) := by decide +kernel
theorem dX6_put_29 : decode cX6_put 29 = .ok (.ishl, 1) := by decide +kernel
theorem dX6_put_30 : decode cX6_put 30 = .ok (.iload_n 2, 1) := by decide +kernel
theorem dX6_put_31 : decode cX6_put 31 = .ok (.iconst 2, 1) := by decide +kernel
theorem dX6_put_32 : decode cX6_put 32 = .ok (.iushr, 1) := by decide +kernel
theorem dX6_put_33 : decode cX6_put 33 = .ok (.sipush 255, 3) := by decide +kernel
theorem dX6_put_36 : decode cX6_put 36 = .ok (.iand, 1) := by decide +kernel
theorem dX6_put_37 : decode cX6_put 37 = .ok (.ior, 1) := by decide +kernel
theorem dX6_put_38 : decode cX6_put 38 = .ok (.istore 6, 2) := by decide +kernel
theorem dX6_put_40 : decode cX6_put 40 = .ok (.aload_n 0, 1) := by decide +kernel
theorem dX6_put_41 : decode cX6_put 41 = .ok (.getfield 10, 3) := by decide +kernel
theorem dX6_put_44 : decode cX6_put 44 = .ok (.iload 6, 2) := by decide +kernel
theorem dX6_put_46 : decode cX6_put 46 = .ok (.aload_n 0, 1) := by decide +kernel
theorem dX6_put_47 : decode cX6_put 47 = .ok (.getfield 10, 3) := by decide +kernel
theorem dX6_put_50 : decode cX6_put 50 = .ok (.iload 6, 2) := by decide +kernel
theorem dX6_put_52 : decode cX6_put 52 = .ok (.iaload, 1) := by decide +kernel
theorem dX6_put_53 : decode cX6_put 53 = .ok (.iload_n 3, 1) := by decide +kernel
theorem dX6_put_54 : decode cX6_put 54 = .ok (.iload 5, 2) := by decide +kernel
theorem dX6_put_56 : decode cX6_put 56 = .ok (.ishl, 1) := by decide +kernel
theorem dX6_put_57 : decode cX6_put 57 = .ok (.iconst (-1), 1) := by decide +kernel
theorem dX6_put_58 : decode cX6_put 58 = .ok (.ixor, 1) := by decide +kernel
theorem dX6_put_59 : decode cX6_put 59 = .ok (.iand, 1) := by decide +kernel
theorem dX6_put_60 : decode cX6_put 60 = .ok (.iload 4, 2) := by decide +kernel
theorem dX6_put_62 : decode cX6_put 62 = .ok (.iload_n 3, 1) := by decide +kernel
theorem dX6_put_63 : decode cX6_put 63 = .ok (.iand, 1) := by decide +kernel
theorem dX6_put_64 : decode cX6_put 64 = .ok (.iload 5, 2) := by decide +kernel
theorem dX6_put_66 : decode cX6_put 66 = .ok (.ishl, 1) := by decide +kernel
theorem dX6_put_67 : decode cX6_put 67 = .ok (.ior, 1) := by decide +kernel
theorem dX6_put_68 : decode cX6_put 68 = .ok (.iastore, 1) := by decide +kernel
theorem dX6_put_69 : decode cX6_put 69 = .ok (.return_, 1) := by decide +kernel
theorem dX6_framesFree_0 : decode cX6_framesFree 0 = .ok (.sipush 256, 3) := by decide +kernel
theorem dX6_framesFree_3 : decode cX6_framesFree 3 = .ok (.aload_n 0, 1) := by decide +kernel
theorem dX6_framesFree_4 : decode cX6_framesFree 4 = .ok (.getfield 52, 3) := by decide +kernel
theorem dX6_framesFree_7 : decode cX6_framesFree 7 = .ok (.isub, 1) := by decide +kernel
theorem dX6_framesFree_8 : decode cX6_framesFree 8 = .ok (.ireturn, 1) := by decide +kernel
theorem dX6_framesFor_0 : decode cX6_framesFor 0 = .ok (.iload_n 3, 1) := by decide +kernel
theorem dX6_framesFor_1 : decode cX6_framesFor 1 = .ok (.ifCond .gt 5, 3) := by decide +kernel
theorem dX6_framesFor_4 : decode cX6_framesFor 4 = .ok (.iconst 0, 1) := by decide +kernel
theorem dX6_framesFor_5 : decode cX6_framesFor 5 = .ok (.ireturn, 1) := by decide +kernel
theorem dX6_framesFor_6 : decode cX6_framesFor 6 = .ok (.iload_n 1, 1) := by decide +kernel
theorem dX6_framesFor_7 : decode cX6_framesFor 7 = .ok (.bipush 6, 2) := by decide +kernel
theorem dX6_framesFor_9 : decode cX6_framesFor 9 = .ok (.ishl, 1) := by decide +kernel
theorem dX6_framesFor_10 : decode cX6_framesFor 10 = .ok (.iload_n 2, 1) := by decide +kernel
theorem dX6_framesFor_11 : decode cX6_framesFor 11 = .ok (.bipush 10, 2) := by decide +kernel
theorem dX6_framesFor_13 : decode cX6_framesFor 13 = .ok (.iushr, 1) := by decide +kernel
theorem dX6_framesFor_14 : decode cX6_framesFor 14 = .ok (.bipush 63, 2) := by decide +kernel
theorem dX6_framesFor_16 : decode cX6_framesFor 16 = .ok (.iand, 1) := by decide +kernel
theorem dX6_framesFor_17 : decode cX6_framesFor 17 = .ok (.ior, 1) := by decide +kernel
theorem dX6_framesFor_18 : decode cX6_framesFor 18 = .ok (.istore 4, 2) := by decide +kernel
theorem dX6_framesFor_20 : decode cX6_framesFor 20 = .ok (.iload_n 1, 1) := by decide +kernel
theorem dX6_framesFor_21 : decode cX6_framesFor 21 = .ok (.bipush 6, 2) := by decide +kernel
theorem dX6_framesFor_23 : decode cX6_framesFor 23 = .ok (.ishl, 1) := by decide +kernel
theorem dX6_framesFor_24 : decode cX6_framesFor 24 = .ok (.iload_n 2, 1) := by decide +kernel
theorem dX6_framesFor_25 : decode cX6_framesFor 25 = .ok (.iload_n 3, 1) := by decide +kernel
theorem dX6_framesFor_26 : decode cX6_framesFor 26 = .ok (.iadd, 1) := by decide +kernel
theorem dX6_framesFor_27 : decode cX6_framesFor 27 = .ok (.iconst 1, 1) := by decide +kernel
theorem dX6_framesFor_28 : decode cX6_framesFor 28 = .ok (.isub, 1) := by decide +kernel
theorem dX6_framesFor_29 : decode cX6_framesFor 29 = .ok (.bipush 10, 2) := by decide +kernel
theorem dX6_framesFor_31 : decode cX6_framesFor 31 = .ok (.iushr, 1) := by decide +kernel
theorem dX6_framesFor_32 : decode cX6_framesFor 32 = .ok (.bipush 63, 2) := by decide +kernel
theorem dX6_framesFor_34 : decode cX6_framesFor 34 = .ok (.iand, 1) := by decide +kernel
theorem dX6_framesFor_35 : decode cX6_framesFor 35 = .ok (.ior, 1) := by decide +kernel
theorem dX6_framesFor_36 : decode cX6_framesFor 36 = .ok (.istore 5, 2) := by decide +kernel
theorem dX6_framesFor_38 : decode cX6_framesFor 38 = .ok (.aload_n 0, 1) := by decide +kernel
