theorem dX3_likeBefore_53 : decode cX3_likeBefore 53 = .ok (.iload_n 2, 1) := by decide +kernel
theorem dX3_likeBefore_54 : decode cX3_likeBefore 54 = .ok (.ireturn, 1) := by decide +kernel
theorem dX3_putEntry_0 : decode cX3_putEntry 0 = .ok (.aload_n 0, 1) := by decide +kernel
theorem dX3_putEntry_1 : decode cX3_putEntry 1 = .ok (.iload_n 1, 1) := by decide +kernel
theorem dX3_putEntry_2 : decode cX3_putEntry 2 = .ok (.invokevirtual 66, 3) := by decide +kernel
theorem dX3_putEntry_5 : decode cX3_putEntry 5 = .ok (.iload_n 1, 1) := by decide +kernel
theorem dX3_putEntry_6 : decode cX3_putEntry 6 = .ok (.ifCond .ne 7, 3) := by decide +kernel
theorem dX3_putEntry_9 : decode cX3_putEntry 9 = .ok (.lconst 0, 1) := by decide +kernel
theorem dX3_putEntry_10 : decode cX3_putEntry 10 = .ok (.goto 10, 3) := by decide +kernel
theorem dX3_putEntry_13 : decode cX3_putEntry 13 = .ok (.aload_n 0, 1) := by decide +kernel
theorem dX3_putEntry_14 : decode cX3_putEntry 14 = .ok (.iload_n 1, 1) := by decide +kernel
theorem dX3_putEntry_15 : decode cX3_putEntry 15 = .ok (.iconst 1, 1) := by decide +kernel
theorem dX3_putEntry_16 : decode cX3_putEntry 16 = .ok (.isub, 1) := by decide +kernel
theorem dX3_putEntry_17 : decode cX3_putEntry 17 = .ok (.invokevirtual 66, 3) := by decide +kernel
theorem dX3_putEntry_20 : decode cX3_putEntry 20 = .ok (.lcmp, 1) := by decide +kernel
theorem dX3_putEntry_21 : decode cX3_putEntry 21 = .ok (.ifCond .ne 7, 3) := by decide +kernel
theorem dX3_putEntry_24 : decode cX3_putEntry 24 = .ok (.iconst 1, 1) := by decide +kernel
theorem dX3_putEntry_25 : decode cX3_putEntry 25 = .ok (.goto 4, 3) := by decide +kernel
theorem dX3_putEntry_28 : decode cX3_putEntry 28 = .ok (.iconst 0, 1) := by decide +kernel
theorem dX3_putEntry_29 : decode cX3_putEntry 29 = .ok (.istore_n 2, 1) := by decide +kernel
theorem dX3_putEntry_30 : decode cX3_putEntry 30 = .ok (.aload_n 0, 1) := by decide +kernel
theorem dX3_putEntry_31 : decode cX3_putEntry 31 = .ok (.getfield 9, 3) := by decide +kernel
theorem dX3_putEntry_34 : decode cX3_putEntry 34 = .ok (.iload_n 1, 1) := by decide +kernel
theorem dX3_putEntry_35 : decode cX3_putEntry 35 = .ok (.iaload, 1) := by decide +kernel
theorem dX3_putEntry_36 : decode cX3_putEntry 36 = .ok (.iconst 1, 1) := by decide +kernel
theorem dX3_putEntry_37 : decode cX3_putEntry 37 = .ok (.if_icmp .ne 11, 3) := by decide +kernel
theorem dX3_putEntry_40 : decode cX3_putEntry 40 = .ok (.aload_n 0, 1) := by decide +kernel
theorem dX3_putEntry_41 : decode cX3_putEntry 41 = .ok (.iload_n 1, 1) := by decide +kernel
theorem dX3_putEntry_42 : decode cX3_putEntry 42 = .ok (.invokevirtual 70, 3) := by decide +kernel
theorem dX3_putEntry_45 : decode cX3_putEntry 45 = .ok (.goto 22, 3) := by decide +kernel
theorem dX3_putEntry_48 : decode cX3_putEntry 48 = .ok (.aload_n 0, 1) := by decide +kernel
theorem dX3_putEntry_49 : decode cX3_putEntry 49 = .ok (.getfield 9, 3) := by decide +kernel
theorem dX3_putEntry_52 : decode cX3_putEntry 52 = .ok (.iload_n 1, 1) := by decide +kernel
theorem dX3_putEntry_53 : decode cX3_putEntry 53 = .ok (.iaload, 1) := by decide +kernel
theorem dX3_putEntry_54 : decode cX3_putEntry 54 = .ok (.iconst 3, 1) := by decide +kernel
theorem dX3_putEntry_55 : decode cX3_putEntry 55 = .ok (.if_icmp .ne 11, 3) := by decide +kernel
theorem dX3_putEntry_58 : decode cX3_putEntry 58 = .ok (.aload_n 0, 1) := by decide +kernel
theorem dX3_putEntry_59 : decode cX3_putEntry 59 = .ok (.iload_n 1, 1) := by decide +kernel
theorem dX3_putEntry_60 : decode cX3_putEntry 60 = .ok (.invokevirtual 73, 3) := by decide +kernel
theorem dX3_putEntry_63 : decode cX3_putEntry 63 = .ok (.goto 4, 3) := by decide +kernel
theorem dX3_putEntry_66 : decode cX3_putEntry 66 = .ok (.iconst 0, 1) := by decide +kernel
theorem dX3_putEntry_67 : decode cX3_putEntry 67 = .ok (.istore_n 3, 1) := by decide +kernel
theorem dX3_putEntry_68 : decode cX3_putEntry 68 = .ok (.iconst 0, 1) := by decide +kernel
theorem dX3_putEntry_69 : decode cX3_putEntry 69 = .ok (.istore 4, 2) := by decide +kernel
theorem dX3_putEntry_71 : decode cX3_putEntry 71 = .ok (.aload_n 0, 1) := by decide +kernel
theorem dX3_putEntry_72 : decode cX3_putEntry 72 = .ok (.getfield 9, 3) := by decide +kernel
theorem dX3_putEntry_75 : decode cX3_putEntry 75 = .ok (.iload_n 1, 1) := by decide +kernel
theorem dX3_putEntry_76 : decode cX3_putEntry 76 = .ok (.iaload, 1) := by decide +kernel
theorem dX3_putEntry_77 : decode cX3_putEntry 77 = .ok (.ifCond .eq 13, 3) := by decide +kernel
theorem dX3_putEntry_80 : decode cX3_putEntry 80 = .ok (.aload_n 0, 1) := by decide +kernel
theorem dX3_putEntry_81 : decode cX3_putEntry 81 = .ok (.getfield 9, 3) := by decide +kernel
theorem dX3_putEntry_84 : decode cX3_putEntry 84 = .ok (.iload_n 1, 1) := by decide +kernel
theorem dX3_putEntry_85 : decode cX3_putEntry 85 = .ok (.iaload, 1) := by decide +kernel
theorem dX3_putEntry_86 : decode cX3_putEntry 86 = .ok (.iconst 2, 1) := by decide +kernel
theorem dX3_putEntry_87 : decode cX3_putEntry 87 = .ok (.if_icmp .ne 15, 3) := by decide +kernel
theorem dX3_putEntry_90 : decode cX3_putEntry 90 = .ok (.aload_n 0, 1) := by decide +kernel
theorem dX3_putEntry_91 : decode cX3_putEntry 91 = .ok (.getfield 17, 3) := by decide +kernel
theorem dX3_putEntry_94 : decode cX3_putEntry 94 = .ok (.iload_n 1, 1) := by decide +kernel
theorem dX3_putEntry_95 : decode cX3_putEntry 95 = .ok (.laload, 1) := by decide +kernel
theorem dX3_putEntry_96 : decode cX3_putEntry 96 = .ok (.l2i, 1) := by decide +kernel
theorem dX3_putEntry_97 : decode cX3_putEntry 97 = .ok (.istore 4, 2) := by decide +kernel
theorem dX3_putEntry_99 : decode cX3_putEntry 99 = .ok (.goto 45, 3) := by decide +kernel
theorem dX3_putEntry_102 : decode cX3_putEntry 102 = .ok (.aload_n 0, 1) := by decide +kernel
theorem dX3_putEntry_103 : decode cX3_putEntry 103 = .ok (.getfield 9, 3) := by decide +kernel
theorem dX3_putEntry_106 : decode cX3_putEntry 106 = .ok (.iload_n 1, 1) := by decide +kernel
theorem dX3_putEntry_107 : decode cX3_putEntry 107 = .ok (.iaload, 1) := by decide +kernel
theorem dX3_putEntry_108 : decode cX3_putEntry 108 = .ok (.iconst 1, 1) := by decide +kernel
theorem dX3_putEntry_109 : decode cX3_putEntry 109 = .ok (.if_icmp .ne 22, 3) := by decide +kernel
theorem dX3_putEntry_112 : decode cX3_putEntry 112 = .ok (.iload_n 3, 1) := by decide +kernel
theorem dX3_putEntry_113 : decode cX3_putEntry 113 = .ok (.ifCond .le 7, 3) := by decide +kernel
theorem dX3_putEntry_116 : decode cX3_putEntry 116 = .ok (.iconst 0, 1) := by decide +kernel
theorem dX3_putEntry_117 : decode cX3_putEntry 117 = .ok (.goto 9, 3) := by decide +kernel
theorem dX3_putEntry_120 : decode cX3_putEntry 120 = .ok (.aload_n 0, 1) := by decide +kernel
theorem dX3_putEntry_121 : decode cX3_putEntry 121 = .ok (.getfield 20, 3) := by decide +kernel
theorem dX3_putEntry_124 : decode cX3_putEntry 124 = .ok (.iload_n 1, 1) := by decide +kernel
theorem dX3_putEntry_125 : decode cX3_putEntry 125 = .ok (.iaload, 1) := by decide +kernel
theorem dX3_putEntry_126 : decode cX3_putEntry 126 = .ok (.istore 4, 2) := by decide +kernel
theorem dX3_putEntry_128 : decode cX3_putEntry 128 = .ok (.goto 16, 3) := by decide +kernel
theorem dX3_putEntry_131 : decode cX3_putEntry 131 = .ok (.aload_n 0, 1) := by decide +kernel
theorem dX3_putEntry_132 : decode cX3_putEntry 132 = .ok (.getfield 9, 3) := by decide +kernel
theorem dX3_putEntry_135 : decode cX3_putEntry 135 = .ok (.iload_n 1, 1) := by decide +kernel
theorem dX3_putEntry_136 : decode cX3_putEntry 136 = .ok (.iaload, 1) := by decide +kernel
theorem dX3_putEntry_137 : decode cX3_putEntry 137 = .ok (.iconst 3, 1) := by decide +kernel
theorem dX3_putEntry_138 : decode cX3_putEntry 138 = .ok (.if_icmp .ne 6, 3) := by decide +kernel
theorem dX3_putEntry_141 : decode cX3_putEntry 141 = .ok (.iload_n 3, 1) := by decide +kernel
theorem dX3_putEntry_142 : decode cX3_putEntry 142 = .ok (.istore 4, 2) := by decide +kernel
theorem dX3_putEntry_144 : decode cX3_putEntry 144 = .ok (.aload_n 0, 1) := by decide +kernel
theorem dX3_putEntry_145 : decode cX3_putEntry 145 = .ok (.aload_n 0, 1) := by decide +kernel
theorem dX3_putEntry_146 : decode cX3_putEntry 146 = .ok (.getfield 9, 3) := by decide +kernel
theorem dX3_putEntry_149 : decode cX3_putEntry 149 = .ok (.iload_n 1, 1) := by decide +kernel
theorem dX3_putEntry_150 : decode cX3_putEntry 150 = .ok (.iaload, 1) := by decide +kernel
theorem dX3_putEntry_151 : decode cX3_putEntry 151 = .ok (.iload_n 2, 1) := by decide +kernel
theorem dX3_putEntry_152 : decode cX3_putEntry 152 = .ok (.ifCond .eq 8, 3) := by decide +kernel
theorem dX3_putEntry_155 : decode cX3_putEntry 155 = .ok (.bipush 8, 2) := by decide +kernel
theorem dX3_putEntry_157 : decode cX3_putEntry 157 = .ok (.goto 4, 3) := by decide +kernel
theorem dX3_putEntry_160 : decode cX3_putEntry 160 = .ok (.iconst 0, 1) := by decide +kernel
theorem dX3_putEntry_161 : decode cX3_putEntry 161 = .ok (.ior, 1) := by decide +kernel
theorem dX3_putEntry_162 : decode cX3_putEntry 162 = .ok (.iload 4, 2) := by decide +kernel
theorem dX3_putEntry_164 : decode cX3_putEntry 164 = .ok (.iconst 4, 1) := by decide +kernel
theorem dX3_putEntry_165 : decode cX3_putEntry 165 = .ok (.ishl, 1) := by decide +kernel
theorem dX3_putEntry_166 : decode cX3_putEntry 166 = .ok (.ior, 1) := by decide +kernel
theorem dX3_putEntry_167 : decode cX3_putEntry 167 = .ok (.invokevirtual 59, 3) := by decide +kernel
theorem dX3_putEntry_170 : decode cX3_putEntry 170 = .ok (.iload_n 2, 1) := by decide +kernel
theorem dX3_putEntry_171 : decode cX3_putEntry 171 = .ok (.ifCond .ne 12, 3) := by decide +kernel
theorem dX3_putEntry_174 : decode cX3_putEntry 174 = .ok (.aload_n 0, 1) := by decide +kernel
theorem dX3_putEntry_175 : decode cX3_putEntry 175 = .ok (.aload_n 0, 1) := by decide +kernel
theorem dX3_putEntry_176 : decode cX3_putEntry 176 = .ok (.iload_n 1, 1) := by decide +kernel
theorem dX3_putEntry_177 : decode cX3_putEntry 177 = .ok (.invokevirtual 66, 3) := by decide +kernel
theorem dX3_putEntry_180 : decode cX3_putEntry 180 = .ok (.invokevirtual 47, 3) := by decide +kernel
theorem dX3_putEntry_183 : decode cX3_putEntry 183 = .ok (.aload_n 0, 1) := by decide +kernel
theorem dX3_putEntry_184 : decode cX3_putEntry 184 = .ok (.getfield 9, 3) := by decide +kernel
theorem dX3_putEntry_187 : decode cX3_putEntry 187 = .ok (.iload_n 1, 1) := by decide +kernel
theorem dX3_putEntry_188 : decode cX3_putEntry 188 = .ok (.iaload, 1) := by decide +kernel
theorem dX3_putEntry_189 : decode cX3_putEntry 189 = .ok (.iconst 1, 1) := by decide +kernel
theorem dX3_putEntry_190 : decode cX3_putEntry 190 = .ok (.if_icmp .ne 16, 3) := by decide +kernel
theorem dX3_putEntry_193 : decode cX3_putEntry 193 = .ok (.iload_n 3, 1) := by decide +kernel
theorem dX3_putEntry_194 : decode cX3_putEntry 194 = .ok (.ifCond .le 12, 3) := by decide +kernel
theorem dX3_putEntry_197 : decode cX3_putEntry 197 = .ok (.aload_n 0, 1) := by decide +kernel
theorem dX3_putEntry_198 : decode cX3_putEntry 198 = .ok (.iload_n 3, 1) := by decide +kernel
theorem dX3_putEntry_199 : decode cX3_putEntry 199 = .ok (.i2l, 1) := by decide +kernel
theorem dX3_putEntry_200 : decode cX3_putEntry 200 = .ok (.invokevirtual 47, 3) := by decide +kernel
theorem dX3_putEntry_203 : decode cX3_putEntry 203 = .ok (.goto 103, 3) := by decide +kernel
theorem dX3_putEntry_206 : decode cX3_putEntry 206 = .ok (.aload_n 0, 1) := by decide +kernel
theorem dX3_putEntry_207 : decode cX3_putEntry 207 = .ok (.getfield 9, 3) := by decide +kernel
theorem dX3_putEntry_210 : decode cX3_putEntry 210 = .ok (.iload_n 1, 1) := by decide +kernel
theorem dX3_putEntry_211 : decode cX3_putEntry 211 = .ok (.iaload, 1) := by decide +kernel
theorem dX3_putEntry_212 : decode cX3_putEntry 212 = .ok (.iconst 1, 1) := by decide +kernel
theorem dX3_putEntry_213 : decode cX3_putEntry 213 = .ok (.if_icmp .ne 22, 3) := by decide +kernel
theorem dX3_putEntry_216 : decode cX3_putEntry 216 = .ok (.aload_n 0, 1) := by decide +kernel
theorem dX3_putEntry_217 : decode cX3_putEntry 217 = .ok (.aload_n 0, 1) := by decide +kernel
theorem dX3_putEntry_218 : decode cX3_putEntry 218 = .ok (.getfield 17, 3) := by decide +kernel
theorem dX3_putEntry_221 : decode cX3_putEntry 221 = .ok (.iload_n 1, 1) := by decide +kernel
theorem dX3_putEntry_222 : decode cX3_putEntry 222 = .ok (.laload, 1) := by decide +kernel
theorem dX3_putEntry_223 : decode cX3_putEntry 223 = .ok (.aload_n 0, 1) := by decide +kernel
theorem dX3_putEntry_224 : decode cX3_putEntry 224 = .ok (.getfield 20, 3) := by decide +kernel
theorem dX3_putEntry_227 : decode cX3_putEntry 227 = .ok (.iload_n 1, 1) := by decide +kernel
theorem dX3_putEntry_228 : decode cX3_putEntry 228 = .ok (.iaload, 1) := by decide +kernel
theorem dX3_putEntry_229 : decode cX3_putEntry 229 = .ok (.invokevirtual 76, 3) := by decide +kernel
theorem dX3_putEntry_232 : decode cX3_putEntry 232 = .ok (.goto 74, 3) := by decide +kernel
theorem dX3_putEntry_235 : decode cX3_putEntry 235 = .ok (.aload_n 0, 1) := by decide +kernel
theorem dX3_putEntry_236 : decode cX3_putEntry 236 = .ok (.getfield 9, 3) := by decide +kernel
theorem dX3_putEntry_239 : decode cX3_putEntry 239 = .ok (.iload_n 1, 1) := by decide +kernel
theorem dX3_putEntry_240 : decode cX3_putEntry 240 = .ok (.iaload, 1) := by decide +kernel
theorem dX3_putEntry_241 : decode cX3_putEntry 241 = .ok (.iconst 2, 1) := by decide +kernel
theorem dX3_putEntry_242 : decode cX3_putEntry 242 = .ok (.if_icmp .ne 16, 3) := by decide +kernel
theorem dX3_putEntry_245 : decode cX3_putEntry 245 = .ok (.aload_n 0, 1) := by decide +kernel
theorem dX3_putEntry_246 : decode cX3_putEntry 246 = .ok (.aload_n 0, 1) := by decide +kernel
theorem dX3_putEntry_247 : decode cX3_putEntry 247 = .ok (.getfield 20, 3) := by decide +kernel
theorem dX3_putEntry_250 : decode cX3_putEntry 250 = .ok (.iload_n 1, 1) := by decide +kernel
theorem dX3_putEntry_251 : decode cX3_putEntry 251 = .ok (.iaload, 1) := by decide +kernel
theorem dX3_putEntry_252 : decode cX3_putEntry 252 = .ok (.invokevirtual 59, 3) := by decide +kernel
theorem dX3_putEntry_255 : decode cX3_putEntry 255 = .ok (.goto 51, 3) := by decide +kernel
theorem dX3_putEntry_258 : decode cX3_putEntry 258 = .ok (.aload_n 0, 1) := by decide +kernel
theorem dX3_putEntry_259 : decode cX3_putEntry 259 = .ok (.getfield 9, 3) := by decide +kernel
theorem dX3_putEntry_262 : decode cX3_putEntry 262 = .ok (.iload_n 1, 1) := by decide +kernel
theorem dX3_putEntry_263 : decode cX3_putEntry 263 = .ok (.iaload, 1) := by decide +kernel
theorem dX3_putEntry_264 : decode cX3_putEntry 264 = .ok (.iconst 3, 1) := by decide +kernel
theorem dX3_putEntry_265 : decode cX3_putEntry 265 = .ok (.if_icmp .ne 20, 3) := by decide +kernel
theorem dX3_putEntry_268 : decode cX3_putEntry 268 = .ok (.iload_n 3, 1) := by decide +kernel
theorem dX3_putEntry_269 : decode cX3_putEntry 269 = .ok (.ifCond .ne 16, 3) := by decide +kernel
theorem dX3_putEntry_272 : decode cX3_putEntry 272 = .ok (.aload_n 0, 1) := by decide +kernel
theorem dX3_putEntry_273 : decode cX3_putEntry 273 = .ok (.aload_n 0, 1) := by decide +kernel
theorem dX3_putEntry_274 : decode cX3_putEntry 274 = .ok (.getfield 17, 3) := by decide +kernel
theorem dX3_putEntry_277 : decode cX3_putEntry 277 = .ok (.iload_n 1, 1) := by decide +kernel
theorem dX3_putEntry_278 : decode cX3_putEntry 278 = .ok (.laload, 1) := by decide +kernel
theorem dX3_putEntry_279 : decode cX3_putEntry 279 = .ok (.invokevirtual 47, 3) := by decide +kernel
theorem dX3_putEntry_282 : decode cX3_putEntry 282 = .ok (.goto 24, 3) := by decide +kernel
theorem dX3_putEntry_285 : decode cX3_putEntry 285 = .ok (.aload_n 0, 1) := by decide +kernel
theorem dX3_putEntry_286 : decode cX3_putEntry 286 = .ok (.getfield 9, 3) := by decide +kernel
theorem dX3_putEntry_289 : decode cX3_putEntry 289 = .ok (.iload_n 1, 1) := by decide +kernel
theorem dX3_putEntry_290 : decode cX3_putEntry 290 = .ok (.iaload, 1) := by decide +kernel
theorem dX3_putEntry_291 : decode cX3_putEntry 291 = .ok (.iconst 4, 1) := by decide +kernel
theorem dX3_putEntry_292 : decode cX3_putEntry 292 = .ok (.if_icmp .ne 14, 3) := by decide +kernel
theorem dX3_putEntry_295 : decode cX3_putEntry 295 = .ok (.aload_n 0, 1) := by decide +kernel
theorem dX3_putEntry_296 : decode cX3_putEntry 296 = .ok (.aload_n 0, 1) := by decide +kernel
theorem dX3_putEntry_297 : decode cX3_putEntry 297 = .ok (.getfield 17, 3) := by decide +kernel
theorem dX3_putEntry_300 : decode cX3_putEntry 300 = .ok (.iload_n 1, 1) := by decide +kernel
theorem dX3_putEntry_301 : decode cX3_putEntry 301 = .ok (.laload, 1) := by decide +kernel
theorem dX3_putEntry_302 : decode cX3_putEntry 302 = .ok (.iconst 4, 1) := by decide +kernel
theorem dX3_putEntry_303 : decode cX3_putEntry 303 = .ok (.invokevirtual 76, 3) := by decide +kernel
theorem dX3_putEntry_306 : decode cX3_putEntry 306 = .ok (.return_, 1) := by decide +kernel
theorem dX3_sameTyped_0 : decode cX3_sameTyped 0 = .ok (.iconst 0, 1) := by decide +kernel
theorem dX3_sameTyped_1 : decode cX3_sameTyped 1 = .ok (.istore_n 2, 1) := by decide +kernel
theorem dX3_sameTyped_2 : decode cX3_sameTyped 2 = .ok (.iload_n 1, 1) := by decide +kernel
theorem dX3_sameTyped_3 : decode cX3_sameTyped 3 = .ok (.iconst 1, 1) := by decide +kernel
theorem dX3_sameTyped_4 : decode cX3_sameTyped 4 = .ok (.isub, 1) := by decide +kernel
theorem dX3_sameTyped_5 : decode cX3_sameTyped 5 = .ok (.istore_n 3, 1) := by decide +kernel
theorem dX3_sameTyped_6 : decode cX3_sameTyped 6 = .ok (.iload_n 3, 1) := by decide +kernel
theorem dX3_sameTyped_7 : decode cX3_sameTyped 7 = .ok (.ifCond .lt 49, 3) := by decide +kernel
theorem dX3_sameTyped_10 : decode cX3_sameTyped 10 = .ok (.iload_n 2, 1) := by decide +kernel
theorem dX3_sameTyped_11 : decode cX3_sameTyped 11 = .ok (.bipush 20, 2) := by decide +kernel
theorem dX3_sameTyped_13 : decode cX3_sameTyped 13 = .ok (.if_icmp .ge 43, 3) := by decide +kernel
theorem dX3_sameTyped_16 : decode cX3_sameTyped 16 = .ok (.aload_n 0, 1) := by decide +kernel
theorem dX3_sameTyped_17 : decode cX3_sameTyped 17 = .ok (.getfield 20, 3) := by decide +kernel
theorem dX3_sameTyped_20 : decode cX3_sameTyped 20 = .ok (.iload_n 1, 1) := by decide +kernel
theorem dX3_sameTyped_21 : decode cX3_sameTyped 21 = .ok (.iaload, 1) := by decide +kernel
theorem dX3_sameTyped_22 : decode cX3_sameTyped 22 = .ok (.iconst 1, 1) := by decide +kernel
theorem dX3_sameTyped_23 : decode cX3_sameTyped 23 = .ok (.if_icmp .le 33, 3) := by decide +kernel
theorem dX3_sameTyped_26 : decode cX3_sameTyped 26 = .ok (.aload_n 0, 1) := by decide +kernel
theorem dX3_sameTyped_27 : decode cX3_sameTyped 27 = .ok (.getfield 9, 3) := by decide +kernel
theorem dX3_sameTyped_30 : decode cX3_sameTyped 30 = .ok (.iload_n 3, 1) := by decide +kernel
theorem dX3_sameTyped_31 : decode cX3_sameTyped 31 = .ok (.iaload, 1) := by decide +kernel
theorem dX3_sameTyped_32 : decode cX3_sameTyped 32 = .ok (.iconst 1, 1) := by decide +kernel
theorem dX3_sameTyped_33 : decode cX3_sameTyped 33 = .ok (.if_icmp .ne 17, 3) := by decide +kernel
theorem dX3_sameTyped_36 : decode cX3_sameTyped 36 = .ok (.iinc 2 1, 3) := by decide +kernel
theorem dX3_sameTyped_39 : decode cX3_sameTyped 39 = .ok (.aload_n 0, 1) := by decide +kernel
theorem dX3_sameTyped_40 : decode cX3_sameTyped 40 = .ok (.iload_n 1, 1) := by decide +kernel
theorem dX3_sameTyped_41 : decode cX3_sameTyped 41 = .ok (.iload_n 3, 1) := by decide +kernel
theorem dX3_sameTyped_42 : decode cX3_sameTyped 42 = .ok (.invokevirtual 62, 3) := by decide +kernel
theorem dX3_sameTyped_45 : decode cX3_sameTyped 45 = .ok (.ifCond .eq 5, 3) := by decide +kernel
theorem dX3_sameTyped_48 : decode cX3_sameTyped 48 = .ok (.iload_n 2, 1) := by decide +kernel
theorem dX3_sameTyped_49 : decode cX3_sameTyped 49 = .ok (.ireturn, 1) := by decide +kernel
theorem dX3_sameTyped_50 : decode cX3_sameTyped 50 = .ok (.iinc 3 (-1), 3) := by decide +kernel
theorem dX3_sameTyped_53 : decode cX3_sameTyped 53 = .ok (.goto (-47), 3) := by decide +kernel
theorem dX3_sameTyped_56 : decode cX3_sameTyped 56 = .ok (.iconst 0, 1) := by decide +kernel
theorem dX3_sameTyped_57 : decode cX3_sameTyped 57 = .ok (.ireturn, 1) := by decide +kernel
theorem dX3_sameClock_0 : decode cX3_sameClock 0 = .ok (.aload_n 0, 1) := by decide +kernel
theorem dX3_sameClock_1 : decode cX3_sameClock 1 = .ok (.iconst 3, 1) := by decide +kernel
theorem dX3_sameClock_2 : decode cX3_sameClock 2 = .ok (.lconst 1, 1) := by decide +kernel
theorem dX3_sameClock_3 : decode cX3_sameClock 3 = .ok (.iload_n 1, 1) := by decide +kernel
theorem dX3_sameClock_4 : decode cX3_sameClock 4 = .ok (.invokevirtual 80, 3) := by decide +kernel
theorem dX3_sameClock_7 : decode cX3_sameClock 7 = .ok (.istore_n 2, 1) := by decide +kernel
theorem dX3_sameClock_8 : decode cX3_sameClock 8 = .ok (.iload_n 2, 1) := by decide +kernel
theorem dX3_sameClock_9 : decode cX3_sameClock 9 = .ok (.ifCond .lt 23, 3) := by decide +kernel
theorem dX3_sameClock_12 : decode cX3_sameClock 12 = .ok (.aload_n 0, 1) := by decide +kernel
theorem dX3_sameClock_13 : decode cX3_sameClock 13 = .ok (.getfield 17, 3) := by decide +kernel
theorem dX3_sameClock_16 : decode cX3_sameClock 16 = .ok (.iload_n 2, 1) := by decide +kernel
theorem dX3_sameClock_17 : decode cX3_sameClock 17 = .ok (.laload, 1) := by decide +kernel
theorem dX3_sameClock_18 : decode cX3_sameClock 18 = .ok (.aload_n 0, 1) := by decide +kernel
theorem dX3_sameClock_19 : decode cX3_sameClock 19 = .ok (.getfield 17, 3) := by decide +kernel
theorem dX3_sameClock_22 : decode cX3_sameClock 22 = .ok (.iload_n 1, 1) := by decide +kernel
theorem dX3_sameClock_23 : decode cX3_sameClock 23 = .ok (.laload, 1) := by decide +kernel
theorem dX3_sameClock_24 : decode cX3_sameClock 24 = .ok (.lcmp, 1) := by decide +kernel
theorem dX3_sameClock_25 : decode cX3_sameClock 25 = .ok (.ifCond .ne 7, 3) := by decide +kernel
theorem dX3_sameClock_28 : decode cX3_sameClock 28 = .ok (.iconst 1, 1) := by decide +kernel
theorem dX3_sameClock_29 : decode cX3_sameClock 29 = .ok (.goto 4, 3) := by decide +kernel
theorem dX3_sameClock_32 : decode cX3_sameClock 32 = .ok (.iconst 0, 1) := by decide +kernel
theorem dX3_sameClock_33 : decode cX3_sameClock 33 = .ok (.ireturn, 1) := by decide +kernel
theorem dX3_latest_0 : decode cX3_latest 0 = .ok (.lload_n 2, 1) := by decide +kernel
theorem dX3_latest_1 : decode cX3_latest 1 = .ok (.lstore 5, 2) := by decide +kernel
theorem dX3_latest_3 : decode cX3_latest 3 = .ok (.iload 4, 2) := by decide +kernel
theorem dX3_latest_5 : decode cX3_latest 5 = .ok (.iconst 1, 1) := by decide +kernel
theorem dX3_latest_6 : decode cX3_latest 6 = .ok (.isub, 1) := by decide +kernel
theorem dX3_latest_7 : decode cX3_latest 7 = .ok (.istore 7, 2) := by decide +kernel
theorem dX3_latest_9 : decode cX3_latest 9 = .ok (.iload 7, 2) := by decide +kernel
theorem dX3_latest_11 : decode cX3_latest 11 = .ok (.ifCond .lt 36, 3) := by decide +kernel
theorem dX3_latest_14 : decode cX3_latest 14 = .ok (.aload_n 0, 1) := by decide +kernel
theorem dX3_latest_15 : decode cX3_latest 15 = .ok (.getfield 9, 3) := by decide +kernel
theorem dX3_latest_18 : decode cX3_latest 18 = .ok (.iload 7, 2) := by decide +kernel
theorem dX3_latest_20 : decode cX3_latest 20 = .ok (.iaload, 1) := by decide +kernel
theorem dX3_latest_21 : decode cX3_latest 21 = .ok (.iload_n 1, 1) := by decide +kernel
theorem dX3_latest_22 : decode cX3_latest 22 = .ok (.if_icmp .ne 19, 3) := by decide +kernel
theorem dX3_latest_25 : decode cX3_latest 25 = .ok (.lload 5, 2) := by decide +kernel
theorem dX3_latest_27 : decode cX3_latest 27 = .ok (.lconst 1, 1) := by decide +kernel
theorem dX3_latest_28 : decode cX3_latest 28 = .ok (.lsub, 1) := by decide +kernel
theorem dX3_latest_29 : decode cX3_latest 29 = .ok (.lstore 5, 2) := by decide +kernel
theorem dX3_latest_31 : decode cX3_latest 31 = .ok (.lload 5, 2) := by decide +kernel
theorem dX3_latest_33 : decode cX3_latest 33 = .ok (.lconst 0, 1) := by decide +kernel
theorem dX3_latest_34 : decode cX3_latest 34 = .ok (.lcmp, 1) := by decide +kernel
theorem dX3_latest_35 : decode cX3_latest 35 = .ok (.ifCond .ne 6, 3) := by decide +kernel
theorem dX3_latest_38 : decode cX3_latest 38 = .ok (.iload 7, 2) := by decide +kernel
theorem dX3_latest_40 : decode cX3_latest 40 = .ok (.ireturn, 1) := by decide +kernel
theorem dX3_latest_41 : decode cX3_latest 41 = .ok (.iinc 7 (-1), 3) := by decide +kernel
theorem dX3_latest_44 : decode cX3_latest 44 = .ok (.goto (-35), 3) := by decide +kernel
theorem dX3_latest_47 : decode cX3_latest 47 = .ok (.iconst (-1), 1) := by decide +kernel
theorem dX3_latest_48 : decode cX3_latest 48 = .ok (.ireturn, 1) := by decide +kernel
theorem dX3_putByte_0 : decode cX3_putByte 0 = .ok (.aload_n 0, 1) := by decide +kernel
theorem dX3_putByte_1 : decode cX3_putByte 1 = .ok (.getfield 44, 3) := by decide +kernel
theorem dX3_putByte_4 : decode cX3_putByte 4 = .ok (.aload_n 0, 1) := by decide +kernel
theorem dX3_putByte_5 : decode cX3_putByte 5 = .ok (.getfield 23, 3) := by decide +kernel
theorem dX3_putByte_8 : decode cX3_putByte 8 = .ok (.arraylength, 1) := by decide +kernel
theorem dX3_putByte_9 : decode cX3_putByte 9 = .ok (.if_icmp .ge 24, 3) := by decide +kernel
theorem dX3_putByte_12 : decode cX3_putByte 12 = .ok (.aload_n 0, 1) := by decide +kernel
theorem dX3_putByte_13 : decode cX3_putByte 13 = .ok (.getfield 23, 3) := by decide +kernel
theorem dX3_putByte_16 : decode cX3_putByte 16 = .ok (.aload_n 0, 1) := by decide +kernel
theorem dX3_putByte_17 : decode cX3_putByte 17 = .ok (.getfield 44, 3) := by decide +kernel
theorem dX3_putByte_20 : decode cX3_putByte 20 = .ok (.iload_n 1, 1) := by decide +kernel
theorem dX3_putByte_21 : decode cX3_putByte 21 = .ok (.i2b, 1) := by decide +kernel
theorem dX3_putByte_22 : decode cX3_putByte 22 = .ok (.bastore, 1) := by decide +kernel
theorem dX3_putByte_23 : decode cX3_putByte 23 = .ok (.aload_n 0, 1) := by decide +kernel
theorem dX3_putByte_24 : decode cX3_putByte 24 = .ok (.dup, 1) := by decide +kernel
theorem dX3_putByte_25 : decode cX3_putByte 25 = .ok (.getfield 44, 3) := by decide +kernel
theorem dX3_putByte_28 : decode cX3_putByte 28 = .ok (.iconst 1, 1) := by decide +kernel
theorem dX3_putByte_29 : decode cX3_putByte 29 = .ok (.iadd, 1) := by decide +kernel
theorem dX3_putByte_30 : decode cX3_putByte 30 = .ok (.putfield 44, 3) := by decide +kernel
theorem dX3_putByte_33 : decode cX3_putByte 33 = .ok (.return_, 1) := by decide +kernel
theorem dX3_putBytes_0 : decode cX3_putBytes 0 = .ok (.iload_n 3, 1) := by decide +kernel
theorem dX3_putBytes_1 : decode cX3_putBytes 1 = .ok (.iconst 1, 1) := by decide +kernel
theorem dX3_putBytes_2 : decode cX3_putBytes 2 = .ok (.isub, 1) := by decide +kernel
theorem dX3_putBytes_3 : decode cX3_putBytes 3 = .ok (.istore 4, 2) := by decide +kernel
theorem dX3_putBytes_5 : decode cX3_putBytes 5 = .ok (.iload 4, 2) := by decide +kernel
theorem dX3_putBytes_7 : decode cX3_putBytes 7 = .ok (.ifCond .lt 21, 3) := by decide +kernel
theorem dX3_putBytes_10 : decode cX3_putBytes 10 = .ok (.aload_n 0, 1) := by decide +kernel
theorem dX3_putBytes_11 : decode cX3_putBytes 11 = .ok (.lload_n 1, 1) := by decide +kernel
theorem dX3_putBytes_12 : decode cX3_putBytes 12 = .ok (.bipush 8, 2) := by decide +kernel
theorem dX3_putBytes_14 : decode cX3_putBytes 14 = .ok (.iload 4, 2) := by decide +kernel
theorem dX3_putBytes_16 : decode cX3_putBytes 16 = .ok (.imul, 1) := by decide +kernel
theorem dX3_putBytes_17 : decode cX3_putBytes 17 = .ok (.lshr, 1) := by decide +kernel
theorem dX3_putBytes_18 : decode cX3_putBytes 18 = .ok (.l2i, 1) := by decide +kernel
theorem dX3_putBytes_19 : decode cX3_putBytes 19 = .ok (.invokevirtual 59, 3) := by decide +kernel
theorem dX3_putBytes_22 : decode cX3_putBytes 22 = .ok (.iinc 4 (-1), 3) := by decide +kernel
theorem dX3_putBytes_25 : decode cX3_putBytes 25 = .ok (.goto (-20), 3) := by decide +kernel
theorem dX3_putBytes_28 : decode cX3_putBytes 28 = .ok (.return_, 1) := by decide +kernel
theorem dX3_putVarint_0 : decode cX3_putVarint 0 = .ok (.lload_n 1, 1) := by decide +kernel
theorem dX3_putVarint_1 : decode cX3_putVarint 1 = .ok (.lstore_n 3, 1) := by decide +kernel
theorem dX3_putVarint_2 : decode cX3_putVarint 2 = .ok (.iconst 0, 1) := by decide +kernel
theorem dX3_putVarint_3 : decode cX3_putVarint 3 = .ok (.istore 5, 2) := by decide +kernel
theorem dX3_putVarint_5 : decode cX3_putVarint 5 = .ok (.iload 5, 2) := by decide +kernel
theorem dX3_putVarint_7 : decode cX3_putVarint 7 = .ok (.bipush 7, 2) := by decide +kernel
theorem dX3_putVarint_9 : decode cX3_putVarint 9 = .ok (.if_icmp .ge 36, 3) := by decide +kernel
theorem dX3_putVarint_12 : decode cX3_putVarint 12 = .ok (.lload_n 3, 1) := by decide +kernel
theorem dX3_putVarint_13 : decode cX3_putVarint 13 = .ok (.ldc2_w 84, 3) := by decide +kernel
theorem dX3_putVarint_16 : decode cX3_putVarint 16 = .ok (.lcmp, 1) := by decide +kernel
theorem dX3_putVarint_17 : decode cX3_putVarint 17 = .ok (.ifCond .le 28, 3) := by decide +kernel
theorem dX3_putVarint_20 : decode cX3_putVarint 20 = .ok (.aload_n 0, 1) := by decide +kernel
theorem dX3_putVarint_21 : decode cX3_putVarint 21 = .ok (.lload_n 3, 1) := by decide +kernel
theorem dX3_putVarint_22 : decode cX3_putVarint 22 = .ok (.ldc2_w 84, 3) := by decide +kernel
theorem dX3_putVarint_25 : decode cX3_putVarint 25 = .ok (.land, 1) := by decide +kernel
theorem dX3_putVarint_26 : decode cX3_putVarint 26 = .ok (.l2i, 1) := by decide +kernel
theorem dX3_putVarint_27 : decode cX3_putVarint 27 = .ok (.sipush 128, 3) := by decide +kernel
theorem dX3_putVarint_30 : decode cX3_putVarint 30 = .ok (.ior, 1) := by decide +kernel
theorem dX3_putVarint_31 : decode cX3_putVarint 31 = .ok (.invokevirtual 59, 3) := by decide +kernel
theorem dX3_putVarint_34 : decode cX3_putVarint 34 = .ok (.lload_n 3, 1) := by decide +kernel
theorem dX3_putVarint_35 : decode cX3_putVarint 35 = .ok (.bipush 7, 2) := by decide +kernel
theorem dX3_putVarint_37 : decode cX3_putVarint 37 = .ok (.lshr, 1) := by decide +kernel
theorem dX3_putVarint_38 : decode cX3_putVarint 38 = .ok (.lstore_n 3, 1) := by decide +kernel
theorem dX3_putVarint_39 : decode cX3_putVarint 39 = .ok (.iinc 5 1, 3) := by decide +kernel
theorem dX3_putVarint_42 : decode cX3_putVarint 42 = .ok (.goto (-37), 3) := by decide +kernel
theorem dX3_putVarint_45 : decode cX3_putVarint 45 = .ok (.aload_n 0, 1) := by decide +kernel
theorem dX3_putVarint_46 : decode cX3_putVarint 46 = .ok (.lload_n 3, 1) := by decide +kernel
theorem dX3_putVarint_47 : decode cX3_putVarint 47 = .ok (.l2i, 1) := by decide +kernel
theorem dX3_putVarint_48 : decode cX3_putVarint 48 = .ok (.invokevirtual 59, 3) := by decide +kernel
theorem dX3_putVarint_51 : decode cX3_putVarint 51 = .ok (.return_, 1) := by decide +kernel
theorem dX3_readLog_0 : decode cX3_readLog 0 = .ok (.aload_n 0, 1) := by decide +kernel
theorem dX3_readLog_1 : decode cX3_readLog 1 = .ok (.aload_n 1, 1) := by decide +kernel
theorem dX3_readLog_2 : decode cX3_readLog 2 = .ok (.putfield 23, 3) := by decide +kernel
theorem dX3_readLog_5 : decode cX3_readLog 5 = .ok (.aload_n 0, 1) := by decide +kernel
theorem dX3_readLog_6 : decode cX3_readLog 6 = .ok (.iload_n 2, 1) := by decide +kernel
theorem dX3_readLog_7 : decode cX3_readLog 7 = .ok (.aload_n 1, 1) := by decide +kernel
theorem dX3_readLog_8 : decode cX3_readLog 8 = .ok (.arraylength, 1) := by decide +kernel
theorem dX3_readLog_9 : decode cX3_readLog 9 = .ok (.invokestatic 86, 3) := by decide +kernel
theorem dX3_readLog_12 : decode cX3_readLog 12 = .ok (.putfield 92, 3) := by decide +kernel
theorem dX3_readLog_15 : decode cX3_readLog 15 = .ok (.aload_n 0, 1) := by decide +kernel
theorem dX3_readLog_16 : decode cX3_readLog 16 = .ok (.iconst 0, 1) := by decide +kernel
theorem dX3_readLog_17 : decode cX3_readLog 17 = .ok (.putfield 44, 3) := by decide +kernel
theorem dX3_readLog_20 : decode cX3_readLog 20 = .ok (.aload_n 0, 1) := by decide +kernel
theorem dX3_readLog_21 : decode cX3_readLog 21 = .ok (.iconst 0, 1) := by decide +kernel
theorem dX3_readLog_22 : decode cX3_readLog 22 = .ok (.putfield 95, 3) := by decide +kernel
theorem dX3_readLog_25 : decode cX3_readLog 25 = .ok (.aload_n 0, 1) := by decide +kernel
theorem dX3_readLog_26 : decode cX3_readLog 26 = .ok (.invokevirtual 98, 3) := by decide +kernel
