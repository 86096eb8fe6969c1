theorem dX9_nameAt_104 : decode cX9_nameAt 104 = .ok (.iaload, 1) := by decide +kernel
theorem dX9_nameAt_105 : decode cX9_nameAt 105 = .ok (.iload_n 2, 1) := by decide +kernel
theorem dX9_nameAt_106 : decode cX9_nameAt 106 = .ok (.if_icmp .ne 7, 3) := by decide +kernel
theorem dX9_nameAt_109 : decode cX9_nameAt 109 = .ok (.iconst 1, 1) := by decide +kernel
theorem dX9_nameAt_110 : decode cX9_nameAt 110 = .ok (.goto 4, 3) := by decide +kernel
theorem dX9_nameAt_113 : decode cX9_nameAt 113 = .ok (.iconst 0, 1) := by decide +kernel
theorem dX9_nameAt_114 : decode cX9_nameAt 114 = .ok (.istore 7, 2) := by decide +kernel
theorem dX9_nameAt_116 : decode cX9_nameAt 116 = .ok (.iconst 0, 1) := by decide +kernel
theorem dX9_nameAt_117 : decode cX9_nameAt 117 = .ok (.istore 8, 2) := by decide +kernel
theorem dX9_nameAt_119 : decode cX9_nameAt 119 = .ok (.iload 7, 2) := by decide +kernel
theorem dX9_nameAt_121 : decode cX9_nameAt 121 = .ok (.ifCond .eq 44, 3) := by decide +kernel
theorem dX9_nameAt_124 : decode cX9_nameAt 124 = .ok (.iload 8, 2) := by decide +kernel
theorem dX9_nameAt_126 : decode cX9_nameAt 126 = .ok (.iload_n 2, 1) := by decide +kernel
theorem dX9_nameAt_127 : decode cX9_nameAt 127 = .ok (.if_icmp .ge 38, 3) := by decide +kernel
theorem dX9_nameAt_130 : decode cX9_nameAt 130 = .ok (.aload_n 0, 1) := by decide +kernel
theorem dX9_nameAt_131 : decode cX9_nameAt 131 = .ok (.getfield 9, 3) := by decide +kernel
theorem dX9_nameAt_134 : decode cX9_nameAt 134 = .ok (.iload 6, 2) := by decide +kernel
theorem dX9_nameAt_136 : decode cX9_nameAt 136 = .ok (.iload 8, 2) := by decide +kernel
theorem dX9_nameAt_138 : decode cX9_nameAt 138 = .ok (.iadd, 1) := by decide +kernel
theorem dX9_nameAt_139 : decode cX9_nameAt 139 = .ok (.baload, 1) := by decide +kernel
theorem dX9_nameAt_140 : decode cX9_nameAt 140 = .ok (.aload_n 0, 1) := by decide +kernel
theorem dX9_nameAt_141 : decode cX9_nameAt 141 = .ok (.getfield 9, 3) := by decide +kernel
theorem dX9_nameAt_144 : decode cX9_nameAt 144 = .ok (.iload_n 1, 1) := by decide +kernel
theorem dX9_nameAt_145 : decode cX9_nameAt 145 = .ok (.iload 8, 2) := by decide +kernel
theorem dX9_nameAt_147 : decode cX9_nameAt 147 = .ok (.iadd, 1) := by decide +kernel
theorem dX9_nameAt_148 : decode cX9_nameAt 148 = .ok (.baload, 1) := by decide +kernel
theorem dX9_nameAt_149 : decode cX9_nameAt 149 = .ok (.if_icmp .ne 7, 3) := by decide +kernel
theorem dX9_nameAt_152 : decode cX9_nameAt 152 = .ok (.iconst 1, 1) := by decide +kernel
theorem dX9_nameAt_153 : decode cX9_nameAt 153 = .ok (.goto 4, 3) := by decide +kernel
theorem dX9_nameAt_156 : decode cX9_nameAt 156 = .ok (.iconst 0, 1) := by decide +kernel
theorem dX9_nameAt_157 : decode cX9_nameAt 157 = .ok (.istore 7, 2) := by decide +kernel
theorem dX9_nameAt_159 : decode cX9_nameAt 159 = .ok (.iinc 8 1, 3) := by decide +kernel
theorem dX9_nameAt_162 : decode cX9_nameAt 162 = .ok (.goto (-43), 3) := by decide +kernel
theorem dX9_nameAt_165 : decode cX9_nameAt 165 = .ok (.iload 7, 2) := by decide +kernel
theorem dX9_nameAt_167 : decode cX9_nameAt 167 = .ok (.ifCond .eq 6, 3) := by decide +kernel
theorem dX9_nameAt_170 : decode cX9_nameAt 170 = .ok (.iload 4, 2) := by decide +kernel
theorem dX9_nameAt_172 : decode cX9_nameAt 172 = .ok (.ireturn, 1) := by decide +kernel
theorem dX9_nameAt_173 : decode cX9_nameAt 173 = .ok (.aload_n 0, 1) := by decide +kernel
theorem dX9_nameAt_174 : decode cX9_nameAt 174 = .ok (.getfield 27, 3) := by decide +kernel
theorem dX9_nameAt_177 : decode cX9_nameAt 177 = .ok (.iload 4, 2) := by decide +kernel
theorem dX9_nameAt_179 : decode cX9_nameAt 179 = .ok (.iconst 5, 1) := by decide +kernel
theorem dX9_nameAt_180 : decode cX9_nameAt 180 = .ok (.imul, 1) := by decide +kernel
theorem dX9_nameAt_181 : decode cX9_nameAt 181 = .ok (.iconst 4, 1) := by decide +kernel
theorem dX9_nameAt_182 : decode cX9_nameAt 182 = .ok (.iadd, 1) := by decide +kernel
theorem dX9_nameAt_183 : decode cX9_nameAt 183 = .ok (.iaload, 1) := by decide +kernel
theorem dX9_nameAt_184 : decode cX9_nameAt 184 = .ok (.iconst 1, 1) := by decide +kernel
theorem dX9_nameAt_185 : decode cX9_nameAt 185 = .ok (.isub, 1) := by decide +kernel
theorem dX9_nameAt_186 : decode cX9_nameAt 186 = .ok (.istore 4, 2) := by decide +kernel
theorem dX9_nameAt_188 : decode cX9_nameAt 188 = .ok (.iinc 5 (-1), 3) := by decide +kernel
theorem dX9_nameAt_191 : decode cX9_nameAt 191 = .ok (.goto (-120), 3) := by decide +kernel
theorem dX9_nameAt_194 : decode cX9_nameAt 194 = .ok (.aload_n 0, 1) := by decide +kernel
theorem dX9_nameAt_195 : decode cX9_nameAt 195 = .ok (.getfield 43, 3) := by decide +kernel
theorem dX9_nameAt_198 : decode cX9_nameAt 198 = .ok (.sipush 16384, 3) := by decide +kernel
theorem dX9_nameAt_201 : decode cX9_nameAt 201 = .ok (.if_icmp .ge 13, 3) := by decide +kernel
theorem dX9_nameAt_204 : decode cX9_nameAt 204 = .ok (.aload_n 0, 1) := by decide +kernel
theorem dX9_nameAt_205 : decode cX9_nameAt 205 = .ok (.dup, 1) := by decide +kernel
theorem dX9_nameAt_206 : decode cX9_nameAt 206 = .ok (.getfield 43, 3) := by decide +kernel
theorem dX9_nameAt_209 : decode cX9_nameAt 209 = .ok (.iconst 1, 1) := by decide +kernel
theorem dX9_nameAt_210 : decode cX9_nameAt 210 = .ok (.iadd, 1) := by decide +kernel
theorem dX9_nameAt_211 : decode cX9_nameAt 211 = .ok (.putfield 43, 3) := by decide +kernel
theorem dX9_nameAt_214 : decode cX9_nameAt 214 = .ok (.aload_n 0, 1) := by decide +kernel
theorem dX9_nameAt_215 : decode cX9_nameAt 215 = .ok (.getfield 43, 3) := by decide +kernel
theorem dX9_nameAt_218 : decode cX9_nameAt 218 = .ok (.iconst 1, 1) := by decide +kernel
theorem dX9_nameAt_219 : decode cX9_nameAt 219 = .ok (.isub, 1) := by decide +kernel
theorem dX9_nameAt_220 : decode cX9_nameAt 220 = .ok (.istore 4, 2) := by decide +kernel
theorem dX9_nameAt_222 : decode cX9_nameAt 222 = .ok (.aload_n 0, 1) := by decide +kernel
theorem dX9_nameAt_223 : decode cX9_nameAt 223 = .ok (.getfield 27, 3) := by decide +kernel
theorem dX9_nameAt_226 : decode cX9_nameAt 226 = .ok (.iload 4, 2) := by decide +kernel
theorem dX9_nameAt_228 : decode cX9_nameAt 228 = .ok (.iconst 5, 1) := by decide +kernel
theorem dX9_nameAt_229 : decode cX9_nameAt 229 = .ok (.imul, 1) := by decide +kernel
theorem dX9_nameAt_230 : decode cX9_nameAt 230 = .ok (.iconst 0, 1) := by decide +kernel
theorem dX9_nameAt_231 : decode cX9_nameAt 231 = .ok (.iadd, 1) := by decide +kernel
theorem dX9_nameAt_232 : decode cX9_nameAt 232 = .ok (.iload_n 1, 1) := by decide +kernel
theorem dX9_nameAt_233 : decode cX9_nameAt 233 = .ok (.iastore, 1) := by decide +kernel
theorem dX9_nameAt_234 : decode cX9_nameAt 234 = .ok (.aload_n 0, 1) := by decide +kernel
theorem dX9_nameAt_235 : decode cX9_nameAt 235 = .ok (.getfield 27, 3) := by decide +kernel
theorem dX9_nameAt_238 : decode cX9_nameAt 238 = .ok (.iload 4, 2) := by decide +kernel
theorem dX9_nameAt_240 : decode cX9_nameAt 240 = .ok (.iconst 5, 1) := by decide +kernel
theorem dX9_nameAt_241 : decode cX9_nameAt 241 = .ok (.imul, 1) := by decide +kernel
theorem dX9_nameAt_242 : decode cX9_nameAt 242 = .ok (.iconst 1, 1) := by decide +kernel
theorem dX9_nameAt_243 : decode cX9_nameAt 243 = .ok (.iadd, 1) := by decide +kernel
theorem dX9_nameAt_244 : decode cX9_nameAt 244 = .ok (.iload_n 2, 1) := by decide +kernel
theorem dX9_nameAt_245 : decode cX9_nameAt 245 = .ok (.iastore, 1) := by decide +kernel
theorem dX9_nameAt_246 : decode cX9_nameAt 246 = .ok (.aload_n 0, 1) := by decide +kernel
theorem dX9_nameAt_247 : decode cX9_nameAt 247 = .ok (.getfield 27, 3) := by decide +kernel
theorem dX9_nameAt_250 : decode cX9_nameAt 250 = .ok (.iload 4, 2) := by decide +kernel
theorem dX9_nameAt_252 : decode cX9_nameAt 252 = .ok (.iconst 5, 1) := by decide +kernel
theorem dX9_nameAt_253 : decode cX9_nameAt 253 = .ok (.imul, 1) := by decide +kernel
theorem dX9_nameAt_254 : decode cX9_nameAt 254 = .ok (.iconst 2, 1) := by decide +kernel
theorem dX9_nameAt_255 : decode cX9_nameAt 255 = .ok (.iadd, 1) := by decide +kernel
theorem dX9_nameAt_256 : decode cX9_nameAt 256 = .ok (.iconst 0, 1) := by decide +kernel
theorem dX9_nameAt_257 : decode cX9_nameAt 257 = .ok (.iastore, 1) := by decide +kernel
theorem dX9_nameAt_258 : decode cX9_nameAt 258 = .ok (.aload_n 0, 1) := by decide +kernel
theorem dX9_nameAt_259 : decode cX9_nameAt 259 = .ok (.getfield 27, 3) := by decide +kernel
theorem dX9_nameAt_262 : decode cX9_nameAt 262 = .ok (.iload 4, 2) := by decide +kernel
theorem dX9_nameAt_264 : decode cX9_nameAt 264 = .ok (.iconst 5, 1) := by decide +kernel
theorem dX9_nameAt_265 : decode cX9_nameAt 265 = .ok (.imul, 1) := by decide +kernel
theorem dX9_nameAt_266 : decode cX9_nameAt 266 = .ok (.iconst 4, 1) := by decide +kernel
theorem dX9_nameAt_267 : decode cX9_nameAt 267 = .ok (.iadd, 1) := by decide +kernel
theorem dX9_nameAt_268 : decode cX9_nameAt 268 = .ok (.aload_n 0, 1) := by decide +kernel
theorem dX9_nameAt_269 : decode cX9_nameAt 269 = .ok (.getfield 30, 3) := by decide +kernel
theorem dX9_nameAt_272 : decode cX9_nameAt 272 = .ok (.iload_n 3, 1) := by decide +kernel
theorem dX9_nameAt_273 : decode cX9_nameAt 273 = .ok (.iaload, 1) := by decide +kernel
theorem dX9_nameAt_274 : decode cX9_nameAt 274 = .ok (.iastore, 1) := by decide +kernel
theorem dX9_nameAt_275 : decode cX9_nameAt 275 = .ok (.aload_n 0, 1) := by decide +kernel
theorem dX9_nameAt_276 : decode cX9_nameAt 276 = .ok (.getfield 30, 3) := by decide +kernel
theorem dX9_nameAt_279 : decode cX9_nameAt 279 = .ok (.iload_n 3, 1) := by decide +kernel
theorem dX9_nameAt_280 : decode cX9_nameAt 280 = .ok (.iload 4, 2) := by decide +kernel
theorem dX9_nameAt_282 : decode cX9_nameAt 282 = .ok (.iconst 1, 1) := by decide +kernel
theorem dX9_nameAt_283 : decode cX9_nameAt 283 = .ok (.iadd, 1) := by decide +kernel
theorem dX9_nameAt_284 : decode cX9_nameAt 284 = .ok (.iastore, 1) := by decide +kernel
theorem dX9_nameAt_285 : decode cX9_nameAt 285 = .ok (.iload 4, 2) := by decide +kernel
theorem dX9_nameAt_287 : decode cX9_nameAt 287 = .ok (.ireturn, 1) := by decide +kernel
theorem dX9_isDefined_0 : decode cX9_isDefined 0 = .ok (.aload_n 0, 1) := by decide +kernel
theorem dX9_isDefined_1 : decode cX9_isDefined 1 = .ok (.getfield 27, 3) := by decide +kernel
theorem dX9_isDefined_4 : decode cX9_isDefined 4 = .ok (.iload_n 1, 1) := by decide +kernel
theorem dX9_isDefined_5 : decode cX9_isDefined 5 = .ok (.iconst 5, 1) := by decide +kernel
theorem dX9_isDefined_6 : decode cX9_isDefined 6 = .ok (.imul, 1) := by decide +kernel
theorem dX9_isDefined_7 : decode cX9_isDefined 7 = .ok (.iconst 2, 1) := by decide +kernel
theorem dX9_isDefined_8 : decode cX9_isDefined 8 = .ok (.iadd, 1) := by decide +kernel
theorem dX9_isDefined_9 : decode cX9_isDefined 9 = .ok (.iaload, 1) := by decide +kernel
theorem dX9_isDefined_10 : decode cX9_isDefined 10 = .ok (.ifCond .eq 7, 3) := by decide +kernel
theorem dX9_isDefined_13 : decode cX9_isDefined 13 = .ok (.iconst 1, 1) := by decide +kernel
theorem dX9_isDefined_14 : decode cX9_isDefined 14 = .ok (.goto 4, 3) := by decide +kernel
theorem dX9_isDefined_17 : decode cX9_isDefined 17 = .ok (.iconst 0, 1) := by decide +kernel
theorem dX9_isDefined_18 : decode cX9_isDefined 18 = .ok (.ireturn, 1) := by decide +kernel
theorem dX9_define_0 : decode cX9_define 0 = .ok (.aload_n 0, 1) := by decide +kernel
theorem dX9_define_1 : decode cX9_define 1 = .ok (.getfield 27, 3) := by decide +kernel
theorem dX9_define_4 : decode cX9_define 4 = .ok (.iload_n 1, 1) := by decide +kernel
theorem dX9_define_5 : decode cX9_define 5 = .ok (.iconst 5, 1) := by decide +kernel
theorem dX9_define_6 : decode cX9_define 6 = .ok (.imul, 1) := by decide +kernel
theorem dX9_define_7 : decode cX9_define 7 = .ok (.iconst 2, 1) := by decide +kernel
theorem dX9_define_8 : decode cX9_define 8 = .ok (.iadd, 1) := by decide +kernel
theorem dX9_define_9 : decode cX9_define 9 = .ok (.iload_n 2, 1) := by decide +kernel
theorem dX9_define_10 : decode cX9_define 10 = .ok (.iastore, 1) := by decide +kernel
theorem dX9_define_11 : decode cX9_define 11 = .ok (.aload_n 0, 1) := by decide +kernel
theorem dX9_define_12 : decode cX9_define 12 = .ok (.getfield 27, 3) := by decide +kernel
theorem dX9_define_15 : decode cX9_define 15 = .ok (.iload_n 1, 1) := by decide +kernel
theorem dX9_define_16 : decode cX9_define 16 = .ok (.iconst 5, 1) := by decide +kernel
theorem dX9_define_17 : decode cX9_define 17 = .ok (.imul, 1) := by decide +kernel
theorem dX9_define_18 : decode cX9_define 18 = .ok (.iconst 3, 1) := by decide +kernel
theorem dX9_define_19 : decode cX9_define 19 = .ok (.iadd, 1) := by decide +kernel
theorem dX9_define_20 : decode cX9_define 20 = .ok (.iload_n 3, 1) := by decide +kernel
theorem dX9_define_21 : decode cX9_define 21 = .ok (.iastore, 1) := by decide +kernel
theorem dX9_define_22 : decode cX9_define 22 = .ok (.return_, 1) := by decide +kernel
theorem dX9_addLabel_0 : decode cX9_addLabel 0 = .ok (.aload_n 0, 1) := by decide +kernel
theorem dX9_addLabel_1 : decode cX9_addLabel 1 = .ok (.getfield 46, 3) := by decide +kernel
theorem dX9_addLabel_4 : decode cX9_addLabel 4 = .ok (.sipush 16384, 3) := by decide +kernel
theorem dX9_addLabel_7 : decode cX9_addLabel 7 = .ok (.invokestatic 58, 3) := by decide +kernel
theorem dX9_addLabel_10 : decode cX9_addLabel 10 = .ok (.istore 4, 2) := by decide +kernel
theorem dX9_addLabel_12 : decode cX9_addLabel 12 = .ok (.aload_n 0, 1) := by decide +kernel
theorem dX9_addLabel_13 : decode cX9_addLabel 13 = .ok (.iload 4, 2) := by decide +kernel
theorem dX9_addLabel_15 : decode cX9_addLabel 15 = .ok (.iconst 1, 1) := by decide +kernel
theorem dX9_addLabel_16 : decode cX9_addLabel 16 = .ok (.iadd, 1) := by decide +kernel
theorem dX9_addLabel_17 : decode cX9_addLabel 17 = .ok (.putfield 46, 3) := by decide +kernel
theorem dX9_addLabel_20 : decode cX9_addLabel 20 = .ok (.aload_n 0, 1) := by decide +kernel
theorem dX9_addLabel_21 : decode cX9_addLabel 21 = .ok (.getfield 36, 3) := by decide +kernel
theorem dX9_addLabel_24 : decode cX9_addLabel 24 = .ok (.iload 4, 2) := by decide +kernel
theorem dX9_addLabel_26 : decode cX9_addLabel 26 = .ok (.iconst 5, 1) := by decide +kernel
theorem dX9_addLabel_27 : decode cX9_addLabel 27 = .ok (.imul, 1) := by decide +kernel
theorem dX9_addLabel_28 : decode cX9_addLabel 28 = .ok (.iconst 0, 1) := by decide +kernel
theorem dX9_addLabel_29 : decode cX9_addLabel 29 = .ok (.iadd, 1) := by decide +kernel
theorem dX9_addLabel_30 : decode cX9_addLabel 30 = .ok (.iload_n 1, 1) := by decide +kernel
theorem dX9_addLabel_31 : decode cX9_addLabel 31 = .ok (.iastore, 1) := by decide +kernel
theorem dX9_addLabel_32 : decode cX9_addLabel 32 = .ok (.aload_n 0, 1) := by decide +kernel
theorem dX9_addLabel_33 : decode cX9_addLabel 33 = .ok (.getfield 36, 3) := by decide +kernel
theorem dX9_addLabel_36 : decode cX9_addLabel 36 = .ok (.iload 4, 2) := by decide +kernel
theorem dX9_addLabel_38 : decode cX9_addLabel 38 = .ok (.iconst 5, 1) := by decide +kernel
theorem dX9_addLabel_39 : decode cX9_addLabel 39 = .ok (.imul, 1) := by decide +kernel
theorem dX9_addLabel_40 : decode cX9_addLabel 40 = .ok (.iconst 1, 1) := by decide +kernel
theorem dX9_addLabel_41 : decode cX9_addLabel 41 = .ok (.iadd, 1) := by decide +kernel
theorem dX9_addLabel_42 : decode cX9_addLabel 42 = .ok (.iload_n 2, 1) := by decide +kernel
theorem dX9_addLabel_43 : decode cX9_addLabel 43 = .ok (.iastore, 1) := by decide +kernel
theorem dX9_addLabel_44 : decode cX9_addLabel 44 = .ok (.aload_n 0, 1) := by decide +kernel
theorem dX9_addLabel_45 : decode cX9_addLabel 45 = .ok (.getfield 36, 3) := by decide +kernel
theorem dX9_addLabel_48 : decode cX9_addLabel 48 = .ok (.iload 4, 2) := by decide +kernel
theorem dX9_addLabel_50 : decode cX9_addLabel 50 = .ok (.iconst 5, 1) := by decide +kernel
theorem dX9_addLabel_51 : decode cX9_addLabel 51 = .ok (.imul, 1) := by decide +kernel
theorem dX9_addLabel_52 : decode cX9_addLabel 52 = .ok (.iconst 2, 1) := by decide +kernel
theorem dX9_addLabel_53 : decode cX9_addLabel 53 = .ok (.iadd, 1) := by decide +kernel
theorem dX9_addLabel_54 : decode cX9_addLabel 54 = .ok (.iconst 0, 1) := by decide +kernel
theorem dX9_addLabel_55 : decode cX9_addLabel 55 = .ok (.iastore, 1) := by decide +kernel
theorem dX9_addLabel_56 : decode cX9_addLabel 56 = .ok (.aload_n 0, 1) := by decide +kernel
theorem dX9_addLabel_57 : decode cX9_addLabel 57 = .ok (.getfield 36, 3) := by decide +kernel
theorem dX9_addLabel_60 : decode cX9_addLabel 60 = .ok (.iload 4, 2) := by decide +kernel
theorem dX9_addLabel_62 : decode cX9_addLabel 62 = .ok (.iconst 5, 1) := by decide +kernel
theorem dX9_addLabel_63 : decode cX9_addLabel 63 = .ok (.imul, 1) := by decide +kernel
theorem dX9_addLabel_64 : decode cX9_addLabel 64 = .ok (.iconst 3, 1) := by decide +kernel
theorem dX9_addLabel_65 : decode cX9_addLabel 65 = .ok (.iadd, 1) := by decide +kernel
theorem dX9_addLabel_66 : decode cX9_addLabel 66 = .ok (.iconst 0, 1) := by decide +kernel
theorem dX9_addLabel_67 : decode cX9_addLabel 67 = .ok (.iastore, 1) := by decide +kernel
theorem dX9_addLabel_68 : decode cX9_addLabel 68 = .ok (.aload_n 0, 1) := by decide +kernel
theorem dX9_addLabel_69 : decode cX9_addLabel 69 = .ok (.getfield 36, 3) := by decide +kernel
theorem dX9_addLabel_72 : decode cX9_addLabel 72 = .ok (.iload 4, 2) := by decide +kernel
theorem dX9_addLabel_74 : decode cX9_addLabel 74 = .ok (.iconst 5, 1) := by decide +kernel
theorem dX9_addLabel_75 : decode cX9_addLabel 75 = .ok (.imul, 1) := by decide +kernel
theorem dX9_addLabel_76 : decode cX9_addLabel 76 = .ok (.iconst 4, 1) := by decide +kernel
theorem dX9_addLabel_77 : decode cX9_addLabel 77 = .ok (.iadd, 1) := by decide +kernel
theorem dX9_addLabel_78 : decode cX9_addLabel 78 = .ok (.iload_n 3, 1) := by decide +kernel
theorem dX9_addLabel_79 : decode cX9_addLabel 79 = .ok (.ifCond .ge 7, 3) := by decide +kernel
theorem dX9_addLabel_82 : decode cX9_addLabel 82 = .ok (.iconst 1, 1) := by decide +kernel
theorem dX9_addLabel_83 : decode cX9_addLabel 83 = .ok (.goto 4, 3) := by decide +kernel
theorem dX9_addLabel_86 : decode cX9_addLabel 86 = .ok (.iconst 0, 1) := by decide +kernel
theorem dX9_addLabel_87 : decode cX9_addLabel 87 = .ok (.iastore, 1) := by decide +kernel
theorem dX9_addLabel_88 : decode cX9_addLabel 88 = .ok (.iload_n 3, 1) := by decide +kernel
theorem dX9_addLabel_89 : decode cX9_addLabel 89 = .ok (.ifCond .lt 68, 3) := by decide +kernel
theorem dX9_addLabel_92 : decode cX9_addLabel 92 = .ok (.iload_n 3, 1) := by decide +kernel
theorem dX9_addLabel_93 : decode cX9_addLabel 93 = .ok (.bipush 9, 2) := by decide +kernel
theorem dX9_addLabel_95 : decode cX9_addLabel 95 = .ok (.if_icmp .gt 62, 3) := by decide +kernel
theorem dX9_addLabel_98 : decode cX9_addLabel 98 = .ok (.aload_n 0, 1) := by decide +kernel
theorem dX9_addLabel_99 : decode cX9_addLabel 99 = .ok (.getfield 33, 3) := by decide +kernel
theorem dX9_addLabel_102 : decode cX9_addLabel 102 = .ok (.bipush 10, 2) := by decide +kernel
theorem dX9_addLabel_104 : decode cX9_addLabel 104 = .ok (.iload_n 3, 1) := by decide +kernel
theorem dX9_addLabel_105 : decode cX9_addLabel 105 = .ok (.iadd, 1) := by decide +kernel
theorem dX9_addLabel_106 : decode cX9_addLabel 106 = .ok (.iaload, 1) := by decide +kernel
theorem dX9_addLabel_107 : decode cX9_addLabel 107 = .ok (.istore 5, 2) := by decide +kernel
theorem dX9_addLabel_109 : decode cX9_addLabel 109 = .ok (.iload 5, 2) := by decide +kernel
theorem dX9_addLabel_111 : decode cX9_addLabel 111 = .ok (.ifCond .ne 16, 3) := by decide +kernel
theorem dX9_addLabel_114 : decode cX9_addLabel 114 = .ok (.aload_n 0, 1) := by decide +kernel
theorem dX9_addLabel_115 : decode cX9_addLabel 115 = .ok (.getfield 33, 3) := by decide +kernel
theorem dX9_addLabel_118 : decode cX9_addLabel 118 = .ok (.iload_n 3, 1) := by decide +kernel
theorem dX9_addLabel_119 : decode cX9_addLabel 119 = .ok (.iload 4, 2) := by decide +kernel
theorem dX9_addLabel_121 : decode cX9_addLabel 121 = .ok (.iconst 1, 1) := by decide +kernel
theorem dX9_addLabel_122 : decode cX9_addLabel 122 = .ok (.iadd, 1) := by decide +kernel
theorem dX9_addLabel_123 : decode cX9_addLabel 123 = .ok (.iastore, 1) := by decide +kernel
theorem dX9_addLabel_124 : decode cX9_addLabel 124 = .ok (.goto 20, 3) := by decide +kernel
theorem dX9_addLabel_127 : decode cX9_addLabel 127 = .ok (.aload_n 0, 1) := by decide +kernel
theorem dX9_addLabel_128 : decode cX9_addLabel 128 = .ok (.getfield 36, 3) := by decide +kernel
theorem dX9_addLabel_131 : decode cX9_addLabel 131 = .ok (.iload 5, 2) := by decide +kernel
theorem dX9_addLabel_133 : decode cX9_addLabel 133 = .ok (.iconst 1, 1) := by decide +kernel
theorem dX9_addLabel_134 : decode cX9_addLabel 134 = .ok (.isub, 1) := by decide +kernel
theorem dX9_addLabel_135 : decode cX9_addLabel 135 = .ok (.iconst 5, 1) := by decide +kernel
theorem dX9_addLabel_136 : decode cX9_addLabel 136 = .ok (.imul, 1) := by decide +kernel
theorem dX9_addLabel_137 : decode cX9_addLabel 137 = .ok (.iconst 3, 1) := by decide +kernel
theorem dX9_addLabel_138 : decode cX9_addLabel 138 = .ok (.iadd, 1) := by decide +kernel
theorem dX9_addLabel_139 : decode cX9_addLabel 139 = .ok (.iload 4, 2) := by decide +kernel
theorem dX9_addLabel_141 : decode cX9_addLabel 141 = .ok (.iconst 1, 1) := by decide +kernel
theorem dX9_addLabel_142 : decode cX9_addLabel 142 = .ok (.iadd, 1) := by decide +kernel
theorem dX9_addLabel_143 : decode cX9_addLabel 143 = .ok (.iastore, 1) := by decide +kernel
theorem dX9_addLabel_144 : decode cX9_addLabel 144 = .ok (.aload_n 0, 1) := by decide +kernel
theorem dX9_addLabel_145 : decode cX9_addLabel 145 = .ok (.getfield 33, 3) := by decide +kernel
theorem dX9_addLabel_148 : decode cX9_addLabel 148 = .ok (.bipush 10, 2) := by decide +kernel
theorem dX9_addLabel_150 : decode cX9_addLabel 150 = .ok (.iload_n 3, 1) := by decide +kernel
theorem dX9_addLabel_151 : decode cX9_addLabel 151 = .ok (.iadd, 1) := by decide +kernel
theorem dX9_addLabel_152 : decode cX9_addLabel 152 = .ok (.iload 4, 2) := by decide +kernel
theorem dX9_addLabel_154 : decode cX9_addLabel 154 = .ok (.iconst 1, 1) := by decide +kernel
theorem dX9_addLabel_155 : decode cX9_addLabel 155 = .ok (.iadd, 1) := by decide +kernel
theorem dX9_addLabel_156 : decode cX9_addLabel 156 = .ok (.iastore, 1) := by decide +kernel
theorem dX9_addLabel_157 : decode cX9_addLabel 157 = .ok (.iload 4, 2) := by decide +kernel
theorem dX9_addLabel_159 : decode cX9_addLabel 159 = .ok (.ireturn, 1) := by decide +kernel
theorem dX9_standsBefore_0 : decode cX9_standsBefore 0 = .ok (.aload_n 0, 1) := by decide +kernel
theorem dX9_standsBefore_1 : decode cX9_standsBefore 1 = .ok (.getfield 36, 3) := by decide +kernel
theorem dX9_standsBefore_4 : decode cX9_standsBefore 4 = .ok (.iload_n 1, 1) := by decide +kernel
theorem dX9_standsBefore_5 : decode cX9_standsBefore 5 = .ok (.iconst 5, 1) := by decide +kernel
theorem dX9_standsBefore_6 : decode cX9_standsBefore 6 = .ok (.imul, 1) := by decide +kernel
theorem dX9_standsBefore_7 : decode cX9_standsBefore 7 = .ok (.iconst 0, 1) := by decide +kernel
theorem dX9_standsBefore_8 : decode cX9_standsBefore 8 = .ok (.iadd, 1) := by decide +kernel
theorem dX9_standsBefore_9 : decode cX9_standsBefore 9 = .ok (.iaload, 1) := by decide +kernel
theorem dX9_standsBefore_10 : decode cX9_standsBefore 10 = .ok (.iload_n 2, 1) := by decide +kernel
theorem dX9_standsBefore_11 : decode cX9_standsBefore 11 = .ok (.if_icmp .ne 7, 3) := by decide +kernel
theorem dX9_standsBefore_14 : decode cX9_standsBefore 14 = .ok (.iconst 1, 1) := by decide +kernel
theorem dX9_standsBefore_15 : decode cX9_standsBefore 15 = .ok (.goto 4, 3) := by decide +kernel
theorem dX9_standsBefore_18 : decode cX9_standsBefore 18 = .ok (.iconst 0, 1) := by decide +kernel
theorem dX9_standsBefore_19 : decode cX9_standsBefore 19 = .ok (.ireturn, 1) := by decide +kernel
theorem dX9_place_0 : decode cX9_place 0 = .ok (.aload_n 0, 1) := by decide +kernel
theorem dX9_place_1 : decode cX9_place 1 = .ok (.getfield 36, 3) := by decide +kernel
theorem dX9_place_4 : decode cX9_place 4 = .ok (.iload_n 1, 1) := by decide +kernel
theorem dX9_place_5 : decode cX9_place 5 = .ok (.iconst 5, 1) := by decide +kernel
theorem dX9_place_6 : decode cX9_place 6 = .ok (.imul, 1) := by decide +kernel
theorem dX9_place_7 : decode cX9_place 7 = .ok (.iconst 2, 1) := by decide +kernel
theorem dX9_place_8 : decode cX9_place 8 = .ok (.iadd, 1) := by decide +kernel
theorem dX9_place_9 : decode cX9_place 9 = .ok (.aload_n 0, 1) := by decide +kernel
theorem dX9_place_10 : decode cX9_place 10 = .ok (.getfield 36, 3) := by decide +kernel
theorem dX9_place_13 : decode cX9_place 13 = .ok (.iload_n 1, 1) := by decide +kernel
theorem dX9_place_14 : decode cX9_place 14 = .ok (.iconst 5, 1) := by decide +kernel
theorem dX9_place_15 : decode cX9_place 15 = .ok (.imul, 1) := by decide +kernel
theorem dX9_place_16 : decode cX9_place 16 = .ok (.iconst 1, 1) := by decide +kernel
theorem dX9_place_17 : decode cX9_place 17 = .ok (.iadd, 1) := by decide +kernel
theorem dX9_place_18 : decode cX9_place 18 = .ok (.iaload, 1) := by decide +kernel
theorem dX9_place_19 : decode cX9_place 19 = .ok (.ifCond .ne 7, 3) := by decide +kernel
theorem dX9_place_22 : decode cX9_place 22 = .ok (.iload_n 2, 1) := by decide +kernel
theorem dX9_place_23 : decode cX9_place 23 = .ok (.goto 4, 3) := by decide +kernel
theorem dX9_place_26 : decode cX9_place 26 = .ok (.iload_n 3, 1) := by decide +kernel
theorem dX9_place_27 : decode cX9_place 27 = .ok (.iastore, 1) := by decide +kernel
theorem dX9_place_28 : decode cX9_place 28 = .ok (.return_, 1) := by decide +kernel
theorem dX9_takeOperand_0 : decode cX9_takeOperand 0 = .ok (.aload_n 0, 1) := by decide +kernel
theorem dX9_takeOperand_1 : decode cX9_takeOperand 1 = .ok (.iconst 1, 1) := by decide +kernel
theorem dX9_takeOperand_2 : decode cX9_takeOperand 2 = .ok (.putfield 119, 3) := by decide +kernel
theorem dX9_takeOperand_5 : decode cX9_takeOperand 5 = .ok (.aload_n 0, 1) := by decide +kernel
theorem dX9_takeOperand_6 : decode cX9_takeOperand 6 = .ok (.getfield 73, 3) := by decide +kernel
theorem dX9_takeOperand_9 : decode cX9_takeOperand 9 = .ok (.iconst 2, 1) := by decide +kernel
theorem dX9_takeOperand_10 : decode cX9_takeOperand 10 = .ok (.if_icmp .ne 16, 3) := by decide +kernel
theorem dX9_takeOperand_13 : decode cX9_takeOperand 13 = .ok (.aload_n 0, 1) := by decide +kernel
theorem dX9_takeOperand_14 : decode cX9_takeOperand 14 = .ok (.bipush 16, 2) := by decide +kernel
theorem dX9_takeOperand_16 : decode cX9_takeOperand 16 = .ok (.aload_n 0, 1) := by decide +kernel
theorem dX9_takeOperand_17 : decode cX9_takeOperand 17 = .ok (.getfield 93, 3) := by decide +kernel
theorem dX9_takeOperand_20 : decode cX9_takeOperand 20 = .ok (.invokevirtual 131, 3) := by decide +kernel
theorem dX9_takeOperand_23 : decode cX9_takeOperand 23 = .ok (.goto 230, 3) := by decide +kernel
theorem dX9_takeOperand_26 : decode cX9_takeOperand 26 = .ok (.aload_n 0, 1) := by decide +kernel
theorem dX9_takeOperand_27 : decode cX9_takeOperand 27 = .ok (.getfield 73, 3) := by decide +kernel
theorem dX9_takeOperand_30 : decode cX9_takeOperand 30 = .ok (.iconst 1, 1) := by decide +kernel
theorem dX9_takeOperand_31 : decode cX9_takeOperand 31 = .ok (.if_icmp .ne 45, 3) := by decide +kernel
theorem dX9_takeOperand_34 : decode cX9_takeOperand 34 = .ok (.aload_n 0, 1) := by decide +kernel
theorem dX9_takeOperand_35 : decode cX9_takeOperand 35 = .ok (.getfield 55, 3) := by decide +kernel
theorem dX9_takeOperand_38 : decode cX9_takeOperand 38 = .ok (.aload_n 0, 1) := by decide +kernel
theorem dX9_takeOperand_39 : decode cX9_takeOperand 39 = .ok (.getfield 70, 3) := by decide +kernel
theorem dX9_takeOperand_42 : decode cX9_takeOperand 42 = .ok (.isub, 1) := by decide +kernel
theorem dX9_takeOperand_43 : decode cX9_takeOperand 43 = .ok (.iconst 1, 1) := by decide +kernel
theorem dX9_takeOperand_44 : decode cX9_takeOperand 44 = .ok (.if_icmp .ne 32, 3) := by decide +kernel
theorem dX9_takeOperand_47 : decode cX9_takeOperand 47 = .ok (.aload_n 0, 1) := by decide +kernel
theorem dX9_takeOperand_48 : decode cX9_takeOperand 48 = .ok (.getfield 9, 3) := by decide +kernel
theorem dX9_takeOperand_51 : decode cX9_takeOperand 51 = .ok (.aload_n 0, 1) := by decide +kernel
theorem dX9_takeOperand_52 : decode cX9_takeOperand 52 = .ok (.getfield 70, 3) := by decide +kernel
theorem dX9_takeOperand_55 : decode cX9_takeOperand 55 = .ok (.baload, 1) := by decide +kernel
theorem dX9_takeOperand_56 : decode cX9_takeOperand 56 = .ok (.bipush 46, 2) := by decide +kernel
theorem dX9_takeOperand_58 : decode cX9_takeOperand 58 = .ok (.if_icmp .ne 18, 3) := by decide +kernel
theorem dX9_takeOperand_61 : decode cX9_takeOperand 61 = .ok (.aload_n 0, 1) := by decide +kernel
theorem dX9_takeOperand_62 : decode cX9_takeOperand 62 = .ok (.iconst 0, 1) := by decide +kernel
theorem dX9_takeOperand_63 : decode cX9_takeOperand 63 = .ok (.putfield 115, 3) := by decide +kernel
theorem dX9_takeOperand_66 : decode cX9_takeOperand 66 = .ok (.aload_n 0, 1) := by decide +kernel
theorem dX9_takeOperand_67 : decode cX9_takeOperand 67 = .ok (.bipush 18, 2) := by decide +kernel
theorem dX9_takeOperand_69 : decode cX9_takeOperand 69 = .ok (.iconst 0, 1) := by decide +kernel
theorem dX9_takeOperand_70 : decode cX9_takeOperand 70 = .ok (.invokevirtual 131, 3) := by decide +kernel
theorem dX9_takeOperand_73 : decode cX9_takeOperand 73 = .ok (.goto 180, 3) := by decide +kernel
theorem dX9_takeOperand_76 : decode cX9_takeOperand 76 = .ok (.aload_n 0, 1) := by decide +kernel
theorem dX9_takeOperand_77 : decode cX9_takeOperand 77 = .ok (.getfield 73, 3) := by decide +kernel
theorem dX9_takeOperand_80 : decode cX9_takeOperand 80 = .ok (.iconst 1, 1) := by decide +kernel
theorem dX9_takeOperand_81 : decode cX9_takeOperand 81 = .ok (.if_icmp .ne 61, 3) := by decide +kernel
theorem dX9_takeOperand_84 : decode cX9_takeOperand 84 = .ok (.aload_n 0, 1) := by decide +kernel
theorem dX9_takeOperand_85 : decode cX9_takeOperand 85 = .ok (.aload_n 0, 1) := by decide +kernel
theorem dX9_takeOperand_86 : decode cX9_takeOperand 86 = .ok (.getfield 70, 3) := by decide +kernel
theorem dX9_takeOperand_89 : decode cX9_takeOperand 89 = .ok (.aload_n 0, 1) := by decide +kernel
theorem dX9_takeOperand_90 : decode cX9_takeOperand 90 = .ok (.getfield 55, 3) := by decide +kernel
theorem dX9_takeOperand_93 : decode cX9_takeOperand 93 = .ok (.aload_n 0, 1) := by decide +kernel
theorem dX9_takeOperand_94 : decode cX9_takeOperand 94 = .ok (.getfield 70, 3) := by decide +kernel
theorem dX9_takeOperand_97 : decode cX9_takeOperand 97 = .ok (.isub, 1) := by decide +kernel
theorem dX9_takeOperand_98 : decode cX9_takeOperand 98 = .ok (.invokevirtual 135, 3) := by decide +kernel
theorem dX9_takeOperand_101 : decode cX9_takeOperand 101 = .ok (.istore_n 1, 1) := by decide +kernel
theorem dX9_takeOperand_102 : decode cX9_takeOperand 102 = .ok (.aload_n 0, 1) := by decide +kernel
theorem dX9_takeOperand_103 : decode cX9_takeOperand 103 = .ok (.aload_n 0, 1) := by decide +kernel
theorem dX9_takeOperand_104 : decode cX9_takeOperand 104 = .ok (.getfield 115, 3) := by decide +kernel
theorem dX9_takeOperand_107 : decode cX9_takeOperand 107 = .ok (.ifCond .eq 21, 3) := by decide +kernel
theorem dX9_takeOperand_110 : decode cX9_takeOperand 110 = .ok (.aload_n 0, 1) := by decide +kernel
theorem dX9_takeOperand_111 : decode cX9_takeOperand 111 = .ok (.getfield 27, 3) := by decide +kernel
theorem dX9_takeOperand_114 : decode cX9_takeOperand 114 = .ok (.iload_n 1, 1) := by decide +kernel
theorem dX9_takeOperand_115 : decode cX9_takeOperand 115 = .ok (.iconst 5, 1) := by decide +kernel
theorem dX9_takeOperand_116 : decode cX9_takeOperand 116 = .ok (.imul, 1) := by decide +kernel
theorem dX9_takeOperand_117 : decode cX9_takeOperand 117 = .ok (.iconst 2, 1) := by decide +kernel
theorem dX9_takeOperand_118 : decode cX9_takeOperand 118 = .ok (.iadd, 1) := by decide +kernel
theorem dX9_takeOperand_119 : decode cX9_takeOperand 119 = .ok (.iaload, 1) := by decide +kernel
