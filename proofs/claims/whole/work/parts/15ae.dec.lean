theorem dX9_nameAt_219 : decode cX9_nameAt 219 = .ok (.isub, 1) := by decide +kernel
theorem dX9_nameAt_220 : decode cX9_nameAt 220 = .ok (.istore 4, 2) := by decide +kernel
theorem dX9_nameAt_222 : decode cX9_nameAt 222 = .ok (.aload_n 0, 1) := by decide +kernel
theorem dX9_nameAt_223 : decode cX9_nameAt 223 = .ok (.getfield 27, 3) := by decide +kernel
theorem dX9_nameAt_226 : decode cX9_nameAt 226 = .ok (.iload 4, 2) := by decide +kernel
theorem dX9_nameAt_228 : decode cX9_nameAt 228 = .ok (.iconst 5, 1) := by decide +kernel
theorem dX9_nameAt_229 : decode cX9_nameAt 229 = .ok (.imul, 1) := by decide +kernel
theorem dX9_nameAt_230 : decode cX9_nameAt 230 = .ok (.iconst 0, 1) := by decide +kernel
theorem dX9_nameAt_231 : decode cX9_nameAt 231 = .ok (.iadd, 1) := by decide +kernel
theorem dX9_nameAt_232 : decode cX9_nameAt 232 = .ok (.iload_n 1, 1) := by decide +kernel
theorem dX9_nameAt_233 : decode cX9_nameAt 233 = .ok (.iastore, 1) := by decide +kernel
theorem dX9_nameAt_234 : decode cX9_nameAt 234 = .ok (.aload_n 0, 1) := by decide +kernel
theorem dX9_nameAt_235 : decode cX9_nameAt 235 = .ok (.getfield 27, 3) := by decide +kernel
theorem dX9_nameAt_238 : decode cX9_nameAt 238 = .ok (.iload 4, 2) := by decide +kernel
theorem dX9_nameAt_240 : decode cX9_nameAt 240 = .ok (.iconst 5, 1) := by decide +kernel
theorem dX9_nameAt_241 : decode cX9_nameAt 241 = .ok (.imul, 1) := by decide +kernel
theorem dX9_nameAt_242 : decode cX9_nameAt 242 = .ok (.iconst 1, 1) := by decide +kernel
theorem dX9_nameAt_243 : decode cX9_nameAt 243 = .ok (.iadd, 1) := by decide +kernel
theorem dX9_nameAt_244 : decode cX9_nameAt 244 = .ok (.iload_n 2, 1) := by decide +kernel
theorem dX9_nameAt_245 : decode cX9_nameAt 245 = .ok (.iastore, 1) := by decide +kernel
theorem dX9_nameAt_246 : decode cX9_nameAt 246 = .ok (.aload_n 0, 1) := by decide +kernel
theorem dX9_nameAt_247 : decode cX9_nameAt 247 = .ok (.getfield 27, 3) := by decide +kernel
theorem dX9_nameAt_250 : decode cX9_nameAt 250 = .ok (.iload 4, 2) := by decide +kernel
theorem dX9_nameAt_252 : decode cX9_nameAt 252 = .ok (.iconst 5, 1) := by decide +kernel
theorem dX9_nameAt_253 : decode cX9_nameAt 253 = .ok (.imul, 1) := by decide +kernel
theorem dX9_nameAt_254 : decode cX9_nameAt 254 = .ok (.iconst 2, 1) := by decide +kernel
theorem dX9_nameAt_255 : decode cX9_nameAt 255 = .ok (.iadd, 1) := by decide +kernel
theorem dX9_nameAt_256 : decode cX9_nameAt 256 = .ok (.iconst 0, 1) := by decide +kernel
theorem dX9_nameAt_257 : decode cX9_nameAt 257 = .ok (.iastore, 1) := by decide +kernel
theorem dX9_nameAt_258 : decode cX9_nameAt 258 = .ok (.aload_n 0, 1) := by decide +kernel
theorem dX9_nameAt_259 : decode cX9_nameAt 259 = .ok (.getfield 27, 3) := by decide +kernel
theorem dX9_nameAt_262 : decode cX9_nameAt 262 = .ok (.iload 4, 2) := by decide +kernel
theorem dX9_nameAt_264 : decode cX9_nameAt 264 = .ok (.iconst 5, 1) := by decide +kernel
theorem dX9_nameAt_265 : decode cX9_nameAt 265 = .ok (.imul, 1) := by decide +kernel
theorem dX9_nameAt_266 : decode cX9_nameAt 266 = .ok (.iconst 4, 1) := by decide +kernel
theorem dX9_nameAt_267 : decode cX9_nameAt 267 = .ok (.iadd, 1) := by decide +kernel
theorem dX9_nameAt_268 : decode cX9_nameAt 268 = .ok (.aload_n 0, 1) := by decide +kernel
theorem dX9_nameAt_269 : decode cX9_nameAt 269 = .ok (.getfield 30, 3) := by decide +kernel
theorem dX9_nameAt_272 : decode cX9_nameAt 272 = .ok (.iload_n 3, 1) := by decide +kernel
theorem dX9_nameAt_273 : decode cX9_nameAt 273 = .ok (.iaload, 1) := by decide +kernel
theorem dX9_nameAt_274 : decode cX9_nameAt 274 = .ok (.iastore, 1) := by decide +kernel
theorem dX9_nameAt_275 : decode cX9_nameAt 275 = .ok (.aload_n 0, 1) := by decide +kernel
theorem dX9_nameAt_276 : decode cX9_nameAt 276 = .ok (.getfield 30, 3) := by decide +kernel
theorem dX9_nameAt_279 : decode cX9_nameAt 279 = .ok (.iload_n 3, 1) := by decide +kernel
theorem dX9_nameAt_280 : decode cX9_nameAt 280 = .ok (.iload 4, 2) := by decide +kernel
theorem dX9_nameAt_282 : decode cX9_nameAt 282 = .ok (.iconst 1, 1) := by decide +kernel
theorem dX9_nameAt_283 : decode cX9_nameAt 283 = .ok (.iadd, 1) := by decide +kernel
theorem dX9_nameAt_284 : decode cX9_nameAt 284 = .ok (.iastore, 1) := by decide +kernel
theorem dX9_nameAt_285 : decode cX9_nameAt 285 = .ok (.iload 4, 2) := by decide +kernel
theorem dX9_nameAt_287 : decode cX9_nameAt 287 = .ok (.ireturn, 1) := by decide +kernel
theorem dX9_isDefined_0 : decode cX9_isDefined 0 = .ok (.aload_n 0, 1) := by decide +kernel
theorem dX9_isDefined_1 : decode cX9_isDefined 1 = .ok (.getfield 27, 3) := by decide +kernel
theorem dX9_isDefined_4 : decode cX9_isDefined 4 = .ok (.iload_n 1, 1) := by decide +kernel
theorem dX9_isDefined_5 : decode cX9_isDefined 5 = .ok (.iconst 5, 1) := by decide +kernel
theorem dX9_isDefined_6 : decode cX9_isDefined 6 = .ok (.imul, 1) := by decide +kernel
theorem dX9_isDefined_7 : decode cX9_isDefined 7 = .ok (.iconst 2, 1) := by decide +kernel
theorem dX9_isDefined_8 : decode cX9_isDefined 8 = .ok (.iadd, 1) := by decide +kernel
theorem dX9_isDefined_9 : decode cX9_isDefined 9 = .ok (.iaload, 1) := by decide +kernel
theorem dX9_isDefined_10 : decode cX9_isDefined 10 = .ok (.ifCond .eq 7, 3) := by decide +kernel
theorem dX9_isDefined_13 : decode cX9_isDefined 13 = .ok (.iconst 1, 1) := by decide +kernel
theorem dX9_isDefined_14 : decode cX9_isDefined 14 = .ok (.goto 4, 3) := by decide +kernel
theorem dX9_isDefined_17 : decode cX9_isDefined 17 = .ok (.iconst 0, 1) := by decide +kernel
theorem dX9_isDefined_18 : decode cX9_isDefined 18 = .ok (.ireturn, 1) := by decide +kernel
theorem dX9_define_0 : decode cX9_define 0 = .ok (.aload_n 0, 1) := by decide +kernel
theorem dX9_define_1 : decode cX9_define 1 = .ok (.getfield 27, 3) := by decide +kernel
theorem dX9_define_4 : decode cX9_define 4 = .ok (.iload_n 1, 1) := by decide +kernel
theorem dX9_define_5 : decode cX9_define 5 = .ok (.iconst 5, 1) := by decide +kernel
theorem dX9_define_6 : decode cX9_define 6 = .ok (.imul, 1) := by decide +kernel
theorem dX9_define_7 : decode cX9_define 7 = .ok (.iconst 2, 1) := by decide +kernel
theorem dX9_define_8 : decode cX9_define 8 = .ok (.iadd, 1) := by decide +kernel
theorem dX9_define_9 : decode cX9_define 9 = .ok (.iload_n 2, 1) := by decide +kernel
theorem dX9_define_10 : decode cX9_define 10 = .ok (.iastore, 1) := by decide +kernel
theorem dX9_define_11 : decode cX9_define 11 = .ok (.aload_n 0, 1) := by decide +kernel
theorem dX9_define_12 : decode cX9_define 12 = .ok (.getfield 27, 3) := by decide +kernel
theorem dX9_define_15 : decode cX9_define 15 = .ok (.iload_n 1, 1) := by decide +kernel
theorem dX9_define_16 : decode cX9_define 16 = .ok (.iconst 5, 1) := by decide +kernel
theorem dX9_define_17 : decode cX9_define 17 = .ok (.imul, 1) := by decide +kernel
theorem dX9_define_18 : decode cX9_define 18 = .ok (.iconst 3, 1) := by decide +kernel
theorem dX9_define_19 : decode cX9_define 19 = .ok (.iadd, 1) := by decide +kernel
theorem dX9_define_20 : decode cX9_define 20 = .ok (.iload_n 3, 1) := by decide +kernel
theorem dX9_define_21 : decode cX9_define 21 = .ok (.iastore, 1) := by decide +kernel
theorem dX9_define_22 : decode cX9_define 22 = .ok (.return_, 1) := by decide +kernel
theorem dX9_addLabel_0 : decode cX9_addLabel 0 = .ok (.aload_n 0, 1) := by decide +kernel
theorem dX9_addLabel_1 : decode cX9_addLabel 1 = .ok (.getfield 46, 3) := by decide +kernel
theorem dX9_addLabel_4 : decode cX9_addLabel 4 = .ok (.sipush 16384, 3) := by decide +kernel
theorem dX9_addLabel_7 : decode cX9_addLabel 7 = .ok (.invokestatic 58, 3) := by decide +kernel
theorem dX9_addLabel_10 : decode cX9_addLabel 10 = .ok (.istore 4, 2) := by decide +kernel
theorem dX9_addLabel_12 : decode cX9_addLabel 12 = .ok (.aload_n 0, 1) := by decide +kernel
theorem dX9_addLabel_13 : decode cX9_addLabel 13 = .ok (.iload 4, 2) := by decide +kernel
theorem dX9_addLabel_15 : decode cX9_addLabel 15 = .ok (.iconst 1, 1) := by decide +kernel
theorem dX9_addLabel_16 : decode cX9_addLabel 16 = .ok (.iadd, 1) := by decide +kernel
theorem dX9_addLabel_17 : decode cX9_addLabel 17 = .ok (.putfield 46, 3) := by decide +kernel
theorem dX9_addLabel_20 : decode cX9_addLabel 20 = .ok (.aload_n 0, 1) := by decide +kernel
theorem dX9_addLabel_21 : decode cX9_addLabel 21 = .ok (.getfield 36, 3) := by decide +kernel
theorem dX9_addLabel_24 : decode cX9_addLabel 24 = .ok (.iload 4, 2) := by decide +kernel
theorem dX9_addLabel_26 : decode cX9_addLabel 26 = .ok (.iconst 5, 1) := by decide +kernel
theorem dX9_addLabel_27 : decode cX9_addLabel 27 = .ok (.imul, 1) := by decide +kernel
theorem dX9_addLabel_28 : decode cX9_addLabel 28 = .ok (.iconst 0, 1) := by decide +kernel
theorem dX9_addLabel_29 : decode cX9_addLabel 29 = .ok (.iadd, 1) := by decide +kernel
theorem dX9_addLabel_30 : decode cX9_addLabel 30 = .ok (.iload_n 1, 1) := by decide +kernel
theorem dX9_addLabel_31 : decode cX9_addLabel 31 = .ok (.iastore, 1) := by decide +kernel
theorem dX9_addLabel_32 : decode cX9_addLabel 32 = .ok (.aload_n 0, 1) := by decide +kernel
theorem dX9_addLabel_33 : decode cX9_addLabel 33 = .ok (.getfield 36, 3) := by decide +kernel
theorem dX9_addLabel_36 : decode cX9_addLabel 36 = .ok (.iload 4, 2) := by decide +kernel
theorem dX9_addLabel_38 : decode cX9_addLabel 38 = .ok (.iconst 5, 1) := by decide +kernel
theorem dX9_addLabel_39 : decode cX9_addLabel 39 = .ok (.imul, 1) := by decide +kernel
theorem dX9_addLabel_40 : decode cX9_addLabel 40 = .ok (.iconst 1, 1) := by decide +kernel
theorem dX9_addLabel_41 : decode cX9_addLabel 41 = .ok (.iadd, 1) := by decide +kernel
theorem dX9_addLabel_42 : decode cX9_addLabel 42 = .ok (.iload_n 2, 1) := by decide +kernel
theorem dX9_addLabel_43 : decode cX9_addLabel 43 = .ok (.iastore, 1) := by decide +kernel
theorem dX9_addLabel_44 : decode cX9_addLabel 44 = .ok (.aload_n 0, 1) := by decide +kernel
theorem dX9_addLabel_45 : decode cX9_addLabel 45 = .ok (.getfield 36, 3) := by decide +kernel
theorem dX9_addLabel_48 : decode cX9_addLabel 48 = .ok (.iload 4, 2) := by decide +kernel
theorem dX9_addLabel_50 : decode cX9_addLabel 50 = .ok (.iconst 5, 1) := by decide +kernel
theorem dX9_addLabel_51 : decode cX9_addLabel 51 = .ok (.imul, 1) := by decide +kernel
theorem dX9_addLabel_52 : decode cX9_addLabel 52 = .ok (.iconst 2, 1) := by decide +kernel
theorem dX9_addLabel_53 : decode cX9_addLabel 53 = .ok (.iadd, 1) := by decide +kernel
theorem dX9_addLabel_54 : decode cX9_addLabel 54 = .ok (.iconst 0, 1) := by decide +kernel
theorem dX9_addLabel_55 : decode cX9_addLabel 55 = .ok (.iastore, 1) := by decide +kernel
theorem dX9_addLabel_56 : decode cX9_addLabel 56 = .ok (.aload_n 0, 1) := by decide +kernel
theorem dX9_addLabel_57 : decode cX9_addLabel 57 = .ok (.getfield 36, 3) := by decide +kernel
theorem dX9_addLabel_60 : decode cX9_addLabel 60 = .ok (.iload 4, 2) := by decide +kernel
theorem dX9_addLabel_62 : decode cX9_addLabel 62 = .ok (.iconst 5, 1) := by decide +kernel
theorem dX9_addLabel_63 : decode cX9_addLabel 63 = .ok (.imul, 1) := by decide +kernel
theorem dX9_addLabel_64 : decode cX9_addLabel 64 = .ok (.iconst 3, 1) := by decide +kernel
theorem dX9_addLabel_65 : decode cX9_addLabel 65 = .ok (.iadd, 1) := by decide +kernel
theorem dX9_addLabel_66 : decode cX9_addLabel 66 = .ok (.iconst 0, 1) := by decide +kernel
theorem dX9_addLabel_67 : decode cX9_addLabel 67 = .ok (.iastore, 1) := by decide +kernel
theorem dX9_addLabel_68 : decode cX9_addLabel 68 = .ok (.aload_n 0, 1) := by decide +kernel
theorem dX9_addLabel_69 : decode cX9_addLabel 69 = .ok (.getfield 36, 3) := by decide +kernel
theorem dX9_addLabel_72 : decode cX9_addLabel 72 = .ok (.iload 4, 2) := by decide +kernel
theorem dX9_addLabel_74 : decode cX9_addLabel 74 = .ok (.iconst 5, 1) := by decide +kernel
theorem dX9_addLabel_75 : decode cX9_addLabel 75 = .ok (.imul, 1) := by decide +kernel
theorem dX9_addLabel_76 : decode cX9_addLabel 76 = .ok (.iconst 4, 1) := by decide +kernel
theorem dX9_addLabel_77 : decode cX9_addLabel 77 = .ok (.iadd, 1) := by decide +kernel
theorem dX9_addLabel_78 : decode cX9_addLabel 78 = .ok (.iload_n 3, 1) := by decide +kernel
theorem dX9_addLabel_79 : decode cX9_addLabel 79 = .ok (.ifCond .ge 7, 3) := by decide +kernel
theorem dX9_addLabel_82 : decode cX9_addLabel 82 = .ok (.iconst 1, 1) := by decide +kernel
theorem dX9_addLabel_83 : decode cX9_addLabel 83 = .ok (.goto 4, 3) := by decide +kernel
theorem dX9_addLabel_86 : decode cX9_addLabel 86 = .ok (.iconst 0, 1) := by decide +kernel
theorem dX9_addLabel_87 : decode cX9_addLabel 87 = .ok (.iastore, 1) := by decide +kernel
theorem dX9_addLabel_88 : decode cX9_addLabel 88 = .ok (.iload_n 3, 1) := by decide +kernel
theorem dX9_addLabel_89 : decode cX9_addLabel 89 = .ok (.ifCond .lt 68, 3) := by decide +kernel
theorem dX9_addLabel_92 : decode cX9_addLabel 92 = .ok (.iload_n 3, 1) := by decide +kernel
theorem dX9_addLabel_93 : decode cX9_addLabel 93 = .ok (.bipush 9, 2) := by decide +kernel
theorem dX9_addLabel_95 : decode cX9_addLabel 95 = .ok (.if_icmp .gt 62, 3) := by decide +kernel
theorem dX9_addLabel_98 : decode cX9_addLabel 98 = .ok (.aload_n 0, 1) := by decide +kernel
theorem dX9_addLabel_99 : decode cX9_addLabel 99 = .ok (.getfield 33, 3) := by decide +kernel
theorem dX9_addLabel_102 : decode cX9_addLabel 102 = .ok (.bipush 10, 2) := by decide +kernel
theorem dX9_addLabel_104 : decode cX9_addLabel 104 = .ok (.iload_n 3, 1) := by decide +kernel
theorem dX9_addLabel_105 : decode cX9_addLabel 105 = .ok (.iadd, 1) := by decide +kernel
theorem dX9_addLabel_106 : decode cX9_addLabel 106 = .ok (.iaload, 1) := by decide +kernel
theorem dX9_addLabel_107 : decode cX9_addLabel 107 = .ok (.istore 5, 2) := by decide +kernel
theorem dX9_addLabel_109 : decode cX9_addLabel 109 = .ok (.iload 5, 2) := by decide +kernel
theorem dX9_addLabel_111 : decode cX9_addLabel 111 = .ok (.ifCond .ne 16, 3) := by decide +kernel
theorem dX9_addLabel_114 : decode cX9_addLabel 114 = .ok (.aload_n 0, 1) := by decide +kernel
theorem dX9_addLabel_115 : decode cX9_addLabel 115 = .ok (.getfield 33, 3) := by decide +kernel
theorem dX9_addLabel_118 : decode cX9_addLabel 118 = .ok (.iload_n 3, 1) := by decide +kernel
theorem dX9_addLabel_119 : decode cX9_addLabel 119 = .ok (.iload 4, 2) := by decide +kernel
theorem dX9_addLabel_121 : decode cX9_addLabel 121 = .ok (.iconst 1, 1) := by decide +kernel
theorem dX9_addLabel_122 : decode cX9_addLabel 122 = .ok (.iadd, 1) := by decide +kernel
theorem dX9_addLabel_123 : decode cX9_addLabel 123 = .ok (.iastore, 1) := by decide +kernel
theorem dX9_addLabel_124 : decode cX9_addLabel 124 = .ok (.goto 20, 3) := by decide +kernel
theorem dX9_addLabel_127 : decode cX9_addLabel 127 = .ok (.aload_n 0, 1) := by decide +kernel
theorem dX9_addLabel_128 : decode cX9_addLabel 128 = .ok (.getfield 36, 3) := by decide +kernel
theorem dX9_addLabel_131 : decode cX9_addLabel 131 = .ok (.iload 5, 2) := by decide +kernel
theorem dX9_addLabel_133 : decode cX9_addLabel 133 = .ok (.iconst 1, 1) := by decide +kernel
theorem dX9_addLabel_134 : decode cX9_addLabel 134 = .ok (.isub, 1) := by decide +kernel
theorem dX9_addLabel_135 : decode cX9_addLabel 135 = .ok (.iconst 5, 1) := by decide +kernel
theorem dX9_addLabel_136 : decode cX9_addLabel 136 = .ok (.imul, 1) := by decide +kernel
theorem dX9_addLabel_137 : decode cX9_addLabel 137 = .ok (.iconst 3, 1) := by decide +kernel
theorem dX9_addLabel_138 : decode cX9_addLabel 138 = .ok (.iadd, 1) := by decide +kernel
theorem dX9_addLabel_139 : decode cX9_addLabel 139 = .ok (.iload 4, 2) := by decide +kernel
theorem dX9_addLabel_141 : decode cX9_addLabel 141 = .ok (.iconst 1, 1) := by decide +kernel
theorem dX9_addLabel_142 : decode cX9_addLabel 142 = .ok (.iadd, 1) := by decide +kernel
theorem dX9_addLabel_143 : decode cX9_addLabel 143 = .ok (.iastore, 1) := by decide +kernel
theorem dX9_addLabel_144 : decode cX9_addLabel 144 = .ok (.aload_n 0, 1) := by decide +kernel
theorem dX9_addLabel_145 : decode cX9_addLabel 145 = .ok (.getfield 33, 3) := by decide +kernel
theorem dX9_addLabel_148 : decode cX9_addLabel 148 = .ok (.bipush 10, 2) := by decide +kernel
theorem dX9_addLabel_150 : decode cX9_addLabel 150 = .ok (.iload_n 3, 1) := by decide +kernel
theorem dX9_addLabel_151 : decode cX9_addLabel 151 = .ok (.iadd, 1) := by decide +kernel
theorem dX9_addLabel_152 : decode cX9_addLabel 152 = .ok (.iload 4, 2) := by decide +kernel
theorem dX9_addLabel_154 : decode cX9_addLabel 154 = .ok (.iconst 1, 1) := by decide +kernel
theorem dX9_addLabel_155 : decode cX9_addLabel 155 = .ok (.iadd, 1) := by decide +kernel
theorem dX9_addLabel_156 : decode cX9_addLabel 156 = .ok (.iastore, 1) := by decide +kernel
theorem dX9_addLabel_157 : decode cX9_addLabel 157 = .ok (.iload 4, 2) := by decide +kernel
theorem dX9_addLabel_159 : decode cX9_addLabel 159 = .ok (.ireturn, 1) := by decide +kernel
theorem dX9_standsBefore_0 : decode cX9_standsBefore 0 = .ok (.aload_n 0, 1) := by decide +kernel
theorem dX9_standsBefore_1 : decode cX9_standsBefore 1 = .ok (.getfield 36, 3) := by decide +kernel
theorem dX9_standsBefore_4 : decode cX9_standsBefore 4 = .ok (.iload_n 1, 1) := by decide +kernel
theorem dX9_standsBefore_5 : decode cX9_standsBefore 5 = .ok (.iconst 5, 1) := by decide +kernel
theorem dX9_standsBefore_6 : decode cX9_standsBefore 6 = .ok (.imul, 1) := by decide +kernel
theorem dX9_standsBefore_7 : decode cX9_standsBefore 7 = .ok (.iconst 0, 1) := by decide +kernel
theorem dX9_standsBefore_8 : decode cX9_standsBefore 8 = .ok (.iadd, 1) := by decide +kernel
theorem dX9_standsBefore_9 : decode cX9_standsBefore 9 = .ok (.iaload, 1) := by decide +kernel
theorem dX9_standsBefore_10 : decode cX9_standsBefore 10 = .ok (.iload_n 2, 1) := by decide +kernel
theorem dX9_standsBefore_11 : decode cX9_standsBefore 11 = .ok (.if_icmp .ne 7, 3) := by decide +kernel
theorem dX9_standsBefore_14 : decode cX9_standsBefore 14 = .ok (.iconst 1, 1) := by decide +kernel
theorem dX9_standsBefore_15 : decode cX9_standsBefore 15 = .ok (.goto 4, 3) := by decide +kernel
theorem dX9_standsBefore_18 : decode cX9_standsBefore 18 = .ok (.iconst 0, 1) := by decide +kernel
theorem dX9_standsBefore_19 : decode cX9_standsBefore 19 = .ok (.ireturn, 1) := by decide +kernel
theorem dX9_place_0 : decode cX9_place 0 = .ok (.aload_n 0, 1) := by decide +kernel
theorem dX9_place_1 : decode cX9_place 1 = .ok (.getfield 36, 3) := by decide +kernel
theorem dX9_place_4 : decode cX9_place 4 = .ok (.iload_n 1, 1) := by decide +kernel
theorem dX9_place_5 : decode cX9_place 5 = .ok (.iconst 5, 1) := by decide +kernel
theorem dX9_place_6 : decode cX9_place 6 = .ok (.imul, 1) := by decide +kernel
theorem dX9_place_7 : decode cX9_place 7 = .ok (.iconst 2, 1) := by decide +kernel
theorem dX9_place_8 : decode cX9_place 8 = .ok (.iadd, 1) := by decide +kernel
theorem dX9_place_9 : decode cX9_place 9 = .ok (.aload_n 0, 1) := by decide +kernel
theorem dX9_place_10 : decode cX9_place 10 = .ok (.getfield 36, 3) := by decide +kernel
theorem dX9_place_13 : decode cX9_place 13 = .ok (.iload_n 1, 1) := by decide +kernel
theorem dX9_place_14 : decode cX9_place 14 = .ok (.iconst 5, 1) := by decide +kernel
theorem dX9_place_15 : decode cX9_place 15 = .ok (.imul, 1) := by decide +kernel
theorem dX9_place_16 : decode cX9_place 16 = .ok (.iconst 1, 1) := by decide +kernel
theorem dX9_place_17 : decode cX9_place 17 = .ok (.iadd, 1) := by decide +kernel
theorem dX9_place_18 : decode cX9_place 18 = .ok (.iaload, 1) := by decide +kernel
theorem dX9_place_19 : decode cX9_place 19 = .ok (.ifCond .ne 7, 3) := by decide +kernel
theorem dX9_place_22 : decode cX9_place 22 = .ok (.iload_n 2, 1) := by decide +kernel
theorem dX9_place_23 : decode cX9_place 23 = .ok (.goto 4, 3) := by decide +kernel
theorem dX9_place_26 : decode cX9_place 26 = .ok (.iload_n 3, 1) := by decide +kernel
theorem dX9_place_27 : decode cX9_place 27 = .ok (.iastore, 1) := by decide +kernel
theorem dX9_place_28 : decode cX9_place 28 = .ok (.return_, 1) := by decide +kernel
theorem dX9_sum_0 : decode cX9_sum 0 = .ok (.aload_n 0, 1) := by decide +kernel
theorem dX9_sum_1 : decode cX9_sum 1 = .ok (.getfield 39, 3) := by decide +kernel
theorem dX9_sum_4 : decode cX9_sum 4 = .ok (.istore_n 1, 1) := by decide +kernel
theorem dX9_sum_5 : decode cX9_sum 5 = .ok (.aload_n 0, 1) := by decide +kernel
theorem dX9_sum_6 : decode cX9_sum 6 = .ok (.iconst 0, 1) := by decide +kernel
theorem dX9_sum_7 : decode cX9_sum 7 = .ok (.putfield 112, 3) := by decide +kernel
theorem dX9_sum_10 : decode cX9_sum 10 = .ok (.aload_n 0, 1) := by decide +kernel
theorem dX9_sum_11 : decode cX9_sum 11 = .ok (.iconst 1, 1) := by decide +kernel
theorem dX9_sum_12 : decode cX9_sum 12 = .ok (.putfield 115, 3) := by decide +kernel
theorem dX9_sum_15 : decode cX9_sum 15 = .ok (.aload_n 0, 1) := by decide +kernel
theorem dX9_sum_16 : decode cX9_sum 16 = .ok (.iconst 0, 1) := by decide +kernel
theorem dX9_sum_17 : decode cX9_sum 17 = .ok (.putfield 119, 3) := by decide +kernel
theorem dX9_sum_20 : decode cX9_sum 20 = .ok (.aload_n 0, 1) := by decide +kernel
theorem dX9_sum_21 : decode cX9_sum 21 = .ok (.getfield 9, 3) := by decide +kernel
theorem dX9_sum_24 : decode cX9_sum 24 = .ok (.arraylength, 1) := by decide +kernel
theorem dX9_sum_25 : decode cX9_sum 25 = .ok (.istore_n 2, 1) := by decide +kernel
theorem dX9_sum_26 : decode cX9_sum 26 = .ok (.iload_n 2, 1) := by decide +kernel
theorem dX9_sum_27 : decode cX9_sum 27 = .ok (.ifCond .lt 80, 3) := by decide +kernel
theorem dX9_sum_30 : decode cX9_sum 30 = .ok (.aload_n 0, 1) := by decide +kernel
theorem dX9_sum_31 : decode cX9_sum 31 = .ok (.getfield 119, 3) := by decide +kernel
theorem dX9_sum_34 : decode cX9_sum 34 = .ok (.iconst 5, 1) := by decide +kernel
theorem dX9_sum_35 : decode cX9_sum 35 = .ok (.if_icmp .eq 72, 3) := by decide +kernel
theorem dX9_sum_38 : decode cX9_sum 38 = .ok (.aload_n 0, 1) := by decide +kernel
theorem dX9_sum_39 : decode cX9_sum 39 = .ok (.getfield 119, 3) := by decide +kernel
theorem dX9_sum_42 : decode cX9_sum 42 = .ok (.bipush 6, 2) := by decide +kernel
theorem dX9_sum_44 : decode cX9_sum 44 = .ok (.if_icmp .eq 63, 3) := by decide +kernel
theorem dX9_sum_47 : decode cX9_sum 47 = .ok (.aload_n 0, 1) := by decide +kernel
theorem dX9_sum_48 : decode cX9_sum 48 = .ok (.getfield 119, 3) := by decide +kernel
theorem dX9_sum_51 : decode cX9_sum 51 = .ok (.ifCond .ne 10, 3) := by decide +kernel
theorem dX9_sum_54 : decode cX9_sum 54 = .ok (.aload_n 0, 1) := by decide +kernel
theorem dX9_sum_55 : decode cX9_sum 55 = .ok (.invokevirtual 122, 3) := by decide +kernel
theorem dX9_sum_58 : decode cX9_sum 58 = .ok (.goto 22, 3) := by decide +kernel
theorem dX9_sum_61 : decode cX9_sum 61 = .ok (.aload_n 0, 1) := by decide +kernel
theorem dX9_sum_62 : decode cX9_sum 62 = .ok (.getfield 119, 3) := by decide +kernel
theorem dX9_sum_65 : decode cX9_sum 65 = .ok (.iconst 1, 1) := by decide +kernel
theorem dX9_sum_66 : decode cX9_sum 66 = .ok (.if_icmp .ne 10, 3) := by decide +kernel
theorem dX9_sum_69 : decode cX9_sum 69 = .ok (.aload_n 0, 1) := by decide +kernel
theorem dX9_sum_70 : decode cX9_sum 70 = .ok (.invokevirtual 125, 3) := by decide +kernel
theorem dX9_sum_73 : decode cX9_sum 73 = .ok (.goto 7, 3) := by decide +kernel
theorem dX9_sum_76 : decode cX9_sum 76 = .ok (.aload_n 0, 1) := by decide +kernel
theorem dX9_sum_77 : decode cX9_sum 77 = .ok (.invokevirtual 128, 3) := by decide +kernel
theorem dX9_sum_80 : decode cX9_sum 80 = .ok (.aload_n 0, 1) := by decide +kernel
theorem dX9_sum_81 : decode cX9_sum 81 = .ok (.getfield 119, 3) := by decide +kernel
theorem dX9_sum_84 : decode cX9_sum 84 = .ok (.iconst 5, 1) := by decide +kernel
theorem dX9_sum_85 : decode cX9_sum 85 = .ok (.if_icmp .eq 16, 3) := by decide +kernel
theorem dX9_sum_88 : decode cX9_sum 88 = .ok (.aload_n 0, 1) := by decide +kernel
theorem dX9_sum_89 : decode cX9_sum 89 = .ok (.getfield 119, 3) := by decide +kernel
theorem dX9_sum_92 : decode cX9_sum 92 = .ok (.bipush 6, 2) := by decide +kernel
theorem dX9_sum_94 : decode cX9_sum 94 = .ok (.if_icmp .eq 7, 3) := by decide +kernel
theorem dX9_sum_97 : decode cX9_sum 97 = .ok (.aload_n 0, 1) := by decide +kernel
theorem dX9_sum_98 : decode cX9_sum 98 = .ok (.invokevirtual 67, 3) := by decide +kernel
theorem dX9_sum_101 : decode cX9_sum 101 = .ok (.iinc 2 (-1), 3) := by decide +kernel
theorem dX9_sum_104 : decode cX9_sum 104 = .ok (.goto (-78), 3) := by decide +kernel
theorem dX9_sum_107 : decode cX9_sum 107 = .ok (.aload_n 0, 1) := by decide +kernel
theorem dX9_sum_108 : decode cX9_sum 108 = .ok (.bipush 21, 2) := by decide +kernel
theorem dX9_sum_110 : decode cX9_sum 110 = .ok (.iconst 0, 1) := by decide +kernel
theorem dX9_sum_111 : decode cX9_sum 111 = .ok (.invokevirtual 131, 3) := by decide +kernel
theorem dX9_sum_114 : decode cX9_sum 114 = .ok (.aload_n 0, 1) := by decide +kernel
theorem dX9_sum_115 : decode cX9_sum 115 = .ok (.getfield 119, 3) := by decide +kernel
theorem dX9_sum_118 : decode cX9_sum 118 = .ok (.iconst 5, 1) := by decide +kernel
theorem dX9_sum_119 : decode cX9_sum 119 = .ok (.if_icmp .ne 7, 3) := by decide +kernel
theorem dX9_sum_122 : decode cX9_sum 122 = .ok (.iload_n 1, 1) := by decide +kernel
theorem dX9_sum_123 : decode cX9_sum 123 = .ok (.goto 4, 3) := by decide +kernel
theorem dX9_sum_126 : decode cX9_sum 126 = .ok (.iconst (-1), 1) := by decide +kernel
theorem dX9_sum_127 : decode cX9_sum 127 = .ok (.ireturn, 1) := by decide +kernel
theorem dX9_takeOperand_0 : decode cX9_takeOperand 0 = .ok (.aload_n 0, 1) := by decide +kernel
theorem dX9_takeOperand_1 : decode cX9_takeOperand 1 = .ok (.iconst 1, 1) := by decide +kernel
theorem dX9_takeOperand_2 : decode cX9_takeOperand 2 = .ok (.putfield 119, 3) := by decide +kernel
theorem dX9_takeOperand_5 : decode cX9_takeOperand 5 = .ok (.aload_n 0, 1) := by decide +kernel
theorem dX9_takeOperand_6 : decode cX9_takeOperand 6 = .ok (.getfield 73, 3) := by decide +kernel
theorem dX9_takeOperand_9 : decode cX9_takeOperand 9 = .ok (.iconst 2, 1) := by decide +kernel
theorem dX9_takeOperand_10 : decode cX9_takeOperand 10 = .ok (.if_icmp .ne 16, 3) := by decide +kernel
theorem dX9_takeOperand_13 : decode cX9_takeOperand 13 = .ok (.aload_n 0, 1) := by decide +kernel
theorem dX9_takeOperand_14 : decode cX9_takeOperand 14 = .ok (.bipush 16, 2) := by decide +kernel
theorem dX9_takeOperand_16 : decode cX9_takeOperand 16 = .ok (.aload_n 0, 1) := by decide +kernel
theorem dX9_takeOperand_17 : decode cX9_takeOperand 17 = .ok (.getfield 93, 3) := by decide +kernel
theorem dX9_takeOperand_20 : decode cX9_takeOperand 20 = .ok (.invokevirtual 131, 3) := by decide +kernel
theorem dX9_takeOperand_23 : decode cX9_takeOperand 23 = .ok (.goto 230, 3) := by decide +kernel
theorem dX9_takeOperand_26 : decode cX9_takeOperand 26 = .ok (.aload_n 0, 1) := by decide +kernel
theorem dX9_takeOperand_27 : decode cX9_takeOperand 27 = .ok (.getfield 73, 3) := by decide +kernel
theorem dX9_takeOperand_30 : decode cX9_takeOperand 30 = .ok (.iconst 1, 1) := by decide +kernel
theorem dX9_takeOperand_31 : decode cX9_takeOperand 31 = .ok (.if_icmp .ne 45, 3) := by decide +kernel
theorem dX9_takeOperand_34 : decode cX9_takeOperand 34 = .ok (.aload_n 0, 1) := by decide +kernel
theorem dX9_takeOperand_35 : decode cX9_takeOperand 35 = .ok (.getfield 55, 3) := by decide +kernel
theorem dX9_takeOperand_38 : decode cX9_takeOperand 38 = .ok (.aload_n 0, 1) := by decide +kernel
theorem dX9_takeOperand_39 : decode cX9_takeOperand 39 = .ok (.getfield 70, 3) := by decide +kernel
theorem dX9_takeOperand_42 : decode cX9_takeOperand 42 = .ok (.isub, 1) := by decide +kernel
theorem dX9_takeOperand_43 : decode cX9_takeOperand 43 = .ok (.iconst 1, 1) := by decide +kernel
theorem dX9_takeOperand_44 : decode cX9_takeOperand 44 = .ok (.if_icmp .ne 32, 3) := by decide +kernel
theorem dX9_takeOperand_47 : decode cX9_takeOperand 47 = .ok (.aload_n 0, 1) := by decide +kernel
theorem dX9_takeOperand_48 : decode cX9_takeOperand 48 = .ok (.getfield 9, 3) := by decide +kernel
theorem dX9_takeOperand_51 : decode cX9_takeOperand 51 = .ok (.aload_n 0, 1) := by decide +kernel
theorem dX9_takeOperand_52 : decode cX9_takeOperand 52 = .ok (.getfield 70, 3) := by decide +kernel
theorem dX9_takeOperand_55 : decode cX9_takeOperand 55 = .ok (.baload, 1) := by decide +kernel
theorem dX9_takeOperand_56 : decode cX9_takeOperand 56 = .ok (.bipush 46, 2) := by decide +kernel
theorem dX9_takeOperand_58 : decode cX9_takeOperand 58 = .ok (.if_icmp .ne 18, 3) := by decide +kernel
theorem dX9_takeOperand_61 : decode cX9_takeOperand 61 = .ok (.aload_n 0, 1) := by decide +kernel
theorem dX9_takeOperand_62 : decode cX9_takeOperand 62 = .ok (.iconst 0, 1) := by decide +kernel
theorem dX9_takeOperand_63 : decode cX9_takeOperand 63 = .ok (.putfield 115, 3) := by decide +kernel
theorem dX9_takeOperand_66 : decode cX9_takeOperand 66 = .ok (.aload_n 0, 1) := by decide +kernel
theorem dX9_takeOperand_67 : decode cX9_takeOperand 67 = .ok (.bipush 18, 2) := by decide +kernel
theorem dX9_takeOperand_69 : decode cX9_takeOperand 69 = .ok (.iconst 0, 1) := by decide +kernel
theorem dX9_takeOperand_70 : decode cX9_takeOperand 70 = .ok (.invokevirtual 131, 3) := by decide +kernel
theorem dX9_takeOperand_73 : decode cX9_takeOperand 73 = .ok (.goto 180, 3) := by decide +kernel
theorem dX9_takeOperand_76 : decode cX9_takeOperand 76 = .ok (.aload_n 0, 1) := by decide +kernel
theorem dX9_takeOperand_77 : decode cX9_takeOperand 77 = .ok (.getfield 73, 3) := by decide +kernel
theorem dX9_takeOperand_80 : decode cX9_takeOperand 80 = .ok (.iconst 1, 1) := by decide +kernel
theorem dX9_takeOperand_81 : decode cX9_takeOperand 81 = .ok (.if_icmp .ne 61, 3) := by decide +kernel
theorem dX9_takeOperand_84 : decode cX9_takeOperand 84 = .ok (.aload_n 0, 1) := by decide +kernel
theorem dX9_takeOperand_85 : decode cX9_takeOperand 85 = .ok (.aload_n 0, 1) := by decide +kernel
theorem dX9_takeOperand_86 : decode cX9_takeOperand 86 = .ok (.getfield 70, 3) := by decide +kernel
theorem dX9_takeOperand_89 : decode cX9_takeOperand 89 = .ok (.aload_n 0, 1) := by decide +kernel
theorem dX9_takeOperand_90 : decode cX9_takeOperand 90 = .ok (.getfield 55, 3) := by decide +kernel
theorem dX9_takeOperand_93 : decode cX9_takeOperand 93 = .ok (.aload_n 0, 1) := by decide +kernel
theorem dX9_takeOperand_94 : decode cX9_takeOperand 94 = .ok (.getfield 70, 3) := by decide +kernel
theorem dX9_takeOperand_97 : decode cX9_takeOperand 97 = .ok (.isub, 1) := by decide +kernel
theorem dX9_takeOperand_98 : decode cX9_takeOperand 98 = .ok (.invokevirtual 135, 3) := by decide +kernel
theorem dX9_takeOperand_101 : decode cX9_takeOperand 101 = .ok (.istore_n 1, 1) := by decide +kernel
theorem dX9_takeOperand_102 : decode cX9_takeOperand 102 = .ok (.aload_n 0, 1) := by decide +kernel
theorem dX9_takeOperand_103 : decode cX9_takeOperand 103 = .ok (.aload_n 0, 1) := by decide +kernel
theorem dX9_takeOperand_104 : decode cX9_takeOperand 104 = .ok (.getfield 115, 3) := by decide +kernel
theorem dX9_takeOperand_107 : decode cX9_takeOperand 107 = .ok (.ifCond .eq 21, 3) := by decide +kernel
theorem dX9_takeOperand_110 : decode cX9_takeOperand 110 = .ok (.aload_n 0, 1) := by decide +kernel
theorem dX9_takeOperand_111 : decode cX9_takeOperand 111 = .ok (.getfield 27, 3) := by decide +kernel
theorem dX9_takeOperand_114 : decode cX9_takeOperand 114 = .ok (.iload_n 1, 1) := by decide +kernel
theorem dX9_takeOperand_115 : decode cX9_takeOperand 115 = .ok (.iconst 5, 1) := by decide +kernel
theorem dX9_takeOperand_116 : decode cX9_takeOperand 116 = .ok (.imul, 1) := by decide +kernel
theorem dX9_takeOperand_117 : decode cX9_takeOperand 117 = .ok (.iconst 2, 1) := by decide +kernel
theorem dX9_takeOperand_118 : decode cX9_takeOperand 118 = .ok (.iadd, 1) := by decide +kernel
theorem dX9_takeOperand_119 : decode cX9_takeOperand 119 = .ok (.iaload, 1) := by decide +kernel
theorem dX9_takeOperand_120 : decode cX9_takeOperand 120 = .ok (.iconst 1, 1) := by decide +kernel
theorem dX9_takeOperand_121 : decode cX9_takeOperand 121 = .ok (.if_icmp .ne 7, 3) := by decide +kernel
theorem dX9_takeOperand_124 : decode cX9_takeOperand 124 = .ok (.iconst 1, 1) := by decide +kernel
theorem dX9_takeOperand_125 : decode cX9_takeOperand 125 = .ok (.goto 4, 3) := by decide +kernel
theorem dX9_takeOperand_128 : decode cX9_takeOperand 128 = .ok (.iconst 0, 1) := by decide +kernel
theorem dX9_takeOperand_129 : decode cX9_takeOperand 129 = .ok (.putfield 115, 3) := by decide +kernel
theorem dX9_takeOperand_132 : decode cX9_takeOperand 132 = .ok (.aload_n 0, 1) := by decide +kernel
theorem dX9_takeOperand_133 : decode cX9_takeOperand 133 = .ok (.bipush 17, 2) := by decide +kernel
theorem dX9_takeOperand_135 : decode cX9_takeOperand 135 = .ok (.iload_n 1, 1) := by decide +kernel
theorem dX9_takeOperand_136 : decode cX9_takeOperand 136 = .ok (.invokevirtual 131, 3) := by decide +kernel
theorem dX9_takeOperand_139 : decode cX9_takeOperand 139 = .ok (.goto 114, 3) := by decide +kernel
theorem dX9_takeOperand_142 : decode cX9_takeOperand 142 = .ok (.aload_n 0, 1) := by decide +kernel
theorem dX9_takeOperand_143 : decode cX9_takeOperand 143 = .ok (.getfield 73, 3) := by decide +kernel
theorem dX9_takeOperand_146 : decode cX9_takeOperand 146 = .ok (.iconst 3, 1) := by decide +kernel
theorem dX9_takeOperand_147 : decode cX9_takeOperand 147 = .ok (.if_icmp .ne 10, 3) := by decide +kernel
theorem dX9_takeOperand_150 : decode cX9_takeOperand 150 = .ok (.aload_n 0, 1) := by decide +kernel
theorem dX9_takeOperand_151 : decode cX9_takeOperand 151 = .ok (.invokevirtual 138, 3) := by decide +kernel
theorem dX9_takeOperand_154 : decode cX9_takeOperand 154 = .ok (.goto 99, 3) := by decide +kernel
theorem dX9_takeOperand_157 : decode cX9_takeOperand 157 = .ok (.aload_n 0, 1) := by decide +kernel
theorem dX9_takeOperand_158 : decode cX9_takeOperand 158 = .ok (.getfield 73, 3) := by decide +kernel
theorem dX9_takeOperand_161 : decode cX9_takeOperand 161 = .ok (.iconst 5, 1) := by decide +kernel
theorem dX9_takeOperand_162 : decode cX9_takeOperand 162 = .ok (.if_icmp .ne 72, 3) := by decide +kernel
theorem dX9_takeOperand_165 : decode cX9_takeOperand 165 = .ok (.aload_n 0, 1) := by decide +kernel
theorem dX9_takeOperand_166 : decode cX9_takeOperand 166 = .ok (.getfield 93, 3) := by decide +kernel
theorem dX9_takeOperand_169 : decode cX9_takeOperand 169 = .ok (.bipush 45, 2) := by decide +kernel
theorem dX9_takeOperand_171 : decode cX9_takeOperand 171 = .ok (.if_icmp .eq 21, 3) := by decide +kernel
theorem dX9_takeOperand_174 : decode cX9_takeOperand 174 = .ok (.aload_n 0, 1) := by decide +kernel
theorem dX9_takeOperand_175 : decode cX9_takeOperand 175 = .ok (.getfield 93, 3) := by decide +kernel
theorem dX9_takeOperand_178 : decode cX9_takeOperand 178 = .ok (.bipush 126, 2) := by decide +kernel
theorem dX9_takeOperand_180 : decode cX9_takeOperand 180 = .ok (.if_icmp .eq 12, 3) := by decide +kernel
theorem dX9_takeOperand_183 : decode cX9_takeOperand 183 = .ok (.aload_n 0, 1) := by decide +kernel
theorem dX9_takeOperand_184 : decode cX9_takeOperand 184 = .ok (.getfield 93, 3) := by decide +kernel
theorem dX9_takeOperand_187 : decode cX9_takeOperand 187 = .ok (.bipush 40, 2) := by decide +kernel
theorem dX9_takeOperand_189 : decode cX9_takeOperand 189 = .ok (.if_icmp .ne 45, 3) := by decide +kernel
theorem dX9_takeOperand_192 : decode cX9_takeOperand 192 = .ok (.aload_n 0, 1) := by decide +kernel
theorem dX9_takeOperand_193 : decode cX9_takeOperand 193 = .ok (.aload_n 0, 1) := by decide +kernel
theorem dX9_takeOperand_194 : decode cX9_takeOperand 194 = .ok (.getfield 93, 3) := by decide +kernel
theorem dX9_takeOperand_197 : decode cX9_takeOperand 197 = .ok (.bipush 45, 2) := by decide +kernel
theorem dX9_takeOperand_199 : decode cX9_takeOperand 199 = .ok (.if_icmp .ne 8, 3) := by decide +kernel
theorem dX9_takeOperand_202 : decode cX9_takeOperand 202 = .ok (.bipush 11, 2) := by decide +kernel
theorem dX9_takeOperand_204 : decode cX9_takeOperand 204 = .ok (.goto 19, 3) := by decide +kernel
theorem dX9_takeOperand_207 : decode cX9_takeOperand 207 = .ok (.aload_n 0, 1) := by decide +kernel
theorem dX9_takeOperand_208 : decode cX9_takeOperand 208 = .ok (.getfield 93, 3) := by decide +kernel
theorem dX9_takeOperand_211 : decode cX9_takeOperand 211 = .ok (.bipush 126, 2) := by decide +kernel
theorem dX9_takeOperand_213 : decode cX9_takeOperand 213 = .ok (.if_icmp .ne 8, 3) := by decide +kernel
theorem dX9_takeOperand_216 : decode cX9_takeOperand 216 = .ok (.bipush 12, 2) := by decide +kernel
theorem dX9_takeOperand_218 : decode cX9_takeOperand 218 = .ok (.goto 5, 3) := by decide +kernel
theorem dX9_takeOperand_221 : decode cX9_takeOperand 221 = .ok (.bipush 15, 2) := by decide +kernel
theorem dX9_takeOperand_223 : decode cX9_takeOperand 223 = .ok (.invokevirtual 141, 3) := by decide +kernel
theorem dX9_takeOperand_226 : decode cX9_takeOperand 226 = .ok (.aload_n 0, 1) := by decide +kernel
theorem dX9_takeOperand_227 : decode cX9_takeOperand 227 = .ok (.iconst 0, 1) := by decide +kernel
theorem dX9_takeOperand_228 : decode cX9_takeOperand 228 = .ok (.putfield 119, 3) := by decide +kernel
theorem dX9_takeOperand_231 : decode cX9_takeOperand 231 = .ok (.goto 22, 3) := by decide +kernel
theorem dX9_takeOperand_234 : decode cX9_takeOperand 234 = .ok (.aload_n 0, 1) := by decide +kernel
theorem dX9_takeOperand_235 : decode cX9_takeOperand 235 = .ok (.aload_n 0, 1) := by decide +kernel
theorem dX9_takeOperand_236 : decode cX9_takeOperand 236 = .ok (.bipush 37, 2) := by decide +kernel
theorem dX9_takeOperand_238 : decode cX9_takeOperand 238 = .ok (.invokevirtual 144, 3) := by decide +kernel
theorem dX9_takeOperand_241 : decode cX9_takeOperand 241 = .ok (.ifCond .eq 7, 3) := by decide +kernel
theorem dX9_takeOperand_244 : decode cX9_takeOperand 244 = .ok (.iconst 2, 1) := by decide +kernel
theorem dX9_takeOperand_245 : decode cX9_takeOperand 245 = .ok (.goto 5, 3) := by decide +kernel
theorem dX9_takeOperand_248 : decode cX9_takeOperand 248 = .ok (.bipush 6, 2) := by decide +kernel
theorem dX9_takeOperand_250 : decode cX9_takeOperand 250 = .ok (.putfield 119, 3) := by decide +kernel
theorem dX9_takeOperand_253 : decode cX9_takeOperand 253 = .ok (.return_, 1) := by decide +kernel
theorem dX9_takeNear_0 : decode cX9_takeNear 0 = .ok (.aload_n 0, 1) := by decide +kernel
theorem dX9_takeNear_1 : decode cX9_takeNear 1 = .ok (.iconst 0, 1) := by decide +kernel
theorem dX9_takeNear_2 : decode cX9_takeNear 2 = .ok (.putfield 115, 3) := by decide +kernel
theorem dX9_takeNear_5 : decode cX9_takeNear 5 = .ok (.aload_n 0, 1) := by decide +kernel
theorem dX9_takeNear_6 : decode cX9_takeNear 6 = .ok (.getfield 33, 3) := by decide +kernel
theorem dX9_takeNear_9 : decode cX9_takeNear 9 = .ok (.bipush 10, 2) := by decide +kernel
theorem dX9_takeNear_11 : decode cX9_takeNear 11 = .ok (.aload_n 0, 1) := by decide +kernel
theorem dX9_takeNear_12 : decode cX9_takeNear 12 = .ok (.getfield 93, 3) := by decide +kernel
theorem dX9_takeNear_15 : decode cX9_takeNear 15 = .ok (.iadd, 1) := by decide +kernel
theorem dX9_takeNear_16 : decode cX9_takeNear 16 = .ok (.iaload, 1) := by decide +kernel
theorem dX9_takeNear_17 : decode cX9_takeNear 17 = .ok (.iconst 1, 1) := by decide +kernel
theorem dX9_takeNear_18 : decode cX9_takeNear 18 = .ok (.isub, 1) := by decide +kernel
theorem dX9_takeNear_19 : decode cX9_takeNear 19 = .ok (.istore_n 1, 1) := by decide +kernel
theorem dX9_takeNear_20 : decode cX9_takeNear 20 = .ok (.aload_n 0, 1) := by decide +kernel
theorem dX9_takeNear_21 : decode cX9_takeNear 21 = .ok (.getfield 9, 3) := by decide +kernel
theorem dX9_takeNear_24 : decode cX9_takeNear 24 = .ok (.aload_n 0, 1) := by decide +kernel
theorem dX9_takeNear_25 : decode cX9_takeNear 25 = .ok (.getfield 70, 3) := by decide +kernel
theorem dX9_takeNear_28 : decode cX9_takeNear 28 = .ok (.iconst 1, 1) := by decide +kernel
theorem dX9_takeNear_29 : decode cX9_takeNear 29 = .ok (.iadd, 1) := by decide +kernel
theorem dX9_takeNear_30 : decode cX9_takeNear 30 = .ok (.baload, 1) := by decide +kernel
theorem dX9_takeNear_31 : decode cX9_takeNear 31 = .ok (.bipush 98, 2) := by decide +kernel
theorem dX9_takeNear_33 : decode cX9_takeNear 33 = .ok (.if_icmp .ne 13, 3) := by decide +kernel
theorem dX9_takeNear_36 : decode cX9_takeNear 36 = .ok (.aload_n 0, 1) := by decide +kernel
theorem dX9_takeNear_37 : decode cX9_takeNear 37 = .ok (.bipush 20, 2) := by decide +kernel
theorem dX9_takeNear_39 : decode cX9_takeNear 39 = .ok (.iload_n 1, 1) := by decide +kernel
theorem dX9_takeNear_40 : decode cX9_takeNear 40 = .ok (.invokevirtual 131, 3) := by decide +kernel
theorem dX9_takeNear_43 : decode cX9_takeNear 43 = .ok (.goto 23, 3) := by decide +kernel
theorem dX9_takeNear_46 : decode cX9_takeNear 46 = .ok (.aload_n 0, 1) := by decide +kernel
theorem dX9_takeNear_47 : decode cX9_takeNear 47 = .ok (.bipush 19, 2) := by decide +kernel
theorem dX9_takeNear_49 : decode cX9_takeNear 49 = .ok (.iload_n 1, 1) := by decide +kernel
theorem dX9_takeNear_50 : decode cX9_takeNear 50 = .ok (.ifCond .lt 7, 3) := by decide +kernel
theorem dX9_takeNear_53 : decode cX9_takeNear 53 = .ok (.iload_n 1, 1) := by decide +kernel
theorem dX9_takeNear_54 : decode cX9_takeNear 54 = .ok (.goto 9, 3) := by decide +kernel
theorem dX9_takeNear_57 : decode cX9_takeNear 57 = .ok (.iconst (-1), 1) := by decide +kernel
theorem dX9_takeNear_58 : decode cX9_takeNear 58 = .ok (.aload_n 0, 1) := by decide +kernel
theorem dX9_takeNear_59 : decode cX9_takeNear 59 = .ok (.getfield 93, 3) := by decide +kernel
theorem dX9_takeNear_62 : decode cX9_takeNear 62 = .ok (.isub, 1) := by decide +kernel
theorem dX9_takeNear_63 : decode cX9_takeNear 63 = .ok (.invokevirtual 131, 3) := by decide +kernel
theorem dX9_takeNear_66 : decode cX9_takeNear 66 = .ok (.return_, 1) := by decide +kernel
theorem dX9_takeHalf_0 : decode cX9_takeHalf 0 = .ok (.aload_n 0, 1) := by decide +kernel
theorem dX9_takeHalf_1 : decode cX9_takeHalf 1 = .ok (.getfield 119, 3) := by decide +kernel
theorem dX9_takeHalf_4 : decode cX9_takeHalf 4 = .ok (.iconst 2, 1) := by decide +kernel
theorem dX9_takeHalf_5 : decode cX9_takeHalf 5 = .ok (.if_icmp .eq 44, 3) := by decide +kernel
theorem dX9_takeHalf_8 : decode cX9_takeHalf 8 = .ok (.aload_n 0, 1) := by decide +kernel
theorem dX9_takeHalf_9 : decode cX9_takeHalf 9 = .ok (.aload_n 0, 1) := by decide +kernel
theorem dX9_takeHalf_10 : decode cX9_takeHalf 10 = .ok (.getfield 119, 3) := by decide +kernel
theorem dX9_takeHalf_13 : decode cX9_takeHalf 13 = .ok (.iconst 3, 1) := by decide +kernel
theorem dX9_takeHalf_14 : decode cX9_takeHalf 14 = .ok (.if_icmp .ne 8, 3) := by decide +kernel
theorem dX9_takeHalf_17 : decode cX9_takeHalf 17 = .ok (.bipush 13, 2) := by decide +kernel
theorem dX9_takeHalf_19 : decode cX9_takeHalf 19 = .ok (.goto 5, 3) := by decide +kernel
theorem dX9_takeHalf_22 : decode cX9_takeHalf 22 = .ok (.bipush 14, 2) := by decide +kernel
theorem dX9_takeHalf_24 : decode cX9_takeHalf 24 = .ok (.invokevirtual 141, 3) := by decide +kernel
theorem dX9_takeHalf_27 : decode cX9_takeHalf 27 = .ok (.aload_n 0, 1) := by decide +kernel
theorem dX9_takeHalf_28 : decode cX9_takeHalf 28 = .ok (.aload_n 0, 1) := by decide +kernel
theorem dX9_takeHalf_29 : decode cX9_takeHalf 29 = .ok (.bipush 40, 2) := by decide +kernel
theorem dX9_takeHalf_31 : decode cX9_takeHalf 31 = .ok (.invokevirtual 144, 3) := by decide +kernel
theorem dX9_takeHalf_34 : decode cX9_takeHalf 34 = .ok (.ifCond .eq 7, 3) := by decide +kernel
theorem dX9_takeHalf_37 : decode cX9_takeHalf 37 = .ok (.iconst 0, 1) := by decide +kernel
theorem dX9_takeHalf_38 : decode cX9_takeHalf 38 = .ok (.goto 5, 3) := by decide +kernel
theorem dX9_takeHalf_41 : decode cX9_takeHalf 41 = .ok (.bipush 6, 2) := by decide +kernel
theorem dX9_takeHalf_43 : decode cX9_takeHalf 43 = .ok (.putfield 119, 3) := by decide +kernel
theorem dX9_takeHalf_46 : decode cX9_takeHalf 46 = .ok (.goto 87, 3) := by decide +kernel
theorem dX9_takeHalf_49 : decode cX9_takeHalf 49 = .ok (.aload_n 0, 1) := by decide +kernel
theorem dX9_takeHalf_50 : decode cX9_takeHalf 50 = .ok (.getfield 73, 3) := by decide +kernel
theorem dX9_takeHalf_53 : decode cX9_takeHalf 53 = .ok (.iconst 1, 1) := by decide +kernel
theorem dX9_takeHalf_54 : decode cX9_takeHalf 54 = .ok (.if_icmp .ne 36, 3) := by decide +kernel
theorem dX9_takeHalf_57 : decode cX9_takeHalf 57 = .ok (.ldc 147, 2) := by decide +kernel
theorem dX9_takeHalf_59 : decode cX9_takeHalf 59 = .ok (.aload_n 0, 1) := by decide +kernel
theorem dX9_takeHalf_60 : decode cX9_takeHalf 60 = .ok (.getfield 9, 3) := by decide +kernel
theorem dX9_takeHalf_63 : decode cX9_takeHalf 63 = .ok (.aload_n 0, 1) := by decide +kernel
theorem dX9_takeHalf_64 : decode cX9_takeHalf 64 = .ok (.getfield 70, 3) := by decide +kernel
theorem dX9_takeHalf_67 : decode cX9_takeHalf 67 = .ok (.aload_n 0, 1) := by decide +kernel
theorem dX9_takeHalf_68 : decode cX9_takeHalf 68 = .ok (.getfield 55, 3) := by decide +kernel
theorem dX9_takeHalf_71 : decode cX9_takeHalf 71 = .ok (.aload_n 0, 1) := by decide +kernel
theorem dX9_takeHalf_72 : decode cX9_takeHalf 72 = .ok (.getfield 70, 3) := by decide +kernel
theorem dX9_takeHalf_75 : decode cX9_takeHalf 75 = .ok (.isub, 1) := by decide +kernel
theorem dX9_takeHalf_76 : decode cX9_takeHalf 76 = .ok (.invokestatic 149, 3) := by decide +kernel
theorem dX9_takeHalf_79 : decode cX9_takeHalf 79 = .ok (.ifCond .eq 11, 3) := by decide +kernel
theorem dX9_takeHalf_82 : decode cX9_takeHalf 82 = .ok (.aload_n 0, 1) := by decide +kernel
theorem dX9_takeHalf_83 : decode cX9_takeHalf 83 = .ok (.iconst 3, 1) := by decide +kernel
theorem dX9_takeHalf_84 : decode cX9_takeHalf 84 = .ok (.putfield 119, 3) := by decide +kernel
theorem dX9_takeHalf_87 : decode cX9_takeHalf 87 = .ok (.goto 46, 3) := by decide +kernel
theorem dX9_takeHalf_90 : decode cX9_takeHalf 90 = .ok (.aload_n 0, 1) := by decide +kernel
theorem dX9_takeHalf_91 : decode cX9_takeHalf 91 = .ok (.aload_n 0, 1) := by decide +kernel
theorem dX9_takeHalf_92 : decode cX9_takeHalf 92 = .ok (.getfield 73, 3) := by decide +kernel
theorem dX9_takeHalf_95 : decode cX9_takeHalf 95 = .ok (.iconst 1, 1) := by decide +kernel
theorem dX9_takeHalf_96 : decode cX9_takeHalf 96 = .ok (.if_icmp .ne 32, 3) := by decide +kernel
theorem dX9_takeHalf_99 : decode cX9_takeHalf 99 = .ok (.ldc 155, 2) := by decide +kernel
theorem dX9_takeHalf_101 : decode cX9_takeHalf 101 = .ok (.aload_n 0, 1) := by decide +kernel
theorem dX9_takeHalf_102 : decode cX9_takeHalf 102 = .ok (.getfield 9, 3) := by decide +kernel
theorem dX9_takeHalf_105 : decode cX9_takeHalf 105 = .ok (.aload_n 0, 1) := by decide +kernel
theorem dX9_takeHalf_106 : decode cX9_takeHalf 106 = .ok (.getfield 70, 3) := by decide +kernel
theorem dX9_takeHalf_109 : decode cX9_takeHalf 109 = .ok (.aload_n 0, 1) := by decide +kernel
theorem dX9_takeHalf_110 : decode cX9_takeHalf 110 = .ok (.getfield 55, 3) := by decide +kernel
theorem dX9_takeHalf_113 : decode cX9_takeHalf 113 = .ok (.aload_n 0, 1) := by decide +kernel
theorem dX9_takeHalf_114 : decode cX9_takeHalf 114 = .ok (.getfield 70, 3) := by decide +kernel
theorem dX9_takeHalf_117 : decode cX9_takeHalf 117 = .ok (.isub, 1) := by decide +kernel
theorem dX9_takeHalf_118 : decode cX9_takeHalf 118 = .ok (.invokestatic 149, 3) := by decide +kernel
theorem dX9_takeHalf_121 : decode cX9_takeHalf 121 = .ok (.ifCond .eq 7, 3) := by decide +kernel
theorem dX9_takeHalf_124 : decode cX9_takeHalf 124 = .ok (.iconst 4, 1) := by decide +kernel
theorem dX9_takeHalf_125 : decode cX9_takeHalf 125 = .ok (.goto 5, 3) := by decide +kernel
theorem dX9_takeHalf_128 : decode cX9_takeHalf 128 = .ok (.bipush 6, 2) := by decide +kernel
theorem dX9_takeHalf_130 : decode cX9_takeHalf 130 = .ok (.putfield 119, 3) := by decide +kernel
theorem dX9_takeHalf_133 : decode cX9_takeHalf 133 = .ok (.return_, 1) := by decide +kernel
theorem dX9_takeOperator_0 : decode cX9_takeOperator 0 = .ok (.aload_n 0, 1) := by decide +kernel
theorem dX9_takeOperator_1 : decode cX9_takeOperator 1 = .ok (.getfield 73, 3) := by decide +kernel
theorem dX9_takeOperator_4 : decode cX9_takeOperator 4 = .ok (.iconst 5, 1) := by decide +kernel
theorem dX9_takeOperator_5 : decode cX9_takeOperator 5 = .ok (.if_icmp .ne 13, 3) := by decide +kernel
theorem dX9_takeOperator_8 : decode cX9_takeOperator 8 = .ok (.aload_n 0, 1) := by decide +kernel
theorem dX9_takeOperator_9 : decode cX9_takeOperator 9 = .ok (.getfield 93, 3) := by decide +kernel
theorem dX9_takeOperator_12 : decode cX9_takeOperator 12 = .ok (.invokestatic 157, 3) := by decide +kernel
theorem dX9_takeOperator_15 : decode cX9_takeOperator 15 = .ok (.goto 4, 3) := by decide +kernel
theorem dX9_takeOperator_18 : decode cX9_takeOperator 18 = .ok (.iconst 0, 1) := by decide +kernel
theorem dX9_takeOperator_19 : decode cX9_takeOperator 19 = .ok (.istore_n 1, 1) := by decide +kernel
theorem dX9_takeOperator_20 : decode cX9_takeOperator 20 = .ok (.iload_n 1, 1) := by decide +kernel
theorem dX9_takeOperator_21 : decode cX9_takeOperator 21 = .ok (.ifCond .eq 23, 3) := by decide +kernel
theorem dX9_takeOperator_24 : decode cX9_takeOperator 24 = .ok (.aload_n 0, 1) := by decide +kernel
theorem dX9_takeOperator_25 : decode cX9_takeOperator 25 = .ok (.getstatic 160, 3) := by decide +kernel
theorem dX9_takeOperator_28 : decode cX9_takeOperator 28 = .ok (.iload_n 1, 1) := by decide +kernel
theorem dX9_takeOperator_29 : decode cX9_takeOperator 29 = .ok (.iaload, 1) := by decide +kernel
theorem dX9_takeOperator_30 : decode cX9_takeOperator 30 = .ok (.invokevirtual 163, 3) := by decide +kernel
theorem dX9_takeOperator_33 : decode cX9_takeOperator 33 = .ok (.aload_n 0, 1) := by decide +kernel
theorem dX9_takeOperator_34 : decode cX9_takeOperator 34 = .ok (.iload_n 1, 1) := by decide +kernel
theorem dX9_takeOperator_35 : decode cX9_takeOperator 35 = .ok (.invokevirtual 141, 3) := by decide +kernel
theorem dX9_takeOperator_38 : decode cX9_takeOperator 38 = .ok (.aload_n 0, 1) := by decide +kernel
theorem dX9_takeOperator_39 : decode cX9_takeOperator 39 = .ok (.iconst 0, 1) := by decide +kernel
theorem dX9_takeOperator_40 : decode cX9_takeOperator 40 = .ok (.putfield 119, 3) := by decide +kernel
theorem dX9_takeOperator_43 : decode cX9_takeOperator 43 = .ok (.return_, 1) := by decide +kernel
theorem dX9_takeOperator_44 : decode cX9_takeOperator 44 = .ok (.aload_n 0, 1) := by decide +kernel
theorem dX9_takeOperator_45 : decode cX9_takeOperator 45 = .ok (.iconst 0, 1) := by decide +kernel
theorem dX9_takeOperator_46 : decode cX9_takeOperator 46 = .ok (.invokevirtual 163, 3) := by decide +kernel
theorem dX9_takeOperator_49 : decode cX9_takeOperator 49 = .ok (.aload_n 0, 1) := by decide +kernel
theorem dX9_takeOperator_50 : decode cX9_takeOperator 50 = .ok (.getfield 112, 3) := by decide +kernel
theorem dX9_takeOperator_53 : decode cX9_takeOperator 53 = .ok (.ifCond .ne 11, 3) := by decide +kernel
theorem dX9_takeOperator_56 : decode cX9_takeOperator 56 = .ok (.aload_n 0, 1) := by decide +kernel
theorem dX9_takeOperator_57 : decode cX9_takeOperator 57 = .ok (.iconst 5, 1) := by decide +kernel
theorem dX9_takeOperator_58 : decode cX9_takeOperator 58 = .ok (.putfield 119, 3) := by decide +kernel
theorem dX9_takeOperator_61 : decode cX9_takeOperator 61 = .ok (.goto 59, 3) := by decide +kernel
theorem dX9_takeOperator_64 : decode cX9_takeOperator 64 = .ok (.aload_n 0, 1) := by decide +kernel
theorem dX9_takeOperator_65 : decode cX9_takeOperator 65 = .ok (.bipush 41, 2) := by decide +kernel
theorem dX9_takeOperator_67 : decode cX9_takeOperator 67 = .ok (.invokevirtual 144, 3) := by decide +kernel
theorem dX9_takeOperator_70 : decode cX9_takeOperator 70 = .ok (.ifCond .eq 44, 3) := by decide +kernel
theorem dX9_takeOperator_73 : decode cX9_takeOperator 73 = .ok (.aload_n 0, 1) := by decide +kernel
theorem dX9_takeOperator_74 : decode cX9_takeOperator 74 = .ok (.dup, 1) := by decide +kernel
theorem dX9_takeOperator_75 : decode cX9_takeOperator 75 = .ok (.getfield 112, 3) := by decide +kernel
theorem dX9_takeOperator_78 : decode cX9_takeOperator 78 = .ok (.iconst 1, 1) := by decide +kernel
theorem dX9_takeOperator_79 : decode cX9_takeOperator 79 = .ok (.isub, 1) := by decide +kernel
theorem dX9_takeOperator_80 : decode cX9_takeOperator 80 = .ok (.putfield 112, 3) := by decide +kernel
theorem dX9_takeOperator_83 : decode cX9_takeOperator 83 = .ok (.aload_n 0, 1) := by decide +kernel
theorem dX9_takeOperator_84 : decode cX9_takeOperator 84 = .ok (.getfield 23, 3) := by decide +kernel
theorem dX9_takeOperator_87 : decode cX9_takeOperator 87 = .ok (.aload_n 0, 1) := by decide +kernel
theorem dX9_takeOperator_88 : decode cX9_takeOperator 88 = .ok (.getfield 112, 3) := by decide +kernel
theorem dX9_takeOperator_91 : decode cX9_takeOperator 91 = .ok (.iaload, 1) := by decide +kernel
theorem dX9_takeOperator_92 : decode cX9_takeOperator 92 = .ok (.bipush 15, 2) := by decide +kernel
theorem dX9_takeOperator_94 : decode cX9_takeOperator 94 = .ok (.if_icmp .eq 26, 3) := by decide +kernel
theorem dX9_takeOperator_97 : decode cX9_takeOperator 97 = .ok (.aload_n 0, 1) := by decide +kernel
theorem dX9_takeOperator_98 : decode cX9_takeOperator 98 = .ok (.aload_n 0, 1) := by decide +kernel
theorem dX9_takeOperator_99 : decode cX9_takeOperator 99 = .ok (.getfield 23, 3) := by decide +kernel
theorem dX9_takeOperator_102 : decode cX9_takeOperator 102 = .ok (.aload_n 0, 1) := by decide +kernel
theorem dX9_takeOperator_103 : decode cX9_takeOperator 103 = .ok (.getfield 112, 3) := by decide +kernel
theorem dX9_takeOperator_106 : decode cX9_takeOperator 106 = .ok (.iaload, 1) := by decide +kernel
theorem dX9_takeOperator_107 : decode cX9_takeOperator 107 = .ok (.iconst 0, 1) := by decide +kernel
theorem dX9_takeOperator_108 : decode cX9_takeOperator 108 = .ok (.invokevirtual 131, 3) := by decide +kernel
theorem dX9_takeOperator_111 : decode cX9_takeOperator 111 = .ok (.goto 9, 3) := by decide +kernel
theorem dX9_takeOperator_114 : decode cX9_takeOperator 114 = .ok (.aload_n 0, 1) := by decide +kernel
theorem dX9_takeOperator_115 : decode cX9_takeOperator 115 = .ok (.bipush 6, 2) := by decide +kernel
theorem dX9_takeOperator_117 : decode cX9_takeOperator 117 = .ok (.putfield 119, 3) := by decide +kernel
theorem dX9_takeOperator_120 : decode cX9_takeOperator 120 = .ok (.return_, 1) := by decide +kernel
theorem dX9_binary_0 : decode cX9_binary 0 = .ok (.iload_n 0, 1) := by decide +kernel
theorem dX9_binary_1 : decode cX9_binary 1 = .ok (.lookupswitch 116 #[(37, 95), (38, 107), (42, 91), (43, 97), (45, 99), (47, 93), (94, 110), (124, 113), (256, 101), (257, 104)], 91) := by decide +kernel
theorem dX9_binary_92 : decode cX9_binary 92 = .ok (.iconst 1, 1) := by decide +kernel
theorem dX9_binary_93 : decode cX9_binary 93 = .ok (.ireturn, 1) := by decide +kernel
theorem dX9_binary_94 : decode cX9_binary 94 = .ok (.iconst 2, 1) := by decide +kernel
theorem dX9_binary_95 : decode cX9_binary 95 = .ok (.ireturn, 1) := by decide +kernel
theorem dX9_binary_96 : decode cX9_binary 96 = .ok (.iconst 3, 1) := by decide +kernel
theorem dX9_binary_97 : decode cX9_binary 97 = .ok (.ireturn, 1) := by decide +kernel
theorem dX9_binary_98 : decode cX9_binary 98 = .ok (.iconst 4, 1) := by decide +kernel
theorem dX9_binary_99 : decode cX9_binary 99 = .ok (.ireturn, 1) := by decide +kernel
theorem dX9_binary_100 : decode cX9_binary 100 = .ok (.iconst 5, 1) := by decide +kernel
theorem dX9_binary_101 : decode cX9_binary 101 = .ok (.ireturn, 1) := by decide +kernel
theorem dX9_binary_102 : decode cX9_binary 102 = .ok (.bipush 6, 2) := by decide +kernel
theorem dX9_binary_104 : decode cX9_binary 104 = .ok (.ireturn, 1) := by decide +kernel
theorem dX9_binary_105 : decode cX9_binary 105 = .ok (.bipush 7, 2) := by decide +kernel
theorem dX9_binary_107 : decode cX9_binary 107 = .ok (.ireturn, 1) := by decide +kernel
theorem dX9_binary_108 : decode cX9_binary 108 = .ok (.bipush 8, 2) := by decide +kernel
theorem dX9_binary_110 : decode cX9_binary 110 = .ok (.ireturn, 1) := by decide +kernel
theorem dX9_binary_111 : decode cX9_binary 111 = .ok (.bipush 9, 2) := by decide +kernel
theorem dX9_binary_113 : decode cX9_binary 113 = .ok (.ireturn, 1) := by decide +kernel
theorem dX9_binary_114 : decode cX9_binary 114 = .ok (.bipush 10, 2) := by decide +kernel
theorem dX9_binary_116 : decode cX9_binary 116 = .ok (.ireturn, 1) := by decide +kernel
theorem dX9_binary_117 : decode cX9_binary 117 = .ok (.iconst 0, 1) := by decide +kernel
theorem dX9_binary_118 : decode cX9_binary 118 = .ok (.ireturn, 1) := by decide +kernel
theorem dX9_push_0 : decode cX9_push 0 = .ok (.aload_n 0, 1) := by decide +kernel
theorem dX9_push_1 : decode cX9_push 1 = .ok (.getfield 112, 3) := by decide +kernel
theorem dX9_push_4 : decode cX9_push 4 = .ok (.aload_n 0, 1) := by decide +kernel
theorem dX9_push_5 : decode cX9_push 5 = .ok (.getfield 23, 3) := by decide +kernel
theorem dX9_push_8 : decode cX9_push 8 = .ok (.arraylength, 1) := by decide +kernel
theorem dX9_push_9 : decode cX9_push 9 = .ok (.if_icmp .ge 23, 3) := by decide +kernel
theorem dX9_push_12 : decode cX9_push 12 = .ok (.aload_n 0, 1) := by decide +kernel
theorem dX9_push_13 : decode cX9_push 13 = .ok (.getfield 23, 3) := by decide +kernel
theorem dX9_push_16 : decode cX9_push 16 = .ok (.aload_n 0, 1) := by decide +kernel
theorem dX9_push_17 : decode cX9_push 17 = .ok (.getfield 112, 3) := by decide +kernel
theorem dX9_push_20 : decode cX9_push 20 = .ok (.iload_n 1, 1) := by decide +kernel
theorem dX9_push_21 : decode cX9_push 21 = .ok (.iastore, 1) := by decide +kernel
theorem dX9_push_22 : decode cX9_push 22 = .ok (.aload_n 0, 1) := by decide +kernel
theorem dX9_push_23 : decode cX9_push 23 = .ok (.dup, 1) := by decide +kernel
theorem dX9_push_24 : decode cX9_push 24 = .ok (.getfield 112, 3) := by decide +kernel
theorem dX9_push_27 : decode cX9_push 27 = .ok (.iconst 1, 1) := by decide +kernel
theorem dX9_push_28 : decode cX9_push 28 = .ok (.iadd, 1) := by decide +kernel
theorem dX9_push_29 : decode cX9_push 29 = .ok (.putfield 112, 3) := by decide +kernel
theorem dX9_push_32 : decode cX9_push 32 = .ok (.return_, 1) := by decide +kernel
theorem dX9_popTo_0 : decode cX9_popTo 0 = .ok (.aload_n 0, 1) := by decide +kernel
theorem dX9_popTo_1 : decode cX9_popTo 1 = .ok (.getfield 112, 3) := by decide +kernel
theorem dX9_popTo_4 : decode cX9_popTo 4 = .ok (.ifCond .le 65, 3) := by decide +kernel
theorem dX9_popTo_7 : decode cX9_popTo 7 = .ok (.aload_n 0, 1) := by decide +kernel
theorem dX9_popTo_8 : decode cX9_popTo 8 = .ok (.getfield 23, 3) := by decide +kernel
theorem dX9_popTo_11 : decode cX9_popTo 11 = .ok (.aload_n 0, 1) := by decide +kernel
theorem dX9_popTo_12 : decode cX9_popTo 12 = .ok (.getfield 112, 3) := by decide +kernel
theorem dX9_popTo_15 : decode cX9_popTo 15 = .ok (.iconst 1, 1) := by decide +kernel
theorem dX9_popTo_16 : decode cX9_popTo 16 = .ok (.isub, 1) := by decide +kernel
theorem dX9_popTo_17 : decode cX9_popTo 17 = .ok (.iaload, 1) := by decide +kernel
theorem dX9_popTo_18 : decode cX9_popTo 18 = .ok (.bipush 13, 2) := by decide +kernel
theorem dX9_popTo_20 : decode cX9_popTo 20 = .ok (.if_icmp .ge 49, 3) := by decide +kernel
theorem dX9_popTo_23 : decode cX9_popTo 23 = .ok (.getstatic 160, 3) := by decide +kernel
theorem dX9_popTo_26 : decode cX9_popTo 26 = .ok (.aload_n 0, 1) := by decide +kernel
theorem dX9_popTo_27 : decode cX9_popTo 27 = .ok (.getfield 23, 3) := by decide +kernel
theorem dX9_popTo_30 : decode cX9_popTo 30 = .ok (.aload_n 0, 1) := by decide +kernel
theorem dX9_popTo_31 : decode cX9_popTo 31 = .ok (.getfield 112, 3) := by decide +kernel
theorem dX9_popTo_34 : decode cX9_popTo 34 = .ok (.iconst 1, 1) := by decide +kernel
theorem dX9_popTo_35 : decode cX9_popTo 35 = .ok (.isub, 1) := by decide +kernel
theorem dX9_popTo_36 : decode cX9_popTo 36 = .ok (.iaload, 1) := by decide +kernel
theorem dX9_popTo_37 : decode cX9_popTo 37 = .ok (.iaload, 1) := by decide +kernel
theorem dX9_popTo_38 : decode cX9_popTo 38 = .ok (.iload_n 1, 1) := by decide +kernel
theorem dX9_popTo_39 : decode cX9_popTo 39 = .ok (.if_icmp .lt 30, 3) := by decide +kernel
theorem dX9_popTo_42 : decode cX9_popTo 42 = .ok (.aload_n 0, 1) := by decide +kernel
theorem dX9_popTo_43 : decode cX9_popTo 43 = .ok (.dup, 1) := by decide +kernel
theorem dX9_popTo_44 : decode cX9_popTo 44 = .ok (.getfield 112, 3) := by decide +kernel
theorem dX9_popTo_47 : decode cX9_popTo 47 = .ok (.iconst 1, 1) := by decide +kernel
theorem dX9_popTo_48 : decode cX9_popTo 48 = .ok (.isub, 1) := by decide +kernel
theorem dX9_popTo_49 : decode cX9_popTo 49 = .ok (.putfield 112, 3) := by decide +kernel
theorem dX9_popTo_52 : decode cX9_popTo 52 = .ok (.aload_n 0, 1) := by decide +kernel
theorem dX9_popTo_53 : decode cX9_popTo 53 = .ok (.aload_n 0, 1) := by decide +kernel
theorem dX9_popTo_54 : decode cX9_popTo 54 = .ok (.getfield 23, 3) := by decide +kernel
theorem dX9_popTo_57 : decode cX9_popTo 57 = .ok (.aload_n 0, 1) := by decide +kernel
theorem dX9_popTo_58 : decode cX9_popTo 58 = .ok (.getfield 112, 3) := by decide +kernel
theorem dX9_popTo_61 : decode cX9_popTo 61 = .ok (.iaload, 1) := by decide +kernel
theorem dX9_popTo_62 : decode cX9_popTo 62 = .ok (.iconst 0, 1) := by decide +kernel
theorem dX9_popTo_63 : decode cX9_popTo 63 = .ok (.invokevirtual 131, 3) := by decide +kernel
theorem dX9_popTo_66 : decode cX9_popTo 66 = .ok (.goto (-66), 3) := by decide +kernel
theorem dX9_popTo_69 : decode cX9_popTo 69 = .ok (.return_, 1) := by decide +kernel
theorem dX9_emit_0 : decode cX9_emit 0 = .ok (.aload_n 0, 1) := by decide +kernel
theorem dX9_emit_1 : decode cX9_emit 1 = .ok (.getfield 39, 3) := by decide +kernel
theorem dX9_emit_4 : decode cX9_emit 4 = .ok (.aload_n 0, 1) := by decide +kernel
theorem dX9_emit_5 : decode cX9_emit 5 = .ok (.getfield 16, 3) := by decide +kernel
theorem dX9_emit_8 : decode cX9_emit 8 = .ok (.arraylength, 1) := by decide +kernel
theorem dX9_emit_9 : decode cX9_emit 9 = .ok (.if_icmp .ge 33, 3) := by decide +kernel
theorem dX9_emit_12 : decode cX9_emit 12 = .ok (.aload_n 0, 1) := by decide +kernel
theorem dX9_emit_13 : decode cX9_emit 13 = .ok (.getfield 16, 3) := by decide +kernel
theorem dX9_emit_16 : decode cX9_emit 16 = .ok (.aload_n 0, 1) := by decide +kernel
theorem dX9_emit_17 : decode cX9_emit 17 = .ok (.getfield 39, 3) := by decide +kernel
theorem dX9_emit_20 : decode cX9_emit 20 = .ok (.iload_n 1, 1) := by decide +kernel
theorem dX9_emit_21 : decode cX9_emit 21 = .ok (.iastore, 1) := by decide +kernel
theorem dX9_emit_22 : decode cX9_emit 22 = .ok (.aload_n 0, 1) := by decide +kernel
theorem dX9_emit_23 : decode cX9_emit 23 = .ok (.getfield 20, 3) := by decide +kernel
theorem dX9_emit_26 : decode cX9_emit 26 = .ok (.aload_n 0, 1) := by decide +kernel
theorem dX9_emit_27 : decode cX9_emit 27 = .ok (.getfield 39, 3) := by decide +kernel
theorem dX9_emit_30 : decode cX9_emit 30 = .ok (.iload_n 2, 1) := by decide +kernel
theorem dX9_emit_31 : decode cX9_emit 31 = .ok (.iastore, 1) := by decide +kernel
theorem dX9_emit_32 : decode cX9_emit 32 = .ok (.aload_n 0, 1) := by decide +kernel
theorem dX9_emit_33 : decode cX9_emit 33 = .ok (.dup, 1) := by decide +kernel
theorem dX9_emit_34 : decode cX9_emit 34 = .ok (.getfield 39, 3) := by decide +kernel
theorem dX9_emit_37 : decode cX9_emit 37 = .ok (.iconst 1, 1) := by decide +kernel
theorem dX9_emit_38 : decode cX9_emit 38 = .ok (.iadd, 1) := by decide +kernel
theorem dX9_emit_39 : decode cX9_emit 39 = .ok (.putfield 39, 3) := by decide +kernel
theorem dX9_emit_42 : decode cX9_emit 42 = .ok (.return_, 1) := by decide +kernel
theorem dX9_evaluate_0 : decode cX9_evaluate 0 = .ok (.aload_n 0, 1) := by decide +kernel
theorem dX9_evaluate_1 : decode cX9_evaluate 1 = .ok (.iconst 0, 1) := by decide +kernel
theorem dX9_evaluate_2 : decode cX9_evaluate 2 = .ok (.putfield 166, 3) := by decide +kernel
theorem dX9_evaluate_5 : decode cX9_evaluate 5 = .ok (.aload_n 0, 1) := by decide +kernel
theorem dX9_evaluate_6 : decode cX9_evaluate 6 = .ok (.iconst 0, 1) := by decide +kernel
theorem dX9_evaluate_7 : decode cX9_evaluate 7 = .ok (.putfield 112, 3) := by decide +kernel
theorem dX9_evaluate_10 : decode cX9_evaluate 10 = .ok (.iconst 0, 1) := by decide +kernel
theorem dX9_evaluate_11 : decode cX9_evaluate 11 = .ok (.iload_n 1, 1) := by decide +kernel
theorem dX9_evaluate_12 : decode cX9_evaluate 12 = .ok (.invokestatic 169, 3) := by decide +kernel
theorem dX9_evaluate_15 : decode cX9_evaluate 15 = .ok (.istore_n 3, 1) := by decide +kernel
theorem dX9_evaluate_16 : decode cX9_evaluate 16 = .ok (.iload_n 3, 1) := by decide +kernel
theorem dX9_evaluate_17 : decode cX9_evaluate 17 = .ok (.aload_n 0, 1) := by decide +kernel
theorem dX9_evaluate_18 : decode cX9_evaluate 18 = .ok (.getfield 39, 3) := by decide +kernel
theorem dX9_evaluate_21 : decode cX9_evaluate 21 = .ok (.if_icmp .ge 166, 3) := by decide +kernel
theorem dX9_evaluate_24 : decode cX9_evaluate 24 = .ok (.aload_n 0, 1) := by decide +kernel
theorem dX9_evaluate_25 : decode cX9_evaluate 25 = .ok (.getfield 16, 3) := by decide +kernel
theorem dX9_evaluate_28 : decode cX9_evaluate 28 = .ok (.iload_n 3, 1) := by decide +kernel
theorem dX9_evaluate_29 : decode cX9_evaluate 29 = .ok (.iaload, 1) := by decide +kernel
theorem dX9_evaluate_30 : decode cX9_evaluate 30 = .ok (.bipush 21, 2) := by decide +kernel
theorem dX9_evaluate_32 : decode cX9_evaluate 32 = .ok (.if_icmp .eq 155, 3) := by decide +kernel
theorem dX9_evaluate_35 : decode cX9_evaluate 35 = .ok (.aload_n 0, 1) := by decide +kernel
theorem dX9_evaluate_36 : decode cX9_evaluate 36 = .ok (.getfield 16, 3) := by decide +kernel
theorem dX9_evaluate_39 : decode cX9_evaluate 39 = .ok (.iload_n 3, 1) := by decide +kernel
theorem dX9_evaluate_40 : decode cX9_evaluate 40 = .ok (.iaload, 1) := by decide +kernel
theorem dX9_evaluate_41 : decode cX9_evaluate 41 = .ok (.bipush 16, 2) := by decide +kernel
theorem dX9_evaluate_43 : decode cX9_evaluate 43 = .ok (.if_icmp .lt 27, 3) := by decide +kernel
theorem dX9_evaluate_46 : decode cX9_evaluate 46 = .ok (.aload_n 0, 1) := by decide +kernel
theorem dX9_evaluate_47 : decode cX9_evaluate 47 = .ok (.aload_n 0, 1) := by decide +kernel
theorem dX9_evaluate_48 : decode cX9_evaluate 48 = .ok (.aload_n 0, 1) := by decide +kernel
theorem dX9_evaluate_49 : decode cX9_evaluate 49 = .ok (.getfield 16, 3) := by decide +kernel
theorem dX9_evaluate_52 : decode cX9_evaluate 52 = .ok (.iload_n 3, 1) := by decide +kernel
theorem dX9_evaluate_53 : decode cX9_evaluate 53 = .ok (.iaload, 1) := by decide +kernel
theorem dX9_evaluate_54 : decode cX9_evaluate 54 = .ok (.aload_n 0, 1) := by decide +kernel
theorem dX9_evaluate_55 : decode cX9_evaluate 55 = .ok (.getfield 20, 3) := by decide +kernel
theorem dX9_evaluate_58 : decode cX9_evaluate 58 = .ok (.iload_n 3, 1) := by decide +kernel
theorem dX9_evaluate_59 : decode cX9_evaluate 59 = .ok (.iaload, 1) := by decide +kernel
theorem dX9_evaluate_60 : decode cX9_evaluate 60 = .ok (.iload_n 2, 1) := by decide +kernel
theorem dX9_evaluate_61 : decode cX9_evaluate 61 = .ok (.invokevirtual 172, 3) := by decide +kernel
theorem dX9_evaluate_64 : decode cX9_evaluate 64 = .ok (.invokevirtual 141, 3) := by decide +kernel
theorem dX9_evaluate_67 : decode cX9_evaluate 67 = .ok (.goto 114, 3) := by decide +kernel
theorem dX9_evaluate_70 : decode cX9_evaluate 70 = .ok (.aload_n 0, 1) := by decide +kernel
theorem dX9_evaluate_71 : decode cX9_evaluate 71 = .ok (.getfield 16, 3) := by decide +kernel
theorem dX9_evaluate_74 : decode cX9_evaluate 74 = .ok (.iload_n 3, 1) := by decide +kernel
theorem dX9_evaluate_75 : decode cX9_evaluate 75 = .ok (.iaload, 1) := by decide +kernel
theorem dX9_evaluate_76 : decode cX9_evaluate 76 = .ok (.bipush 11, 2) := by decide +kernel
theorem dX9_evaluate_78 : decode cX9_evaluate 78 = .ok (.if_icmp .lt 44, 3) := by decide +kernel
theorem dX9_evaluate_81 : decode cX9_evaluate 81 = .ok (.aload_n 0, 1) := by decide +kernel
theorem dX9_evaluate_82 : decode cX9_evaluate 82 = .ok (.getfield 112, 3) := by decide +kernel
theorem dX9_evaluate_85 : decode cX9_evaluate 85 = .ok (.ifCond .le 37, 3) := by decide +kernel
theorem dX9_evaluate_88 : decode cX9_evaluate 88 = .ok (.aload_n 0, 1) := by decide +kernel
theorem dX9_evaluate_89 : decode cX9_evaluate 89 = .ok (.getfield 23, 3) := by decide +kernel
theorem dX9_evaluate_92 : decode cX9_evaluate 92 = .ok (.aload_n 0, 1) := by decide +kernel
theorem dX9_evaluate_93 : decode cX9_evaluate 93 = .ok (.getfield 112, 3) := by decide +kernel
theorem dX9_evaluate_96 : decode cX9_evaluate 96 = .ok (.iconst 1, 1) := by decide +kernel
theorem dX9_evaluate_97 : decode cX9_evaluate 97 = .ok (.isub, 1) := by decide +kernel
theorem dX9_evaluate_98 : decode cX9_evaluate 98 = .ok (.aload_n 0, 1) := by decide +kernel
theorem dX9_evaluate_99 : decode cX9_evaluate 99 = .ok (.getfield 16, 3) := by decide +kernel
theorem dX9_evaluate_102 : decode cX9_evaluate 102 = .ok (.iload_n 3, 1) := by decide +kernel
theorem dX9_evaluate_103 : decode cX9_evaluate 103 = .ok (.iaload, 1) := by decide +kernel
theorem dX9_evaluate_104 : decode cX9_evaluate 104 = .ok (.aload_n 0, 1) := by decide +kernel
theorem dX9_evaluate_105 : decode cX9_evaluate 105 = .ok (.getfield 23, 3) := by decide +kernel
theorem dX9_evaluate_108 : decode cX9_evaluate 108 = .ok (.aload_n 0, 1) := by decide +kernel
theorem dX9_evaluate_109 : decode cX9_evaluate 109 = .ok (.getfield 112, 3) := by decide +kernel
theorem dX9_evaluate_112 : decode cX9_evaluate 112 = .ok (.iconst 1, 1) := by decide +kernel
theorem dX9_evaluate_113 : decode cX9_evaluate 113 = .ok (.isub, 1) := by decide +kernel
theorem dX9_evaluate_114 : decode cX9_evaluate 114 = .ok (.iaload, 1) := by decide +kernel
theorem dX9_evaluate_115 : decode cX9_evaluate 115 = .ok (.invokestatic 176, 3) := by decide +kernel
theorem dX9_evaluate_118 : decode cX9_evaluate 118 = .ok (.iastore, 1) := by decide +kernel
theorem dX9_evaluate_119 : decode cX9_evaluate 119 = .ok (.goto 62, 3) := by decide +kernel
theorem dX9_evaluate_122 : decode cX9_evaluate 122 = .ok (.aload_n 0, 1) := by decide +kernel
theorem dX9_evaluate_123 : decode cX9_evaluate 123 = .ok (.getfield 112, 3) := by decide +kernel
theorem dX9_evaluate_126 : decode cX9_evaluate 126 = .ok (.iconst 1, 1) := by decide +kernel
theorem dX9_evaluate_127 : decode cX9_evaluate 127 = .ok (.if_icmp .le 54, 3) := by decide +kernel
theorem dX9_evaluate_130 : decode cX9_evaluate 130 = .ok (.aload_n 0, 1) := by decide +kernel
theorem dX9_evaluate_131 : decode cX9_evaluate 131 = .ok (.dup, 1) := by decide +kernel
theorem dX9_evaluate_132 : decode cX9_evaluate 132 = .ok (.getfield 112, 3) := by decide +kernel
theorem dX9_evaluate_135 : decode cX9_evaluate 135 = .ok (.iconst 1, 1) := by decide +kernel
theorem dX9_evaluate_136 : decode cX9_evaluate 136 = .ok (.isub, 1) := by decide +kernel
theorem dX9_evaluate_137 : decode cX9_evaluate 137 = .ok (.putfield 112, 3) := by decide +kernel
theorem dX9_evaluate_140 : decode cX9_evaluate 140 = .ok (.aload_n 0, 1) := by decide +kernel
theorem dX9_evaluate_141 : decode cX9_evaluate 141 = .ok (.getfield 23, 3) := by decide +kernel
theorem dX9_evaluate_144 : decode cX9_evaluate 144 = .ok (.aload_n 0, 1) := by decide +kernel
theorem dX9_evaluate_145 : decode cX9_evaluate 145 = .ok (.getfield 112, 3) := by decide +kernel
theorem dX9_evaluate_148 : decode cX9_evaluate 148 = .ok (.iconst 1, 1) := by decide +kernel
theorem dX9_evaluate_149 : decode cX9_evaluate 149 = .ok (.isub, 1) := by decide +kernel
theorem dX9_evaluate_150 : decode cX9_evaluate 150 = .ok (.aload_n 0, 1) := by decide +kernel
theorem dX9_evaluate_151 : decode cX9_evaluate 151 = .ok (.aload_n 0, 1) := by decide +kernel
theorem dX9_evaluate_152 : decode cX9_evaluate 152 = .ok (.getfield 16, 3) := by decide +kernel
theorem dX9_evaluate_155 : decode cX9_evaluate 155 = .ok (.iload_n 3, 1) := by decide +kernel
theorem dX9_evaluate_156 : decode cX9_evaluate 156 = .ok (.iaload, 1) := by decide +kernel
theorem dX9_evaluate_157 : decode cX9_evaluate 157 = .ok (.aload_n 0, 1) := by decide +kernel
theorem dX9_evaluate_158 : decode cX9_evaluate 158 = .ok (.getfield 23, 3) := by decide +kernel
theorem dX9_evaluate_161 : decode cX9_evaluate 161 = .ok (.aload_n 0, 1) := by decide +kernel
theorem dX9_evaluate_162 : decode cX9_evaluate 162 = .ok (.getfield 112, 3) := by decide +kernel
theorem dX9_evaluate_165 : decode cX9_evaluate 165 = .ok (.iconst 1, 1) := by decide +kernel
theorem dX9_evaluate_166 : decode cX9_evaluate 166 = .ok (.isub, 1) := by decide +kernel
theorem dX9_evaluate_167 : decode cX9_evaluate 167 = .ok (.iaload, 1) := by decide +kernel
theorem dX9_evaluate_168 : decode cX9_evaluate 168 = .ok (.aload_n 0, 1) := by decide +kernel
theorem dX9_evaluate_169 : decode cX9_evaluate 169 = .ok (.getfield 23, 3) := by decide +kernel
theorem dX9_evaluate_172 : decode cX9_evaluate 172 = .ok (.aload_n 0, 1) := by decide +kernel
theorem dX9_evaluate_173 : decode cX9_evaluate 173 = .ok (.getfield 112, 3) := by decide +kernel
theorem dX9_evaluate_176 : decode cX9_evaluate 176 = .ok (.iaload, 1) := by decide +kernel
theorem dX9_evaluate_177 : decode cX9_evaluate 177 = .ok (.invokevirtual 179, 3) := by decide +kernel
theorem dX9_evaluate_180 : decode cX9_evaluate 180 = .ok (.iastore, 1) := by decide +kernel
theorem dX9_evaluate_181 : decode cX9_evaluate 181 = .ok (.iinc 3 1, 3) := by decide +kernel
theorem dX9_evaluate_184 : decode cX9_evaluate 184 = .ok (.goto (-168), 3) := by decide +kernel
theorem dX9_evaluate_187 : decode cX9_evaluate 187 = .ok (.aload_n 0, 1) := by decide +kernel
theorem dX9_evaluate_188 : decode cX9_evaluate 188 = .ok (.getfield 112, 3) := by decide +kernel
theorem dX9_evaluate_191 : decode cX9_evaluate 191 = .ok (.ifCond .le 12, 3) := by decide +kernel
theorem dX9_evaluate_194 : decode cX9_evaluate 194 = .ok (.aload_n 0, 1) := by decide +kernel
theorem dX9_evaluate_195 : decode cX9_evaluate 195 = .ok (.getfield 23, 3) := by decide +kernel
theorem dX9_evaluate_198 : decode cX9_evaluate 198 = .ok (.iconst 0, 1) := by decide +kernel
theorem dX9_evaluate_199 : decode cX9_evaluate 199 = .ok (.iaload, 1) := by decide +kernel
theorem dX9_evaluate_200 : decode cX9_evaluate 200 = .ok (.goto 4, 3) := by decide +kernel
theorem dX9_evaluate_203 : decode cX9_evaluate 203 = .ok (.iconst 0, 1) := by decide +kernel
theorem dX9_evaluate_204 : decode cX9_evaluate 204 = .ok (.ireturn, 1) := by decide +kernel
theorem dX9_behind_0 : decode cX9_behind 0 = .ok (.iconst 0, 1) := by decide +kernel
theorem dX9_behind_1 : decode cX9_behind 1 = .ok (.iload_n 1, 1) := by decide +kernel
theorem dX9_behind_2 : decode cX9_behind 2 = .ok (.invokestatic 169, 3) := by decide +kernel
theorem dX9_behind_5 : decode cX9_behind 5 = .ok (.istore_n 2, 1) := by decide +kernel
theorem dX9_behind_6 : decode cX9_behind 6 = .ok (.iload_n 2, 1) := by decide +kernel
theorem dX9_behind_7 : decode cX9_behind 7 = .ok (.aload_n 0, 1) := by decide +kernel
theorem dX9_behind_8 : decode cX9_behind 8 = .ok (.getfield 39, 3) := by decide +kernel
theorem dX9_behind_11 : decode cX9_behind 11 = .ok (.if_icmp .ge 20, 3) := by decide +kernel
theorem dX9_behind_14 : decode cX9_behind 14 = .ok (.aload_n 0, 1) := by decide +kernel
theorem dX9_behind_15 : decode cX9_behind 15 = .ok (.getfield 16, 3) := by decide +kernel
theorem dX9_behind_18 : decode cX9_behind 18 = .ok (.iload_n 2, 1) := by decide +kernel
theorem dX9_behind_19 : decode cX9_behind 19 = .ok (.iaload, 1) := by decide +kernel
theorem dX9_behind_20 : decode cX9_behind 20 = .ok (.bipush 21, 2) := by decide +kernel
theorem dX9_behind_22 : decode cX9_behind 22 = .ok (.if_icmp .eq 9, 3) := by decide +kernel
theorem dX9_behind_25 : decode cX9_behind 25 = .ok (.iinc 2 1, 3) := by decide +kernel
theorem dX9_behind_28 : decode cX9_behind 28 = .ok (.goto (-22), 3) := by decide +kernel
theorem dX9_behind_31 : decode cX9_behind 31 = .ok (.iload_n 2, 1) := by decide +kernel
theorem dX9_behind_32 : decode cX9_behind 32 = .ok (.iconst 1, 1) := by decide +kernel
theorem dX9_behind_33 : decode cX9_behind 33 = .ok (.iadd, 1) := by decide +kernel
theorem dX9_behind_34 : decode cX9_behind 34 = .ok (.ireturn, 1) := by decide +kernel
theorem dX9_operand_0 : decode cX9_operand 0 = .ok (.iload_n 1, 1) := by decide +kernel
theorem dX9_operand_1 : decode cX9_operand 1 = .ok (.bipush 16, 2) := by decide +kernel
theorem dX9_operand_3 : decode cX9_operand 3 = .ok (.if_icmp .ne 5, 3) := by decide +kernel
theorem dX9_operand_6 : decode cX9_operand 6 = .ok (.iload_n 2, 1) := by decide +kernel
theorem dX9_operand_7 : decode cX9_operand 7 = .ok (.ireturn, 1) := by decide +kernel
theorem dX9_operand_8 : decode cX9_operand 8 = .ok (.iload_n 1, 1) := by decide +kernel
theorem dX9_operand_9 : decode cX9_operand 9 = .ok (.bipush 18, 2) := by decide +kernel
theorem dX9_operand_11 : decode cX9_operand 11 = .ok (.if_icmp .ne 5, 3) := by decide +kernel
theorem dX9_operand_14 : decode cX9_operand 14 = .ok (.iload_n 3, 1) := by decide +kernel
theorem dX9_operand_15 : decode cX9_operand 15 = .ok (.ireturn, 1) := by decide +kernel
theorem dX9_operand_16 : decode cX9_operand 16 = .ok (.iload_n 1, 1) := by decide +kernel
theorem dX9_operand_17 : decode cX9_operand 17 = .ok (.bipush 17, 2) := by decide +kernel
theorem dX9_operand_19 : decode cX9_operand 19 = .ok (.if_icmp .ne 57, 3) := by decide +kernel
theorem dX9_operand_22 : decode cX9_operand 22 = .ok (.aload_n 0, 1) := by decide +kernel
theorem dX9_operand_23 : decode cX9_operand 23 = .ok (.getfield 27, 3) := by decide +kernel
theorem dX9_operand_26 : decode cX9_operand 26 = .ok (.iload_n 2, 1) := by decide +kernel
theorem dX9_operand_27 : decode cX9_operand 27 = .ok (.iconst 5, 1) := by decide +kernel
theorem dX9_operand_28 : decode cX9_operand 28 = .ok (.imul, 1) := by decide +kernel
theorem dX9_operand_29 : decode cX9_operand 29 = .ok (.iconst 2, 1) := by decide +kernel
theorem dX9_operand_30 : decode cX9_operand 30 = .ok (.iadd, 1) := by decide +kernel
theorem dX9_operand_31 : decode cX9_operand 31 = .ok (.iaload, 1) := by decide +kernel
theorem dX9_operand_32 : decode cX9_operand 32 = .ok (.istore 5, 2) := by decide +kernel
theorem dX9_operand_34 : decode cX9_operand 34 = .ok (.iload 5, 2) := by decide +kernel
theorem dX9_operand_36 : decode cX9_operand 36 = .ok (.iconst 1, 1) := by decide +kernel
theorem dX9_operand_37 : decode cX9_operand 37 = .ok (.if_icmp .ne 14, 3) := by decide +kernel
theorem dX9_operand_40 : decode cX9_operand 40 = .ok (.aload_n 0, 1) := by decide +kernel
theorem dX9_operand_41 : decode cX9_operand 41 = .ok (.getfield 27, 3) := by decide +kernel
theorem dX9_operand_44 : decode cX9_operand 44 = .ok (.iload_n 2, 1) := by decide +kernel
theorem dX9_operand_45 : decode cX9_operand 45 = .ok (.iconst 5, 1) := by decide +kernel
theorem dX9_operand_46 : decode cX9_operand 46 = .ok (.imul, 1) := by decide +kernel
theorem dX9_operand_47 : decode cX9_operand 47 = .ok (.iconst 3, 1) := by decide +kernel
theorem dX9_operand_48 : decode cX9_operand 48 = .ok (.iadd, 1) := by decide +kernel
theorem dX9_operand_49 : decode cX9_operand 49 = .ok (.iaload, 1) := by decide +kernel
theorem dX9_operand_50 : decode cX9_operand 50 = .ok (.ireturn, 1) := by decide +kernel
theorem dX9_operand_51 : decode cX9_operand 51 = .ok (.iload 5, 2) := by decide +kernel
theorem dX9_operand_53 : decode cX9_operand 53 = .ok (.iconst 2, 1) := by decide +kernel
theorem dX9_operand_54 : decode cX9_operand 54 = .ok (.if_icmp .ne 16, 3) := by decide +kernel
theorem dX9_operand_57 : decode cX9_operand 57 = .ok (.aload_n 0, 1) := by decide +kernel
theorem dX9_operand_58 : decode cX9_operand 58 = .ok (.getfield 27, 3) := by decide +kernel
theorem dX9_operand_61 : decode cX9_operand 61 = .ok (.iload_n 2, 1) := by decide +kernel
theorem dX9_operand_62 : decode cX9_operand 62 = .ok (.iconst 5, 1) := by decide +kernel
theorem dX9_operand_63 : decode cX9_operand 63 = .ok (.imul, 1) := by decide +kernel
theorem dX9_operand_64 : decode cX9_operand 64 = .ok (.iconst 3, 1) := by decide +kernel
theorem dX9_operand_65 : decode cX9_operand 65 = .ok (.iadd, 1) := by decide +kernel
theorem dX9_operand_66 : decode cX9_operand 66 = .ok (.iaload, 1) := by decide +kernel
theorem dX9_operand_67 : decode cX9_operand 67 = .ok (.goto 4, 3) := by decide +kernel
theorem dX9_operand_70 : decode cX9_operand 70 = .ok (.iconst (-1), 1) := by decide +kernel
theorem dX9_operand_71 : decode cX9_operand 71 = .ok (.istore 4, 2) := by decide +kernel
theorem dX9_operand_73 : decode cX9_operand 73 = .ok (.goto 44, 3) := by decide +kernel
theorem dX9_operand_76 : decode cX9_operand 76 = .ok (.iload_n 1, 1) := by decide +kernel
theorem dX9_operand_77 : decode cX9_operand 77 = .ok (.bipush 20, 2) := by decide +kernel
theorem dX9_operand_79 : decode cX9_operand 79 = .ok (.if_icmp .ne 9, 3) := by decide +kernel
theorem dX9_operand_82 : decode cX9_operand 82 = .ok (.iload_n 2, 1) := by decide +kernel
theorem dX9_operand_83 : decode cX9_operand 83 = .ok (.istore 4, 2) := by decide +kernel
theorem dX9_operand_85 : decode cX9_operand 85 = .ok (.goto 32, 3) := by decide +kernel
theorem dX9_operand_88 : decode cX9_operand 88 = .ok (.iload_n 2, 1) := by decide +kernel
theorem dX9_operand_89 : decode cX9_operand 89 = .ok (.ifCond .ge 14, 3) := by decide +kernel
theorem dX9_operand_92 : decode cX9_operand 92 = .ok (.aload_n 0, 1) := by decide +kernel
theorem dX9_operand_93 : decode cX9_operand 93 = .ok (.getfield 33, 3) := by decide +kernel
theorem dX9_operand_96 : decode cX9_operand 96 = .ok (.iconst (-1), 1) := by decide +kernel
theorem dX9_operand_97 : decode cX9_operand 97 = .ok (.iload_n 2, 1) := by decide +kernel
theorem dX9_operand_98 : decode cX9_operand 98 = .ok (.isub, 1) := by decide +kernel
theorem dX9_operand_99 : decode cX9_operand 99 = .ok (.iaload, 1) := by decide +kernel
theorem dX9_operand_100 : decode cX9_operand 100 = .ok (.goto 13, 3) := by decide +kernel
theorem dX9_operand_103 : decode cX9_operand 103 = .ok (.aload_n 0, 1) := by decide +kernel
theorem dX9_operand_104 : decode cX9_operand 104 = .ok (.getfield 36, 3) := by decide +kernel
theorem dX9_operand_107 : decode cX9_operand 107 = .ok (.iload_n 2, 1) := by decide +kernel
theorem dX9_operand_108 : decode cX9_operand 108 = .ok (.iconst 5, 1) := by decide +kernel
theorem dX9_operand_109 : decode cX9_operand 109 = .ok (.imul, 1) := by decide +kernel
theorem dX9_operand_110 : decode cX9_operand 110 = .ok (.iconst 3, 1) := by decide +kernel
theorem dX9_operand_111 : decode cX9_operand 111 = .ok (.iadd, 1) := by decide +kernel
theorem dX9_operand_112 : decode cX9_operand 112 = .ok (.iaload, 1) := by decide +kernel
theorem dX9_operand_113 : decode cX9_operand 113 = .ok (.iconst 1, 1) := by decide +kernel
theorem dX9_operand_114 : decode cX9_operand 114 = .ok (.isub, 1) := by decide +kernel
