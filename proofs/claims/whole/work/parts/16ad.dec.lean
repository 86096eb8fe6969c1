theorem dX13_register_27 : decode cX13_register 27 = .ok (.lload_n 3, 1) := by decide +kernel
theorem dX13_register_28 : decode cX13_register 28 = .ok (.ldc2_w 431, 3) := by decide +kernel
theorem dX13_register_31 : decode cX13_register 31 = .ok (.lcmp, 1) := by decide +kernel
theorem dX13_register_32 : decode cX13_register 32 = .ok (.ifCond .ne 5, 3) := by decide +kernel
theorem dX13_register_35 : decode cX13_register 35 = .ok (.iconst 2, 1) := by decide +kernel
theorem dX13_register_36 : decode cX13_register 36 = .ok (.ireturn, 1) := by decide +kernel
theorem dX13_register_37 : decode cX13_register 37 = .ok (.lload_n 3, 1) := by decide +kernel
theorem dX13_register_38 : decode cX13_register 38 = .ok (.ldc2_w 433, 3) := by decide +kernel
theorem dX13_register_41 : decode cX13_register 41 = .ok (.lcmp, 1) := by decide +kernel
theorem dX13_register_42 : decode cX13_register 42 = .ok (.ifCond .ne 5, 3) := by decide +kernel
theorem dX13_register_45 : decode cX13_register 45 = .ok (.iconst 3, 1) := by decide +kernel
theorem dX13_register_46 : decode cX13_register 46 = .ok (.ireturn, 1) := by decide +kernel
theorem dX13_register_47 : decode cX13_register 47 = .ok (.lload_n 3, 1) := by decide +kernel
theorem dX13_register_48 : decode cX13_register 48 = .ok (.ldc2_w 435, 3) := by decide +kernel
theorem dX13_register_51 : decode cX13_register 51 = .ok (.lcmp, 1) := by decide +kernel
theorem dX13_register_52 : decode cX13_register 52 = .ok (.ifCond .ne 5, 3) := by decide +kernel
theorem dX13_register_55 : decode cX13_register 55 = .ok (.iconst 4, 1) := by decide +kernel
theorem dX13_register_56 : decode cX13_register 56 = .ok (.ireturn, 1) := by decide +kernel
theorem dX13_register_57 : decode cX13_register 57 = .ok (.lload_n 3, 1) := by decide +kernel
theorem dX13_register_58 : decode cX13_register 58 = .ok (.ldc2_w 437, 3) := by decide +kernel
theorem dX13_register_61 : decode cX13_register 61 = .ok (.lcmp, 1) := by decide +kernel
theorem dX13_register_62 : decode cX13_register 62 = .ok (.ifCond .ne 6, 3) := by decide +kernel
theorem dX13_register_65 : decode cX13_register 65 = .ok (.bipush 8, 2) := by decide +kernel
theorem dX13_register_67 : decode cX13_register 67 = .ok (.ireturn, 1) := by decide +kernel
theorem dX13_register_68 : decode cX13_register 68 = .ok (.iload_n 2, 1) := by decide +kernel
theorem dX13_register_69 : decode cX13_register 69 = .ok (.iload_n 1, 1) := by decide +kernel
theorem dX13_register_70 : decode cX13_register 70 = .ok (.isub, 1) := by decide +kernel
theorem dX13_register_71 : decode cX13_register 71 = .ok (.iconst 2, 1) := by decide +kernel
theorem dX13_register_72 : decode cX13_register 72 = .ok (.if_icmp .lt 24, 3) := by decide +kernel
theorem dX13_register_75 : decode cX13_register 75 = .ok (.iload_n 2, 1) := by decide +kernel
theorem dX13_register_76 : decode cX13_register 76 = .ok (.iload_n 1, 1) := by decide +kernel
theorem dX13_register_77 : decode cX13_register 77 = .ok (.isub, 1) := by decide +kernel
theorem dX13_register_78 : decode cX13_register 78 = .ok (.iconst 3, 1) := by decide +kernel
theorem dX13_register_79 : decode cX13_register 79 = .ok (.if_icmp .gt 17, 3) := by decide +kernel
theorem dX13_register_82 : decode cX13_register 82 = .ok (.aload_n 0, 1) := by decide +kernel
theorem dX13_register_83 : decode cX13_register 83 = .ok (.getfield 324, 3) := by decide +kernel
theorem dX13_register_86 : decode cX13_register 86 = .ok (.iload_n 1, 1) := by decide +kernel
theorem dX13_register_87 : decode cX13_register 87 = .ok (.iconst 1, 1) := by decide +kernel
theorem dX13_register_88 : decode cX13_register 88 = .ok (.iadd, 1) := by decide +kernel
theorem dX13_register_89 : decode cX13_register 89 = .ok (.caload, 1) := by decide +kernel
theorem dX13_register_90 : decode cX13_register 90 = .ok (.invokestatic 351, 3) := by decide +kernel
theorem dX13_register_93 : decode cX13_register 93 = .ok (.ifCond .ne 5, 3) := by decide +kernel
theorem dX13_register_96 : decode cX13_register 96 = .ok (.iconst (-1), 1) := by decide +kernel
theorem dX13_register_97 : decode cX13_register 97 = .ok (.ireturn, 1) := by decide +kernel
theorem dX13_register_98 : decode cX13_register 98 = .ok (.aload_n 0, 1) := by decide +kernel
theorem dX13_register_99 : decode cX13_register 99 = .ok (.getfield 324, 3) := by decide +kernel
theorem dX13_register_102 : decode cX13_register 102 = .ok (.iload_n 1, 1) := by decide +kernel
theorem dX13_register_103 : decode cX13_register 103 = .ok (.iconst 1, 1) := by decide +kernel
theorem dX13_register_104 : decode cX13_register 104 = .ok (.iadd, 1) := by decide +kernel
theorem dX13_register_105 : decode cX13_register 105 = .ok (.caload, 1) := by decide +kernel
theorem dX13_register_106 : decode cX13_register 106 = .ok (.bipush 48, 2) := by decide +kernel
theorem dX13_register_108 : decode cX13_register 108 = .ok (.isub, 1) := by decide +kernel
theorem dX13_register_109 : decode cX13_register 109 = .ok (.istore 5, 2) := by decide +kernel
theorem dX13_register_111 : decode cX13_register 111 = .ok (.iload_n 2, 1) := by decide +kernel
theorem dX13_register_112 : decode cX13_register 112 = .ok (.iload_n 1, 1) := by decide +kernel
theorem dX13_register_113 : decode cX13_register 113 = .ok (.isub, 1) := by decide +kernel
theorem dX13_register_114 : decode cX13_register 114 = .ok (.iconst 3, 1) := by decide +kernel
theorem dX13_register_115 : decode cX13_register 115 = .ok (.if_icmp .ne 46, 3) := by decide +kernel
theorem dX13_register_118 : decode cX13_register 118 = .ok (.iload 5, 2) := by decide +kernel
theorem dX13_register_120 : decode cX13_register 120 = .ok (.ifCond .eq 17, 3) := by decide +kernel
theorem dX13_register_123 : decode cX13_register 123 = .ok (.aload_n 0, 1) := by decide +kernel
theorem dX13_register_124 : decode cX13_register 124 = .ok (.getfield 324, 3) := by decide +kernel
theorem dX13_register_127 : decode cX13_register 127 = .ok (.iload_n 1, 1) := by decide +kernel
theorem dX13_register_128 : decode cX13_register 128 = .ok (.iconst 2, 1) := by decide +kernel
theorem dX13_register_129 : decode cX13_register 129 = .ok (.iadd, 1) := by decide +kernel
theorem dX13_register_130 : decode cX13_register 130 = .ok (.caload, 1) := by decide +kernel
theorem dX13_register_131 : decode cX13_register 131 = .ok (.invokestatic 351, 3) := by decide +kernel
theorem dX13_register_134 : decode cX13_register 134 = .ok (.ifCond .ne 8, 3) := by decide +kernel
theorem dX13_register_137 : decode cX13_register 137 = .ok (.bipush 99, 2) := by decide +kernel
theorem dX13_register_139 : decode cX13_register 139 = .ok (.goto 20, 3) := by decide +kernel
theorem dX13_register_142 : decode cX13_register 142 = .ok (.bipush 10, 2) := by decide +kernel
theorem dX13_register_144 : decode cX13_register 144 = .ok (.iload 5, 2) := by decide +kernel
theorem dX13_register_146 : decode cX13_register 146 = .ok (.imul, 1) := by decide +kernel
theorem dX13_register_147 : decode cX13_register 147 = .ok (.aload_n 0, 1) := by decide +kernel
theorem dX13_register_148 : decode cX13_register 148 = .ok (.getfield 324, 3) := by decide +kernel
theorem dX13_register_151 : decode cX13_register 151 = .ok (.iload_n 1, 1) := by decide +kernel
theorem dX13_register_152 : decode cX13_register 152 = .ok (.iconst 2, 1) := by decide +kernel
theorem dX13_register_153 : decode cX13_register 153 = .ok (.iadd, 1) := by decide +kernel
theorem dX13_register_154 : decode cX13_register 154 = .ok (.caload, 1) := by decide +kernel
theorem dX13_register_155 : decode cX13_register 155 = .ok (.iadd, 1) := by decide +kernel
theorem dX13_register_156 : decode cX13_register 156 = .ok (.bipush 48, 2) := by decide +kernel
theorem dX13_register_158 : decode cX13_register 158 = .ok (.isub, 1) := by decide +kernel
theorem dX13_register_159 : decode cX13_register 159 = .ok (.istore 5, 2) := by decide +kernel
theorem dX13_register_161 : decode cX13_register 161 = .ok (.aload_n 0, 1) := by decide +kernel
theorem dX13_register_162 : decode cX13_register 162 = .ok (.getfield 324, 3) := by decide +kernel
theorem dX13_register_165 : decode cX13_register 165 = .ok (.iload_n 1, 1) := by decide +kernel
theorem dX13_register_166 : decode cX13_register 166 = .ok (.caload, 1) := by decide +kernel
theorem dX13_register_167 : decode cX13_register 167 = .ok (.istore 6, 2) := by decide +kernel
theorem dX13_register_169 : decode cX13_register 169 = .ok (.iload 6, 2) := by decide +kernel
theorem dX13_register_171 : decode cX13_register 171 = .ok (.bipush 120, 2) := by decide +kernel
theorem dX13_register_173 : decode cX13_register 173 = .ok (.if_icmp .ne 17, 3) := by decide +kernel
theorem dX13_register_176 : decode cX13_register 176 = .ok (.iload 5, 2) := by decide +kernel
theorem dX13_register_178 : decode cX13_register 178 = .ok (.bipush 32, 2) := by decide +kernel
theorem dX13_register_180 : decode cX13_register 180 = .ok (.if_icmp .ge 8, 3) := by decide +kernel
theorem dX13_register_183 : decode cX13_register 183 = .ok (.iload 5, 2) := by decide +kernel
theorem dX13_register_185 : decode cX13_register 185 = .ok (.goto 4, 3) := by decide +kernel
theorem dX13_register_188 : decode cX13_register 188 = .ok (.iconst (-1), 1) := by decide +kernel
theorem dX13_register_189 : decode cX13_register 189 = .ok (.ireturn, 1) := by decide +kernel
theorem dX13_register_190 : decode cX13_register 190 = .ok (.iload 6, 2) := by decide +kernel
theorem dX13_register_192 : decode cX13_register 192 = .ok (.bipush 97, 2) := by decide +kernel
theorem dX13_register_194 : decode cX13_register 194 = .ok (.if_icmp .ne 20, 3) := by decide +kernel
theorem dX13_register_197 : decode cX13_register 197 = .ok (.iload 5, 2) := by decide +kernel
theorem dX13_register_199 : decode cX13_register 199 = .ok (.bipush 8, 2) := by decide +kernel
theorem dX13_register_201 : decode cX13_register 201 = .ok (.if_icmp .ge 11, 3) := by decide +kernel
theorem dX13_register_204 : decode cX13_register 204 = .ok (.bipush 10, 2) := by decide +kernel
theorem dX13_register_206 : decode cX13_register 206 = .ok (.iload 5, 2) := by decide +kernel
theorem dX13_register_208 : decode cX13_register 208 = .ok (.iadd, 1) := by decide +kernel
theorem dX13_register_209 : decode cX13_register 209 = .ok (.goto 4, 3) := by decide +kernel
theorem dX13_register_212 : decode cX13_register 212 = .ok (.iconst (-1), 1) := by decide +kernel
theorem dX13_register_213 : decode cX13_register 213 = .ok (.ireturn, 1) := by decide +kernel
theorem dX13_register_214 : decode cX13_register 214 = .ok (.iload 6, 2) := by decide +kernel
theorem dX13_register_216 : decode cX13_register 216 = .ok (.bipush 116, 2) := by decide +kernel
theorem dX13_register_218 : decode cX13_register 218 = .ok (.if_icmp .ne 33, 3) := by decide +kernel
theorem dX13_register_221 : decode cX13_register 221 = .ok (.iload 5, 2) := by decide +kernel
theorem dX13_register_223 : decode cX13_register 223 = .ok (.iconst 3, 1) := by decide +kernel
theorem dX13_register_224 : decode cX13_register 224 = .ok (.if_icmp .ge 10, 3) := by decide +kernel
theorem dX13_register_227 : decode cX13_register 227 = .ok (.iconst 5, 1) := by decide +kernel
theorem dX13_register_228 : decode cX13_register 228 = .ok (.iload 5, 2) := by decide +kernel
theorem dX13_register_230 : decode cX13_register 230 = .ok (.iadd, 1) := by decide +kernel
theorem dX13_register_231 : decode cX13_register 231 = .ok (.goto 19, 3) := by decide +kernel
theorem dX13_register_234 : decode cX13_register 234 = .ok (.iload 5, 2) := by decide +kernel
theorem dX13_register_236 : decode cX13_register 236 = .ok (.bipush 7, 2) := by decide +kernel
theorem dX13_register_238 : decode cX13_register 238 = .ok (.if_icmp .ge 11, 3) := by decide +kernel
theorem dX13_register_241 : decode cX13_register 241 = .ok (.bipush 25, 2) := by decide +kernel
theorem dX13_register_243 : decode cX13_register 243 = .ok (.iload 5, 2) := by decide +kernel
theorem dX13_register_245 : decode cX13_register 245 = .ok (.iadd, 1) := by decide +kernel
theorem dX13_register_246 : decode cX13_register 246 = .ok (.goto 4, 3) := by decide +kernel
theorem dX13_register_249 : decode cX13_register 249 = .ok (.iconst (-1), 1) := by decide +kernel
theorem dX13_register_250 : decode cX13_register 250 = .ok (.ireturn, 1) := by decide +kernel
theorem dX13_register_251 : decode cX13_register 251 = .ok (.iload 6, 2) := by decide +kernel
theorem dX13_register_253 : decode cX13_register 253 = .ok (.bipush 115, 2) := by decide +kernel
theorem dX13_register_255 : decode cX13_register 255 = .ok (.if_icmp .eq 7, 3) := by decide +kernel
theorem dX13_register_258 : decode cX13_register 258 = .ok (.iconst (-1), 1) := by decide +kernel
theorem dX13_register_259 : decode cX13_register 259 = .ok (.goto 33, 3) := by decide +kernel
theorem dX13_register_262 : decode cX13_register 262 = .ok (.iload 5, 2) := by decide +kernel
theorem dX13_register_264 : decode cX13_register 264 = .ok (.iconst 2, 1) := by decide +kernel
theorem dX13_register_265 : decode cX13_register 265 = .ok (.if_icmp .ge 11, 3) := by decide +kernel
theorem dX13_register_268 : decode cX13_register 268 = .ok (.bipush 8, 2) := by decide +kernel
theorem dX13_register_270 : decode cX13_register 270 = .ok (.iload 5, 2) := by decide +kernel
theorem dX13_register_272 : decode cX13_register 272 = .ok (.iadd, 1) := by decide +kernel
theorem dX13_register_273 : decode cX13_register 273 = .ok (.goto 19, 3) := by decide +kernel
theorem dX13_register_276 : decode cX13_register 276 = .ok (.iload 5, 2) := by decide +kernel
theorem dX13_register_278 : decode cX13_register 278 = .ok (.bipush 12, 2) := by decide +kernel
theorem dX13_register_280 : decode cX13_register 280 = .ok (.if_icmp .ge 11, 3) := by decide +kernel
theorem dX13_register_283 : decode cX13_register 283 = .ok (.bipush 16, 2) := by decide +kernel
theorem dX13_register_285 : decode cX13_register 285 = .ok (.iload 5, 2) := by decide +kernel
theorem dX13_register_287 : decode cX13_register 287 = .ok (.iadd, 1) := by decide +kernel
theorem dX13_register_288 : decode cX13_register 288 = .ok (.goto 4, 3) := by decide +kernel
theorem dX13_register_291 : decode cX13_register 291 = .ok (.iconst (-1), 1) := by decide +kernel
theorem dX13_register_292 : decode cX13_register 292 = .ok (.ireturn, 1) := by decide +kernel
theorem dX13_isAlike_0 : decode cX13_isAlike 0 = .ok (.iload_n 1, 1) := by decide +kernel
theorem dX13_isAlike_1 : decode cX13_isAlike 1 = .ok (.istore 4, 2) := by decide +kernel
theorem dX13_isAlike_3 : decode cX13_isAlike 3 = .ok (.iload 4, 2) := by decide +kernel
theorem dX13_isAlike_5 : decode cX13_isAlike 5 = .ok (.iload_n 2, 1) := by decide +kernel
theorem dX13_isAlike_6 : decode cX13_isAlike 6 = .ok (.if_icmp .ge 31, 3) := by decide +kernel
theorem dX13_isAlike_9 : decode cX13_isAlike 9 = .ok (.aload_n 0, 1) := by decide +kernel
theorem dX13_isAlike_10 : decode cX13_isAlike 10 = .ok (.iload_n 3, 1) := by decide +kernel
theorem dX13_isAlike_11 : decode cX13_isAlike 11 = .ok (.iload 4, 2) := by decide +kernel
theorem dX13_isAlike_13 : decode cX13_isAlike 13 = .ok (.iadd, 1) := by decide +kernel
theorem dX13_isAlike_14 : decode cX13_isAlike 14 = .ok (.iload_n 1, 1) := by decide +kernel
theorem dX13_isAlike_15 : decode cX13_isAlike 15 = .ok (.isub, 1) := by decide +kernel
theorem dX13_isAlike_16 : decode cX13_isAlike 16 = .ok (.invokevirtual 358, 3) := by decide +kernel
theorem dX13_isAlike_19 : decode cX13_isAlike 19 = .ok (.aload_n 0, 1) := by decide +kernel
theorem dX13_isAlike_20 : decode cX13_isAlike 20 = .ok (.getfield 324, 3) := by decide +kernel
theorem dX13_isAlike_23 : decode cX13_isAlike 23 = .ok (.iload 4, 2) := by decide +kernel
theorem dX13_isAlike_25 : decode cX13_isAlike 25 = .ok (.caload, 1) := by decide +kernel
theorem dX13_isAlike_26 : decode cX13_isAlike 26 = .ok (.if_icmp .eq 5, 3) := by decide +kernel
theorem dX13_isAlike_29 : decode cX13_isAlike 29 = .ok (.iconst 0, 1) := by decide +kernel
theorem dX13_isAlike_30 : decode cX13_isAlike 30 = .ok (.ireturn, 1) := by decide +kernel
theorem dX13_isAlike_31 : decode cX13_isAlike 31 = .ok (.iinc 4 1, 3) := by decide +kernel
theorem dX13_isAlike_34 : decode cX13_isAlike 34 = .ok (.goto (-31), 3) := by decide +kernel
theorem dX13_isAlike_37 : decode cX13_isAlike 37 = .ok (.aload_n 0, 1) := by decide +kernel
theorem dX13_isAlike_38 : decode cX13_isAlike 38 = .ok (.iload_n 3, 1) := by decide +kernel
theorem dX13_isAlike_39 : decode cX13_isAlike 39 = .ok (.iload_n 2, 1) := by decide +kernel
theorem dX13_isAlike_40 : decode cX13_isAlike 40 = .ok (.iadd, 1) := by decide +kernel
theorem dX13_isAlike_41 : decode cX13_isAlike 41 = .ok (.iload_n 1, 1) := by decide +kernel
theorem dX13_isAlike_42 : decode cX13_isAlike 42 = .ok (.isub, 1) := by decide +kernel
theorem dX13_isAlike_43 : decode cX13_isAlike 43 = .ok (.invokevirtual 358, 3) := by decide +kernel
theorem dX13_isAlike_46 : decode cX13_isAlike 46 = .ok (.invokestatic 362, 3) := by decide +kernel
theorem dX13_isAlike_49 : decode cX13_isAlike 49 = .ok (.ifCond .ne 7, 3) := by decide +kernel
theorem dX13_isAlike_52 : decode cX13_isAlike 52 = .ok (.iconst 1, 1) := by decide +kernel
theorem dX13_isAlike_53 : decode cX13_isAlike 53 = .ok (.goto 4, 3) := by decide +kernel
theorem dX13_isAlike_56 : decode cX13_isAlike 56 = .ok (.iconst 0, 1) := by decide +kernel
theorem dX13_isAlike_57 : decode cX13_isAlike 57 = .ok (.ireturn, 1) := by decide +kernel
theorem dX13_find_0 : decode cX13_find 0 = .ok (.iconst 0, 1) := by decide +kernel
theorem dX13_find_1 : decode cX13_find 1 = .ok (.istore_n 3, 1) := by decide +kernel
theorem dX13_find_2 : decode cX13_find 2 = .ok (.iload_n 3, 1) := by decide +kernel
theorem dX13_find_3 : decode cX13_find 3 = .ok (.aload_n 0, 1) := by decide +kernel
theorem dX13_find_4 : decode cX13_find 4 = .ok (.getfield 439, 3) := by decide +kernel
theorem dX13_find_7 : decode cX13_find 7 = .ok (.if_icmp .ge 43, 3) := by decide +kernel
theorem dX13_find_10 : decode cX13_find 10 = .ok (.aload_n 0, 1) := by decide +kernel
theorem dX13_find_11 : decode cX13_find 11 = .ok (.getfield 337, 3) := by decide +kernel
theorem dX13_find_14 : decode cX13_find 14 = .ok (.iload_n 3, 1) := by decide +kernel
theorem dX13_find_15 : decode cX13_find 15 = .ok (.iaload, 1) := by decide +kernel
theorem dX13_find_16 : decode cX13_find 16 = .ok (.bipush 17, 2) := by decide +kernel
theorem dX13_find_18 : decode cX13_find 18 = .ok (.ishr, 1) := by decide +kernel
theorem dX13_find_19 : decode cX13_find 19 = .ok (.iconst 3, 1) := by decide +kernel
theorem dX13_find_20 : decode cX13_find 20 = .ok (.if_icmp .ge 24, 3) := by decide +kernel
theorem dX13_find_23 : decode cX13_find 23 = .ok (.aload_n 0, 1) := by decide +kernel
theorem dX13_find_24 : decode cX13_find 24 = .ok (.iload_n 1, 1) := by decide +kernel
theorem dX13_find_25 : decode cX13_find 25 = .ok (.iload_n 2, 1) := by decide +kernel
theorem dX13_find_26 : decode cX13_find 26 = .ok (.aload_n 0, 1) := by decide +kernel
theorem dX13_find_27 : decode cX13_find 27 = .ok (.getfield 337, 3) := by decide +kernel
theorem dX13_find_30 : decode cX13_find 30 = .ok (.iload_n 3, 1) := by decide +kernel
theorem dX13_find_31 : decode cX13_find 31 = .ok (.iaload, 1) := by decide +kernel
theorem dX13_find_32 : decode cX13_find 32 = .ok (.ldc_w 442, 3) := by decide +kernel
theorem dX13_find_35 : decode cX13_find 35 = .ok (.iand, 1) := by decide +kernel
theorem dX13_find_36 : decode cX13_find 36 = .ok (.invokevirtual 443, 3) := by decide +kernel
theorem dX13_find_39 : decode cX13_find 39 = .ok (.ifCond .eq 5, 3) := by decide +kernel
theorem dX13_find_42 : decode cX13_find 42 = .ok (.iload_n 3, 1) := by decide +kernel
theorem dX13_find_43 : decode cX13_find 43 = .ok (.ireturn, 1) := by decide +kernel
theorem dX13_find_44 : decode cX13_find 44 = .ok (.iinc 3 1, 3) := by decide +kernel
theorem dX13_find_47 : decode cX13_find 47 = .ok (.goto (-45), 3) := by decide +kernel
theorem dX13_find_50 : decode cX13_find 50 = .ok (.iconst (-1), 1) := by decide +kernel
theorem dX13_find_51 : decode cX13_find 51 = .ok (.ireturn, 1) := by decide +kernel
theorem dX13_define_0 : decode cX13_define 0 = .ok (.aload_n 0, 1) := by decide +kernel
theorem dX13_define_1 : decode cX13_define 1 = .ok (.getfield 337, 3) := by decide +kernel
theorem dX13_define_4 : decode cX13_define 4 = .ok (.aload_n 0, 1) := by decide +kernel
theorem dX13_define_5 : decode cX13_define 5 = .ok (.getfield 439, 3) := by decide +kernel
theorem dX13_define_8 : decode cX13_define 8 = .ok (.iload_n 1, 1) := by decide +kernel
theorem dX13_define_9 : decode cX13_define 9 = .ok (.iload_n 3, 1) := by decide +kernel
theorem dX13_define_10 : decode cX13_define 10 = .ok (.bipush 17, 2) := by decide +kernel
theorem dX13_define_12 : decode cX13_define 12 = .ok (.ishl, 1) := by decide +kernel
theorem dX13_define_13 : decode cX13_define 13 = .ok (.ior, 1) := by decide +kernel
theorem dX13_define_14 : decode cX13_define 14 = .ok (.iastore, 1) := by decide +kernel
theorem dX13_define_15 : decode cX13_define 15 = .ok (.aload_n 0, 1) := by decide +kernel
theorem dX13_define_16 : decode cX13_define 16 = .ok (.getfield 340, 3) := by decide +kernel
theorem dX13_define_19 : decode cX13_define 19 = .ok (.aload_n 0, 1) := by decide +kernel
theorem dX13_define_20 : decode cX13_define 20 = .ok (.getfield 439, 3) := by decide +kernel
theorem dX13_define_23 : decode cX13_define 23 = .ok (.iload 4, 2) := by decide +kernel
theorem dX13_define_25 : decode cX13_define 25 = .ok (.iastore, 1) := by decide +kernel
theorem dX13_define_26 : decode cX13_define 26 = .ok (.aload_n 0, 1) := by decide +kernel
theorem dX13_define_27 : decode cX13_define 27 = .ok (.dup, 1) := by decide +kernel
theorem dX13_define_28 : decode cX13_define 28 = .ok (.getfield 439, 3) := by decide +kernel
theorem dX13_define_31 : decode cX13_define 31 = .ok (.iconst 1, 1) := by decide +kernel
theorem dX13_define_32 : decode cX13_define 32 = .ok (.iadd, 1) := by decide +kernel
theorem dX13_define_33 : decode cX13_define 33 = .ok (.putfield 439, 3) := by decide +kernel
theorem dX13_define_36 : decode cX13_define 36 = .ok (.return_, 1) := by decide +kernel
theorem dX13_base_0 : decode cX13_base 0 = .ok (.aload_n 0, 1) := by decide +kernel
theorem dX13_base_1 : decode cX13_base 1 = .ok (.getfield 447, 3) := by decide +kernel
theorem dX13_base_4 : decode cX13_base 4 = .ok (.sipush 1023, 3) := by decide +kernel
theorem dX13_base_7 : decode cX13_base 7 = .ok (.iadd, 1) := by decide +kernel
theorem dX13_base_8 : decode cX13_base 8 = .ok (.sipush 1024, 3) := by decide +kernel
theorem dX13_base_11 : decode cX13_base 11 = .ok (.idiv, 1) := by decide +kernel
theorem dX13_base_12 : decode cX13_base 12 = .ok (.sipush 1024, 3) := by decide +kernel
theorem dX13_base_15 : decode cX13_base 15 = .ok (.imul, 1) := by decide +kernel
theorem dX13_base_16 : decode cX13_base 16 = .ok (.ireturn, 1) := by decide +kernel
theorem dX13_valueOf_0 : decode cX13_valueOf 0 = .ok (.aload_n 0, 1) := by decide +kernel
theorem dX13_valueOf_1 : decode cX13_valueOf 1 = .ok (.getfield 337, 3) := by decide +kernel
theorem dX13_valueOf_4 : decode cX13_valueOf 4 = .ok (.iload_n 1, 1) := by decide +kernel
theorem dX13_valueOf_5 : decode cX13_valueOf 5 = .ok (.iaload, 1) := by decide +kernel
theorem dX13_valueOf_6 : decode cX13_valueOf 6 = .ok (.bipush 17, 2) := by decide +kernel
theorem dX13_valueOf_8 : decode cX13_valueOf 8 = .ok (.ishr, 1) := by decide +kernel
theorem dX13_valueOf_9 : decode cX13_valueOf 9 = .ok (.istore_n 2, 1) := by decide +kernel
theorem dX13_valueOf_10 : decode cX13_valueOf 10 = .ok (.iload_n 2, 1) := by decide +kernel
theorem dX13_valueOf_11 : decode cX13_valueOf 11 = .ok (.iconst 2, 1) := by decide +kernel
theorem dX13_valueOf_12 : decode cX13_valueOf 12 = .ok (.if_icmp .ne 12, 3) := by decide +kernel
theorem dX13_valueOf_15 : decode cX13_valueOf 15 = .ok (.aload_n 0, 1) := by decide +kernel
theorem dX13_valueOf_16 : decode cX13_valueOf 16 = .ok (.getfield 340, 3) := by decide +kernel
theorem dX13_valueOf_19 : decode cX13_valueOf 19 = .ok (.iload_n 1, 1) := by decide +kernel
theorem dX13_valueOf_20 : decode cX13_valueOf 20 = .ok (.iaload, 1) := by decide +kernel
theorem dX13_valueOf_21 : decode cX13_valueOf 21 = .ok (.goto 33, 3) := by decide +kernel
theorem dX13_valueOf_24 : decode cX13_valueOf 24 = .ok (.iload_n 2, 1) := by decide +kernel
theorem dX13_valueOf_25 : decode cX13_valueOf 25 = .ok (.iconst 1, 1) := by decide +kernel
theorem dX13_valueOf_26 : decode cX13_valueOf 26 = .ok (.if_icmp .eq 8, 3) := by decide +kernel
theorem dX13_valueOf_29 : decode cX13_valueOf 29 = .ok (.iload_n 2, 1) := by decide +kernel
theorem dX13_valueOf_30 : decode cX13_valueOf 30 = .ok (.iconst 4, 1) := by decide +kernel
theorem dX13_valueOf_31 : decode cX13_valueOf 31 = .ok (.if_icmp .ne 17, 3) := by decide +kernel
theorem dX13_valueOf_34 : decode cX13_valueOf 34 = .ok (.aload_n 0, 1) := by decide +kernel
theorem dX13_valueOf_35 : decode cX13_valueOf 35 = .ok (.invokevirtual 450, 3) := by decide +kernel
theorem dX13_valueOf_38 : decode cX13_valueOf 38 = .ok (.aload_n 0, 1) := by decide +kernel
theorem dX13_valueOf_39 : decode cX13_valueOf 39 = .ok (.getfield 340, 3) := by decide +kernel
theorem dX13_valueOf_42 : decode cX13_valueOf 42 = .ok (.iload_n 1, 1) := by decide +kernel
theorem dX13_valueOf_43 : decode cX13_valueOf 43 = .ok (.iaload, 1) := by decide +kernel
theorem dX13_valueOf_44 : decode cX13_valueOf 44 = .ok (.iadd, 1) := by decide +kernel
theorem dX13_valueOf_45 : decode cX13_valueOf 45 = .ok (.goto 9, 3) := by decide +kernel
theorem dX13_valueOf_48 : decode cX13_valueOf 48 = .ok (.aload_n 0, 1) := by decide +kernel
theorem dX13_valueOf_49 : decode cX13_valueOf 49 = .ok (.getfield 340, 3) := by decide +kernel
theorem dX13_valueOf_52 : decode cX13_valueOf 52 = .ok (.iload_n 1, 1) := by decide +kernel
theorem dX13_valueOf_53 : decode cX13_valueOf 53 = .ok (.iaload, 1) := by decide +kernel
theorem dX13_valueOf_54 : decode cX13_valueOf 54 = .ok (.ireturn, 1) := by decide +kernel
theorem dX13_near_0 : decode cX13_near 0 = .ok (.aload_n 0, 1) := by decide +kernel
theorem dX13_near_1 : decode cX13_near 1 = .ok (.getfield 328, 3) := by decide +kernel
theorem dX13_near_4 : decode cX13_near 4 = .ok (.aload_n 0, 1) := by decide +kernel
theorem dX13_near_5 : decode cX13_near 5 = .ok (.getfield 454, 3) := by decide +kernel
theorem dX13_near_8 : decode cX13_near 8 = .ok (.iaload, 1) := by decide +kernel
theorem dX13_near_9 : decode cX13_near 9 = .ok (.ldc_w 442, 3) := by decide +kernel
theorem dX13_near_12 : decode cX13_near 12 = .ok (.iand, 1) := by decide +kernel
theorem dX13_near_13 : decode cX13_near 13 = .ok (.istore_n 3, 1) := by decide +kernel
theorem dX13_near_14 : decode cX13_near 14 = .ok (.iconst (-1), 1) := by decide +kernel
theorem dX13_near_15 : decode cX13_near 15 = .ok (.istore 4, 2) := by decide +kernel
theorem dX13_near_17 : decode cX13_near 17 = .ok (.iconst 0, 1) := by decide +kernel
theorem dX13_near_18 : decode cX13_near 18 = .ok (.istore 5, 2) := by decide +kernel
theorem dX13_near_20 : decode cX13_near 20 = .ok (.iload 5, 2) := by decide +kernel
theorem dX13_near_22 : decode cX13_near 22 = .ok (.aload_n 0, 1) := by decide +kernel
theorem dX13_near_23 : decode cX13_near 23 = .ok (.getfield 439, 3) := by decide +kernel
theorem dX13_near_26 : decode cX13_near 26 = .ok (.if_icmp .ge 81, 3) := by decide +kernel
theorem dX13_near_29 : decode cX13_near 29 = .ok (.aload_n 0, 1) := by decide +kernel
theorem dX13_near_30 : decode cX13_near 30 = .ok (.getfield 337, 3) := by decide +kernel
theorem dX13_near_33 : decode cX13_near 33 = .ok (.iload 5, 2) := by decide +kernel
theorem dX13_near_35 : decode cX13_near 35 = .ok (.iaload, 1) := by decide +kernel
theorem dX13_near_36 : decode cX13_near 36 = .ok (.ldc_w 442, 3) := by decide +kernel
theorem dX13_near_39 : decode cX13_near 39 = .ok (.iand, 1) := by decide +kernel
theorem dX13_near_40 : decode cX13_near 40 = .ok (.istore 6, 2) := by decide +kernel
theorem dX13_near_42 : decode cX13_near 42 = .ok (.aload_n 0, 1) := by decide +kernel
theorem dX13_near_43 : decode cX13_near 43 = .ok (.getfield 337, 3) := by decide +kernel
theorem dX13_near_46 : decode cX13_near 46 = .ok (.iload 5, 2) := by decide +kernel
theorem dX13_near_48 : decode cX13_near 48 = .ok (.iaload, 1) := by decide +kernel
theorem dX13_near_49 : decode cX13_near 49 = .ok (.bipush 17, 2) := by decide +kernel
theorem dX13_near_51 : decode cX13_near 51 = .ok (.ishr, 1) := by decide +kernel
theorem dX13_near_52 : decode cX13_near 52 = .ok (.iconst 3, 1) := by decide +kernel
theorem dX13_near_53 : decode cX13_near 53 = .ok (.if_icmp .lt 48, 3) := by decide +kernel
theorem dX13_near_56 : decode cX13_near 56 = .ok (.aload_n 0, 1) := by decide +kernel
theorem dX13_near_57 : decode cX13_near 57 = .ok (.getfield 324, 3) := by decide +kernel
theorem dX13_near_60 : decode cX13_near 60 = .ok (.iload 6, 2) := by decide +kernel
theorem dX13_near_62 : decode cX13_near 62 = .ok (.caload, 1) := by decide +kernel
theorem dX13_near_63 : decode cX13_near 63 = .ok (.bipush 48, 2) := by decide +kernel
theorem dX13_near_65 : decode cX13_near 65 = .ok (.isub, 1) := by decide +kernel
theorem dX13_near_66 : decode cX13_near 66 = .ok (.iload_n 1, 1) := by decide +kernel
theorem dX13_near_67 : decode cX13_near 67 = .ok (.if_icmp .ne 34, 3) := by decide +kernel
theorem dX13_near_70 : decode cX13_near 70 = .ok (.iload_n 2, 1) := by decide +kernel
theorem dX13_near_71 : decode cX13_near 71 = .ok (.iload 6, 2) := by decide +kernel
theorem dX13_near_73 : decode cX13_near 73 = .ok (.iload_n 3, 1) := by decide +kernel
theorem dX13_near_74 : decode cX13_near 74 = .ok (.if_icmp .le 7, 3) := by decide +kernel
theorem dX13_near_77 : decode cX13_near 77 = .ok (.iconst 1, 1) := by decide +kernel
theorem dX13_near_78 : decode cX13_near 78 = .ok (.goto 4, 3) := by decide +kernel
theorem dX13_near_81 : decode cX13_near 81 = .ok (.iconst 0, 1) := by decide +kernel
theorem dX13_near_82 : decode cX13_near 82 = .ok (.if_icmp .ne 19, 3) := by decide +kernel
theorem dX13_near_85 : decode cX13_near 85 = .ok (.iload_n 2, 1) := by decide +kernel
theorem dX13_near_86 : decode cX13_near 86 = .ok (.ifCond .eq 11, 3) := by decide +kernel
theorem dX13_near_89 : decode cX13_near 89 = .ok (.iload 4, 2) := by decide +kernel
theorem dX13_near_91 : decode cX13_near 91 = .ok (.ifCond .lt 6, 3) := by decide +kernel
theorem dX13_near_94 : decode cX13_near 94 = .ok (.goto 7, 3) := by decide +kernel
theorem dX13_near_97 : decode cX13_near 97 = .ok (.iload 5, 2) := by decide +kernel
theorem dX13_near_99 : decode cX13_near 99 = .ok (.istore 4, 2) := by decide +kernel
theorem dX13_near_101 : decode cX13_near 101 = .ok (.iinc 5 1, 3) := by decide +kernel
theorem dX13_near_104 : decode cX13_near 104 = .ok (.goto (-84), 3) := by decide +kernel
theorem dX13_near_107 : decode cX13_near 107 = .ok (.aload_n 0, 1) := by decide +kernel
theorem dX13_near_108 : decode cX13_near 108 = .ok (.aload_n 0, 1) := by decide +kernel
theorem dX13_near_109 : decode cX13_near 109 = .ok (.getfield 457, 3) := by decide +kernel
theorem dX13_near_112 : decode cX13_near 112 = .ok (.ifCond .ne 8, 3) := by decide +kernel
theorem dX13_near_115 : decode cX13_near 115 = .ok (.iload 4, 2) := by decide +kernel
theorem dX13_near_117 : decode cX13_near 117 = .ok (.ifCond .ge 7, 3) := by decide +kernel
theorem dX13_near_120 : decode cX13_near 120 = .ok (.iconst 1, 1) := by decide +kernel
theorem dX13_near_121 : decode cX13_near 121 = .ok (.goto 4, 3) := by decide +kernel
theorem dX13_near_124 : decode cX13_near 124 = .ok (.iconst 0, 1) := by decide +kernel
theorem dX13_near_125 : decode cX13_near 125 = .ok (.putfield 457, 3) := by decide +kernel
theorem dX13_near_128 : decode cX13_near 128 = .ok (.iload 4, 2) := by decide +kernel
theorem dX13_near_130 : decode cX13_near 130 = .ok (.ifCond .ge 7, 3) := by decide +kernel
theorem dX13_near_133 : decode cX13_near 133 = .ok (.iconst 0, 1) := by decide +kernel
