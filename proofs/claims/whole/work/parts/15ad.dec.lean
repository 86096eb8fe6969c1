theorem dX9_readNumber_36 : decode cX9_readNumber 36 = .ok (.iload_n 2, 1) := by decide +kernel
theorem dX9_readNumber_37 : decode cX9_readNumber 37 = .ok (.bipush 102, 2) := by decide +kernel
theorem dX9_readNumber_39 : decode cX9_readNumber 39 = .ok (.if_icmp .eq 9, 3) := by decide +kernel
theorem dX9_readNumber_42 : decode cX9_readNumber 42 = .ok (.iload_n 2, 1) := by decide +kernel
theorem dX9_readNumber_43 : decode cX9_readNumber 43 = .ok (.bipush 98, 2) := by decide +kernel
theorem dX9_readNumber_45 : decode cX9_readNumber 45 = .ok (.if_icmp .ne 25, 3) := by decide +kernel
theorem dX9_readNumber_48 : decode cX9_readNumber 48 = .ok (.aload_n 0, 1) := by decide +kernel
theorem dX9_readNumber_49 : decode cX9_readNumber 49 = .ok (.iconst 3, 1) := by decide +kernel
theorem dX9_readNumber_50 : decode cX9_readNumber 50 = .ok (.putfield 73, 3) := by decide +kernel
theorem dX9_readNumber_53 : decode cX9_readNumber 53 = .ok (.aload_n 0, 1) := by decide +kernel
theorem dX9_readNumber_54 : decode cX9_readNumber 54 = .ok (.aload_n 0, 1) := by decide +kernel
theorem dX9_readNumber_55 : decode cX9_readNumber 55 = .ok (.getfield 9, 3) := by decide +kernel
theorem dX9_readNumber_58 : decode cX9_readNumber 58 = .ok (.aload_n 0, 1) := by decide +kernel
theorem dX9_readNumber_59 : decode cX9_readNumber 59 = .ok (.getfield 70, 3) := by decide +kernel
theorem dX9_readNumber_62 : decode cX9_readNumber 62 = .ok (.baload, 1) := by decide +kernel
theorem dX9_readNumber_63 : decode cX9_readNumber 63 = .ok (.bipush 48, 2) := by decide +kernel
theorem dX9_readNumber_65 : decode cX9_readNumber 65 = .ok (.isub, 1) := by decide +kernel
theorem dX9_readNumber_66 : decode cX9_readNumber 66 = .ok (.putfield 93, 3) := by decide +kernel
theorem dX9_readNumber_69 : decode cX9_readNumber 69 = .ok (.return_, 1) := by decide +kernel
theorem dX9_readNumber_70 : decode cX9_readNumber 70 = .ok (.iload_n 1, 1) := by decide +kernel
theorem dX9_readNumber_71 : decode cX9_readNumber 71 = .ok (.iconst 2, 1) := by decide +kernel
theorem dX9_readNumber_72 : decode cX9_readNumber 72 = .ok (.if_icmp .le 27, 3) := by decide +kernel
theorem dX9_readNumber_75 : decode cX9_readNumber 75 = .ok (.aload_n 0, 1) := by decide +kernel
theorem dX9_readNumber_76 : decode cX9_readNumber 76 = .ok (.getfield 9, 3) := by decide +kernel
theorem dX9_readNumber_79 : decode cX9_readNumber 79 = .ok (.aload_n 0, 1) := by decide +kernel
theorem dX9_readNumber_80 : decode cX9_readNumber 80 = .ok (.getfield 70, 3) := by decide +kernel
theorem dX9_readNumber_83 : decode cX9_readNumber 83 = .ok (.baload, 1) := by decide +kernel
theorem dX9_readNumber_84 : decode cX9_readNumber 84 = .ok (.bipush 48, 2) := by decide +kernel
theorem dX9_readNumber_86 : decode cX9_readNumber 86 = .ok (.if_icmp .ne 13, 3) := by decide +kernel
theorem dX9_readNumber_89 : decode cX9_readNumber 89 = .ok (.iload_n 2, 1) := by decide +kernel
theorem dX9_readNumber_90 : decode cX9_readNumber 90 = .ok (.bipush 120, 2) := by decide +kernel
theorem dX9_readNumber_92 : decode cX9_readNumber 92 = .ok (.if_icmp .ne 7, 3) := by decide +kernel
theorem dX9_readNumber_95 : decode cX9_readNumber 95 = .ok (.iconst 1, 1) := by decide +kernel
theorem dX9_readNumber_96 : decode cX9_readNumber 96 = .ok (.goto 4, 3) := by decide +kernel
theorem dX9_readNumber_99 : decode cX9_readNumber 99 = .ok (.iconst 0, 1) := by decide +kernel
theorem dX9_readNumber_100 : decode cX9_readNumber 100 = .ok (.istore_n 3, 1) := by decide +kernel
theorem dX9_readNumber_101 : decode cX9_readNumber 101 = .ok (.iload_n 1, 1) := by decide +kernel
theorem dX9_readNumber_102 : decode cX9_readNumber 102 = .ok (.iconst 2, 1) := by decide +kernel
theorem dX9_readNumber_103 : decode cX9_readNumber 103 = .ok (.if_icmp .le 27, 3) := by decide +kernel
theorem dX9_readNumber_106 : decode cX9_readNumber 106 = .ok (.aload_n 0, 1) := by decide +kernel
theorem dX9_readNumber_107 : decode cX9_readNumber 107 = .ok (.getfield 9, 3) := by decide +kernel
theorem dX9_readNumber_110 : decode cX9_readNumber 110 = .ok (.aload_n 0, 1) := by decide +kernel
theorem dX9_readNumber_111 : decode cX9_readNumber 111 = .ok (.getfield 70, 3) := by decide +kernel
theorem dX9_readNumber_114 : decode cX9_readNumber 114 = .ok (.baload, 1) := by decide +kernel
theorem dX9_readNumber_115 : decode cX9_readNumber 115 = .ok (.bipush 48, 2) := by decide +kernel
theorem dX9_readNumber_117 : decode cX9_readNumber 117 = .ok (.if_icmp .ne 13, 3) := by decide +kernel
theorem dX9_readNumber_120 : decode cX9_readNumber 120 = .ok (.iload_n 2, 1) := by decide +kernel
theorem dX9_readNumber_121 : decode cX9_readNumber 121 = .ok (.bipush 98, 2) := by decide +kernel
theorem dX9_readNumber_123 : decode cX9_readNumber 123 = .ok (.if_icmp .ne 7, 3) := by decide +kernel
theorem dX9_readNumber_126 : decode cX9_readNumber 126 = .ok (.iconst 1, 1) := by decide +kernel
theorem dX9_readNumber_127 : decode cX9_readNumber 127 = .ok (.goto 4, 3) := by decide +kernel
theorem dX9_readNumber_130 : decode cX9_readNumber 130 = .ok (.iconst 0, 1) := by decide +kernel
theorem dX9_readNumber_131 : decode cX9_readNumber 131 = .ok (.istore 4, 2) := by decide +kernel
theorem dX9_readNumber_133 : decode cX9_readNumber 133 = .ok (.iload_n 3, 1) := by decide +kernel
theorem dX9_readNumber_134 : decode cX9_readNumber 134 = .ok (.ifCond .eq 8, 3) := by decide +kernel
theorem dX9_readNumber_137 : decode cX9_readNumber 137 = .ok (.bipush 16, 2) := by decide +kernel
theorem dX9_readNumber_139 : decode cX9_readNumber 139 = .ok (.goto 14, 3) := by decide +kernel
theorem dX9_readNumber_142 : decode cX9_readNumber 142 = .ok (.iload 4, 2) := by decide +kernel
theorem dX9_readNumber_144 : decode cX9_readNumber 144 = .ok (.ifCond .eq 7, 3) := by decide +kernel
theorem dX9_readNumber_147 : decode cX9_readNumber 147 = .ok (.iconst 2, 1) := by decide +kernel
theorem dX9_readNumber_148 : decode cX9_readNumber 148 = .ok (.goto 5, 3) := by decide +kernel
theorem dX9_readNumber_151 : decode cX9_readNumber 151 = .ok (.bipush 10, 2) := by decide +kernel
theorem dX9_readNumber_153 : decode cX9_readNumber 153 = .ok (.istore 5, 2) := by decide +kernel
theorem dX9_readNumber_155 : decode cX9_readNumber 155 = .ok (.lconst 0, 1) := by decide +kernel
theorem dX9_readNumber_156 : decode cX9_readNumber 156 = .ok (.lstore 6, 2) := by decide +kernel
theorem dX9_readNumber_158 : decode cX9_readNumber 158 = .ok (.aload_n 0, 1) := by decide +kernel
theorem dX9_readNumber_159 : decode cX9_readNumber 159 = .ok (.iconst 2, 1) := by decide +kernel
theorem dX9_readNumber_160 : decode cX9_readNumber 160 = .ok (.putfield 73, 3) := by decide +kernel
theorem dX9_readNumber_163 : decode cX9_readNumber 163 = .ok (.iload_n 3, 1) := by decide +kernel
theorem dX9_readNumber_164 : decode cX9_readNumber 164 = .ok (.ifCond .ne 8, 3) := by decide +kernel
theorem dX9_readNumber_167 : decode cX9_readNumber 167 = .ok (.iload 4, 2) := by decide +kernel
theorem dX9_readNumber_169 : decode cX9_readNumber 169 = .ok (.ifCond .eq 12, 3) := by decide +kernel
theorem dX9_readNumber_172 : decode cX9_readNumber 172 = .ok (.aload_n 0, 1) := by decide +kernel
theorem dX9_readNumber_173 : decode cX9_readNumber 173 = .ok (.getfield 70, 3) := by decide +kernel
theorem dX9_readNumber_176 : decode cX9_readNumber 176 = .ok (.iconst 2, 1) := by decide +kernel
theorem dX9_readNumber_177 : decode cX9_readNumber 177 = .ok (.iadd, 1) := by decide +kernel
theorem dX9_readNumber_178 : decode cX9_readNumber 178 = .ok (.goto 7, 3) := by decide +kernel
theorem dX9_readNumber_181 : decode cX9_readNumber 181 = .ok (.aload_n 0, 1) := by decide +kernel
theorem dX9_readNumber_182 : decode cX9_readNumber 182 = .ok (.getfield 70, 3) := by decide +kernel
theorem dX9_readNumber_185 : decode cX9_readNumber 185 = .ok (.istore 8, 2) := by decide +kernel
theorem dX9_readNumber_187 : decode cX9_readNumber 187 = .ok (.iload 8, 2) := by decide +kernel
theorem dX9_readNumber_189 : decode cX9_readNumber 189 = .ok (.aload_n 0, 1) := by decide +kernel
theorem dX9_readNumber_190 : decode cX9_readNumber 190 = .ok (.getfield 55, 3) := by decide +kernel
theorem dX9_readNumber_193 : decode cX9_readNumber 193 = .ok (.if_icmp .ge 108, 3) := by decide +kernel
theorem dX9_readNumber_196 : decode cX9_readNumber 196 = .ok (.aload_n 0, 1) := by decide +kernel
theorem dX9_readNumber_197 : decode cX9_readNumber 197 = .ok (.getfield 9, 3) := by decide +kernel
theorem dX9_readNumber_200 : decode cX9_readNumber 200 = .ok (.iload 8, 2) := by decide +kernel
theorem dX9_readNumber_202 : decode cX9_readNumber 202 = .ok (.baload, 1) := by decide +kernel
theorem dX9_readNumber_203 : decode cX9_readNumber 203 = .ok (.istore 9, 2) := by decide +kernel
theorem dX9_readNumber_205 : decode cX9_readNumber 205 = .ok (.iload 9, 2) := by decide +kernel
theorem dX9_readNumber_207 : decode cX9_readNumber 207 = .ok (.bipush 48, 2) := by decide +kernel
theorem dX9_readNumber_209 : decode cX9_readNumber 209 = .ok (.isub, 1) := by decide +kernel
theorem dX9_readNumber_210 : decode cX9_readNumber 210 = .ok (.istore 10, 2) := by decide +kernel
theorem dX9_readNumber_212 : decode cX9_readNumber 212 = .ok (.iload 9, 2) := by decide +kernel
theorem dX9_readNumber_214 : decode cX9_readNumber 214 = .ok (.bipush 57, 2) := by decide +kernel
theorem dX9_readNumber_216 : decode cX9_readNumber 216 = .ok (.if_icmp .le 39, 3) := by decide +kernel
theorem dX9_readNumber_219 : decode cX9_readNumber 219 = .ok (.iload 9, 2) := by decide +kernel
theorem dX9_readNumber_221 : decode cX9_readNumber 221 = .ok (.bipush 32, 2) := by decide +kernel
theorem dX9_readNumber_223 : decode cX9_readNumber 223 = .ok (.ior, 1) := by decide +kernel
theorem dX9_readNumber_224 : decode cX9_readNumber 224 = .ok (.istore 11, 2) := by decide +kernel
theorem dX9_readNumber_226 : decode cX9_readNumber 226 = .ok (.iload 11, 2) := by decide +kernel
theorem dX9_readNumber_228 : decode cX9_readNumber 228 = .ok (.bipush 97, 2) := by decide +kernel
theorem dX9_readNumber_230 : decode cX9_readNumber 230 = .ok (.if_icmp .lt 21, 3) := by decide +kernel
theorem dX9_readNumber_233 : decode cX9_readNumber 233 = .ok (.iload 11, 2) := by decide +kernel
theorem dX9_readNumber_235 : decode cX9_readNumber 235 = .ok (.bipush 102, 2) := by decide +kernel
theorem dX9_readNumber_237 : decode cX9_readNumber 237 = .ok (.if_icmp .gt 14, 3) := by decide +kernel
theorem dX9_readNumber_240 : decode cX9_readNumber 240 = .ok (.iload 11, 2) := by decide +kernel
theorem dX9_readNumber_242 : decode cX9_readNumber 242 = .ok (.bipush 97, 2) := by decide +kernel
theorem dX9_readNumber_244 : decode cX9_readNumber 244 = .ok (.isub, 1) := by decide +kernel
theorem dX9_readNumber_245 : decode cX9_readNumber 245 = .ok (.bipush 10, 2) := by decide +kernel
theorem dX9_readNumber_247 : decode cX9_readNumber 247 = .ok (.iadd, 1) := by decide +kernel
theorem dX9_readNumber_248 : decode cX9_readNumber 248 = .ok (.goto 5, 3) := by decide +kernel
theorem dX9_readNumber_251 : decode cX9_readNumber 251 = .ok (.iload 5, 2) := by decide +kernel
theorem dX9_readNumber_253 : decode cX9_readNumber 253 = .ok (.istore 10, 2) := by decide +kernel
theorem dX9_readNumber_255 : decode cX9_readNumber 255 = .ok (.lload 6, 2) := by decide +kernel
theorem dX9_readNumber_257 : decode cX9_readNumber 257 = .ok (.iload 5, 2) := by decide +kernel
theorem dX9_readNumber_259 : decode cX9_readNumber 259 = .ok (.i2l, 1) := by decide +kernel
theorem dX9_readNumber_260 : decode cX9_readNumber 260 = .ok (.lmul, 1) := by decide +kernel
theorem dX9_readNumber_261 : decode cX9_readNumber 261 = .ok (.iload 10, 2) := by decide +kernel
theorem dX9_readNumber_263 : decode cX9_readNumber 263 = .ok (.i2l, 1) := by decide +kernel
theorem dX9_readNumber_264 : decode cX9_readNumber 264 = .ok (.ladd, 1) := by decide +kernel
theorem dX9_readNumber_265 : decode cX9_readNumber 265 = .ok (.lstore 6, 2) := by decide +kernel
theorem dX9_readNumber_267 : decode cX9_readNumber 267 = .ok (.iload 10, 2) := by decide +kernel
theorem dX9_readNumber_269 : decode cX9_readNumber 269 = .ok (.ifCond .lt 19, 3) := by decide +kernel
theorem dX9_readNumber_272 : decode cX9_readNumber 272 = .ok (.iload 10, 2) := by decide +kernel
theorem dX9_readNumber_274 : decode cX9_readNumber 274 = .ok (.iload 5, 2) := by decide +kernel
theorem dX9_readNumber_276 : decode cX9_readNumber 276 = .ok (.if_icmp .ge 12, 3) := by decide +kernel
theorem dX9_readNumber_279 : decode cX9_readNumber 279 = .ok (.lload 6, 2) := by decide +kernel
theorem dX9_readNumber_281 : decode cX9_readNumber 281 = .ok (.ldc2_w 96, 3) := by decide +kernel
theorem dX9_readNumber_284 : decode cX9_readNumber 284 = .ok (.lcmp, 1) := by decide +kernel
theorem dX9_readNumber_285 : decode cX9_readNumber 285 = .ok (.ifCond .le 10, 3) := by decide +kernel
theorem dX9_readNumber_288 : decode cX9_readNumber 288 = .ok (.aload_n 0, 1) := by decide +kernel
theorem dX9_readNumber_289 : decode cX9_readNumber 289 = .ok (.bipush 6, 2) := by decide +kernel
theorem dX9_readNumber_291 : decode cX9_readNumber 291 = .ok (.putfield 73, 3) := by decide +kernel
theorem dX9_readNumber_294 : decode cX9_readNumber 294 = .ok (.return_, 1) := by decide +kernel
theorem dX9_readNumber_295 : decode cX9_readNumber 295 = .ok (.iinc 8 1, 3) := by decide +kernel
theorem dX9_readNumber_298 : decode cX9_readNumber 298 = .ok (.goto (-111), 3) := by decide +kernel
theorem dX9_readNumber_301 : decode cX9_readNumber 301 = .ok (.aload_n 0, 1) := by decide +kernel
theorem dX9_readNumber_302 : decode cX9_readNumber 302 = .ok (.lload 6, 2) := by decide +kernel
theorem dX9_readNumber_304 : decode cX9_readNumber 304 = .ok (.l2i, 1) := by decide +kernel
theorem dX9_readNumber_305 : decode cX9_readNumber 305 = .ok (.putfield 93, 3) := by decide +kernel
theorem dX9_readNumber_308 : decode cX9_readNumber 308 = .ok (.return_, 1) := by decide +kernel
theorem dX9_character_0 : decode cX9_character 0 = .ok (.iload_n 1, 1) := by decide +kernel
theorem dX9_character_1 : decode cX9_character 1 = .ok (.ifCond .lt 11, 3) := by decide +kernel
theorem dX9_character_4 : decode cX9_character 4 = .ok (.iload_n 1, 1) := by decide +kernel
theorem dX9_character_5 : decode cX9_character 5 = .ok (.aload_n 0, 1) := by decide +kernel
theorem dX9_character_6 : decode cX9_character 6 = .ok (.getfield 64, 3) := by decide +kernel
theorem dX9_character_9 : decode cX9_character 9 = .ok (.if_icmp .lt 5, 3) := by decide +kernel
theorem dX9_character_12 : decode cX9_character 12 = .ok (.iconst (-1), 1) := by decide +kernel
theorem dX9_character_13 : decode cX9_character 13 = .ok (.ireturn, 1) := by decide +kernel
theorem dX9_character_14 : decode cX9_character 14 = .ok (.aload_n 0, 1) := by decide +kernel
theorem dX9_character_15 : decode cX9_character 15 = .ok (.getfield 9, 3) := by decide +kernel
theorem dX9_character_18 : decode cX9_character 18 = .ok (.iload_n 1, 1) := by decide +kernel
theorem dX9_character_19 : decode cX9_character 19 = .ok (.baload, 1) := by decide +kernel
theorem dX9_character_20 : decode cX9_character 20 = .ok (.istore_n 3, 1) := by decide +kernel
theorem dX9_character_21 : decode cX9_character 21 = .ok (.iload_n 3, 1) := by decide +kernel
theorem dX9_character_22 : decode cX9_character 22 = .ok (.bipush 92, 2) := by decide +kernel
theorem dX9_character_24 : decode cX9_character 24 = .ok (.if_icmp .eq 14, 3) := by decide +kernel
theorem dX9_character_27 : decode cX9_character 27 = .ok (.iload_n 3, 1) := by decide +kernel
theorem dX9_character_28 : decode cX9_character 28 = .ok (.iload_n 2, 1) := by decide +kernel
theorem dX9_character_29 : decode cX9_character 29 = .ok (.if_icmp .ne 7, 3) := by decide +kernel
theorem dX9_character_32 : decode cX9_character 32 = .ok (.iconst (-1), 1) := by decide +kernel
theorem dX9_character_33 : decode cX9_character 33 = .ok (.goto 4, 3) := by decide +kernel
theorem dX9_character_36 : decode cX9_character 36 = .ok (.iload_n 3, 1) := by decide +kernel
theorem dX9_character_37 : decode cX9_character 37 = .ok (.ireturn, 1) := by decide +kernel
theorem dX9_character_38 : decode cX9_character 38 = .ok (.iload_n 1, 1) := by decide +kernel
theorem dX9_character_39 : decode cX9_character 39 = .ok (.iconst 1, 1) := by decide +kernel
theorem dX9_character_40 : decode cX9_character 40 = .ok (.iadd, 1) := by decide +kernel
theorem dX9_character_41 : decode cX9_character 41 = .ok (.aload_n 0, 1) := by decide +kernel
theorem dX9_character_42 : decode cX9_character 42 = .ok (.getfield 64, 3) := by decide +kernel
theorem dX9_character_45 : decode cX9_character 45 = .ok (.if_icmp .ge 14, 3) := by decide +kernel
theorem dX9_character_48 : decode cX9_character 48 = .ok (.aload_n 0, 1) := by decide +kernel
theorem dX9_character_49 : decode cX9_character 49 = .ok (.getfield 9, 3) := by decide +kernel
theorem dX9_character_52 : decode cX9_character 52 = .ok (.iload_n 1, 1) := by decide +kernel
theorem dX9_character_53 : decode cX9_character 53 = .ok (.iconst 1, 1) := by decide +kernel
theorem dX9_character_54 : decode cX9_character 54 = .ok (.iadd, 1) := by decide +kernel
theorem dX9_character_55 : decode cX9_character 55 = .ok (.baload, 1) := by decide +kernel
theorem dX9_character_56 : decode cX9_character 56 = .ok (.goto 4, 3) := by decide +kernel
theorem dX9_character_59 : decode cX9_character 59 = .ok (.iconst 0, 1) := by decide +kernel
theorem dX9_character_60 : decode cX9_character 60 = .ok (.istore 4, 2) := by decide +kernel
theorem dX9_character_62 : decode cX9_character 62 = .ok (.iload 4, 2) := by decide +kernel
theorem dX9_character_64 : decode cX9_character 64 = .ok (.lookupswitch 71 #[(34, 68), (39, 68), (48, 66), (92, 68), (110, 60), (116, 63)], 60) := by decide +kernel
theorem dX9_character_124 : decode cX9_character 124 = .ok (.bipush 10, 2) := by decide +kernel
theorem dX9_character_126 : decode cX9_character 126 = .ok (.ireturn, 1) := by decide +kernel
theorem dX9_character_127 : decode cX9_character 127 = .ok (.bipush 9, 2) := by decide +kernel
theorem dX9_character_129 : decode cX9_character 129 = .ok (.ireturn, 1) := by decide +kernel
theorem dX9_character_130 : decode cX9_character 130 = .ok (.iconst 0, 1) := by decide +kernel
theorem dX9_character_131 : decode cX9_character 131 = .ok (.ireturn, 1) := by decide +kernel
theorem dX9_character_132 : decode cX9_character 132 = .ok (.iload 4, 2) := by decide +kernel
theorem dX9_character_134 : decode cX9_character 134 = .ok (.ireturn, 1) := by decide +kernel
theorem dX9_character_135 : decode cX9_character 135 = .ok (.iconst (-1), 1) := by decide +kernel
theorem dX9_character_136 : decode cX9_character 136 = .ok (.ireturn, 1) := by decide +kernel
theorem dX9_width_0 : decode cX9_width 0 = .ok (.iload_n 1, 1) := by decide +kernel
theorem dX9_width_1 : decode cX9_width 1 = .ok (.ifCond .lt 26, 3) := by decide +kernel
theorem dX9_width_4 : decode cX9_width 4 = .ok (.iload_n 1, 1) := by decide +kernel
theorem dX9_width_5 : decode cX9_width 5 = .ok (.aload_n 0, 1) := by decide +kernel
theorem dX9_width_6 : decode cX9_width 6 = .ok (.getfield 64, 3) := by decide +kernel
theorem dX9_width_9 : decode cX9_width 9 = .ok (.if_icmp .ge 18, 3) := by decide +kernel
theorem dX9_width_12 : decode cX9_width 12 = .ok (.aload_n 0, 1) := by decide +kernel
theorem dX9_width_13 : decode cX9_width 13 = .ok (.getfield 9, 3) := by decide +kernel
theorem dX9_width_16 : decode cX9_width 16 = .ok (.iload_n 1, 1) := by decide +kernel
theorem dX9_width_17 : decode cX9_width 17 = .ok (.baload, 1) := by decide +kernel
theorem dX9_width_18 : decode cX9_width 18 = .ok (.bipush 92, 2) := by decide +kernel
theorem dX9_width_20 : decode cX9_width 20 = .ok (.if_icmp .ne 7, 3) := by decide +kernel
theorem dX9_width_23 : decode cX9_width 23 = .ok (.iconst 2, 1) := by decide +kernel
theorem dX9_width_24 : decode cX9_width 24 = .ok (.goto 4, 3) := by decide +kernel
theorem dX9_width_27 : decode cX9_width 27 = .ok (.iconst 1, 1) := by decide +kernel
theorem dX9_width_28 : decode cX9_width 28 = .ok (.ireturn, 1) := by decide +kernel
theorem dX9_readCharacter_0 : decode cX9_readCharacter 0 = .ok (.aload_n 0, 1) := by decide +kernel
theorem dX9_readCharacter_1 : decode cX9_readCharacter 1 = .ok (.aload_n 0, 1) := by decide +kernel
theorem dX9_readCharacter_2 : decode cX9_readCharacter 2 = .ok (.getfield 70, 3) := by decide +kernel
theorem dX9_readCharacter_5 : decode cX9_readCharacter 5 = .ok (.iconst 1, 1) := by decide +kernel
theorem dX9_readCharacter_6 : decode cX9_readCharacter 6 = .ok (.iadd, 1) := by decide +kernel
theorem dX9_readCharacter_7 : decode cX9_readCharacter 7 = .ok (.bipush 39, 2) := by decide +kernel
theorem dX9_readCharacter_9 : decode cX9_readCharacter 9 = .ok (.invokevirtual 98, 3) := by decide +kernel
theorem dX9_readCharacter_12 : decode cX9_readCharacter 12 = .ok (.istore_n 1, 1) := by decide +kernel
theorem dX9_readCharacter_13 : decode cX9_readCharacter 13 = .ok (.aload_n 0, 1) := by decide +kernel
theorem dX9_readCharacter_14 : decode cX9_readCharacter 14 = .ok (.getfield 70, 3) := by decide +kernel
theorem dX9_readCharacter_17 : decode cX9_readCharacter 17 = .ok (.iconst 1, 1) := by decide +kernel
theorem dX9_readCharacter_18 : decode cX9_readCharacter 18 = .ok (.iadd, 1) := by decide +kernel
theorem dX9_readCharacter_19 : decode cX9_readCharacter 19 = .ok (.aload_n 0, 1) := by decide +kernel
theorem dX9_readCharacter_20 : decode cX9_readCharacter 20 = .ok (.aload_n 0, 1) := by decide +kernel
theorem dX9_readCharacter_21 : decode cX9_readCharacter 21 = .ok (.getfield 70, 3) := by decide +kernel
theorem dX9_readCharacter_24 : decode cX9_readCharacter 24 = .ok (.iconst 1, 1) := by decide +kernel
theorem dX9_readCharacter_25 : decode cX9_readCharacter 25 = .ok (.iadd, 1) := by decide +kernel
theorem dX9_readCharacter_26 : decode cX9_readCharacter 26 = .ok (.invokevirtual 101, 3) := by decide +kernel
theorem dX9_readCharacter_29 : decode cX9_readCharacter 29 = .ok (.iadd, 1) := by decide +kernel
theorem dX9_readCharacter_30 : decode cX9_readCharacter 30 = .ok (.istore_n 2, 1) := by decide +kernel
theorem dX9_readCharacter_31 : decode cX9_readCharacter 31 = .ok (.iload_n 2, 1) := by decide +kernel
theorem dX9_readCharacter_32 : decode cX9_readCharacter 32 = .ok (.aload_n 0, 1) := by decide +kernel
theorem dX9_readCharacter_33 : decode cX9_readCharacter 33 = .ok (.getfield 64, 3) := by decide +kernel
theorem dX9_readCharacter_36 : decode cX9_readCharacter 36 = .ok (.if_icmp .ge 18, 3) := by decide +kernel
theorem dX9_readCharacter_39 : decode cX9_readCharacter 39 = .ok (.aload_n 0, 1) := by decide +kernel
theorem dX9_readCharacter_40 : decode cX9_readCharacter 40 = .ok (.getfield 9, 3) := by decide +kernel
theorem dX9_readCharacter_43 : decode cX9_readCharacter 43 = .ok (.iload_n 2, 1) := by decide +kernel
theorem dX9_readCharacter_44 : decode cX9_readCharacter 44 = .ok (.baload, 1) := by decide +kernel
theorem dX9_readCharacter_45 : decode cX9_readCharacter 45 = .ok (.bipush 39, 2) := by decide +kernel
theorem dX9_readCharacter_47 : decode cX9_readCharacter 47 = .ok (.if_icmp .ne 7, 3) := by decide +kernel
theorem dX9_readCharacter_50 : decode cX9_readCharacter 50 = .ok (.iconst 1, 1) := by decide +kernel
theorem dX9_readCharacter_51 : decode cX9_readCharacter 51 = .ok (.goto 4, 3) := by decide +kernel
theorem dX9_readCharacter_54 : decode cX9_readCharacter 54 = .ok (.iconst 0, 1) := by decide +kernel
theorem dX9_readCharacter_55 : decode cX9_readCharacter 55 = .ok (.istore_n 3, 1) := by decide +kernel
theorem dX9_readCharacter_56 : decode cX9_readCharacter 56 = .ok (.iload_n 2, 1) := by decide +kernel
theorem dX9_readCharacter_57 : decode cX9_readCharacter 57 = .ok (.iconst 1, 1) := by decide +kernel
theorem dX9_readCharacter_58 : decode cX9_readCharacter 58 = .ok (.iadd, 1) := by decide +kernel
theorem dX9_readCharacter_59 : decode cX9_readCharacter 59 = .ok (.aload_n 0, 1) := by decide +kernel
theorem dX9_readCharacter_60 : decode cX9_readCharacter 60 = .ok (.getfield 64, 3) := by decide +kernel
theorem dX9_readCharacter_63 : decode cX9_readCharacter 63 = .ok (.if_icmp .ge 17, 3) := by decide +kernel
theorem dX9_readCharacter_66 : decode cX9_readCharacter 66 = .ok (.aload_n 0, 1) := by decide +kernel
theorem dX9_readCharacter_67 : decode cX9_readCharacter 67 = .ok (.getfield 9, 3) := by decide +kernel
theorem dX9_readCharacter_70 : decode cX9_readCharacter 70 = .ok (.iload_n 2, 1) := by decide +kernel
theorem dX9_readCharacter_71 : decode cX9_readCharacter 71 = .ok (.iconst 1, 1) := by decide +kernel
theorem dX9_readCharacter_72 : decode cX9_readCharacter 72 = .ok (.iadd, 1) := by decide +kernel
theorem dX9_readCharacter_73 : decode cX9_readCharacter 73 = .ok (.baload, 1) := by decide +kernel
theorem dX9_readCharacter_74 : decode cX9_readCharacter 74 = .ok (.invokestatic 76, 3) := by decide +kernel
theorem dX9_readCharacter_77 : decode cX9_readCharacter 77 = .ok (.ifCond .ne 7, 3) := by decide +kernel
theorem dX9_readCharacter_80 : decode cX9_readCharacter 80 = .ok (.iconst 1, 1) := by decide +kernel
theorem dX9_readCharacter_81 : decode cX9_readCharacter 81 = .ok (.goto 4, 3) := by decide +kernel
theorem dX9_readCharacter_84 : decode cX9_readCharacter 84 = .ok (.iconst 0, 1) := by decide +kernel
theorem dX9_readCharacter_85 : decode cX9_readCharacter 85 = .ok (.istore 4, 2) := by decide +kernel
theorem dX9_readCharacter_87 : decode cX9_readCharacter 87 = .ok (.aload_n 0, 1) := by decide +kernel
theorem dX9_readCharacter_88 : decode cX9_readCharacter 88 = .ok (.iload_n 1, 1) := by decide +kernel
theorem dX9_readCharacter_89 : decode cX9_readCharacter 89 = .ok (.ifCond .lt 16, 3) := by decide +kernel
theorem dX9_readCharacter_92 : decode cX9_readCharacter 92 = .ok (.iload_n 3, 1) := by decide +kernel
theorem dX9_readCharacter_93 : decode cX9_readCharacter 93 = .ok (.ifCond .eq 12, 3) := by decide +kernel
theorem dX9_readCharacter_96 : decode cX9_readCharacter 96 = .ok (.iload 4, 2) := by decide +kernel
theorem dX9_readCharacter_98 : decode cX9_readCharacter 98 = .ok (.ifCond .eq 7, 3) := by decide +kernel
theorem dX9_readCharacter_101 : decode cX9_readCharacter 101 = .ok (.iconst 2, 1) := by decide +kernel
theorem dX9_readCharacter_102 : decode cX9_readCharacter 102 = .ok (.goto 5, 3) := by decide +kernel
theorem dX9_readCharacter_105 : decode cX9_readCharacter 105 = .ok (.bipush 6, 2) := by decide +kernel
theorem dX9_readCharacter_107 : decode cX9_readCharacter 107 = .ok (.putfield 73, 3) := by decide +kernel
theorem dX9_readCharacter_110 : decode cX9_readCharacter 110 = .ok (.aload_n 0, 1) := by decide +kernel
theorem dX9_readCharacter_111 : decode cX9_readCharacter 111 = .ok (.iload_n 1, 1) := by decide +kernel
theorem dX9_readCharacter_112 : decode cX9_readCharacter 112 = .ok (.putfield 93, 3) := by decide +kernel
theorem dX9_readCharacter_115 : decode cX9_readCharacter 115 = .ok (.aload_n 0, 1) := by decide +kernel
theorem dX9_readCharacter_116 : decode cX9_readCharacter 116 = .ok (.iload_n 2, 1) := by decide +kernel
theorem dX9_readCharacter_117 : decode cX9_readCharacter 117 = .ok (.iconst 1, 1) := by decide +kernel
theorem dX9_readCharacter_118 : decode cX9_readCharacter 118 = .ok (.iadd, 1) := by decide +kernel
theorem dX9_readCharacter_119 : decode cX9_readCharacter 119 = .ok (.aload_n 0, 1) := by decide +kernel
theorem dX9_readCharacter_120 : decode cX9_readCharacter 120 = .ok (.getfield 64, 3) := by decide +kernel
theorem dX9_readCharacter_123 : decode cX9_readCharacter 123 = .ok (.invokestatic 58, 3) := by decide +kernel
theorem dX9_readCharacter_126 : decode cX9_readCharacter 126 = .ok (.putfield 55, 3) := by decide +kernel
theorem dX9_readCharacter_129 : decode cX9_readCharacter 129 = .ok (.return_, 1) := by decide +kernel
theorem dX9_readText_0 : decode cX9_readText 0 = .ok (.aload_n 0, 1) := by decide +kernel
theorem dX9_readText_1 : decode cX9_readText 1 = .ok (.getfield 70, 3) := by decide +kernel
theorem dX9_readText_4 : decode cX9_readText 4 = .ok (.iconst 1, 1) := by decide +kernel
theorem dX9_readText_5 : decode cX9_readText 5 = .ok (.iadd, 1) := by decide +kernel
theorem dX9_readText_6 : decode cX9_readText 6 = .ok (.istore_n 1, 1) := by decide +kernel
theorem dX9_readText_7 : decode cX9_readText 7 = .ok (.iload_n 1, 1) := by decide +kernel
theorem dX9_readText_8 : decode cX9_readText 8 = .ok (.aload_n 0, 1) := by decide +kernel
theorem dX9_readText_9 : decode cX9_readText 9 = .ok (.getfield 64, 3) := by decide +kernel
theorem dX9_readText_12 : decode cX9_readText 12 = .ok (.if_icmp .ge 24, 3) := by decide +kernel
theorem dX9_readText_15 : decode cX9_readText 15 = .ok (.aload_n 0, 1) := by decide +kernel
theorem dX9_readText_16 : decode cX9_readText 16 = .ok (.iload_n 1, 1) := by decide +kernel
theorem dX9_readText_17 : decode cX9_readText 17 = .ok (.bipush 34, 2) := by decide +kernel
theorem dX9_readText_19 : decode cX9_readText 19 = .ok (.invokevirtual 98, 3) := by decide +kernel
theorem dX9_readText_22 : decode cX9_readText 22 = .ok (.ifCond .lt 14, 3) := by decide +kernel
theorem dX9_readText_25 : decode cX9_readText 25 = .ok (.iload_n 1, 1) := by decide +kernel
theorem dX9_readText_26 : decode cX9_readText 26 = .ok (.aload_n 0, 1) := by decide +kernel
theorem dX9_readText_27 : decode cX9_readText 27 = .ok (.iload_n 1, 1) := by decide +kernel
theorem dX9_readText_28 : decode cX9_readText 28 = .ok (.invokevirtual 101, 3) := by decide +kernel
theorem dX9_readText_31 : decode cX9_readText 31 = .ok (.iadd, 1) := by decide +kernel
theorem dX9_readText_32 : decode cX9_readText 32 = .ok (.istore_n 1, 1) := by decide +kernel
theorem dX9_readText_33 : decode cX9_readText 33 = .ok (.goto (-26), 3) := by decide +kernel
theorem dX9_readText_36 : decode cX9_readText 36 = .ok (.aload_n 0, 1) := by decide +kernel
theorem dX9_readText_37 : decode cX9_readText 37 = .ok (.iload_n 1, 1) := by decide +kernel
theorem dX9_readText_38 : decode cX9_readText 38 = .ok (.aload_n 0, 1) := by decide +kernel
theorem dX9_readText_39 : decode cX9_readText 39 = .ok (.getfield 64, 3) := by decide +kernel
theorem dX9_readText_42 : decode cX9_readText 42 = .ok (.if_icmp .ge 18, 3) := by decide +kernel
theorem dX9_readText_45 : decode cX9_readText 45 = .ok (.aload_n 0, 1) := by decide +kernel
theorem dX9_readText_46 : decode cX9_readText 46 = .ok (.getfield 9, 3) := by decide +kernel
theorem dX9_readText_49 : decode cX9_readText 49 = .ok (.iload_n 1, 1) := by decide +kernel
theorem dX9_readText_50 : decode cX9_readText 50 = .ok (.baload, 1) := by decide +kernel
theorem dX9_readText_51 : decode cX9_readText 51 = .ok (.bipush 34, 2) := by decide +kernel
theorem dX9_readText_53 : decode cX9_readText 53 = .ok (.if_icmp .ne 7, 3) := by decide +kernel
theorem dX9_readText_56 : decode cX9_readText 56 = .ok (.iconst 4, 1) := by decide +kernel
theorem dX9_readText_57 : decode cX9_readText 57 = .ok (.goto 5, 3) := by decide +kernel
theorem dX9_readText_60 : decode cX9_readText 60 = .ok (.bipush 6, 2) := by decide +kernel
theorem dX9_readText_62 : decode cX9_readText 62 = .ok (.putfield 73, 3) := by decide +kernel
theorem dX9_readText_65 : decode cX9_readText 65 = .ok (.aload_n 0, 1) := by decide +kernel
theorem dX9_readText_66 : decode cX9_readText 66 = .ok (.iload_n 1, 1) := by decide +kernel
theorem dX9_readText_67 : decode cX9_readText 67 = .ok (.iconst 1, 1) := by decide +kernel
theorem dX9_readText_68 : decode cX9_readText 68 = .ok (.iadd, 1) := by decide +kernel
theorem dX9_readText_69 : decode cX9_readText 69 = .ok (.aload_n 0, 1) := by decide +kernel
theorem dX9_readText_70 : decode cX9_readText 70 = .ok (.getfield 64, 3) := by decide +kernel
theorem dX9_readText_73 : decode cX9_readText 73 = .ok (.invokestatic 58, 3) := by decide +kernel
theorem dX9_readText_76 : decode cX9_readText 76 = .ok (.putfield 55, 3) := by decide +kernel
theorem dX9_readText_79 : decode cX9_readText 79 = .ok (.return_, 1) := by decide +kernel
theorem dX9_readSign_0 : decode cX9_readSign 0 = .ok (.aload_n 0, 1) := by decide +kernel
theorem dX9_readSign_1 : decode cX9_readSign 1 = .ok (.iconst 5, 1) := by decide +kernel
theorem dX9_readSign_2 : decode cX9_readSign 2 = .ok (.putfield 73, 3) := by decide +kernel
theorem dX9_readSign_5 : decode cX9_readSign 5 = .ok (.aload_n 0, 1) := by decide +kernel
theorem dX9_readSign_6 : decode cX9_readSign 6 = .ok (.iload_n 1, 1) := by decide +kernel
theorem dX9_readSign_7 : decode cX9_readSign 7 = .ok (.putfield 93, 3) := by decide +kernel
theorem dX9_readSign_10 : decode cX9_readSign 10 = .ok (.aload_n 0, 1) := by decide +kernel
theorem dX9_readSign_11 : decode cX9_readSign 11 = .ok (.dup, 1) := by decide +kernel
theorem dX9_readSign_12 : decode cX9_readSign 12 = .ok (.getfield 55, 3) := by decide +kernel
theorem dX9_readSign_15 : decode cX9_readSign 15 = .ok (.iconst 1, 1) := by decide +kernel
theorem dX9_readSign_16 : decode cX9_readSign 16 = .ok (.iadd, 1) := by decide +kernel
theorem dX9_readSign_17 : decode cX9_readSign 17 = .ok (.putfield 55, 3) := by decide +kernel
theorem dX9_readSign_20 : decode cX9_readSign 20 = .ok (.iload_n 1, 1) := by decide +kernel
theorem dX9_readSign_21 : decode cX9_readSign 21 = .ok (.bipush 60, 2) := by decide +kernel
theorem dX9_readSign_23 : decode cX9_readSign 23 = .ok (.if_icmp .eq 9, 3) := by decide +kernel
theorem dX9_readSign_26 : decode cX9_readSign 26 = .ok (.iload_n 1, 1) := by decide +kernel
theorem dX9_readSign_27 : decode cX9_readSign 27 = .ok (.bipush 62, 2) := by decide +kernel
theorem dX9_readSign_29 : decode cX9_readSign 29 = .ok (.if_icmp .ne 76, 3) := by decide +kernel
theorem dX9_readSign_32 : decode cX9_readSign 32 = .ok (.aload_n 0, 1) := by decide +kernel
theorem dX9_readSign_33 : decode cX9_readSign 33 = .ok (.aload_n 0, 1) := by decide +kernel
theorem dX9_readSign_34 : decode cX9_readSign 34 = .ok (.getfield 55, 3) := by decide +kernel
theorem dX9_readSign_37 : decode cX9_readSign 37 = .ok (.aload_n 0, 1) := by decide +kernel
theorem dX9_readSign_38 : decode cX9_readSign 38 = .ok (.getfield 64, 3) := by decide +kernel
theorem dX9_readSign_41 : decode cX9_readSign 41 = .ok (.if_icmp .ge 20, 3) := by decide +kernel
theorem dX9_readSign_44 : decode cX9_readSign 44 = .ok (.aload_n 0, 1) := by decide +kernel
theorem dX9_readSign_45 : decode cX9_readSign 45 = .ok (.getfield 9, 3) := by decide +kernel
theorem dX9_readSign_48 : decode cX9_readSign 48 = .ok (.aload_n 0, 1) := by decide +kernel
theorem dX9_readSign_49 : decode cX9_readSign 49 = .ok (.getfield 55, 3) := by decide +kernel
theorem dX9_readSign_52 : decode cX9_readSign 52 = .ok (.baload, 1) := by decide +kernel
theorem dX9_readSign_53 : decode cX9_readSign 53 = .ok (.iload_n 1, 1) := by decide +kernel
theorem dX9_readSign_54 : decode cX9_readSign 54 = .ok (.if_icmp .ne 7, 3) := by decide +kernel
theorem dX9_readSign_57 : decode cX9_readSign 57 = .ok (.iconst 5, 1) := by decide +kernel
theorem dX9_readSign_58 : decode cX9_readSign 58 = .ok (.goto 5, 3) := by decide +kernel
theorem dX9_readSign_61 : decode cX9_readSign 61 = .ok (.bipush 6, 2) := by decide +kernel
theorem dX9_readSign_63 : decode cX9_readSign 63 = .ok (.putfield 73, 3) := by decide +kernel
theorem dX9_readSign_66 : decode cX9_readSign 66 = .ok (.aload_n 0, 1) := by decide +kernel
theorem dX9_readSign_67 : decode cX9_readSign 67 = .ok (.iload_n 1, 1) := by decide +kernel
theorem dX9_readSign_68 : decode cX9_readSign 68 = .ok (.bipush 60, 2) := by decide +kernel
theorem dX9_readSign_70 : decode cX9_readSign 70 = .ok (.if_icmp .ne 9, 3) := by decide +kernel
theorem dX9_readSign_73 : decode cX9_readSign 73 = .ok (.sipush 256, 3) := by decide +kernel
theorem dX9_readSign_76 : decode cX9_readSign 76 = .ok (.goto 6, 3) := by decide +kernel
theorem dX9_readSign_79 : decode cX9_readSign 79 = .ok (.sipush 257, 3) := by decide +kernel
theorem dX9_readSign_82 : decode cX9_readSign 82 = .ok (.putfield 93, 3) := by decide +kernel
theorem dX9_readSign_85 : decode cX9_readSign 85 = .ok (.aload_n 0, 1) := by decide +kernel
theorem dX9_readSign_86 : decode cX9_readSign 86 = .ok (.aload_n 0, 1) := by decide +kernel
theorem dX9_readSign_87 : decode cX9_readSign 87 = .ok (.getfield 55, 3) := by decide +kernel
theorem dX9_readSign_90 : decode cX9_readSign 90 = .ok (.iconst 1, 1) := by decide +kernel
theorem dX9_readSign_91 : decode cX9_readSign 91 = .ok (.iadd, 1) := by decide +kernel
theorem dX9_readSign_92 : decode cX9_readSign 92 = .ok (.aload_n 0, 1) := by decide +kernel
theorem dX9_readSign_93 : decode cX9_readSign 93 = .ok (.getfield 64, 3) := by decide +kernel
theorem dX9_readSign_96 : decode cX9_readSign 96 = .ok (.invokestatic 58, 3) := by decide +kernel
theorem dX9_readSign_99 : decode cX9_readSign 99 = .ok (.putfield 55, 3) := by decide +kernel
theorem dX9_readSign_102 : decode cX9_readSign 102 = .ok (.goto 19, 3) := by decide +kernel
theorem dX9_readSign_105 : decode cX9_readSign 105 = .ok (.ldc 105, 2) := by decide +kernel
theorem dX9_readSign_107 : decode cX9_readSign 107 = .ok (.iload_n 1, 1) := by decide +kernel
theorem dX9_readSign_108 : decode cX9_readSign 108 = .ok (.i2c, 1) := by decide +kernel
theorem dX9_readSign_109 : decode cX9_readSign 109 = .ok (.invokevirtual 107, 3) := by decide +kernel
theorem dX9_readSign_112 : decode cX9_readSign 112 = .ok (.ifCond .ge 9, 3) := by decide +kernel
theorem dX9_readSign_115 : decode cX9_readSign 115 = .ok (.aload_n 0, 1) := by decide +kernel
theorem dX9_readSign_116 : decode cX9_readSign 116 = .ok (.bipush 6, 2) := by decide +kernel
theorem dX9_readSign_118 : decode cX9_readSign 118 = .ok (.putfield 73, 3) := by decide +kernel
theorem dX9_readSign_121 : decode cX9_readSign 121 = .ok (.return_, 1) := by decide +kernel
theorem dX9_isSign_0 : decode cX9_isSign 0 = .ok (.aload_n 0, 1) := by decide +kernel
theorem dX9_isSign_1 : decode cX9_isSign 1 = .ok (.getfield 73, 3) := by decide +kernel
theorem dX9_isSign_4 : decode cX9_isSign 4 = .ok (.iconst 5, 1) := by decide +kernel
theorem dX9_isSign_5 : decode cX9_isSign 5 = .ok (.if_icmp .ne 15, 3) := by decide +kernel
theorem dX9_isSign_8 : decode cX9_isSign 8 = .ok (.aload_n 0, 1) := by decide +kernel
theorem dX9_isSign_9 : decode cX9_isSign 9 = .ok (.getfield 93, 3) := by decide +kernel
theorem dX9_isSign_12 : decode cX9_isSign 12 = .ok (.iload_n 1, 1) := by decide +kernel
theorem dX9_isSign_13 : decode cX9_isSign 13 = .ok (.if_icmp .ne 7, 3) := by decide +kernel
theorem dX9_isSign_16 : decode cX9_isSign 16 = .ok (.iconst 1, 1) := by decide +kernel
theorem dX9_isSign_17 : decode cX9_isSign 17 = .ok (.goto 4, 3) := by decide +kernel
theorem dX9_isSign_20 : decode cX9_isSign 20 = .ok (.iconst 0, 1) := by decide +kernel
theorem dX9_isSign_21 : decode cX9_isSign 21 = .ok (.ireturn, 1) := by decide +kernel
theorem dX9_nameAt_0 : decode cX9_nameAt 0 = .ok (.iconst 0, 1) := by decide +kernel
theorem dX9_nameAt_1 : decode cX9_nameAt 1 = .ok (.istore_n 3, 1) := by decide +kernel
theorem dX9_nameAt_2 : decode cX9_nameAt 2 = .ok (.iconst 0, 1) := by decide +kernel
theorem dX9_nameAt_3 : decode cX9_nameAt 3 = .ok (.istore 4, 2) := by decide +kernel
theorem dX9_nameAt_5 : decode cX9_nameAt 5 = .ok (.iload 4, 2) := by decide +kernel
theorem dX9_nameAt_7 : decode cX9_nameAt 7 = .ok (.iload_n 2, 1) := by decide +kernel
theorem dX9_nameAt_8 : decode cX9_nameAt 8 = .ok (.if_icmp .ge 36, 3) := by decide +kernel
theorem dX9_nameAt_11 : decode cX9_nameAt 11 = .ok (.iload_n 1, 1) := by decide +kernel
theorem dX9_nameAt_12 : decode cX9_nameAt 12 = .ok (.iload 4, 2) := by decide +kernel
theorem dX9_nameAt_14 : decode cX9_nameAt 14 = .ok (.iadd, 1) := by decide +kernel
theorem dX9_nameAt_15 : decode cX9_nameAt 15 = .ok (.aload_n 0, 1) := by decide +kernel
theorem dX9_nameAt_16 : decode cX9_nameAt 16 = .ok (.getfield 9, 3) := by decide +kernel
theorem dX9_nameAt_19 : decode cX9_nameAt 19 = .ok (.arraylength, 1) := by decide +kernel
theorem dX9_nameAt_20 : decode cX9_nameAt 20 = .ok (.if_icmp .ge 24, 3) := by decide +kernel
theorem dX9_nameAt_23 : decode cX9_nameAt 23 = .ok (.iload_n 3, 1) := by decide +kernel
theorem dX9_nameAt_24 : decode cX9_nameAt 24 = .ok (.bipush 31, 2) := by decide +kernel
theorem dX9_nameAt_26 : decode cX9_nameAt 26 = .ok (.imul, 1) := by decide +kernel
theorem dX9_nameAt_27 : decode cX9_nameAt 27 = .ok (.aload_n 0, 1) := by decide +kernel
theorem dX9_nameAt_28 : decode cX9_nameAt 28 = .ok (.getfield 9, 3) := by decide +kernel
theorem dX9_nameAt_31 : decode cX9_nameAt 31 = .ok (.iload_n 1, 1) := by decide +kernel
theorem dX9_nameAt_32 : decode cX9_nameAt 32 = .ok (.iload 4, 2) := by decide +kernel
theorem dX9_nameAt_34 : decode cX9_nameAt 34 = .ok (.iadd, 1) := by decide +kernel
theorem dX9_nameAt_35 : decode cX9_nameAt 35 = .ok (.baload, 1) := by decide +kernel
theorem dX9_nameAt_36 : decode cX9_nameAt 36 = .ok (.iadd, 1) := by decide +kernel
theorem dX9_nameAt_37 : decode cX9_nameAt 37 = .ok (.istore_n 3, 1) := by decide +kernel
theorem dX9_nameAt_38 : decode cX9_nameAt 38 = .ok (.iinc 4 1, 3) := by decide +kernel
theorem dX9_nameAt_41 : decode cX9_nameAt 41 = .ok (.goto (-36), 3) := by decide +kernel
theorem dX9_nameAt_44 : decode cX9_nameAt 44 = .ok (.iload_n 3, 1) := by decide +kernel
theorem dX9_nameAt_45 : decode cX9_nameAt 45 = .ok (.iload_n 3, 1) := by decide +kernel
theorem dX9_nameAt_46 : decode cX9_nameAt 46 = .ok (.bipush 8, 2) := by decide +kernel
theorem dX9_nameAt_48 : decode cX9_nameAt 48 = .ok (.ishr, 1) := by decide +kernel
theorem dX9_nameAt_49 : decode cX9_nameAt 49 = .ok (.ixor, 1) := by decide +kernel
theorem dX9_nameAt_50 : decode cX9_nameAt 50 = .ok (.sipush 255, 3) := by decide +kernel
theorem dX9_nameAt_53 : decode cX9_nameAt 53 = .ok (.iand, 1) := by decide +kernel
theorem dX9_nameAt_54 : decode cX9_nameAt 54 = .ok (.istore_n 3, 1) := by decide +kernel
theorem dX9_nameAt_55 : decode cX9_nameAt 55 = .ok (.aload_n 0, 1) := by decide +kernel
theorem dX9_nameAt_56 : decode cX9_nameAt 56 = .ok (.getfield 30, 3) := by decide +kernel
theorem dX9_nameAt_59 : decode cX9_nameAt 59 = .ok (.iload_n 3, 1) := by decide +kernel
theorem dX9_nameAt_60 : decode cX9_nameAt 60 = .ok (.iaload, 1) := by decide +kernel
theorem dX9_nameAt_61 : decode cX9_nameAt 61 = .ok (.iconst 1, 1) := by decide +kernel
theorem dX9_nameAt_62 : decode cX9_nameAt 62 = .ok (.isub, 1) := by decide +kernel
theorem dX9_nameAt_63 : decode cX9_nameAt 63 = .ok (.istore 4, 2) := by decide +kernel
theorem dX9_nameAt_65 : decode cX9_nameAt 65 = .ok (.aload_n 0, 1) := by decide +kernel
theorem dX9_nameAt_66 : decode cX9_nameAt 66 = .ok (.getfield 43, 3) := by decide +kernel
theorem dX9_nameAt_69 : decode cX9_nameAt 69 = .ok (.istore 5, 2) := by decide +kernel
theorem dX9_nameAt_71 : decode cX9_nameAt 71 = .ok (.iload 5, 2) := by decide +kernel
theorem dX9_nameAt_73 : decode cX9_nameAt 73 = .ok (.ifCond .le 121, 3) := by decide +kernel
theorem dX9_nameAt_76 : decode cX9_nameAt 76 = .ok (.iload 4, 2) := by decide +kernel
theorem dX9_nameAt_78 : decode cX9_nameAt 78 = .ok (.ifCond .lt 116, 3) := by decide +kernel
theorem dX9_nameAt_81 : decode cX9_nameAt 81 = .ok (.aload_n 0, 1) := by decide +kernel
theorem dX9_nameAt_82 : decode cX9_nameAt 82 = .ok (.getfield 27, 3) := by decide +kernel
theorem dX9_nameAt_85 : decode cX9_nameAt 85 = .ok (.iload 4, 2) := by decide +kernel
theorem dX9_nameAt_87 : decode cX9_nameAt 87 = .ok (.iconst 5, 1) := by decide +kernel
theorem dX9_nameAt_88 : decode cX9_nameAt 88 = .ok (.imul, 1) := by decide +kernel
theorem dX9_nameAt_89 : decode cX9_nameAt 89 = .ok (.iconst 0, 1) := by decide +kernel
theorem dX9_nameAt_90 : decode cX9_nameAt 90 = .ok (.iadd, 1) := by decide +kernel
theorem dX9_nameAt_91 : decode cX9_nameAt 91 = .ok (.iaload, 1) := by decide +kernel
theorem dX9_nameAt_92 : decode cX9_nameAt 92 = .ok (.istore 6, 2) := by decide +kernel
theorem dX9_nameAt_94 : decode cX9_nameAt 94 = .ok (.aload_n 0, 1) := by decide +kernel
theorem dX9_nameAt_95 : decode cX9_nameAt 95 = .ok (.getfield 27, 3) := by decide +kernel
theorem dX9_nameAt_98 : decode cX9_nameAt 98 = .ok (.iload 4, 2) := by decide +kernel
theorem dX9_nameAt_100 : decode cX9_nameAt 100 = .ok (.iconst 5, 1) := by decide +kernel
theorem dX9_nameAt_101 : decode cX9_nameAt 101 = .ok (.imul, 1) := by decide +kernel
theorem dX9_nameAt_102 : decode cX9_nameAt 102 = .ok (.iconst 1, 1) := by decide +kernel
theorem dX9_nameAt_103 : decode cX9_nameAt 103 = .ok (.iadd, 1) := by decide +kernel
theorem dX9_nameAt_104 : decode cX9_nameAt 104 = .ok (.iaload, 1) := by decide +kernel
theorem dX9_nameAt_105 : decode cX9_nameAt 105 = .ok (.iload_n 2, 1) := by decide +kernel
theorem dX9_nameAt_106 : decode cX9_nameAt 106 = .ok (.if_icmp .ne 7, 3) := by decide +kernel
theorem dX9_nameAt_109 : decode cX9_nameAt 109 = .ok (.iconst 1, 1) := by decide +kernel
theorem dX9_nameAt_110 : decode cX9_nameAt 110 = .ok (.goto 4, 3) := by decide +kernel
theorem dX9_nameAt_113 : decode cX9_nameAt 113 = .ok (.iconst 0, 1) := by decide +kernel
theorem dX9_nameAt_114 : decode cX9_nameAt 114 = .ok (.istore 7, 2) := by decide +kernel
theorem dX9_nameAt_116 : decode cX9_nameAt 116 = .ok (.iconst 0, 1) := by decide +kernel
theorem dX9_nameAt_117 : decode cX9_nameAt 117 = .ok (.istore 8, 2) := by decide +kernel
theorem dX9_nameAt_119 : decode cX9_nameAt 119 = .ok (.iload 7, 2) := by decide +kernel
theorem dX9_nameAt_121 : decode cX9_nameAt 121 = .ok (.ifCond .eq 44, 3) := by decide +kernel
theorem dX9_nameAt_124 : decode cX9_nameAt 124 = .ok (.iload 8, 2) := by decide +kernel
theorem dX9_nameAt_126 : decode cX9_nameAt 126 = .ok (.iload_n 2, 1) := by decide +kernel
theorem dX9_nameAt_127 : decode cX9_nameAt 127 = .ok (.if_icmp .ge 38, 3) := by decide +kernel
theorem dX9_nameAt_130 : decode cX9_nameAt 130 = .ok (.aload_n 0, 1) := by decide +kernel
theorem dX9_nameAt_131 : decode cX9_nameAt 131 = .ok (.getfield 9, 3) := by decide +kernel
theorem dX9_nameAt_134 : decode cX9_nameAt 134 = .ok (.iload 6, 2) := by decide +kernel
theorem dX9_nameAt_136 : decode cX9_nameAt 136 = .ok (.iload 8, 2) := by decide +kernel
theorem dX9_nameAt_138 : decode cX9_nameAt 138 = .ok (.iadd, 1) := by decide +kernel
theorem dX9_nameAt_139 : decode cX9_nameAt 139 = .ok (.baload, 1) := by decide +kernel
theorem dX9_nameAt_140 : decode cX9_nameAt 140 = .ok (.aload_n 0, 1) := by decide +kernel
theorem dX9_nameAt_141 : decode cX9_nameAt 141 = .ok (.getfield 9, 3) := by decide +kernel
theorem dX9_nameAt_144 : decode cX9_nameAt 144 = .ok (.iload_n 1, 1) := by decide +kernel
theorem dX9_nameAt_145 : decode cX9_nameAt 145 = .ok (.iload 8, 2) := by decide +kernel
theorem dX9_nameAt_147 : decode cX9_nameAt 147 = .ok (.iadd, 1) := by decide +kernel
theorem dX9_nameAt_148 : decode cX9_nameAt 148 = .ok (.baload, 1) := by decide +kernel
theorem dX9_nameAt_149 : decode cX9_nameAt 149 = .ok (.if_icmp .ne 7, 3) := by decide +kernel
theorem dX9_nameAt_152 : decode cX9_nameAt 152 = .ok (.iconst 1, 1) := by decide +kernel
theorem dX9_nameAt_153 : decode cX9_nameAt 153 = .ok (.goto 4, 3) := by decide +kernel
theorem dX9_nameAt_156 : decode cX9_nameAt 156 = .ok (.iconst 0, 1) := by decide +kernel
theorem dX9_nameAt_157 : decode cX9_nameAt 157 = .ok (.istore 7, 2) := by decide +kernel
theorem dX9_nameAt_159 : decode cX9_nameAt 159 = .ok (.iinc 8 1, 3) := by decide +kernel
theorem dX9_nameAt_162 : decode cX9_nameAt 162 = .ok (.goto (-43), 3) := by decide +kernel
theorem dX9_nameAt_165 : decode cX9_nameAt 165 = .ok (.iload 7, 2) := by decide +kernel
theorem dX9_nameAt_167 : decode cX9_nameAt 167 = .ok (.ifCond .eq 6, 3) := by decide +kernel
theorem dX9_nameAt_170 : decode cX9_nameAt 170 = .ok (.iload 4, 2) := by decide +kernel
theorem dX9_nameAt_172 : decode cX9_nameAt 172 = .ok (.ireturn, 1) := by decide +kernel
theorem dX9_nameAt_173 : decode cX9_nameAt 173 = .ok (.aload_n 0, 1) := by decide +kernel
theorem dX9_nameAt_174 : decode cX9_nameAt 174 = .ok (.getfield 27, 3) := by decide +kernel
theorem dX9_nameAt_177 : decode cX9_nameAt 177 = .ok (.iload 4, 2) := by decide +kernel
theorem dX9_nameAt_179 : decode cX9_nameAt 179 = .ok (.iconst 5, 1) := by decide +kernel
theorem dX9_nameAt_180 : decode cX9_nameAt 180 = .ok (.imul, 1) := by decide +kernel
theorem dX9_nameAt_181 : decode cX9_nameAt 181 = .ok (.iconst 4, 1) := by decide +kernel
theorem dX9_nameAt_182 : decode cX9_nameAt 182 = .ok (.iadd, 1) := by decide +kernel
theorem dX9_nameAt_183 : decode cX9_nameAt 183 = .ok (.iaload, 1) := by decide +kernel
theorem dX9_nameAt_184 : decode cX9_nameAt 184 = .ok (.iconst 1, 1) := by decide +kernel
theorem dX9_nameAt_185 : decode cX9_nameAt 185 = .ok (.isub, 1) := by decide +kernel
theorem dX9_nameAt_186 : decode cX9_nameAt 186 = .ok (.istore 4, 2) := by decide +kernel
theorem dX9_nameAt_188 : decode cX9_nameAt 188 = .ok (.iinc 5 (-1), 3) := by decide +kernel
theorem dX9_nameAt_191 : decode cX9_nameAt 191 = .ok (.goto (-120), 3) := by decide +kernel
theorem dX9_nameAt_194 : decode cX9_nameAt 194 = .ok (.aload_n 0, 1) := by decide +kernel
theorem dX9_nameAt_195 : decode cX9_nameAt 195 = .ok (.getfield 43, 3) := by decide +kernel
theorem dX9_nameAt_198 : decode cX9_nameAt 198 = .ok (.sipush 16384, 3) := by decide +kernel
theorem dX9_nameAt_201 : decode cX9_nameAt 201 = .ok (.if_icmp .ge 13, 3) := by decide +kernel
theorem dX9_nameAt_204 : decode cX9_nameAt 204 = .ok (.aload_n 0, 1) := by decide +kernel
theorem dX9_nameAt_205 : decode cX9_nameAt 205 = .ok (.dup, 1) := by decide +kernel
theorem dX9_nameAt_206 : decode cX9_nameAt 206 = .ok (.getfield 43, 3) := by decide +kernel
theorem dX9_nameAt_209 : decode cX9_nameAt 209 = .ok (.iconst 1, 1) := by decide +kernel
theorem dX9_nameAt_210 : decode cX9_nameAt 210 = .ok (.iadd, 1) := by decide +kernel
theorem dX9_nameAt_211 : decode cX9_nameAt 211 = .ok (.putfield 43, 3) := by decide +kernel
theorem dX9_nameAt_214 : decode cX9_nameAt 214 = .ok (.aload_n 0, 1) := by decide +kernel
theorem dX9_nameAt_215 : decode cX9_nameAt 215 = .ok (.getfield 43, 3) := by decide +kernel
theorem dX9_nameAt_218 : decode cX9_nameAt 218 = .ok (.iconst 1, 1) := by decide +kernel
theorem dX9_nameAt_219 : decode cX9_nameAt 219 = .ok (.isub, 1) := by decide +kernel
theorem dX9_nameAt_220 : decode cX9_nameAt 220 = .ok (.istore 4, 2) := by decide +kernel
theorem dX9_nameAt_222 : decode cX9_nameAt 222 = .ok (.aload_n 0, 1) := by decide +kernel
theorem dX9_nameAt_223 : decode cX9_nameAt 223 = .ok (.getfield 27, 3) := by decide +kernel
theorem dX9_nameAt_226 : decode cX9_nameAt 226 = .ok (.iload 4, 2) := by decide +kernel
theorem dX9_nameAt_228 : decode cX9_nameAt 228 = .ok (.iconst 5, 1) := by decide +kernel
theorem dX9_nameAt_229 : decode cX9_nameAt 229 = .ok (.imul, 1) := by decide +kernel
theorem dX9_nameAt_230 : decode cX9_nameAt 230 = .ok (.iconst 0, 1) := by decide +kernel
theorem dX9_nameAt_231 : decode cX9_nameAt 231 = .ok (.iadd, 1) := by decide +kernel
theorem dX9_nameAt_232 : decode cX9_nameAt 232 = .ok (.iload_n 1, 1) := by decide +kernel
theorem dX9_nameAt_233 : decode cX9_nameAt 233 = .ok (.iastore, 1) := by decide +kernel
theorem dX9_nameAt_234 : decode cX9_nameAt 234 = .ok (.aload_n 0, 1) := by decide +kernel
theorem dX9_nameAt_235 : decode cX9_nameAt 235 = .ok (.getfield 27, 3) := by decide +kernel
theorem dX9_nameAt_238 : decode cX9_nameAt 238 = .ok (.iload 4, 2) := by decide +kernel
theorem dX9_nameAt_240 : decode cX9_nameAt 240 = .ok (.iconst 5, 1) := by decide +kernel
theorem dX9_nameAt_241 : decode cX9_nameAt 241 = .ok (.imul, 1) := by decide +kernel
theorem dX9_nameAt_242 : decode cX9_nameAt 242 = .ok (.iconst 1, 1) := by decide +kernel
theorem dX9_nameAt_243 : decode cX9_nameAt 243 = .ok (.iadd, 1) := by decide +kernel
theorem dX9_nameAt_244 : decode cX9_nameAt 244 = .ok (.iload_n 2, 1) := by decide +kernel
theorem dX9_nameAt_245 : decode cX9_nameAt 245 = .ok (.iastore, 1) := by decide +kernel
theorem dX9_nameAt_246 : decode cX9_nameAt 246 = .ok (.aload_n 0, 1) := by decide +kernel
theorem dX9_nameAt_247 : decode cX9_nameAt 247 = .ok (.getfield 27, 3) := by decide +kernel
theorem dX9_nameAt_250 : decode cX9_nameAt 250 = .ok (.iload 4, 2) := by decide +kernel
theorem dX9_nameAt_252 : decode cX9_nameAt 252 = .ok (.iconst 5, 1) := by decide +kernel
theorem dX9_nameAt_253 : decode cX9_nameAt 253 = .ok (.imul, 1) := by decide +kernel
theorem dX9_nameAt_254 : decode cX9_nameAt 254 = .ok (.iconst 2, 1) := by decide +kernel
theorem dX9_nameAt_255 : decode cX9_nameAt 255 = .ok (.iadd, 1) := by decide +kernel
theorem dX9_nameAt_256 : decode cX9_nameAt 256 = .ok (.iconst 0, 1) := by decide +kernel
theorem dX9_nameAt_257 : decode cX9_nameAt 257 = .ok (.iastore, 1) := by decide +kernel
theorem dX9_nameAt_258 : decode cX9_nameAt 258 = .ok (.aload_n 0, 1) := by decide +kernel
theorem dX9_nameAt_259 : decode cX9_nameAt 259 = .ok (.getfield 27, 3) := by decide +kernel
theorem dX9_nameAt_262 : decode cX9_nameAt 262 = .ok (.iload 4, 2) := by decide +kernel
theorem dX9_nameAt_264 : decode cX9_nameAt 264 = .ok (.iconst 5, 1) := by decide +kernel
theorem dX9_nameAt_265 : decode cX9_nameAt 265 = .ok (.imul, 1) := by decide +kernel
theorem dX9_nameAt_266 : decode cX9_nameAt 266 = .ok (.iconst 4, 1) := by decide +kernel
theorem dX9_nameAt_267 : decode cX9_nameAt 267 = .ok (.iadd, 1) := by decide +kernel
theorem dX9_nameAt_268 : decode cX9_nameAt 268 = .ok (.aload_n 0, 1) := by decide +kernel
theorem dX9_nameAt_269 : decode cX9_nameAt 269 = .ok (.getfield 30, 3) := by decide +kernel
theorem dX9_nameAt_272 : decode cX9_nameAt 272 = .ok (.iload_n 3, 1) := by decide +kernel
theorem dX9_nameAt_273 : decode cX9_nameAt 273 = .ok (.iaload, 1) := by decide +kernel
theorem dX9_nameAt_274 : decode cX9_nameAt 274 = .ok (.iastore, 1) := by decide +kernel
theorem dX9_nameAt_275 : decode cX9_nameAt 275 = .ok (.aload_n 0, 1) := by decide +kernel
theorem dX9_nameAt_276 : decode cX9_nameAt 276 = .ok (.getfield 30, 3) := by decide +kernel
theorem dX9_nameAt_279 : decode cX9_nameAt 279 = .ok (.iload_n 3, 1) := by decide +kernel
theorem dX9_nameAt_280 : decode cX9_nameAt 280 = .ok (.iload 4, 2) := by decide +kernel
theorem dX9_nameAt_282 : decode cX9_nameAt 282 = .ok (.iconst 1, 1) := by decide +kernel
theorem dX9_nameAt_283 : decode cX9_nameAt 283 = .ok (.iadd, 1) := by decide +kernel
theorem dX9_nameAt_284 : decode cX9_nameAt 284 = .ok (.iastore, 1) := by decide +kernel
theorem dX9_nameAt_285 : decode cX9_nameAt 285 = .ok (.iload 4, 2) := by decide +kernel
theorem dX9_nameAt_287 : decode cX9_nameAt 287 = .ok (.ireturn, 1) := by decide +kernel
theorem dX9_isDefined_0 : decode cX9_isDefined 0 = .ok (.aload_n 0, 1) := by decide +kernel
theorem dX9_isDefined_1 : decode cX9_isDefined 1 = .ok (.getfield 27, 3) := by decide +kernel
theorem dX9_isDefined_4 : decode cX9_isDefined 4 = .ok (.iload_n 1, 1) := by decide +kernel
theorem dX9_isDefined_5 : decode cX9_isDefined 5 = .ok (.iconst 5, 1) := by decide +kernel
theorem dX9_isDefined_6 : decode cX9_isDefined 6 = .ok (.imul, 1) := by decide +kernel
theorem dX9_isDefined_7 : decode cX9_isDefined 7 = .ok (.iconst 2, 1) := by decide +kernel
theorem dX9_isDefined_8 : decode cX9_isDefined 8 = .ok (.iadd, 1) := by decide +kernel
theorem dX9_isDefined_9 : decode cX9_isDefined 9 = .ok (.iaload, 1) := by decide +kernel
theorem dX9_isDefined_10 : decode cX9_isDefined 10 = .ok (.ifCond .eq 7, 3) := by decide +kernel
theorem dX9_isDefined_13 : decode cX9_isDefined 13 = .ok (.iconst 1, 1) := by decide +kernel
theorem dX9_isDefined_14 : decode cX9_isDefined 14 = .ok (.goto 4, 3) := by decide +kernel
theorem dX9_isDefined_17 : decode cX9_isDefined 17 = .ok (.iconst 0, 1) := by decide +kernel
theorem dX9_isDefined_18 : decode cX9_isDefined 18 = .ok (.ireturn, 1) := by decide +kernel
theorem dX9_define_0 : decode cX9_define 0 = .ok (.aload_n 0, 1) := by decide +kernel
theorem dX9_define_1 : decode cX9_define 1 = .ok (.getfield 27, 3) := by decide +kernel
theorem dX9_define_4 : decode cX9_define 4 = .ok (.iload_n 1, 1) := by decide +kernel
theorem dX9_define_5 : decode cX9_define 5 = .ok (.iconst 5, 1) := by decide +kernel
theorem dX9_define_6 : decode cX9_define 6 = .ok (.imul, 1) := by decide +kernel
theorem dX9_define_7 : decode cX9_define 7 = .ok (.iconst 2, 1) := by decide +kernel
theorem dX9_define_8 : decode cX9_define 8 = .ok (.iadd, 1) := by decide +kernel
theorem dX9_define_9 : decode cX9_define 9 = .ok (.iload_n 2, 1) := by decide +kernel
theorem dX9_define_10 : decode cX9_define 10 = .ok (.iastore, 1) := by decide +kernel
theorem dX9_define_11 : decode cX9_define 11 = .ok (.aload_n 0, 1) := by decide +kernel
theorem dX9_define_12 : decode cX9_define 12 = .ok (.getfield 27, 3) := by decide +kernel
theorem dX9_define_15 : decode cX9_define 15 = .ok (.iload_n 1, 1) := by decide +kernel
theorem dX9_define_16 : decode cX9_define 16 = .ok (.iconst 5, 1) := by decide +kernel
theorem dX9_define_17 : decode cX9_define 17 = .ok (.imul, 1) := by decide +kernel
theorem dX9_define_18 : decode cX9_define 18 = .ok (.iconst 3, 1) := by decide +kernel
theorem dX9_define_19 : decode cX9_define 19 = .ok (.iadd, 1) := by decide +kernel
theorem dX9_define_20 : decode cX9_define 20 = .ok (.iload_n 3, 1) := by decide +kernel
theorem dX9_define_21 : decode cX9_define 21 = .ok (.iastore, 1) := by decide +kernel
theorem dX9_define_22 : decode cX9_define 22 = .ok (.return_, 1) := by decide +kernel
theorem dX9_addLabel_0 : decode cX9_addLabel 0 = .ok (.aload_n 0, 1) := by decide +kernel
theorem dX9_addLabel_1 : decode cX9_addLabel 1 = .ok (.getfield 46, 3) := by decide +kernel
theorem dX9_addLabel_4 : decode cX9_addLabel 4 = .ok (.sipush 16384, 3) := by decide +kernel
theorem dX9_addLabel_7 : decode cX9_addLabel 7 = .ok (.invokestatic 58, 3) := by decide +kernel
theorem dX9_addLabel_10 : decode cX9_addLabel 10 = .ok (.istore 4, 2) := by decide +kernel
theorem dX9_addLabel_12 : decode cX9_addLabel 12 = .ok (.aload_n 0, 1) := by decide +kernel
theorem dX9_addLabel_13 : decode cX9_addLabel 13 = .ok (.iload 4, 2) := by decide +kernel
theorem dX9_addLabel_15 : decode cX9_addLabel 15 = .ok (.iconst 1, 1) := by decide +kernel
theorem dX9_addLabel_16 : decode cX9_addLabel 16 = .ok (.iadd, 1) := by decide +kernel
theorem dX9_addLabel_17 : decode cX9_addLabel 17 = .ok (.putfield 46, 3) := by decide +kernel
theorem dX9_addLabel_20 : decode cX9_addLabel 20 = .ok (.aload_n 0, 1) := by decide +kernel
theorem dX9_addLabel_21 : decode cX9_addLabel 21 = .ok (.getfield 36, 3) := by decide +kernel
theorem dX9_addLabel_24 : decode cX9_addLabel 24 = .ok (.iload 4, 2) := by decide +kernel
theorem dX9_addLabel_26 : decode cX9_addLabel 26 = .ok (.iconst 5, 1) := by decide +kernel
theorem dX9_addLabel_27 : decode cX9_addLabel 27 = .ok (.imul, 1) := by decide +kernel
theorem dX9_addLabel_28 : decode cX9_addLabel 28 = .ok (.iconst 0, 1) := by decide +kernel
theorem dX9_addLabel_29 : decode cX9_addLabel 29 = .ok (.iadd, 1) := by decide +kernel
theorem dX9_addLabel_30 : decode cX9_addLabel 30 = .ok (.iload_n 1, 1) := by decide +kernel
theorem dX9_addLabel_31 : decode cX9_addLabel 31 = .ok (.iastore, 1) := by decide +kernel
theorem dX9_addLabel_32 : decode cX9_addLabel 32 = .ok (.aload_n 0, 1) := by decide +kernel
theorem dX9_addLabel_33 : decode cX9_addLabel 33 = .ok (.getfield 36, 3) := by decide +kernel
theorem dX9_addLabel_36 : decode cX9_addLabel 36 = .ok (.iload 4, 2) := by decide +kernel
theorem dX9_addLabel_38 : decode cX9_addLabel 38 = .ok (.iconst 5, 1) := by decide +kernel
theorem dX9_addLabel_39 : decode cX9_addLabel 39 = .ok (.imul, 1) := by decide +kernel
theorem dX9_addLabel_40 : decode cX9_addLabel 40 = .ok (.iconst 1, 1) := by decide +kernel
theorem dX9_addLabel_41 : decode cX9_addLabel 41 = .ok (.iadd, 1) := by decide +kernel
theorem dX9_addLabel_42 : decode cX9_addLabel 42 = .ok (.iload_n 2, 1) := by decide +kernel
theorem dX9_addLabel_43 : decode cX9_addLabel 43 = .ok (.iastore, 1) := by decide +kernel
theorem dX9_addLabel_44 : decode cX9_addLabel 44 = .ok (.aload_n 0, 1) := by decide +kernel
theorem dX9_addLabel_45 : decode cX9_addLabel 45 = .ok (.getfield 36, 3) := by decide +kernel
theorem dX9_addLabel_48 : decode cX9_addLabel 48 = .ok (.iload 4, 2) := by decide +kernel
theorem dX9_addLabel_50 : decode cX9_addLabel 50 = .ok (.iconst 5, 1) := by decide +kernel
theorem dX9_addLabel_51 : decode cX9_addLabel 51 = .ok (.imul, 1) := by decide +kernel
theorem dX9_addLabel_52 : decode cX9_addLabel 52 = .ok (.iconst 2, 1) := by decide +kernel
theorem dX9_addLabel_53 : decode cX9_addLabel 53 = .ok (.iadd, 1) := by decide +kernel
theorem dX9_addLabel_54 : decode cX9_addLabel 54 = .ok (.iconst 0, 1) := by decide +kernel
theorem dX9_addLabel_55 : decode cX9_addLabel 55 = .ok (.iastore, 1) := by decide +kernel
theorem dX9_addLabel_56 : decode cX9_addLabel 56 = .ok (.aload_n 0, 1) := by decide +kernel
theorem dX9_addLabel_57 : decode cX9_addLabel 57 = .ok (.getfield 36, 3) := by decide +kernel
theorem dX9_addLabel_60 : decode cX9_addLabel 60 = .ok (.iload 4, 2) := by decide +kernel
theorem dX9_addLabel_62 : decode cX9_addLabel 62 = .ok (.iconst 5, 1) := by decide +kernel
theorem dX9_addLabel_63 : decode cX9_addLabel 63 = .ok (.imul, 1) := by decide +kernel
theorem dX9_addLabel_64 : decode cX9_addLabel 64 = .ok (.iconst 3, 1) := by decide +kernel
theorem dX9_addLabel_65 : decode cX9_addLabel 65 = .ok (.iadd, 1) := by decide +kernel
theorem dX9_addLabel_66 : decode cX9_addLabel 66 = .ok (.iconst 0, 1) := by decide +kernel
theorem dX9_addLabel_67 : decode cX9_addLabel 67 = .ok (.iastore, 1) := by decide +kernel
theorem dX9_addLabel_68 : decode cX9_addLabel 68 = .ok (.aload_n 0, 1) := by decide +kernel
theorem dX9_addLabel_69 : decode cX9_addLabel 69 = .ok (.getfield 36, 3) := by decide +kernel
theorem dX9_addLabel_72 : decode cX9_addLabel 72 = .ok (.iload 4, 2) := by decide +kernel
theorem dX9_addLabel_74 : decode cX9_addLabel 74 = .ok (.iconst 5, 1) := by decide +kernel
theorem dX9_addLabel_75 : decode cX9_addLabel 75 = .ok (.imul, 1) := by decide +kernel
theorem dX9_addLabel_76 : decode cX9_addLabel 76 = .ok (.iconst 4, 1) := by decide +kernel
theorem dX9_addLabel_77 : decode cX9_addLabel 77 = .ok (.iadd, 1) := by decide +kernel
theorem dX9_addLabel_78 : decode cX9_addLabel 78 = .ok (.iload_n 3, 1) := by decide +kernel
theorem dX9_addLabel_79 : decode cX9_addLabel 79 = .ok (.ifCond .ge 7, 3) := by decide +kernel
theorem dX9_addLabel_82 : decode cX9_addLabel 82 = .ok (.iconst 1, 1) := by decide +kernel
theorem dX9_addLabel_83 : decode cX9_addLabel 83 = .ok (.goto 4, 3) := by decide +kernel
theorem dX9_addLabel_86 : decode cX9_addLabel 86 = .ok (.iconst 0, 1) := by decide +kernel
theorem dX9_addLabel_87 : decode cX9_addLabel 87 = .ok (.iastore, 1) := by decide +kernel
theorem dX9_addLabel_88 : decode cX9_addLabel 88 = .ok (.iload_n 3, 1) := by decide +kernel
theorem dX9_addLabel_89 : decode cX9_addLabel 89 = .ok (.ifCond .lt 68, 3) := by decide +kernel
theorem dX9_addLabel_92 : decode cX9_addLabel 92 = .ok (.iload_n 3, 1) := by decide +kernel
theorem dX9_addLabel_93 : decode cX9_addLabel 93 = .ok (.bipush 9, 2) := by decide +kernel
theorem dX9_addLabel_95 : decode cX9_addLabel 95 = .ok (.if_icmp .gt 62, 3) := by decide +kernel
theorem dX9_addLabel_98 : decode cX9_addLabel 98 = .ok (.aload_n 0, 1) := by decide +kernel
theorem dX9_addLabel_99 : decode cX9_addLabel 99 = .ok (.getfield 33, 3) := by decide +kernel
theorem dX9_addLabel_102 : decode cX9_addLabel 102 = .ok (.bipush 10, 2) := by decide +kernel
theorem dX9_addLabel_104 : decode cX9_addLabel 104 = .ok (.iload_n 3, 1) := by decide +kernel
theorem dX9_addLabel_105 : decode cX9_addLabel 105 = .ok (.iadd, 1) := by decide +kernel
theorem dX9_addLabel_106 : decode cX9_addLabel 106 = .ok (.iaload, 1) := by decide +kernel
theorem dX9_addLabel_107 : decode cX9_addLabel 107 = .ok (.istore 5, 2) := by decide +kernel
theorem dX9_addLabel_109 : decode cX9_addLabel 109 = .ok (.iload 5, 2) := by decide +kernel
theorem dX9_addLabel_111 : decode cX9_addLabel 111 = .ok (.ifCond .ne 16, 3) := by decide +kernel
theorem dX9_addLabel_114 : decode cX9_addLabel 114 = .ok (.aload_n 0, 1) := by decide +kernel
theorem dX9_addLabel_115 : decode cX9_addLabel 115 = .ok (.getfield 33, 3) := by decide +kernel
theorem dX9_addLabel_118 : decode cX9_addLabel 118 = .ok (.iload_n 3, 1) := by decide +kernel
theorem dX9_addLabel_119 : decode cX9_addLabel 119 = .ok (.iload 4, 2) := by decide +kernel
theorem dX9_addLabel_121 : decode cX9_addLabel 121 = .ok (.iconst 1, 1) := by decide +kernel
theorem dX9_addLabel_122 : decode cX9_addLabel 122 = .ok (.iadd, 1) := by decide +kernel
theorem dX9_addLabel_123 : decode cX9_addLabel 123 = .ok (.iastore, 1) := by decide +kernel
theorem dX9_addLabel_124 : decode cX9_addLabel 124 = .ok (.goto 20, 3) := by decide +kernel
theorem dX9_addLabel_127 : decode cX9_addLabel 127 = .ok (.aload_n 0, 1) := by decide +kernel
theorem dX9_addLabel_128 : decode cX9_addLabel 128 = .ok (.getfield 36, 3) := by decide +kernel
theorem dX9_addLabel_131 : decode cX9_addLabel 131 = .ok (.iload 5, 2) := by decide +kernel
theorem dX9_addLabel_133 : decode cX9_addLabel 133 = .ok (.iconst 1, 1) := by decide +kernel
theorem dX9_addLabel_134 : decode cX9_addLabel 134 = .ok (.isub, 1) := by decide +kernel
theorem dX9_addLabel_135 : decode cX9_addLabel 135 = .ok (.iconst 5, 1) := by decide +kernel
theorem dX9_addLabel_136 : decode cX9_addLabel 136 = .ok (.imul, 1) := by decide +kernel
theorem dX9_addLabel_137 : decode cX9_addLabel 137 = .ok (.iconst 3, 1) := by decide +kernel
theorem dX9_addLabel_138 : decode cX9_addLabel 138 = .ok (.iadd, 1) := by decide +kernel
theorem dX9_addLabel_139 : decode cX9_addLabel 139 = .ok (.iload 4, 2) := by decide +kernel
theorem dX9_addLabel_141 : decode cX9_addLabel 141 = .ok (.iconst 1, 1) := by decide +kernel
theorem dX9_addLabel_142 : decode cX9_addLabel 142 = .ok (.iadd, 1) := by decide +kernel
theorem dX9_addLabel_143 : decode cX9_addLabel 143 = .ok (.iastore, 1) := by decide +kernel
theorem dX9_addLabel_144 : decode cX9_addLabel 144 = .ok (.aload_n 0, 1) := by decide +kernel
theorem dX9_addLabel_145 : decode cX9_addLabel 145 = .ok (.getfield 33, 3) := by decide +kernel
theorem dX9_addLabel_148 : decode cX9_addLabel 148 = .ok (.bipush 10, 2) := by decide +kernel
theorem dX9_addLabel_150 : decode cX9_addLabel 150 = .ok (.iload_n 3, 1) := by decide +kernel
theorem dX9_addLabel_151 : decode cX9_addLabel 151 = .ok (.iadd, 1) := by decide +kernel
theorem dX9_addLabel_152 : decode cX9_addLabel 152 = .ok (.iload 4, 2) := by decide +kernel
theorem dX9_addLabel_154 : decode cX9_addLabel 154 = .ok (.iconst 1, 1) := by decide +kernel
theorem dX9_addLabel_155 : decode cX9_addLabel 155 = .ok (.iadd, 1) := by decide +kernel
theorem dX9_addLabel_156 : decode cX9_addLabel 156 = .ok (.iastore, 1) := by decide +kernel
theorem dX9_addLabel_157 : decode cX9_addLabel 157 = .ok (.iload 4, 2) := by decide +kernel
theorem dX9_addLabel_159 : decode cX9_addLabel 159 = .ok (.ireturn, 1) := by decide +kernel
theorem dX9_standsBefore_0 : decode cX9_standsBefore 0 = .ok (.aload_n 0, 1) := by decide +kernel
theorem dX9_standsBefore_1 : decode cX9_standsBefore 1 = .ok (.getfield 36, 3) := by decide +kernel
theorem dX9_standsBefore_4 : decode cX9_standsBefore 4 = .ok (.iload_n 1, 1) := by decide +kernel
theorem dX9_standsBefore_5 : decode cX9_standsBefore 5 = .ok (.iconst 5, 1) := by decide +kernel
theorem dX9_standsBefore_6 : decode cX9_standsBefore 6 = .ok (.imul, 1) := by decide +kernel
theorem dX9_standsBefore_7 : decode cX9_standsBefore 7 = .ok (.iconst 0, 1) := by decide +kernel
theorem dX9_standsBefore_8 : decode cX9_standsBefore 8 = .ok (.iadd, 1) := by decide +kernel
theorem dX9_standsBefore_9 : decode cX9_standsBefore 9 = .ok (.iaload, 1) := by decide +kernel
theorem dX9_standsBefore_10 : decode cX9_standsBefore 10 = .ok (.iload_n 2, 1) := by decide +kernel
theorem dX9_standsBefore_11 : decode cX9_standsBefore 11 = .ok (.if_icmp .ne 7, 3) := by decide +kernel
theorem dX9_standsBefore_14 : decode cX9_standsBefore 14 = .ok (.iconst 1, 1) := by decide +kernel
theorem dX9_standsBefore_15 : decode cX9_standsBefore 15 = .ok (.goto 4, 3) := by decide +kernel
theorem dX9_standsBefore_18 : decode cX9_standsBefore 18 = .ok (.iconst 0, 1) := by decide +kernel
theorem dX9_standsBefore_19 : decode cX9_standsBefore 19 = .ok (.ireturn, 1) := by decide +kernel
theorem dX9_place_0 : decode cX9_place 0 = .ok (.aload_n 0, 1) := by decide +kernel
theorem dX9_place_1 : decode cX9_place 1 = .ok (.getfield 36, 3) := by decide +kernel
theorem dX9_place_4 : decode cX9_place 4 = .ok (.iload_n 1, 1) := by decide +kernel
theorem dX9_place_5 : decode cX9_place 5 = .ok (.iconst 5, 1) := by decide +kernel
theorem dX9_place_6 : decode cX9_place 6 = .ok (.imul, 1) := by decide +kernel
theorem dX9_place_7 : decode cX9_place 7 = .ok (.iconst 2, 1) := by decide +kernel
theorem dX9_place_8 : decode cX9_place 8 = .ok (.iadd, 1) := by decide +kernel
theorem dX9_place_9 : decode cX9_place 9 = .ok (.aload_n 0, 1) := by decide +kernel
theorem dX9_place_10 : decode cX9_place 10 = .ok (.getfield 36, 3) := by decide +kernel
theorem dX9_place_13 : decode cX9_place 13 = .ok (.iload_n 1, 1) := by decide +kernel
theorem dX9_place_14 : decode cX9_place 14 = .ok (.iconst 5, 1) := by decide +kernel
theorem dX9_place_15 : decode cX9_place 15 = .ok (.imul, 1) := by decide +kernel
theorem dX9_place_16 : decode cX9_place 16 = .ok (.iconst 1, 1) := by decide +kernel
theorem dX9_place_17 : decode cX9_place 17 = .ok (.iadd, 1) := by decide +kernel
theorem dX9_place_18 : decode cX9_place 18 = .ok (.iaload, 1) := by decide +kernel
theorem dX9_place_19 : decode cX9_place 19 = .ok (.ifCond .ne 7, 3) := by decide +kernel
theorem dX9_place_22 : decode cX9_place 22 = .ok (.iload_n 2, 1) := by decide +kernel
theorem dX9_place_23 : decode cX9_place 23 = .ok (.goto 4, 3) := by decide +kernel
theorem dX9_place_26 : decode cX9_place 26 = .ok (.iload_n 3, 1) := by decide +kernel
theorem dX9_place_27 : decode cX9_place 27 = .ok (.iastore, 1) := by decide +kernel
theorem dX9_place_28 : decode cX9_place 28 = .ok (.return_, 1) := by decide +kernel
theorem dX9_sum_0 : decode cX9_sum 0 = .ok (.aload_n 0, 1) := by decide +kernel
theorem dX9_sum_1 : decode cX9_sum 1 = .ok (.getfield 39, 3) := by decide +kernel
theorem dX9_sum_4 : decode cX9_sum 4 = .ok (.istore_n 1, 1) := by decide +kernel
theorem dX9_sum_5 : decode cX9_sum 5 = .ok (.aload_n 0, 1) := by decide +kernel
theorem dX9_sum_6 : decode cX9_sum 6 = .ok (.iconst 0, 1) := by decide +kernel
theorem dX9_sum_7 : decode cX9_sum 7 = .ok (.putfield 112, 3) := by decide +kernel
theorem dX9_sum_10 : decode cX9_sum 10 = .ok (.aload_n 0, 1) := by decide +kernel
theorem dX9_sum_11 : decode cX9_sum 11 = .ok (.iconst 1, 1) := by decide +kernel
theorem dX9_sum_12 : decode cX9_sum 12 = .ok (.putfield 115, 3) := by decide +kernel
theorem dX9_sum_15 : decode cX9_sum 15 = .ok (.aload_n 0, 1) := by decide +kernel
theorem dX9_sum_16 : decode cX9_sum 16 = .ok (.iconst 0, 1) := by decide +kernel
theorem dX9_sum_17 : decode cX9_sum 17 = .ok (.putfield 119, 3) := by decide +kernel
theorem dX9_sum_20 : decode cX9_sum 20 = .ok (.aload_n 0, 1) := by decide +kernel
theorem dX9_sum_21 : decode cX9_sum 21 = .ok (.getfield 9, 3) := by decide +kernel
theorem dX9_sum_24 : decode cX9_sum 24 = .ok (.arraylength, 1) := by decide +kernel
theorem dX9_sum_25 : decode cX9_sum 25 = .ok (.istore_n 2, 1) := by decide +kernel
theorem dX9_sum_26 : decode cX9_sum 26 = .ok (.iload_n 2, 1) := by decide +kernel
theorem dX9_sum_27 : decode cX9_sum 27 = .ok (.ifCond .lt 80, 3) := by decide +kernel
theorem dX9_sum_30 : decode cX9_sum 30 = .ok (.aload_n 0, 1) := by decide +kernel
theorem dX9_sum_31 : decode cX9_sum 31 = .ok (.getfield 119, 3) := by decide +kernel
theorem dX9_sum_34 : decode cX9_sum 34 = .ok (.iconst 5, 1) := by decide +kernel
theorem dX9_sum_35 : decode cX9_sum 35 = .ok (.if_icmp .eq 72, 3) := by decide +kernel
theorem dX9_sum_38 : decode cX9_sum 38 = .ok (.aload_n 0, 1) := by decide +kernel
theorem dX9_sum_39 : decode cX9_sum 39 = .ok (.getfield 119, 3) := by decide +kernel
theorem dX9_sum_42 : decode cX9_sum 42 = .ok (.bipush 6, 2) := by decide +kernel
theorem dX9_sum_44 : decode cX9_sum 44 = .ok (.if_icmp .eq 63, 3) := by decide +kernel
theorem dX9_sum_47 : decode cX9_sum 47 = .ok (.aload_n 0, 1) := by decide +kernel
theorem dX9_sum_48 : decode cX9_sum 48 = .ok (.getfield 119, 3) := by decide +kernel
theorem dX9_sum_51 : decode cX9_sum 51 = .ok (.ifCond .ne 10, 3) := by decide +kernel
theorem dX9_sum_54 : decode cX9_sum 54 = .ok (.aload_n 0, 1) := by decide +kernel
theorem dX9_sum_55 : decode cX9_sum 55 = .ok (.invokevirtual 122, 3) := by decide +kernel
theorem dX9_sum_58 : decode cX9_sum 58 = .ok (.goto 22, 3) := by decide +kernel
theorem dX9_sum_61 : decode cX9_sum 61 = .ok (.aload_n 0, 1) := by decide +kernel
theorem dX9_sum_62 : decode cX9_sum 62 = .ok (.getfield 119, 3) := by decide +kernel
theorem dX9_sum_65 : decode cX9_sum 65 = .ok (.iconst 1, 1) := by decide +kernel
theorem dX9_sum_66 : decode cX9_sum 66 = .ok (.if_icmp .ne 10, 3) := by decide +kernel
theorem dX9_sum_69 : decode cX9_sum 69 = .ok (.aload_n 0, 1) := by decide +kernel
theorem dX9_sum_70 : decode cX9_sum 70 = .ok (.invokevirtual 125, 3) := by decide +kernel
theorem dX9_sum_73 : decode cX9_sum 73 = .ok (.goto 7, 3) := by decide +kernel
theorem dX9_sum_76 : decode cX9_sum 76 = .ok (.aload_n 0, 1) := by decide +kernel
theorem dX9_sum_77 : decode cX9_sum 77 = .ok (.invokevirtual 128, 3) := by decide +kernel
theorem dX9_sum_80 : decode cX9_sum 80 = .ok (.aload_n 0, 1) := by decide +kernel
theorem dX9_sum_81 : decode cX9_sum 81 = .ok (.getfield 119, 3) := by decide +kernel
theorem dX9_sum_84 : decode cX9_sum 84 = .ok (.iconst 5, 1) := by decide +kernel
theorem dX9_sum_85 : decode cX9_sum 85 = .ok (.if_icmp .eq 16, 3) := by decide +kernel
theorem dX9_sum_88 : decode cX9_sum 88 = .ok (.aload_n 0, 1) := by decide +kernel
theorem dX9_sum_89 : decode cX9_sum 89 = .ok (.getfield 119, 3) := by decide +kernel
theorem dX9_sum_92 : decode cX9_sum 92 = .ok (.bipush 6, 2) := by decide +kernel
theorem dX9_sum_94 : decode cX9_sum 94 = .ok (.if_icmp .eq 7, 3) := by decide +kernel
theorem dX9_sum_97 : decode cX9_sum 97 = .ok (.aload_n 0, 1) := by decide +kernel
theorem dX9_sum_98 : decode cX9_sum 98 = .ok (.invokevirtual 67, 3) := by decide +kernel
theorem dX9_sum_101 : decode cX9_sum 101 = .ok (.iinc 2 (-1), 3) := by decide +kernel
theorem dX9_sum_104 : decode cX9_sum 104 = .ok (.goto (-78), 3) := by decide +kernel
theorem dX9_sum_107 : decode cX9_sum 107 = .ok (.aload_n 0, 1) := by decide +kernel
theorem dX9_sum_108 : decode cX9_sum 108 = .ok (.bipush 21, 2) := by decide +kernel
theorem dX9_sum_110 : decode cX9_sum 110 = .ok (.iconst 0, 1) := by decide +kernel
theorem dX9_sum_111 : decode cX9_sum 111 = .ok (.invokevirtual 131, 3) := by decide +kernel
theorem dX9_sum_114 : decode cX9_sum 114 = .ok (.aload_n 0, 1) := by decide +kernel
theorem dX9_sum_115 : decode cX9_sum 115 = .ok (.getfield 119, 3) := by decide +kernel
theorem dX9_sum_118 : decode cX9_sum 118 = .ok (.iconst 5, 1) := by decide +kernel
theorem dX9_sum_119 : decode cX9_sum 119 = .ok (.if_icmp .ne 7, 3) := by decide +kernel
theorem dX9_sum_122 : decode cX9_sum 122 = .ok (.iload_n 1, 1) := by decide +kernel
theorem dX9_sum_123 : decode cX9_sum 123 = .ok (.goto 4, 3) := by decide +kernel
theorem dX9_sum_126 : decode cX9_sum 126 = .ok (.iconst (-1), 1) := by decide +kernel
theorem dX9_sum_127 : decode cX9_sum 127 = .ok (.ireturn, 1) := by decide +kernel
theorem dX9_takeOperand_0 : decode cX9_takeOperand 0 = .ok (.aload_n 0, 1) := by decide +kernel
theorem dX9_takeOperand_1 : decode cX9_takeOperand 1 = .ok (.iconst 1, 1) := by decide +kernel
theorem dX9_takeOperand_2 : decode cX9_takeOperand 2 = .ok (.putfield 119, 3) := by decide +kernel
theorem dX9_takeOperand_5 : decode cX9_takeOperand 5 = .ok (.aload_n 0, 1) := by decide +kernel
theorem dX9_takeOperand_6 : decode cX9_takeOperand 6 = .ok (.getfield 73, 3) := by decide +kernel
theorem dX9_takeOperand_9 : decode cX9_takeOperand 9 = .ok (.iconst 2, 1) := by decide +kernel
theorem dX9_takeOperand_10 : decode cX9_takeOperand 10 = .ok (.if_icmp .ne 16, 3) := by decide +kernel
theorem dX9_takeOperand_13 : decode cX9_takeOperand 13 = .ok (.aload_n 0, 1) := by decide +kernel
theorem dX9_takeOperand_14 : decode cX9_takeOperand 14 = .ok (.bipush 16, 2) := by decide +kernel
theorem dX9_takeOperand_16 : decode cX9_takeOperand 16 = .ok (.aload_n 0, 1) := by decide +kernel
theorem dX9_takeOperand_17 : decode cX9_takeOperand 17 = .ok (.getfield 93, 3) := by decide +kernel
theorem dX9_takeOperand_20 : decode cX9_takeOperand 20 = .ok (.invokevirtual 131, 3) := by decide +kernel
theorem dX9_takeOperand_23 : decode cX9_takeOperand 23 = .ok (.goto 230, 3) := by decide +kernel
theorem dX9_takeOperand_26 : decode cX9_takeOperand 26 = .ok (.aload_n 0, 1) := by decide +kernel
theorem dX9_takeOperand_27 : decode cX9_takeOperand 27 = .ok (.getfield 73, 3) := by decide +kernel
theorem dX9_takeOperand_30 : decode cX9_takeOperand 30 = .ok (.iconst 1, 1) := by decide +kernel
theorem dX9_takeOperand_31 : decode cX9_takeOperand 31 = .ok (.if_icmp .ne 45, 3) := by decide +kernel
theorem dX9_takeOperand_34 : decode cX9_takeOperand 34 = .ok (.aload_n 0, 1) := by decide +kernel
theorem dX9_takeOperand_35 : decode cX9_takeOperand 35 = .ok (.getfield 55, 3) := by decide +kernel
theorem dX9_takeOperand_38 : decode cX9_takeOperand 38 = .ok (.aload_n 0, 1) := by decide +kernel
theorem dX9_takeOperand_39 : decode cX9_takeOperand 39 = .ok (.getfield 70, 3) := by decide +kernel
theorem dX9_takeOperand_42 : decode cX9_takeOperand 42 = .ok (.isub, 1) := by decide +kernel
theorem dX9_takeOperand_43 : decode cX9_takeOperand 43 = .ok (.iconst 1, 1) := by decide +kernel
theorem dX9_takeOperand_44 : decode cX9_takeOperand 44 = .ok (.if_icmp .ne 32, 3) := by decide +kernel
theorem dX9_takeOperand_47 : decode cX9_takeOperand 47 = .ok (.aload_n 0, 1) := by decide +kernel
theorem dX9_takeOperand_48 : decode cX9_takeOperand 48 = .ok (.getfield 9, 3) := by decide +kernel
theorem dX9_takeOperand_51 : decode cX9_takeOperand 51 = .ok (.aload_n 0, 1) := by decide +kernel
theorem dX9_takeOperand_52 : decode cX9_takeOperand 52 = .ok (.getfield 70, 3) := by decide +kernel
theorem dX9_takeOperand_55 : decode cX9_takeOperand 55 = .ok (.baload, 1) := by decide +kernel
theorem dX9_takeOperand_56 : decode cX9_takeOperand 56 = .ok (.bipush 46, 2) := by decide +kernel
theorem dX9_takeOperand_58 : decode cX9_takeOperand 58 = .ok (.if_icmp .ne 18, 3) := by decide +kernel
theorem dX9_takeOperand_61 : decode cX9_takeOperand 61 = .ok (.aload_n 0, 1) := by decide +kernel
theorem dX9_takeOperand_62 : decode cX9_takeOperand 62 = .ok (.iconst 0, 1) := by decide +kernel
theorem dX9_takeOperand_63 : decode cX9_takeOperand 63 = .ok (.putfield 115, 3) := by decide +kernel
theorem dX9_takeOperand_66 : decode cX9_takeOperand 66 = .ok (.aload_n 0, 1) := by decide +kernel
theorem dX9_takeOperand_67 : decode cX9_takeOperand 67 = .ok (.bipush 18, 2) := by decide +kernel
theorem dX9_takeOperand_69 : decode cX9_takeOperand 69 = .ok (.iconst 0, 1) := by decide +kernel
theorem dX9_takeOperand_70 : decode cX9_takeOperand 70 = .ok (.invokevirtual 131, 3) := by decide +kernel
theorem dX9_takeOperand_73 : decode cX9_takeOperand 73 = .ok (.goto 180, 3) := by decide +kernel
theorem dX9_takeOperand_76 : decode cX9_takeOperand 76 = .ok (.aload_n 0, 1) := by decide +kernel
theorem dX9_takeOperand_77 : decode cX9_takeOperand 77 = .ok (.getfield 73, 3) := by decide +kernel
theorem dX9_takeOperand_80 : decode cX9_takeOperand 80 = .ok (.iconst 1, 1) := by decide +kernel
theorem dX9_takeOperand_81 : decode cX9_takeOperand 81 = .ok (.if_icmp .ne 61, 3) := by decide +kernel
theorem dX9_takeOperand_84 : decode cX9_takeOperand 84 = .ok (.aload_n 0, 1) := by decide +kernel
theorem dX9_takeOperand_85 : decode cX9_takeOperand 85 = .ok (.aload_n 0, 1) := by decide +kernel
theorem dX9_takeOperand_86 : decode cX9_takeOperand 86 = .ok (.getfield 70, 3) := by decide +kernel
theorem dX9_takeOperand_89 : decode cX9_takeOperand 89 = .ok (.aload_n 0, 1) := by decide +kernel
theorem dX9_takeOperand_90 : decode cX9_takeOperand 90 = .ok (.getfield 55, 3) := by decide +kernel
theorem dX9_takeOperand_93 : decode cX9_takeOperand 93 = .ok (.aload_n 0, 1) := by decide +kernel
theorem dX9_takeOperand_94 : decode cX9_takeOperand 94 = .ok (.getfield 70, 3) := by decide +kernel
theorem dX9_takeOperand_97 : decode cX9_takeOperand 97 = .ok (.isub, 1) := by decide +kernel
theorem dX9_takeOperand_98 : decode cX9_takeOperand 98 = .ok (.invokevirtual 135, 3) := by decide +kernel
theorem dX9_takeOperand_101 : decode cX9_takeOperand 101 = .ok (.istore_n 1, 1) := by decide +kernel
theorem dX9_takeOperand_102 : decode cX9_takeOperand 102 = .ok (.aload_n 0, 1) := by decide +kernel
theorem dX9_takeOperand_103 : decode cX9_takeOperand 103 = .ok (.aload_n 0, 1) := by decide +kernel
theorem dX9_takeOperand_104 : decode cX9_takeOperand 104 = .ok (.getfield 115, 3) := by decide +kernel
theorem dX9_takeOperand_107 : decode cX9_takeOperand 107 = .ok (.ifCond .eq 21, 3) := by decide +kernel
theorem dX9_takeOperand_110 : decode cX9_takeOperand 110 = .ok (.aload_n 0, 1) := by decide +kernel
theorem dX9_takeOperand_111 : decode cX9_takeOperand 111 = .ok (.getfield 27, 3) := by decide +kernel
theorem dX9_takeOperand_114 : decode cX9_takeOperand 114 = .ok (.iload_n 1, 1) := by decide +kernel
theorem dX9_takeOperand_115 : decode cX9_takeOperand 115 = .ok (.iconst 5, 1) := by decide +kernel
theorem dX9_takeOperand_116 : decode cX9_takeOperand 116 = .ok (.imul, 1) := by decide +kernel
theorem dX9_takeOperand_117 : decode cX9_takeOperand 117 = .ok (.iconst 2, 1) := by decide +kernel
theorem dX9_takeOperand_118 : decode cX9_takeOperand 118 = .ok (.iadd, 1) := by decide +kernel
theorem dX9_takeOperand_119 : decode cX9_takeOperand 119 = .ok (.iaload, 1) := by decide +kernel
theorem dX9_takeOperand_120 : decode cX9_takeOperand 120 = .ok (.iconst 1, 1) := by decide +kernel
theorem dX9_takeOperand_121 : decode cX9_takeOperand 121 = .ok (.if_icmp .ne 7, 3) := by decide +kernel
theorem dX9_takeOperand_124 : decode cX9_takeOperand 124 = .ok (.iconst 1, 1) := by decide +kernel
theorem dX9_takeOperand_125 : decode cX9_takeOperand 125 = .ok (.goto 4, 3) := by decide +kernel
theorem dX9_takeOperand_128 : decode cX9_takeOperand 128 = .ok (.iconst 0, 1) := by decide +kernel
theorem dX9_takeOperand_129 : decode cX9_takeOperand 129 = .ok (.putfield 115, 3) := by decide +kernel
theorem dX9_takeOperand_132 : decode cX9_takeOperand 132 = .ok (.aload_n 0, 1) := by decide +kernel
theorem dX9_takeOperand_133 : decode cX9_takeOperand 133 = .ok (.bipush 17, 2) := by decide +kernel
theorem dX9_takeOperand_135 : decode cX9_takeOperand 135 = .ok (.iload_n 1, 1) := by decide +kernel
theorem dX9_takeOperand_136 : decode cX9_takeOperand 136 = .ok (.invokevirtual 131, 3) := by decide +kernel
theorem dX9_takeOperand_139 : decode cX9_takeOperand 139 = .ok (.goto 114, 3) := by decide +kernel
theorem dX9_takeOperand_142 : decode cX9_takeOperand 142 = .ok (.aload_n 0, 1) := by decide +kernel
theorem dX9_takeOperand_143 : decode cX9_takeOperand 143 = .ok (.getfield 73, 3) := by decide +kernel
theorem dX9_takeOperand_146 : decode cX9_takeOperand 146 = .ok (.iconst 3, 1) := by decide +kernel
theorem dX9_takeOperand_147 : decode cX9_takeOperand 147 = .ok (.if_icmp .ne 10, 3) := by decide +kernel
theorem dX9_takeOperand_150 : decode cX9_takeOperand 150 = .ok (.aload_n 0, 1) := by decide +kernel
theorem dX9_takeOperand_151 : decode cX9_takeOperand 151 = .ok (.invokevirtual 138, 3) := by decide +kernel
theorem dX9_takeOperand_154 : decode cX9_takeOperand 154 = .ok (.goto 99, 3) := by decide +kernel
