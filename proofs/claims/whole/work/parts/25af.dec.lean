theorem dX9_readNumber_137 : decode cX9_readNumber 137 = .ok (.bipush 16, 2) := by decide +kernel
theorem dX9_readNumber_139 : decode cX9_readNumber 139 = .ok (.goto 14, 3) := by decide +kernel
theorem dX9_readNumber_142 : decode cX9_readNumber 142 = .ok (.iload 4, 2) := by decide +kernel
theorem dX9_readNumber_144 : decode cX9_readNumber 144 = .ok (.ifCond .eq 7, 3) := by decide +kernel
theorem dX9_readNumber_147 : decode cX9_readNumber 147 = .ok (.iconst 2, 1) := by decide +kernel
theorem dX9_readNumber_148 : decode cX9_readNumber 148 = .ok (.goto 5, 3) := by decide +kernel
theorem dX9_readNumber_151 : decode cX9_readNumber 151 = .ok (.bipush 10, 2) := by decide +kernel
theorem dX9_readNumber_153 : decode cX9_readNumber 153 = .ok (.istore 5, 2) := by decide +kernel
theorem dX9_readNumber_155 : decode cX9_readNumber 155 = .ok (.lconst 0, 1) := by decide +kernel
theorem dX9_readNumber_156 : decode cX9_readNumber 156 = .ok (.lstore 6, 2) := by decide +kernel
theorem dX9_readNumber_158 : decode cX9_readNumber 158 = .ok (.aload_n 0, 1) := by decide +kernel
theorem dX9_readNumber_159 : decode cX9_readNumber 159 = .ok (.iconst 2, 1) := by decide +kernel
theorem dX9_readNumber_160 : decode cX9_readNumber 160 = .ok (.putfield 73, 3) := by decide +kernel
theorem dX9_readNumber_163 : decode cX9_readNumber 163 = .ok (.iload_n 3, 1) := by decide +kernel
theorem dX9_readNumber_164 : decode cX9_readNumber 164 = .ok (.ifCond .ne 8, 3) := by decide +kernel
theorem dX9_readNumber_167 : decode cX9_readNumber 167 = .ok (.iload 4, 2) := by decide +kernel
theorem dX9_readNumber_169 : decode cX9_readNumber 169 = .ok (.ifCond .eq 12, 3) := by decide +kernel
theorem dX9_readNumber_172 : decode cX9_readNumber 172 = .ok (.aload_n 0, 1) := by decide +kernel
theorem dX9_readNumber_173 : decode cX9_readNumber 173 = .ok (.getfield 70, 3) := by decide +kernel
theorem dX9_readNumber_176 : decode cX9_readNumber 176 = .ok (.iconst 2, 1) := by decide +kernel
theorem dX9_readNumber_177 : decode cX9_readNumber 177 = .ok (.iadd, 1) := by decide +kernel
theorem dX9_readNumber_178 : decode cX9_readNumber 178 = .ok (.goto 7, 3) := by decide +kernel
theorem dX9_readNumber_181 : decode cX9_readNumber 181 = .ok (.aload_n 0, 1) := by decide +kernel
theorem dX9_readNumber_182 : decode cX9_readNumber 182 = .ok (.getfield 70, 3) := by decide +kernel
theorem dX9_readNumber_185 : decode cX9_readNumber 185 = .ok (.istore 8, 2) := by decide +kernel
theorem dX9_readNumber_187 : decode cX9_readNumber 187 = .ok (.iload 8, 2) := by decide +kernel
theorem dX9_readNumber_189 : decode cX9_readNumber 189 = .ok (.aload_n 0, 1) := by decide +kernel
theorem dX9_readNumber_190 : decode cX9_readNumber 190 = .ok (.getfield 55, 3) := by decide +kernel
theorem dX9_readNumber_193 : decode cX9_readNumber 193 = .ok (.if_icmp .ge 108, 3) := by decide +kernel
theorem dX9_readNumber_196 : decode cX9_readNumber 196 = .ok (.aload_n 0, 1) := by decide +kernel
theorem dX9_readNumber_197 : decode cX9_readNumber 197 = .ok (.getfield 9, 3) := by decide +kernel
theorem dX9_readNumber_200 : decode cX9_readNumber 200 = .ok (.iload 8, 2) := by decide +kernel
theorem dX9_readNumber_202 : decode cX9_readNumber 202 = .ok (.baload, 1) := by decide +kernel
theorem dX9_readNumber_203 : decode cX9_readNumber 203 = .ok (.istore 9, 2) := by decide +kernel
theorem dX9_readNumber_205 : decode cX9_readNumber 205 = .ok (.iload 9, 2) := by decide +kernel
theorem dX9_readNumber_207 : decode cX9_readNumber 207 = .ok (.bipush 48, 2) := by decide +kernel
theorem dX9_readNumber_209 : decode cX9_readNumber 209 = .ok (.isub, 1) := by decide +kernel
theorem dX9_readNumber_210 : decode cX9_readNumber 210 = .ok (.istore 10, 2) := by decide +kernel
theorem dX9_readNumber_212 : decode cX9_readNumber 212 = .ok (.iload 9, 2) := by decide +kernel
theorem dX9_readNumber_214 : decode cX9_readNumber 214 = .ok (.bipush 57, 2) := by decide +kernel
theorem dX9_readNumber_216 : decode cX9_readNumber 216 = .ok (.if_icmp .le 39, 3) := by decide +kernel
theorem dX9_readNumber_219 : decode cX9_readNumber 219 = .ok (.iload 9, 2) := by decide +kernel
theorem dX9_readNumber_221 : decode cX9_readNumber 221 = .ok (.bipush 32, 2) := by decide +kernel
theorem dX9_readNumber_223 : decode cX9_readNumber 223 = .ok (.ior, 1) := by decide +kernel
theorem dX9_readNumber_224 : decode cX9_readNumber 224 = .ok (.istore 11, 2) := by decide +kernel
theorem dX9_readNumber_226 : decode cX9_readNumber 226 = .ok (.iload 11, 2) := by decide +kernel
theorem dX9_readNumber_228 : decode cX9_readNumber 228 = .ok (.bipush 97, 2) := by decide +kernel
theorem dX9_readNumber_230 : decode cX9_readNumber 230 = .ok (.if_icmp .lt 21, 3) := by decide +kernel
theorem dX9_readNumber_233 : decode cX9_readNumber 233 = .ok (.iload 11, 2) := by decide +kernel
theorem dX9_readNumber_235 : decode cX9_readNumber 235 = .ok (.bipush 102, 2) := by decide +kernel
theorem dX9_readNumber_237 : decode cX9_readNumber 237 = .ok (.if_icmp .gt 14, 3) := by decide +kernel
theorem dX9_readNumber_240 : decode cX9_readNumber 240 = .ok (.iload 11, 2) := by decide +kernel
theorem dX9_readNumber_242 : decode cX9_readNumber 242 = .ok (.bipush 97, 2) := by decide +kernel
theorem dX9_readNumber_244 : decode cX9_readNumber 244 = .ok (.isub, 1) := by decide +kernel
theorem dX9_readNumber_245 : decode cX9_readNumber 245 = .ok (.bipush 10, 2) := by decide +kernel
theorem dX9_readNumber_247 : decode cX9_readNumber 247 = .ok (.iadd, 1) := by decide +kernel
theorem dX9_readNumber_248 : decode cX9_readNumber 248 = .ok (.goto 5, 3) := by decide +kernel
theorem dX9_readNumber_251 : decode cX9_readNumber 251 = .ok (.iload 5, 2) := by decide +kernel
theorem dX9_readNumber_253 : decode cX9_readNumber 253 = .ok (.istore 10, 2) := by decide +kernel
theorem dX9_readNumber_255 : decode cX9_readNumber 255 = .ok (.lload 6, 2) := by decide +kernel
theorem dX9_readNumber_257 : decode cX9_readNumber 257 = .ok (.iload 5, 2) := by decide +kernel
theorem dX9_readNumber_259 : decode cX9_readNumber 259 = .ok (.i2l, 1) := by decide +kernel
theorem dX9_readNumber_260 : decode cX9_readNumber 260 = .ok (.lmul, 1) := by decide +kernel
theorem dX9_readNumber_261 : decode cX9_readNumber 261 = .ok (.iload 10, 2) := by decide +kernel
theorem dX9_readNumber_263 : decode cX9_readNumber 263 = .ok (.i2l, 1) := by decide +kernel
theorem dX9_readNumber_264 : decode cX9_readNumber 264 = .ok (.ladd, 1) := by decide +kernel
theorem dX9_readNumber_265 : decode cX9_readNumber 265 = .ok (.lstore 6, 2) := by decide +kernel
theorem dX9_readNumber_267 : decode cX9_readNumber 267 = .ok (.iload 10, 2) := by decide +kernel
theorem dX9_readNumber_269 : decode cX9_readNumber 269 = .ok (.ifCond .lt 19, 3) := by decide +kernel
theorem dX9_readNumber_272 : decode cX9_readNumber 272 = .ok (.iload 10, 2) := by decide +kernel
theorem dX9_readNumber_274 : decode cX9_readNumber 274 = .ok (.iload 5, 2) := by decide +kernel
theorem dX9_readNumber_276 : decode cX9_readNumber 276 = .ok (.if_icmp .ge 12, 3) := by decide +kernel
theorem dX9_readNumber_279 : decode cX9_readNumber 279 = .ok (.lload 6, 2) := by decide +kernel
theorem dX9_readNumber_281 : decode cX9_readNumber 281 = .ok (.ldc2_w 96, 3) := by decide +kernel
theorem dX9_readNumber_284 : decode cX9_readNumber 284 = .ok (.lcmp, 1) := by decide +kernel
theorem dX9_readNumber_285 : decode cX9_readNumber 285 = .ok (.ifCond .le 10, 3) := by decide +kernel
theorem dX9_readNumber_288 : decode cX9_readNumber 288 = .ok (.aload_n 0, 1) := by decide +kernel
theorem dX9_readNumber_289 : decode cX9_readNumber 289 = .ok (.bipush 6, 2) := by decide +kernel
theorem dX9_readNumber_291 : decode cX9_readNumber 291 = .ok (.putfield 73, 3) := by decide +kernel
theorem dX9_readNumber_294 : decode cX9_readNumber 294 = .ok (.return_, 1) := by decide +kernel
theorem dX9_readNumber_295 : decode cX9_readNumber 295 = .ok (.iinc 8 1, 3) := by decide +kernel
theorem dX9_readNumber_298 : decode cX9_readNumber 298 = .ok (.goto (-111), 3) := by decide +kernel
theorem dX9_readNumber_301 : decode cX9_readNumber 301 = .ok (.aload_n 0, 1) := by decide +kernel
theorem dX9_readNumber_302 : decode cX9_readNumber 302 = .ok (.lload 6, 2) := by decide +kernel
theorem dX9_readNumber_304 : decode cX9_readNumber 304 = .ok (.l2i, 1) := by decide +kernel
theorem dX9_readNumber_305 : decode cX9_readNumber 305 = .ok (.putfield 93, 3) := by decide +kernel
theorem dX9_readNumber_308 : decode cX9_readNumber 308 = .ok (.return_, 1) := by decide +kernel
theorem dX9_character_0 : decode cX9_character 0 = .ok (.iload_n 1, 1) := by decide +kernel
theorem dX9_character_1 : decode cX9_character 1 = .ok (.ifCond .lt 11, 3) := by decide +kernel
theorem dX9_character_4 : decode cX9_character 4 = .ok (.iload_n 1, 1) := by decide +kernel
theorem dX9_character_5 : decode cX9_character 5 = .ok (.aload_n 0, 1) := by decide +kernel
theorem dX9_character_6 : decode cX9_character 6 = .ok (.getfield 64, 3) := by decide +kernel
theorem dX9_character_9 : decode cX9_character 9 = .ok (.if_icmp .lt 5, 3) := by decide +kernel
theorem dX9_character_12 : decode cX9_character 12 = .ok (.iconst (-1), 1) := by decide +kernel
theorem dX9_character_13 : decode cX9_character 13 = .ok (.ireturn, 1) := by decide +kernel
theorem dX9_character_14 : decode cX9_character 14 = .ok (.aload_n 0, 1) := by decide +kernel
theorem dX9_character_15 : decode cX9_character 15 = .ok (.getfield 9, 3) := by decide +kernel
theorem dX9_character_18 : decode cX9_character 18 = .ok (.iload_n 1, 1) := by decide +kernel
theorem dX9_character_19 : decode cX9_character 19 = .ok (.baload, 1) := by decide +kernel
theorem dX9_character_20 : decode cX9_character 20 = .ok (.istore_n 3, 1) := by decide +kernel
theorem dX9_character_21 : decode cX9_character 21 = .ok (.iload_n 3, 1) := by decide +kernel
theorem dX9_character_22 : decode cX9_character 22 = .ok (.bipush 92, 2) := by decide +kernel
theorem dX9_character_24 : decode cX9_character 24 = .ok (.if_icmp .eq 14, 3) := by decide +kernel
theorem dX9_character_27 : decode cX9_character 27 = .ok (.iload_n 3, 1) := by decide +kernel
theorem dX9_character_28 : decode cX9_character 28 = .ok (.iload_n 2, 1) := by decide +kernel
theorem dX9_character_29 : decode cX9_character 29 = .ok (.if_icmp .ne 7, 3) := by decide +kernel
theorem dX9_character_32 : decode cX9_character 32 = .ok (.iconst (-1), 1) := by decide +kernel
theorem dX9_character_33 : decode cX9_character 33 = .ok (.goto 4, 3) := by decide +kernel
theorem dX9_character_36 : decode cX9_character 36 = .ok (.iload_n 3, 1) := by decide +kernel
theorem dX9_character_37 : decode cX9_character 37 = .ok (.ireturn, 1) := by decide +kernel
theorem dX9_character_38 : decode cX9_character 38 = .ok (.iload_n 1, 1) := by decide +kernel
theorem dX9_character_39 : decode cX9_character 39 = .ok (.iconst 1, 1) := by decide +kernel
theorem dX9_character_40 : decode cX9_character 40 = .ok (.iadd, 1) := by decide +kernel
theorem dX9_character_41 : decode cX9_character 41 = .ok (.aload_n 0, 1) := by decide +kernel
theorem dX9_character_42 : decode cX9_character 42 = .ok (.getfield 64, 3) := by decide +kernel
theorem dX9_character_45 : decode cX9_character 45 = .ok (.if_icmp .ge 14, 3) := by decide +kernel
theorem dX9_character_48 : decode cX9_character 48 = .ok (.aload_n 0, 1) := by decide +kernel
theorem dX9_character_49 : decode cX9_character 49 = .ok (.getfield 9, 3) := by decide +kernel
theorem dX9_character_52 : decode cX9_character 52 = .ok (.iload_n 1, 1) := by decide +kernel
theorem dX9_character_53 : decode cX9_character 53 = .ok (.iconst 1, 1) := by decide +kernel
theorem dX9_character_54 : decode cX9_character 54 = .ok (.iadd, 1) := by decide +kernel
theorem dX9_character_55 : decode cX9_character 55 = .ok (.baload, 1) := by decide +kernel
theorem dX9_character_56 : decode cX9_character 56 = .ok (.goto 4, 3) := by decide +kernel
theorem dX9_character_59 : decode cX9_character 59 = .ok (.iconst 0, 1) := by decide +kernel
theorem dX9_character_60 : decode cX9_character 60 = .ok (.istore 4, 2) := by decide +kernel
theorem dX9_character_62 : decode cX9_character 62 = .ok (.iload 4, 2) := by decide +kernel
theorem dX9_character_64 : decode cX9_character 64 = .ok (.lookupswitch 71 #[(34, 68), (39, 68), (48, 66), (92, 68), (110, 60), (116, 63)], 60) := by decide +kernel
theorem dX9_character_124 : decode cX9_character 124 = .ok (.bipush 10, 2) := by decide +kernel
theorem dX9_character_126 : decode cX9_character 126 = .ok (.ireturn, 1) := by decide +kernel
theorem dX9_character_127 : decode cX9_character 127 = .ok (.bipush 9, 2) := by decide +kernel
theorem dX9_character_129 : decode cX9_character 129 = .ok (.ireturn, 1) := by decide +kernel
theorem dX9_character_130 : decode cX9_character 130 = .ok (.iconst 0, 1) := by decide +kernel
theorem dX9_character_131 : decode cX9_character 131 = .ok (.ireturn, 1) := by decide +kernel
theorem dX9_character_132 : decode cX9_character 132 = .ok (.iload 4, 2) := by decide +kernel
theorem dX9_character_134 : decode cX9_character 134 = .ok (.ireturn, 1) := by decide +kernel
theorem dX9_character_135 : decode cX9_character 135 = .ok (.iconst (-1), 1) := by decide +kernel
theorem dX9_character_136 : decode cX9_character 136 = .ok (.ireturn, 1) := by decide +kernel
theorem dX9_width_0 : decode cX9_width 0 = .ok (.iload_n 1, 1) := by decide +kernel
theorem dX9_width_1 : decode cX9_width 1 = .ok (.ifCond .lt 26, 3) := by decide +kernel
theorem dX9_width_4 : decode cX9_width 4 = .ok (.iload_n 1, 1) := by decide +kernel
theorem dX9_width_5 : decode cX9_width 5 = .ok (.aload_n 0, 1) := by decide +kernel
theorem dX9_width_6 : decode cX9_width 6 = .ok (.getfield 64, 3) := by decide +kernel
theorem dX9_width_9 : decode cX9_width 9 = .ok (.if_icmp .ge 18, 3) := by decide +kernel
theorem dX9_width_12 : decode cX9_width 12 = .ok (.aload_n 0, 1) := by decide +kernel
theorem dX9_width_13 : decode cX9_width 13 = .ok (.getfield 9, 3) := by decide +kernel
theorem dX9_width_16 : decode cX9_width 16 = .ok (.iload_n 1, 1) := by decide +kernel
theorem dX9_width_17 : decode cX9_width 17 = .ok (.baload, 1) := by decide +kernel
theorem dX9_width_18 : decode cX9_width 18 = .ok (.bipush 92, 2) := by decide +kernel
theorem dX9_width_20 : decode cX9_width 20 = .ok (.if_icmp .ne 7, 3) := by decide +kernel
theorem dX9_width_23 : decode cX9_width 23 = .ok (.iconst 2, 1) := by decide +kernel
theorem dX9_width_24 : decode cX9_width 24 = .ok (.goto 4, 3) := by decide +kernel
theorem dX9_width_27 : decode cX9_width 27 = .ok (.iconst 1, 1) := by decide +kernel
theorem dX9_width_28 : decode cX9_width 28 = .ok (.ireturn, 1) := by decide +kernel
theorem dX9_readCharacter_0 : decode cX9_readCharacter 0 = .ok (.aload_n 0, 1) := by decide +kernel
theorem dX9_readCharacter_1 : decode cX9_readCharacter 1 = .ok (.aload_n 0, 1) := by decide +kernel
theorem dX9_readCharacter_2 : decode cX9_readCharacter 2 = .ok (.getfield 70, 3) := by decide +kernel
theorem dX9_readCharacter_5 : decode cX9_readCharacter 5 = .ok (.iconst 1, 1) := by decide +kernel
theorem dX9_readCharacter_6 : decode cX9_readCharacter 6 = .ok (.iadd, 1) := by decide +kernel
theorem dX9_readCharacter_7 : decode cX9_readCharacter 7 = .ok (.bipush 39, 2) := by decide +kernel
theorem dX9_readCharacter_9 : decode cX9_readCharacter 9 = .ok (.invokevirtual 98, 3) := by decide +kernel
theorem dX9_readCharacter_12 : decode cX9_readCharacter 12 = .ok (.istore_n 1, 1) := by decide +kernel
theorem dX9_readCharacter_13 : decode cX9_readCharacter 13 = .ok (.aload_n 0, 1) := by decide +kernel
theorem dX9_readCharacter_14 : decode cX9_readCharacter 14 = .ok (.getfield 70, 3) := by decide +kernel
theorem dX9_readCharacter_17 : decode cX9_readCharacter 17 = .ok (.iconst 1, 1) := by decide +kernel
theorem dX9_readCharacter_18 : decode cX9_readCharacter 18 = .ok (.iadd, 1) := by decide +kernel
theorem dX9_readCharacter_19 : decode cX9_readCharacter 19 = .ok (.aload_n 0, 1) := by decide +kernel
theorem dX9_readCharacter_20 : decode cX9_readCharacter 20 = .ok (.aload_n 0, 1) := by decide +kernel
theorem dX9_readCharacter_21 : decode cX9_readCharacter 21 = .ok (.getfield 70, 3) := by decide +kernel
theorem dX9_readCharacter_24 : decode cX9_readCharacter 24 = .ok (.iconst 1, 1) := by decide +kernel
theorem dX9_readCharacter_25 : decode cX9_readCharacter 25 = .ok (.iadd, 1) := by decide +kernel
theorem dX9_readCharacter_26 : decode cX9_readCharacter 26 = .ok (.invokevirtual 101, 3) := by decide +kernel
theorem dX9_readCharacter_29 : decode cX9_readCharacter 29 = .ok (.iadd, 1) := by decide +kernel
theorem dX9_readCharacter_30 : decode cX9_readCharacter 30 = .ok (.istore_n 2, 1) := by decide +kernel
theorem dX9_readCharacter_31 : decode cX9_readCharacter 31 = .ok (.iload_n 2, 1) := by decide +kernel
theorem dX9_readCharacter_32 : decode cX9_readCharacter 32 = .ok (.aload_n 0, 1) := by decide +kernel
theorem dX9_readCharacter_33 : decode cX9_readCharacter 33 = .ok (.getfield 64, 3) := by decide +kernel
theorem dX9_readCharacter_36 : decode cX9_readCharacter 36 = .ok (.if_icmp .ge 18, 3) := by decide +kernel
theorem dX9_readCharacter_39 : decode cX9_readCharacter 39 = .ok (.aload_n 0, 1) := by decide +kernel
theorem dX9_readCharacter_40 : decode cX9_readCharacter 40 = .ok (.getfield 9, 3) := by decide +kernel
theorem dX9_readCharacter_43 : decode cX9_readCharacter 43 = .ok (.iload_n 2, 1) := by decide +kernel
theorem dX9_readCharacter_44 : decode cX9_readCharacter 44 = .ok (.baload, 1) := by decide +kernel
theorem dX9_readCharacter_45 : decode cX9_readCharacter 45 = .ok (.bipush 39, 2) := by decide +kernel
theorem dX9_readCharacter_47 : decode cX9_readCharacter 47 = .ok (.if_icmp .ne 7, 3) := by decide +kernel
theorem dX9_readCharacter_50 : decode cX9_readCharacter 50 = .ok (.iconst 1, 1) := by decide +kernel
theorem dX9_readCharacter_51 : decode cX9_readCharacter 51 = .ok (.goto 4, 3) := by decide +kernel
theorem dX9_readCharacter_54 : decode cX9_readCharacter 54 = .ok (.iconst 0, 1) := by decide +kernel
theorem dX9_readCharacter_55 : decode cX9_readCharacter 55 = .ok (.istore_n 3, 1) := by decide +kernel
theorem dX9_readCharacter_56 : decode cX9_readCharacter 56 = .ok (.iload_n 2, 1) := by decide +kernel
theorem dX9_readCharacter_57 : decode cX9_readCharacter 57 = .ok (.iconst 1, 1) := by decide +kernel
theorem dX9_readCharacter_58 : decode cX9_readCharacter 58 = .ok (.iadd, 1) := by decide +kernel
theorem dX9_readCharacter_59 : decode cX9_readCharacter 59 = .ok (.aload_n 0, 1) := by decide +kernel
theorem dX9_readCharacter_60 : decode cX9_readCharacter 60 = .ok (.getfield 64, 3) := by decide +kernel
theorem dX9_readCharacter_63 : decode cX9_readCharacter 63 = .ok (.if_icmp .ge 17, 3) := by decide +kernel
theorem dX9_readCharacter_66 : decode cX9_readCharacter 66 = .ok (.aload_n 0, 1) := by decide +kernel
theorem dX9_readCharacter_67 : decode cX9_readCharacter 67 = .ok (.getfield 9, 3) := by decide +kernel
theorem dX9_readCharacter_70 : decode cX9_readCharacter 70 = .ok (.iload_n 2, 1) := by decide +kernel
theorem dX9_readCharacter_71 : decode cX9_readCharacter 71 = .ok (.iconst 1, 1) := by decide +kernel
theorem dX9_readCharacter_72 : decode cX9_readCharacter 72 = .ok (.iadd, 1) := by decide +kernel
theorem dX9_readCharacter_73 : decode cX9_readCharacter 73 = .ok (.baload, 1) := by decide +kernel
theorem dX9_readCharacter_74 : decode cX9_readCharacter 74 = .ok (.invokestatic 76, 3) := by decide +kernel
theorem dX9_readCharacter_77 : decode cX9_readCharacter 77 = .ok (.ifCond .ne 7, 3) := by decide +kernel
theorem dX9_readCharacter_80 : decode cX9_readCharacter 80 = .ok (.iconst 1, 1) := by decide +kernel
theorem dX9_readCharacter_81 : decode cX9_readCharacter 81 = .ok (.goto 4, 3) := by decide +kernel
theorem dX9_readCharacter_84 : decode cX9_readCharacter 84 = .ok (.iconst 0, 1) := by decide +kernel
theorem dX9_readCharacter_85 : decode cX9_readCharacter 85 = .ok (.istore 4, 2) := by decide +kernel
theorem dX9_readCharacter_87 : decode cX9_readCharacter 87 = .ok (.aload_n 0, 1) := by decide +kernel
theorem dX9_readCharacter_88 : decode cX9_readCharacter 88 = .ok (.iload_n 1, 1) := by decide +kernel
theorem dX9_readCharacter_89 : decode cX9_readCharacter 89 = .ok (.ifCond .lt 16, 3) := by decide +kernel
theorem dX9_readCharacter_92 : decode cX9_readCharacter 92 = .ok (.iload_n 3, 1) := by decide +kernel
theorem dX9_readCharacter_93 : decode cX9_readCharacter 93 = .ok (.ifCond .eq 12, 3) := by decide +kernel
theorem dX9_readCharacter_96 : decode cX9_readCharacter 96 = .ok (.iload 4, 2) := by decide +kernel
theorem dX9_readCharacter_98 : decode cX9_readCharacter 98 = .ok (.ifCond .eq 7, 3) := by decide +kernel
theorem dX9_readCharacter_101 : decode cX9_readCharacter 101 = .ok (.iconst 2, 1) := by decide +kernel
theorem dX9_readCharacter_102 : decode cX9_readCharacter 102 = .ok (.goto 5, 3) := by decide +kernel
theorem dX9_readCharacter_105 : decode cX9_readCharacter 105 = .ok (.bipush 6, 2) := by decide +kernel
theorem dX9_readCharacter_107 : decode cX9_readCharacter 107 = .ok (.putfield 73, 3) := by decide +kernel
theorem dX9_readCharacter_110 : decode cX9_readCharacter 110 = .ok (.aload_n 0, 1) := by decide +kernel
theorem dX9_readCharacter_111 : decode cX9_readCharacter 111 = .ok (.iload_n 1, 1) := by decide +kernel
theorem dX9_readCharacter_112 : decode cX9_readCharacter 112 = .ok (.putfield 93, 3) := by decide +kernel
theorem dX9_readCharacter_115 : decode cX9_readCharacter 115 = .ok (.aload_n 0, 1) := by decide +kernel
theorem dX9_readCharacter_116 : decode cX9_readCharacter 116 = .ok (.iload_n 2, 1) := by decide +kernel
theorem dX9_readCharacter_117 : decode cX9_readCharacter 117 = .ok (.iconst 1, 1) := by decide +kernel
theorem dX9_readCharacter_118 : decode cX9_readCharacter 118 = .ok (.iadd, 1) := by decide +kernel
theorem dX9_readCharacter_119 : decode cX9_readCharacter 119 = .ok (.aload_n 0, 1) := by decide +kernel
theorem dX9_readCharacter_120 : decode cX9_readCharacter 120 = .ok (.getfield 64, 3) := by decide +kernel
theorem dX9_readCharacter_123 : decode cX9_readCharacter 123 = .ok (.invokestatic 58, 3) := by decide +kernel
theorem dX9_readCharacter_126 : decode cX9_readCharacter 126 = .ok (.putfield 55, 3) := by decide +kernel
theorem dX9_readCharacter_129 : decode cX9_readCharacter 129 = .ok (.return_, 1) := by decide +kernel
theorem dX9_readText_0 : decode cX9_readText 0 = .ok (.aload_n 0, 1) := by decide +kernel
theorem dX9_readText_1 : decode cX9_readText 1 = .ok (.getfield 70, 3) := by decide +kernel
theorem dX9_readText_4 : decode cX9_readText 4 = .ok (.iconst 1, 1) := by decide +kernel
theorem dX9_readText_5 : decode cX9_readText 5 = .ok (.iadd, 1) := by decide +kernel
theorem dX9_readText_6 : decode cX9_readText 6 = .ok (.istore_n 1, 1) := by decide +kernel
theorem dX9_readText_7 : decode cX9_readText 7 = .ok (.iload_n 1, 1) := by decide +kernel
theorem dX9_readText_8 : decode cX9_readText 8 = .ok (.aload_n 0, 1) := by decide +kernel
theorem dX9_readText_9 : decode cX9_readText 9 = .ok (.getfield 64, 3) := by decide +kernel
theorem dX9_readText_12 : decode cX9_readText 12 = .ok (.if_icmp .ge 24, 3) := by decide +kernel
theorem dX9_readText_15 : decode cX9_readText 15 = .ok (.aload_n 0, 1) := by decide +kernel
theorem dX9_readText_16 : decode cX9_readText 16 = .ok (.iload_n 1, 1) := by decide +kernel
theorem dX9_readText_17 : decode cX9_readText 17 = .ok (.bipush 34, 2) := by decide +kernel
theorem dX9_readText_19 : decode cX9_readText 19 = .ok (.invokevirtual 98, 3) := by decide +kernel
theorem dX9_readText_22 : decode cX9_readText 22 = .ok (.ifCond .lt 14, 3) := by decide +kernel
theorem dX9_readText_25 : decode cX9_readText 25 = .ok (.iload_n 1, 1) := by decide +kernel
theorem dX9_readText_26 : decode cX9_readText 26 = .ok (.aload_n 0, 1) := by decide +kernel
theorem dX9_readText_27 : decode cX9_readText 27 = .ok (.iload_n 1, 1) := by decide +kernel
theorem dX9_readText_28 : decode cX9_readText 28 = .ok (.invokevirtual 101, 3) := by decide +kernel
theorem dX9_readText_31 : decode cX9_readText 31 = .ok (.iadd, 1) := by decide +kernel
theorem dX9_readText_32 : decode cX9_readText 32 = .ok (.istore_n 1, 1) := by decide +kernel
theorem dX9_readText_33 : decode cX9_readText 33 = .ok (.goto (-26), 3) := by decide +kernel
theorem dX9_readText_36 : decode cX9_readText 36 = .ok (.aload_n 0, 1) := by decide +kernel
theorem dX9_readText_37 : decode cX9_readText 37 = .ok (.iload_n 1, 1) := by decide +kernel
theorem dX9_readText_38 : decode cX9_readText 38 = .ok (.aload_n 0, 1) := by decide +kernel
theorem dX9_readText_39 : decode cX9_readText 39 = .ok (.getfield 64, 3) := by decide +kernel
theorem dX9_readText_42 : decode cX9_readText 42 = .ok (.if_icmp .ge 18, 3) := by decide +kernel
theorem dX9_readText_45 : decode cX9_readText 45 = .ok (.aload_n 0, 1) := by decide +kernel
theorem dX9_readText_46 : decode cX9_readText 46 = .ok (.getfield 9, 3) := by decide +kernel
theorem dX9_readText_49 : decode cX9_readText 49 = .ok (.iload_n 1, 1) := by decide +kernel
theorem dX9_readText_50 : decode cX9_readText 50 = .ok (.baload, 1) := by decide +kernel
theorem dX9_readText_51 : decode cX9_readText 51 = .ok (.bipush 34, 2) := by decide +kernel
theorem dX9_readText_53 : decode cX9_readText 53 = .ok (.if_icmp .ne 7, 3) := by decide +kernel
theorem dX9_readText_56 : decode cX9_readText 56 = .ok (.iconst 4, 1) := by decide +kernel
theorem dX9_readText_57 : decode cX9_readText 57 = .ok (.goto 5, 3) := by decide +kernel
theorem dX9_readText_60 : decode cX9_readText 60 = .ok (.bipush 6, 2) := by decide +kernel
theorem dX9_readText_62 : decode cX9_readText 62 = .ok (.putfield 73, 3) := by decide +kernel
theorem dX9_readText_65 : decode cX9_readText 65 = .ok (.aload_n 0, 1) := by decide +kernel
theorem dX9_readText_66 : decode cX9_readText 66 = .ok (.iload_n 1, 1) := by decide +kernel
theorem dX9_readText_67 : decode cX9_readText 67 = .ok (.iconst 1, 1) := by decide +kernel
theorem dX9_readText_68 : decode cX9_readText 68 = .ok (.iadd, 1) := by decide +kernel
theorem dX9_readText_69 : decode cX9_readText 69 = .ok (.aload_n 0, 1) := by decide +kernel
theorem dX9_readText_70 : decode cX9_readText 70 = .ok (.getfield 64, 3) := by decide +kernel
theorem dX9_readText_73 : decode cX9_readText 73 = .ok (.invokestatic 58, 3) := by decide +kernel
theorem dX9_readText_76 : decode cX9_readText 76 = .ok (.putfield 55, 3) := by decide +kernel
theorem dX9_readText_79 : decode cX9_readText 79 = .ok (.return_, 1) := by decide +kernel
theorem dX9_isSign_0 : decode cX9_isSign 0 = .ok (.aload_n 0, 1) := by decide +kernel
theorem dX9_isSign_1 : decode cX9_isSign 1 = .ok (.getfield 73, 3) := by decide +kernel
theorem dX9_isSign_4 : decode cX9_isSign 4 = .ok (.iconst 5, 1) := by decide +kernel
theorem dX9_isSign_5 : decode cX9_isSign 5 = .ok (.if_icmp .ne 15, 3) := by decide +kernel
theorem dX9_isSign_8 : decode cX9_isSign 8 = .ok (.aload_n 0, 1) := by decide +kernel
theorem dX9_isSign_9 : decode cX9_isSign 9 = .ok (.getfield 93, 3) := by decide +kernel
theorem dX9_isSign_12 : decode cX9_isSign 12 = .ok (.iload_n 1, 1) := by decide +kernel
theorem dX9_isSign_13 : decode cX9_isSign 13 = .ok (.if_icmp .ne 7, 3) := by decide +kernel
theorem dX9_isSign_16 : decode cX9_isSign 16 = .ok (.iconst 1, 1) := by decide +kernel
theorem dX9_isSign_17 : decode cX9_isSign 17 = .ok (.goto 4, 3) := by decide +kernel
theorem dX9_isSign_20 : decode cX9_isSign 20 = .ok (.iconst 0, 1) := by decide +kernel
theorem dX9_isSign_21 : decode cX9_isSign 21 = .ok (.ireturn, 1) := by decide +kernel
theorem dX9_nameAt_0 : decode cX9_nameAt 0 = .ok (.iconst 0, 1) := by decide +kernel
theorem dX9_nameAt_1 : decode cX9_nameAt 1 = .ok (.istore_n 3, 1) := by decide +kernel
theorem dX9_nameAt_2 : decode cX9_nameAt 2 = .ok (.iconst 0, 1) := by decide +kernel
theorem dX9_nameAt_3 : decode cX9_nameAt 3 = .ok (.istore 4, 2) := by decide +kernel
theorem dX9_nameAt_5 : decode cX9_nameAt 5 = .ok (.iload 4, 2) := by decide +kernel
theorem dX9_nameAt_7 : decode cX9_nameAt 7 = .ok (.iload_n 2, 1) := by decide +kernel
theorem dX9_nameAt_8 : decode cX9_nameAt 8 = .ok (.if_icmp .ge 36, 3) := by decide +kernel
theorem dX9_nameAt_11 : decode cX9_nameAt 11 = .ok (.iload_n 1, 1) := by decide +kernel
theorem dX9_nameAt_12 : decode cX9_nameAt 12 = .ok (.iload 4, 2) := by decide +kernel
theorem dX9_nameAt_14 : decode cX9_nameAt 14 = .ok (.iadd, 1) := by decide +kernel
theorem dX9_nameAt_15 : decode cX9_nameAt 15 = .ok (.aload_n 0, 1) := by decide +kernel
theorem dX9_nameAt_16 : decode cX9_nameAt 16 = .ok (.getfield 9, 3) := by decide +kernel
theorem dX9_nameAt_19 : decode cX9_nameAt 19 = .ok (.arraylength, 1) := by decide +kernel
theorem dX9_nameAt_20 : decode cX9_nameAt 20 = .ok (.if_icmp .ge 24, 3) := by decide +kernel
theorem dX9_nameAt_23 : decode cX9_nameAt 23 = .ok (.iload_n 3, 1) := by decide +kernel
theorem dX9_nameAt_24 : decode cX9_nameAt 24 = .ok (.bipush 31, 2) := by decide +kernel
theorem dX9_nameAt_26 : decode cX9_nameAt 26 = .ok (.imul, 1) := by decide +kernel
theorem dX9_nameAt_27 : decode cX9_nameAt 27 = .ok (.aload_n 0, 1) := by decide +kernel
theorem dX9_nameAt_28 : decode cX9_nameAt 28 = .ok (.getfield 9, 3) := by decide +kernel
theorem dX9_nameAt_31 : decode cX9_nameAt 31 = .ok (.iload_n 1, 1) := by decide +kernel
theorem dX9_nameAt_32 : decode cX9_nameAt 32 = .ok (.iload 4, 2) := by decide +kernel
theorem dX9_nameAt_34 : decode cX9_nameAt 34 = .ok (.iadd, 1) := by decide +kernel
theorem dX9_nameAt_35 : decode cX9_nameAt 35 = .ok (.baload, 1) := by decide +kernel
theorem dX9_nameAt_36 : decode cX9_nameAt 36 = .ok (.iadd, 1) := by decide +kernel
theorem dX9_nameAt_37 : decode cX9_nameAt 37 = .ok (.istore_n 3, 1) := by decide +kernel
theorem dX9_nameAt_38 : decode cX9_nameAt 38 = .ok (.iinc 4 1, 3) := by decide +kernel
theorem dX9_nameAt_41 : decode cX9_nameAt 41 = .ok (.goto (-36), 3) := by decide +kernel
theorem dX9_nameAt_44 : decode cX9_nameAt 44 = .ok (.iload_n 3, 1) := by decide +kernel
theorem dX9_nameAt_45 : decode cX9_nameAt 45 = .ok (.iload_n 3, 1) := by decide +kernel
theorem dX9_nameAt_46 : decode cX9_nameAt 46 = .ok (.bipush 8, 2) := by decide +kernel
theorem dX9_nameAt_48 : decode cX9_nameAt 48 = .ok (.ishr, 1) := by decide +kernel
theorem dX9_nameAt_49 : decode cX9_nameAt 49 = .ok (.ixor, 1) := by decide +kernel
theorem dX9_nameAt_50 : decode cX9_nameAt 50 = .ok (.sipush 255, 3) := by decide +kernel
theorem dX9_nameAt_53 : decode cX9_nameAt 53 = .ok (.iand, 1) := by decide +kernel
theorem dX9_nameAt_54 : decode cX9_nameAt 54 = .ok (.istore_n 3, 1) := by decide +kernel
theorem dX9_nameAt_55 : decode cX9_nameAt 55 = .ok (.aload_n 0, 1) := by decide +kernel
theorem dX9_nameAt_56 : decode cX9_nameAt 56 = .ok (.getfield 30, 3) := by decide +kernel
theorem dX9_nameAt_59 : decode cX9_nameAt 59 = .ok (.iload_n 3, 1) := by decide +kernel
theorem dX9_nameAt_60 : decode cX9_nameAt 60 = .ok (.iaload, 1) := by decide +kernel
theorem dX9_nameAt_61 : decode cX9_nameAt 61 = .ok (.iconst 1, 1) := by decide +kernel
theorem dX9_nameAt_62 : decode cX9_nameAt 62 = .ok (.isub, 1) := by decide +kernel
theorem dX9_nameAt_63 : decode cX9_nameAt 63 = .ok (.istore 4, 2) := by decide +kernel
theorem dX9_nameAt_65 : decode cX9_nameAt 65 = .ok (.aload_n 0, 1) := by decide +kernel
theorem dX9_nameAt_66 : decode cX9_nameAt 66 = .ok (.getfield 43, 3) := by decide +kernel
theorem dX9_nameAt_69 : decode cX9_nameAt 69 = .ok (.istore 5, 2) := by decide +kernel
theorem dX9_nameAt_71 : decode cX9_nameAt 71 = .ok (.iload 5, 2) := by decide +kernel
theorem dX9_nameAt_73 : decode cX9_nameAt 73 = .ok (.ifCond .le 121, 3) := by decide +kernel
theorem dX9_nameAt_76 : decode cX9_nameAt 76 = .ok (.iload 4, 2) := by decide +kernel
theorem dX9_nameAt_78 : decode cX9_nameAt 78 = .ok (.ifCond .lt 116, 3) := by decide +kernel
theorem dX9_nameAt_81 : decode cX9_nameAt 81 = .ok (.aload_n 0, 1) := by decide +kernel
theorem dX9_nameAt_82 : decode cX9_nameAt 82 = .ok (.getfield 27, 3) := by decide +kernel
theorem dX9_nameAt_85 : decode cX9_nameAt 85 = .ok (.iload 4, 2) := by decide +kernel
theorem dX9_nameAt_87 : decode cX9_nameAt 87 = .ok (.iconst 5, 1) := by decide +kernel
theorem dX9_nameAt_88 : decode cX9_nameAt 88 = .ok (.imul, 1) := by decide +kernel
theorem dX9_nameAt_89 : decode cX9_nameAt 89 = .ok (.iconst 0, 1) := by decide +kernel
theorem dX9_nameAt_90 : decode cX9_nameAt 90 = .ok (.iadd, 1) := by decide +kernel
theorem dX9_nameAt_91 : decode cX9_nameAt 91 = .ok (.iaload, 1) := by decide +kernel
theorem dX9_nameAt_92 : decode cX9_nameAt 92 = .ok (.istore 6, 2) := by decide +kernel
theorem dX9_nameAt_94 : decode cX9_nameAt 94 = .ok (.aload_n 0, 1) := by decide +kernel
theorem dX9_nameAt_95 : decode cX9_nameAt 95 = .ok (.getfield 27, 3) := by decide +kernel
theorem dX9_nameAt_98 : decode cX9_nameAt 98 = .ok (.iload 4, 2) := by decide +kernel
theorem dX9_nameAt_100 : decode cX9_nameAt 100 = .ok (.iconst 5, 1) := by decide +kernel
theorem dX9_nameAt_101 : decode cX9_nameAt 101 = .ok (.imul, 1) := by decide +kernel
theorem dX9_nameAt_102 : decode cX9_nameAt 102 = .ok (.iconst 1, 1) := by decide +kernel
theorem dX9_nameAt_103 : decode cX9_nameAt 103 = .ok (.iadd, 1) := by decide +kernel
