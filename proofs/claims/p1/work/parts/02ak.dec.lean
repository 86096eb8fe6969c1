theorem dX15_read_484 : decode cX15_read 484 = .ok (.iload_n 1, 1) := by decide +kernel
theorem dX15_read_485 : decode cX15_read 485 = .ok (.ireturn, 1) := by decide +kernel
theorem dX15_compile_0 : decode cX15_compile 0 = .ok (.iconst 0, 1) := by decide +kernel
theorem dX15_compile_1 : decode cX15_compile 1 = .ok (.istore 4, 2) := by decide +kernel
theorem dX15_compile_3 : decode cX15_compile 3 = .ok (.iload 4, 2) := by decide +kernel
theorem dX15_compile_5 : decode cX15_compile 5 = .ok (.iload_n 3, 1) := by decide +kernel
theorem dX15_compile_6 : decode cX15_compile 6 = .ok (.if_icmp .ge 54, 3) := by decide +kernel
theorem dX15_compile_60 : decode cX15_compile 60 = .ok (.aload_n 0, 1) := by decide +kernel
theorem dX15_compile_61 : decode cX15_compile 61 = .ok (.iload_n 3, 1) := by decide +kernel
theorem dX15_compile_62 : decode cX15_compile 62 = .ok (.putfield 65, 3) := by decide +kernel
theorem dX15_compile_65 : decode cX15_compile 65 = .ok (.aload_n 0, 1) := by decide +kernel
theorem dX15_compile_66 : decode cX15_compile 66 = .ok (.invokevirtual 157, 3) := by decide +kernel
theorem dX15_compile_69 : decode cX15_compile 69 = .ok (.pop, 1) := by decide +kernel
theorem dX15_compile_70 : decode cX15_compile 70 = .ok (.aload_n 0, 1) := by decide +kernel
theorem dX15_compile_71 : decode cX15_compile 71 = .ok (.getfield 125, 3) := by decide +kernel
theorem dX15_compile_74 : decode cX15_compile 74 = .ok (.ifCond .le 8, 3) := by decide +kernel
theorem dX15_compile_77 : decode cX15_compile 77 = .ok (.aload_n 0, 1) := by decide +kernel
theorem dX15_compile_78 : decode cX15_compile 78 = .ok (.getfield 125, 3) := by decide +kernel
theorem dX15_compile_81 : decode cX15_compile 81 = .ok (.ireturn, 1) := by decide +kernel
theorem dX15_drop_0 : decode cX15_drop 0 = .ok (.aload_n 0, 1) := by decide +kernel
theorem dX15_drop_1 : decode cX15_drop 1 = .ok (.getfield 13, 3) := by decide +kernel
theorem dX15_drop_4 : decode cX15_drop 4 = .ok (.iload_n 1, 1) := by decide +kernel
theorem dX15_drop_5 : decode cX15_drop 5 = .ok (.baload, 1) := by decide +kernel
theorem dX15_drop_6 : decode cX15_drop 6 = .ok (.istore_n 2, 1) := by decide +kernel
theorem dX15_drop_7 : decode cX15_drop 7 = .ok (.aload_n 0, 1) := by decide +kernel
theorem dX15_drop_8 : decode cX15_drop 8 = .ok (.getfield 13, 3) := by decide +kernel
theorem dX15_drop_11 : decode cX15_drop 11 = .ok (.iload_n 1, 1) := by decide +kernel
theorem dX15_drop_12 : decode cX15_drop 12 = .ok (.iconst 0, 1) := by decide +kernel
theorem dX15_drop_13 : decode cX15_drop 13 = .ok (.bastore, 1) := by decide +kernel
theorem dX15_drop_14 : decode cX15_drop 14 = .ok (.iload_n 2, 1) := by decide +kernel
theorem dX15_drop_15 : decode cX15_drop 15 = .ok (.ireturn, 1) := by decide +kernel
theorem dX15_size_0 : decode cX15_size 0 = .ok (.iconst 0, 1) := by decide +kernel
theorem dX15_size_1 : decode cX15_size 1 = .ok (.istore_n 1, 1) := by decide +kernel
theorem dX15_size_2 : decode cX15_size 2 = .ok (.iconst 0, 1) := by decide +kernel
theorem dX15_size_3 : decode cX15_size 3 = .ok (.istore_n 2, 1) := by decide +kernel
theorem dX15_size_4 : decode cX15_size 4 = .ok (.iload_n 2, 1) := by decide +kernel
theorem dX15_size_5 : decode cX15_size 5 = .ok (.bipush 8, 2) := by decide +kernel
theorem dX15_size_7 : decode cX15_size 7 = .ok (.if_icmp .ge 26, 3) := by decide +kernel
theorem dX15_size_10 : decode cX15_size 10 = .ok (.aload_n 0, 1) := by decide +kernel
theorem dX15_size_11 : decode cX15_size 11 = .ok (.getfield 13, 3) := by decide +kernel
theorem dX15_size_14 : decode cX15_size 14 = .ok (.iload_n 2, 1) := by decide +kernel
theorem dX15_size_15 : decode cX15_size 15 = .ok (.baload, 1) := by decide +kernel
theorem dX15_size_16 : decode cX15_size 16 = .ok (.ifCond .eq 9, 3) := by decide +kernel
theorem dX15_size_25 : decode cX15_size 25 = .ok (.iload_n 1, 1) := by decide +kernel
theorem dX15_size_26 : decode cX15_size 26 = .ok (.istore_n 1, 1) := by decide +kernel
theorem dX15_size_27 : decode cX15_size 27 = .ok (.iinc 2 1, 3) := by decide +kernel
theorem dX15_size_30 : decode cX15_size 30 = .ok (.goto (-26), 3) := by decide +kernel
theorem dX15_size_33 : decode cX15_size 33 = .ok (.iload_n 1, 1) := by decide +kernel
theorem dX15_size_34 : decode cX15_size 34 = .ok (.ireturn, 1) := by decide +kernel
theorem dX16_init_0 : decode cX16_init 0 = .ok (.aload_n 0, 1) := by decide +kernel
theorem dX16_init_1 : decode cX16_init 1 = .ok (.invokespecial 1, 3) := by decide +kernel
theorem dX16_init_4 : decode cX16_init 4 = .ok (.aload_n 0, 1) := by decide +kernel
theorem dX16_init_5 : decode cX16_init 5 = .ok (.bipush 16, 2) := by decide +kernel
theorem dX16_init_7 : decode cX16_init 7 = .ok (.newarray .int, 2) := by decide +kernel
theorem dX16_init_9 : decode cX16_init 9 = .ok (.putfield 9, 3) := by decide +kernel
theorem dX16_init_12 : decode cX16_init 12 = .ok (.aload_n 0, 1) := by decide +kernel
theorem dX16_init_13 : decode cX16_init 13 = .ok (.bipush 16, 2) := by decide +kernel
theorem dX16_init_15 : decode cX16_init 15 = .ok (.newarray .int, 2) := by decide +kernel
theorem dX16_init_17 : decode cX16_init 17 = .ok (.putfield 13, 3) := by decide +kernel
theorem dX16_init_20 : decode cX16_init 20 = .ok (.aload_n 0, 1) := by decide +kernel
theorem dX16_init_21 : decode cX16_init 21 = .ok (.bipush 16, 2) := by decide +kernel
theorem dX16_init_23 : decode cX16_init 23 = .ok (.newarray .int, 2) := by decide +kernel
theorem dX16_init_25 : decode cX16_init 25 = .ok (.putfield 16, 3) := by decide +kernel
theorem dX16_init_28 : decode cX16_init 28 = .ok (.aload_n 0, 1) := by decide +kernel
theorem dX16_init_29 : decode cX16_init 29 = .ok (.bipush 16, 2) := by decide +kernel
theorem dX16_init_31 : decode cX16_init 31 = .ok (.newarray .int, 2) := by decide +kernel
theorem dX16_init_33 : decode cX16_init 33 = .ok (.putfield 19, 3) := by decide +kernel
theorem dX16_init_36 : decode cX16_init 36 = .ok (.aload_n 0, 1) := by decide +kernel
theorem dX16_init_37 : decode cX16_init 37 = .ok (.bipush 16, 2) := by decide +kernel
theorem dX16_init_39 : decode cX16_init 39 = .ok (.newarray .int, 2) := by decide +kernel
theorem dX16_init_41 : decode cX16_init 41 = .ok (.putfield 22, 3) := by decide +kernel
theorem dX16_init_44 : decode cX16_init 44 = .ok (.aload_n 0, 1) := by decide +kernel
theorem dX16_init_45 : decode cX16_init 45 = .ok (.bipush 16, 2) := by decide +kernel
theorem dX16_init_47 : decode cX16_init 47 = .ok (.newarray .int, 2) := by decide +kernel
theorem dX16_init_49 : decode cX16_init 49 = .ok (.putfield 25, 3) := by decide +kernel
theorem dX16_init_52 : decode cX16_init 52 = .ok (.aload_n 0, 1) := by decide +kernel
theorem dX16_init_53 : decode cX16_init 53 = .ok (.bipush 16, 2) := by decide +kernel
theorem dX16_init_55 : decode cX16_init 55 = .ok (.newarray .int, 2) := by decide +kernel
theorem dX16_init_57 : decode cX16_init 57 = .ok (.putfield 28, 3) := by decide +kernel
theorem dX16_init_60 : decode cX16_init 60 = .ok (.aload_n 0, 1) := by decide +kernel
theorem dX16_init_61 : decode cX16_init 61 = .ok (.bipush 16, 2) := by decide +kernel
theorem dX16_init_63 : decode cX16_init 63 = .ok (.newarray .int, 2) := by decide +kernel
theorem dX16_init_65 : decode cX16_init 65 = .ok (.putfield 31, 3) := by decide +kernel
theorem dX16_init_68 : decode cX16_init 68 = .ok (.aload_n 0, 1) := by decide +kernel
theorem dX16_init_69 : decode cX16_init 69 = .ok (.bipush 16, 2) := by decide +kernel
theorem dX16_init_71 : decode cX16_init 71 = .ok (.newarray .boolean, 2) := by decide +kernel
theorem dX16_init_73 : decode cX16_init 73 = .ok (.putfield 34, 3) := by decide +kernel
theorem dX16_init_76 : decode cX16_init 76 = .ok (.aload_n 0, 1) := by decide +kernel
theorem dX16_init_77 : decode cX16_init 77 = .ok (.bipush 16, 2) := by decide +kernel
theorem dX16_init_79 : decode cX16_init 79 = .ok (.newarray .long, 2) := by decide +kernel
theorem dX16_init_81 : decode cX16_init 81 = .ok (.putfield 38, 3) := by decide +kernel
theorem dX16_init_84 : decode cX16_init 84 = .ok (.aload_n 0, 1) := by decide +kernel
theorem dX16_init_85 : decode cX16_init 85 = .ok (.sipush 512, 3) := by decide +kernel
theorem dX16_init_88 : decode cX16_init 88 = .ok (.newarray .int, 2) := by decide +kernel
theorem dX16_init_90 : decode cX16_init 90 = .ok (.putfield 42, 3) := by decide +kernel
theorem dX16_init_93 : decode cX16_init 93 = .ok (.aload_n 0, 1) := by decide +kernel
theorem dX16_init_94 : decode cX16_init 94 = .ok (.bipush 16, 2) := by decide +kernel
theorem dX16_init_96 : decode cX16_init 96 = .ok (.newarray .int, 2) := by decide +kernel
theorem dX16_init_98 : decode cX16_init 98 = .ok (.putfield 45, 3) := by decide +kernel
theorem dX16_init_101 : decode cX16_init 101 = .ok (.aload_n 0, 1) := by decide +kernel
theorem dX16_init_102 : decode cX16_init 102 = .ok (.sipush 512, 3) := by decide +kernel
theorem dX16_init_105 : decode cX16_init 105 = .ok (.newarray .int, 2) := by decide +kernel
theorem dX16_init_107 : decode cX16_init 107 = .ok (.putfield 48, 3) := by decide +kernel
theorem dX16_init_110 : decode cX16_init 110 = .ok (.aload_n 0, 1) := by decide +kernel
theorem dX16_init_111 : decode cX16_init 111 = .ok (.bipush 16, 2) := by decide +kernel
theorem dX16_init_113 : decode cX16_init 113 = .ok (.newarray .int, 2) := by decide +kernel
theorem dX16_init_115 : decode cX16_init 115 = .ok (.putfield 51, 3) := by decide +kernel
theorem dX16_init_118 : decode cX16_init 118 = .ok (.aload_n 0, 1) := by decide +kernel
theorem dX16_init_119 : decode cX16_init 119 = .ok (.sipush 256, 3) := by decide +kernel
theorem dX16_init_122 : decode cX16_init 122 = .ok (.newarray .int, 2) := by decide +kernel
theorem dX16_init_124 : decode cX16_init 124 = .ok (.putfield 54, 3) := by decide +kernel
theorem dX16_init_127 : decode cX16_init 127 = .ok (.aload_n 0, 1) := by decide +kernel
theorem dX16_init_128 : decode cX16_init 128 = .ok (.sipush 256, 3) := by decide +kernel
theorem dX16_init_131 : decode cX16_init 131 = .ok (.newarray .int, 2) := by decide +kernel
theorem dX16_init_133 : decode cX16_init 133 = .ok (.putfield 57, 3) := by decide +kernel
theorem dX16_init_136 : decode cX16_init 136 = .ok (.aload_n 0, 1) := by decide +kernel
theorem dX16_init_137 : decode cX16_init 137 = .ok (.ldc 60, 2) := by decide +kernel
theorem dX16_init_139 : decode cX16_init 139 = .ok (.newarray .int, 2) := by decide +kernel
theorem dX16_init_141 : decode cX16_init 141 = .ok (.putfield 61, 3) := by decide +kernel
theorem dX16_init_144 : decode cX16_init 144 = .ok (.aload_n 0, 1) := by decide +kernel
theorem dX16_init_145 : decode cX16_init 145 = .ok (.sipush 1024, 3) := by decide +kernel
theorem dX16_init_148 : decode cX16_init 148 = .ok (.newarray .int, 2) := by decide +kernel
theorem dX16_init_150 : decode cX16_init 150 = .ok (.putfield 64, 3) := by decide +kernel
theorem dX16_init_153 : decode cX16_init 153 = .ok (.aload_n 0, 1) := by decide +kernel
theorem dX16_init_154 : decode cX16_init 154 = .ok (.sipush 1024, 3) := by decide +kernel
theorem dX16_init_157 : decode cX16_init 157 = .ok (.newarray .int, 2) := by decide +kernel
theorem dX16_init_159 : decode cX16_init 159 = .ok (.putfield 67, 3) := by decide +kernel
theorem dX16_init_162 : decode cX16_init 162 = .ok (.aload_n 0, 1) := by decide +kernel
theorem dX16_init_163 : decode cX16_init 163 = .ok (.sipush 1024, 3) := by decide +kernel
theorem dX16_init_166 : decode cX16_init 166 = .ok (.newarray .int, 2) := by decide +kernel
theorem dX16_init_168 : decode cX16_init 168 = .ok (.putfield 70, 3) := by decide +kernel
theorem dX16_init_171 : decode cX16_init 171 = .ok (.aload_n 0, 1) := by decide +kernel
theorem dX16_init_172 : decode cX16_init 172 = .ok (.bipush 48, 2) := by decide +kernel
theorem dX16_init_174 : decode cX16_init 174 = .ok (.newarray .int, 2) := by decide +kernel
theorem dX16_init_176 : decode cX16_init 176 = .ok (.putfield 73, 3) := by decide +kernel
theorem dX16_init_179 : decode cX16_init 179 = .ok (.aload_n 0, 1) := by decide +kernel
theorem dX16_init_180 : decode cX16_init 180 = .ok (.bipush 48, 2) := by decide +kernel
theorem dX16_init_182 : decode cX16_init 182 = .ok (.newarray .int, 2) := by decide +kernel
theorem dX16_init_184 : decode cX16_init 184 = .ok (.putfield 76, 3) := by decide +kernel
theorem dX16_init_187 : decode cX16_init 187 = .ok (.aload_n 0, 1) := by decide +kernel
theorem dX16_init_188 : decode cX16_init 188 = .ok (.bipush 48, 2) := by decide +kernel
theorem dX16_init_190 : decode cX16_init 190 = .ok (.newarray .int, 2) := by decide +kernel
theorem dX16_init_192 : decode cX16_init 192 = .ok (.putfield 79, 3) := by decide +kernel
theorem dX16_init_195 : decode cX16_init 195 = .ok (.aload_n 0, 1) := by decide +kernel
theorem dX16_init_196 : decode cX16_init 196 = .ok (.bipush 48, 2) := by decide +kernel
theorem dX16_init_198 : decode cX16_init 198 = .ok (.newarray .int, 2) := by decide +kernel
theorem dX16_init_200 : decode cX16_init 200 = .ok (.putfield 82, 3) := by decide +kernel
theorem dX16_init_203 : decode cX16_init 203 = .ok (.aload_n 0, 1) := by decide +kernel
theorem dX16_init_204 : decode cX16_init 204 = .ok (.bipush 8, 2) := by decide +kernel
theorem dX16_init_206 : decode cX16_init 206 = .ok (.newarray .boolean, 2) := by decide +kernel
theorem dX16_init_208 : decode cX16_init 208 = .ok (.putfield 85, 3) := by decide +kernel
theorem dX16_init_211 : decode cX16_init 211 = .ok (.aload_n 0, 1) := by decide +kernel
theorem dX16_init_212 : decode cX16_init 212 = .ok (.bipush 16, 2) := by decide +kernel
theorem dX16_init_214 : decode cX16_init 214 = .ok (.newarray .boolean, 2) := by decide +kernel
theorem dX16_init_216 : decode cX16_init 216 = .ok (.putfield 88, 3) := by decide +kernel
theorem dX16_init_219 : decode cX16_init 219 = .ok (.aload_n 0, 1) := by decide +kernel
theorem dX16_init_220 : decode cX16_init 220 = .ok (.bipush 16, 2) := by decide +kernel
theorem dX16_init_222 : decode cX16_init 222 = .ok (.newarray .boolean, 2) := by decide +kernel
theorem dX16_init_224 : decode cX16_init 224 = .ok (.putfield 91, 3) := by decide +kernel
theorem dX16_init_227 : decode cX16_init 227 = .ok (.aload_n 0, 1) := by decide +kernel
theorem dX16_init_228 : decode cX16_init 228 = .ok (.bipush 8, 2) := by decide +kernel
theorem dX16_init_230 : decode cX16_init 230 = .ok (.newarray .int, 2) := by decide +kernel
theorem dX16_init_232 : decode cX16_init 232 = .ok (.putfield 94, 3) := by decide +kernel
theorem dX16_init_235 : decode cX16_init 235 = .ok (.aload_n 0, 1) := by decide +kernel
theorem dX16_init_236 : decode cX16_init 236 = .ok (.sipush 4096, 3) := by decide +kernel
theorem dX16_init_239 : decode cX16_init 239 = .ok (.newarray .int, 2) := by decide +kernel
theorem dX16_init_241 : decode cX16_init 241 = .ok (.putfield 97, 3) := by decide +kernel
theorem dX16_init_244 : decode cX16_init 244 = .ok (.aload_n 0, 1) := by decide +kernel
theorem dX16_init_245 : decode cX16_init 245 = .ok (.bipush 16, 2) := by decide +kernel
theorem dX16_init_247 : decode cX16_init 247 = .ok (.newarray .int, 2) := by decide +kernel
theorem dX16_init_249 : decode cX16_init 249 = .ok (.putfield 100, 3) := by decide +kernel
theorem dX16_init_252 : decode cX16_init 252 = .ok (.aload_n 0, 1) := by decide +kernel
theorem dX16_init_253 : decode cX16_init 253 = .ok (.sipush 8192, 3) := by decide +kernel
theorem dX16_init_256 : decode cX16_init 256 = .ok (.newarray .int, 2) := by decide +kernel
theorem dX16_init_258 : decode cX16_init 258 = .ok (.putfield 103, 3) := by decide +kernel
theorem dX16_init_261 : decode cX16_init 261 = .ok (.aload_n 0, 1) := by decide +kernel
theorem dX16_init_262 : decode cX16_init 262 = .ok (.sipush 256, 3) := by decide +kernel
theorem dX16_init_265 : decode cX16_init 265 = .ok (.newarray .int, 2) := by decide +kernel
theorem dX16_init_267 : decode cX16_init 267 = .ok (.putfield 106, 3) := by decide +kernel
theorem dX16_init_270 : decode cX16_init 270 = .ok (.aload_n 0, 1) := by decide +kernel
theorem dX16_init_271 : decode cX16_init 271 = .ok (.sipush 512, 3) := by decide +kernel
theorem dX16_init_274 : decode cX16_init 274 = .ok (.newarray .int, 2) := by decide +kernel
theorem dX16_init_276 : decode cX16_init 276 = .ok (.putfield 109, 3) := by decide +kernel
theorem dX16_init_279 : decode cX16_init 279 = .ok (.aload_n 0, 1) := by decide +kernel
theorem dX16_init_280 : decode cX16_init 280 = .ok (.sipush 2048, 3) := by decide +kernel
theorem dX16_init_283 : decode cX16_init 283 = .ok (.newarray .int, 2) := by decide +kernel
theorem dX16_init_285 : decode cX16_init 285 = .ok (.putfield 112, 3) := by decide +kernel
theorem dX16_init_288 : decode cX16_init 288 = .ok (.aload_n 0, 1) := by decide +kernel
theorem dX16_init_289 : decode cX16_init 289 = .ok (.bipush 16, 2) := by decide +kernel
theorem dX16_init_291 : decode cX16_init 291 = .ok (.newarray .int, 2) := by decide +kernel
theorem dX16_init_293 : decode cX16_init 293 = .ok (.putfield 115, 3) := by decide +kernel
theorem dX16_init_296 : decode cX16_init 296 = .ok (.aload_n 0, 1) := by decide +kernel
theorem dX16_init_297 : decode cX16_init 297 = .ok (.aload_n 1, 1) := by decide +kernel
theorem dX16_init_298 : decode cX16_init 298 = .ok (.putfield 118, 3) := by decide +kernel
theorem dX16_init_301 : decode cX16_init 301 = .ok (.return_, 1) := by decide +kernel
theorem dX17_init_0 : decode cX17_init 0 = .ok (.aload_n 0, 1) := by decide +kernel
theorem dX17_init_1 : decode cX17_init 1 = .ok (.invokespecial 1, 3) := by decide +kernel
theorem dX17_init_4 : decode cX17_init 4 = .ok (.aload_n 0, 1) := by decide +kernel
theorem dX17_init_5 : decode cX17_init 5 = .ok (.iconst 4, 1) := by decide +kernel
theorem dX17_init_6 : decode cX17_init 6 = .ok (.newarray .boolean, 2) := by decide +kernel
theorem dX17_init_8 : decode cX17_init 8 = .ok (.putfield 7, 3) := by decide +kernel
theorem dX17_init_11 : decode cX17_init 11 = .ok (.aload_n 0, 1) := by decide +kernel
theorem dX17_init_12 : decode cX17_init 12 = .ok (.iconst 4, 1) := by decide +kernel
theorem dX17_init_13 : decode cX17_init 13 = .ok (.newarray .int, 2) := by decide +kernel
theorem dX17_init_15 : decode cX17_init 15 = .ok (.putfield 13, 3) := by decide +kernel
theorem dX17_init_18 : decode cX17_init 18 = .ok (.aload_n 0, 1) := by decide +kernel
theorem dX17_init_19 : decode cX17_init 19 = .ok (.iconst 4, 1) := by decide +kernel
theorem dX17_init_20 : decode cX17_init 20 = .ok (.newarray .int, 2) := by decide +kernel
theorem dX17_init_22 : decode cX17_init 22 = .ok (.putfield 17, 3) := by decide +kernel
theorem dX17_init_25 : decode cX17_init 25 = .ok (.aload_n 0, 1) := by decide +kernel
theorem dX17_init_26 : decode cX17_init 26 = .ok (.iconst 4, 1) := by decide +kernel
theorem dX17_init_27 : decode cX17_init 27 = .ok (.newarray .int, 2) := by decide +kernel
theorem dX17_init_29 : decode cX17_init 29 = .ok (.putfield 20, 3) := by decide +kernel
theorem dX17_init_32 : decode cX17_init 32 = .ok (.aload_n 0, 1) := by decide +kernel
theorem dX17_init_33 : decode cX17_init 33 = .ok (.ldc 23, 2) := by decide +kernel
theorem dX17_init_35 : decode cX17_init 35 = .ok (.newarray .int, 2) := by decide +kernel
theorem dX17_init_37 : decode cX17_init 37 = .ok (.putfield 24, 3) := by decide +kernel
theorem dX17_init_40 : decode cX17_init 40 = .ok (.return_, 1) := by decide +kernel
theorem dX18_init_0 : decode cX18_init 0 = .ok (.aload_n 0, 1) := by decide +kernel
theorem dX18_init_1 : decode cX18_init 1 = .ok (.invokespecial 1, 3) := by decide +kernel
theorem dX18_init_4 : decode cX18_init 4 = .ok (.aload_n 0, 1) := by decide +kernel
theorem dX18_init_5 : decode cX18_init 5 = .ok (.bipush 64, 2) := by decide +kernel
theorem dX18_init_7 : decode cX18_init 7 = .ok (.newarray .char, 2) := by decide +kernel
theorem dX18_init_9 : decode cX18_init 9 = .ok (.putfield 7, 3) := by decide +kernel
theorem dX18_init_12 : decode cX18_init 12 = .ok (.aload_n 0, 1) := by decide +kernel
theorem dX18_init_13 : decode cX18_init 13 = .ok (.bipush 32, 2) := by decide +kernel
theorem dX18_init_15 : decode cX18_init 15 = .ok (.newarray .int, 2) := by decide +kernel
theorem dX18_init_17 : decode cX18_init 17 = .ok (.dup, 1) := by decide +kernel
theorem dX18_init_18 : decode cX18_init 18 = .ok (.iconst 0, 1) := by decide +kernel
theorem dX18_init_19 : decode cX18_init 19 = .ok (.ldc 13, 2) := by decide +kernel
theorem dX18_init_21 : decode cX18_init 21 = .ok (.iastore, 1) := by decide +kernel
theorem dX18_init_22 : decode cX18_init 22 = .ok (.dup, 1) := by decide +kernel
theorem dX18_init_23 : decode cX18_init 23 = .ok (.iconst 1, 1) := by decide +kernel
theorem dX18_init_24 : decode cX18_init 24 = .ok (.sipush 24946, 3) := by decide +kernel
theorem dX18_init_27 : decode cX18_init 27 = .ok (.iastore, 1) := by decide +kernel
theorem dX18_init_28 : decode cX18_init 28 = .ok (.dup, 1) := by decide +kernel
theorem dX18_init_29 : decode cX18_init 29 = .ok (.iconst 2, 1) := by decide +kernel
theorem dX18_init_30 : decode cX18_init 30 = .ok (.sipush 28787, 3) := by decide +kernel
theorem dX18_init_33 : decode cX18_init 33 = .ok (.iastore, 1) := by decide +kernel
theorem dX18_init_34 : decode cX18_init 34 = .ok (.dup, 1) := by decide +kernel
theorem dX18_init_35 : decode cX18_init 35 = .ok (.iconst 3, 1) := by decide +kernel
theorem dX18_init_36 : decode cX18_init 36 = .ok (.sipush 28775, 3) := by decide +kernel
theorem dX18_init_39 : decode cX18_init 39 = .ok (.iastore, 1) := by decide +kernel
theorem dX18_init_40 : decode cX18_init 40 = .ok (.dup, 1) := by decide +kernel
theorem dX18_init_41 : decode cX18_init 41 = .ok (.iconst 4, 1) := by decide +kernel
theorem dX18_init_42 : decode cX18_init 42 = .ok (.sipush 28788, 3) := by decide +kernel
theorem dX18_init_45 : decode cX18_init 45 = .ok (.iastore, 1) := by decide +kernel
theorem dX18_init_46 : decode cX18_init 46 = .ok (.dup, 1) := by decide +kernel
theorem dX18_init_47 : decode cX18_init 47 = .ok (.iconst 5, 1) := by decide +kernel
theorem dX18_init_48 : decode cX18_init 48 = .ok (.sipush 12404, 3) := by decide +kernel
theorem dX18_init_51 : decode cX18_init 51 = .ok (.iastore, 1) := by decide +kernel
theorem dX18_init_52 : decode cX18_init 52 = .ok (.dup, 1) := by decide +kernel
theorem dX18_init_53 : decode cX18_init 53 = .ok (.bipush 6, 2) := by decide +kernel
theorem dX18_init_55 : decode cX18_init 55 = .ok (.sipush 12660, 3) := by decide +kernel
theorem dX18_init_58 : decode cX18_init 58 = .ok (.iastore, 1) := by decide +kernel
theorem dX18_init_59 : decode cX18_init 59 = .ok (.dup, 1) := by decide +kernel
theorem dX18_init_60 : decode cX18_init 60 = .ok (.bipush 7, 2) := by decide +kernel
theorem dX18_init_62 : decode cX18_init 62 = .ok (.sipush 12916, 3) := by decide +kernel
theorem dX18_init_65 : decode cX18_init 65 = .ok (.iastore, 1) := by decide +kernel
theorem dX18_init_66 : decode cX18_init 66 = .ok (.dup, 1) := by decide +kernel
theorem dX18_init_67 : decode cX18_init 67 = .ok (.bipush 8, 2) := by decide +kernel
theorem dX18_init_69 : decode cX18_init 69 = .ok (.sipush 12403, 3) := by decide +kernel
theorem dX18_init_72 : decode cX18_init 72 = .ok (.iastore, 1) := by decide +kernel
theorem dX18_init_73 : decode cX18_init 73 = .ok (.dup, 1) := by decide +kernel
theorem dX18_init_74 : decode cX18_init 74 = .ok (.bipush 9, 2) := by decide +kernel
theorem dX18_init_76 : decode cX18_init 76 = .ok (.sipush 12659, 3) := by decide +kernel
theorem dX18_init_79 : decode cX18_init 79 = .ok (.iastore, 1) := by decide +kernel
theorem dX18_init_80 : decode cX18_init 80 = .ok (.dup, 1) := by decide +kernel
theorem dX18_init_81 : decode cX18_init 81 = .ok (.bipush 10, 2) := by decide +kernel
theorem dX18_init_83 : decode cX18_init 83 = .ok (.sipush 12385, 3) := by decide +kernel
theorem dX18_init_86 : decode cX18_init 86 = .ok (.iastore, 1) := by decide +kernel
theorem dX18_init_87 : decode cX18_init 87 = .ok (.dup, 1) := by decide +kernel
theorem dX18_init_88 : decode cX18_init 88 = .ok (.bipush 11, 2) := by decide +kernel
theorem dX18_init_90 : decode cX18_init 90 = .ok (.sipush 12641, 3) := by decide +kernel
theorem dX18_init_93 : decode cX18_init 93 = .ok (.iastore, 1) := by decide +kernel
theorem dX18_init_94 : decode cX18_init 94 = .ok (.dup, 1) := by decide +kernel
theorem dX18_init_95 : decode cX18_init 95 = .ok (.bipush 12, 2) := by decide +kernel
theorem dX18_init_97 : decode cX18_init 97 = .ok (.sipush 12897, 3) := by decide +kernel
theorem dX18_init_100 : decode cX18_init 100 = .ok (.iastore, 1) := by decide +kernel
theorem dX18_init_101 : decode cX18_init 101 = .ok (.dup, 1) := by decide +kernel
theorem dX18_init_102 : decode cX18_init 102 = .ok (.bipush 13, 2) := by decide +kernel
theorem dX18_init_104 : decode cX18_init 104 = .ok (.sipush 13153, 3) := by decide +kernel
theorem dX18_init_107 : decode cX18_init 107 = .ok (.iastore, 1) := by decide +kernel
theorem dX18_init_108 : decode cX18_init 108 = .ok (.dup, 1) := by decide +kernel
theorem dX18_init_109 : decode cX18_init 109 = .ok (.bipush 14, 2) := by decide +kernel
theorem dX18_init_111 : decode cX18_init 111 = .ok (.sipush 13409, 3) := by decide +kernel
theorem dX18_init_114 : decode cX18_init 114 = .ok (.iastore, 1) := by decide +kernel
theorem dX18_init_115 : decode cX18_init 115 = .ok (.dup, 1) := by decide +kernel
theorem dX18_init_116 : decode cX18_init 116 = .ok (.bipush 15, 2) := by decide +kernel
theorem dX18_init_118 : decode cX18_init 118 = .ok (.sipush 13665, 3) := by decide +kernel
theorem dX18_init_121 : decode cX18_init 121 = .ok (.iastore, 1) := by decide +kernel
theorem dX18_init_122 : decode cX18_init 122 = .ok (.dup, 1) := by decide +kernel
theorem dX18_init_123 : decode cX18_init 123 = .ok (.bipush 16, 2) := by decide +kernel
theorem dX18_init_125 : decode cX18_init 125 = .ok (.sipush 13921, 3) := by decide +kernel
theorem dX18_init_128 : decode cX18_init 128 = .ok (.iastore, 1) := by decide +kernel
theorem dX18_init_129 : decode cX18_init 129 = .ok (.dup, 1) := by decide +kernel
theorem dX18_init_130 : decode cX18_init 130 = .ok (.bipush 17, 2) := by decide +kernel
theorem dX18_init_132 : decode cX18_init 132 = .ok (.sipush 14177, 3) := by decide +kernel
theorem dX18_init_135 : decode cX18_init 135 = .ok (.iastore, 1) := by decide +kernel
theorem dX18_init_136 : decode cX18_init 136 = .ok (.dup, 1) := by decide +kernel
theorem dX18_init_137 : decode cX18_init 137 = .ok (.bipush 18, 2) := by decide +kernel
theorem dX18_init_139 : decode cX18_init 139 = .ok (.sipush 12915, 3) := by decide +kernel
theorem dX18_init_142 : decode cX18_init 142 = .ok (.iastore, 1) := by decide +kernel
theorem dX18_init_143 : decode cX18_init 143 = .ok (.dup, 1) := by decide +kernel
theorem dX18_init_144 : decode cX18_init 144 = .ok (.bipush 19, 2) := by decide +kernel
theorem dX18_init_146 : decode cX18_init 146 = .ok (.sipush 13171, 3) := by decide +kernel
theorem dX18_init_149 : decode cX18_init 149 = .ok (.iastore, 1) := by decide +kernel
theorem dX18_init_150 : decode cX18_init 150 = .ok (.dup, 1) := by decide +kernel
theorem dX18_init_151 : decode cX18_init 151 = .ok (.bipush 20, 2) := by decide +kernel
theorem dX18_init_153 : decode cX18_init 153 = .ok (.sipush 13427, 3) := by decide +kernel
theorem dX18_init_156 : decode cX18_init 156 = .ok (.iastore, 1) := by decide +kernel
theorem dX18_init_157 : decode cX18_init 157 = .ok (.dup, 1) := by decide +kernel
theorem dX18_init_158 : decode cX18_init 158 = .ok (.bipush 21, 2) := by decide +kernel
theorem dX18_init_160 : decode cX18_init 160 = .ok (.sipush 13683, 3) := by decide +kernel
theorem dX18_init_163 : decode cX18_init 163 = .ok (.iastore, 1) := by decide +kernel
theorem dX18_init_164 : decode cX18_init 164 = .ok (.dup, 1) := by decide +kernel
theorem dX18_init_165 : decode cX18_init 165 = .ok (.bipush 22, 2) := by decide +kernel
theorem dX18_init_167 : decode cX18_init 167 = .ok (.sipush 13939, 3) := by decide +kernel
theorem dX18_init_170 : decode cX18_init 170 = .ok (.iastore, 1) := by decide +kernel
theorem dX18_init_171 : decode cX18_init 171 = .ok (.dup, 1) := by decide +kernel
theorem dX18_init_172 : decode cX18_init 172 = .ok (.bipush 23, 2) := by decide +kernel
theorem dX18_init_174 : decode cX18_init 174 = .ok (.sipush 14195, 3) := by decide +kernel
theorem dX18_init_177 : decode cX18_init 177 = .ok (.iastore, 1) := by decide +kernel
theorem dX18_init_178 : decode cX18_init 178 = .ok (.dup, 1) := by decide +kernel
theorem dX18_init_179 : decode cX18_init 179 = .ok (.bipush 24, 2) := by decide +kernel
theorem dX18_init_181 : decode cX18_init 181 = .ok (.sipush 14451, 3) := by decide +kernel
theorem dX18_init_184 : decode cX18_init 184 = .ok (.iastore, 1) := by decide +kernel
theorem dX18_init_185 : decode cX18_init 185 = .ok (.dup, 1) := by decide +kernel
theorem dX18_init_186 : decode cX18_init 186 = .ok (.bipush 25, 2) := by decide +kernel
theorem dX18_init_188 : decode cX18_init 188 = .ok (.sipush 14707, 3) := by decide +kernel
theorem dX18_init_191 : decode cX18_init 191 = .ok (.iastore, 1) := by decide +kernel
theorem dX18_init_192 : decode cX18_init 192 = .ok (.dup, 1) := by decide +kernel
theorem dX18_init_193 : decode cX18_init 193 = .ok (.bipush 26, 2) := by decide +kernel
theorem dX18_init_195 : decode cX18_init 195 = .ok (.ldc 14, 2) := by decide +kernel
theorem dX18_init_197 : decode cX18_init 197 = .ok (.iastore, 1) := by decide +kernel
theorem dX18_init_198 : decode cX18_init 198 = .ok (.dup, 1) := by decide +kernel
theorem dX18_init_199 : decode cX18_init 199 = .ok (.bipush 27, 2) := by decide +kernel
theorem dX18_init_201 : decode cX18_init 201 = .ok (.ldc 15, 2) := by decide +kernel
theorem dX18_init_203 : decode cX18_init 203 = .ok (.iastore, 1) := by decide +kernel
theorem dX18_init_204 : decode cX18_init 204 = .ok (.dup, 1) := by decide +kernel
theorem dX18_init_205 : decode cX18_init 205 = .ok (.bipush 28, 2) := by decide +kernel
theorem dX18_init_207 : decode cX18_init 207 = .ok (.sipush 13172, 3) := by decide +kernel
theorem dX18_init_210 : decode cX18_init 210 = .ok (.iastore, 1) := by decide +kernel
theorem dX18_init_211 : decode cX18_init 211 = .ok (.dup, 1) := by decide +kernel
theorem dX18_init_212 : decode cX18_init 212 = .ok (.bipush 29, 2) := by decide +kernel
theorem dX18_init_214 : decode cX18_init 214 = .ok (.sipush 13428, 3) := by decide +kernel
theorem dX18_init_217 : decode cX18_init 217 = .ok (.iastore, 1) := by decide +kernel
theorem dX18_init_218 : decode cX18_init 218 = .ok (.dup, 1) := by decide +kernel
theorem dX18_init_219 : decode cX18_init 219 = .ok (.bipush 30, 2) := by decide +kernel
theorem dX18_init_221 : decode cX18_init 221 = .ok (.sipush 13684, 3) := by decide +kernel
