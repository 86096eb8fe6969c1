theorem dX16_zero_78 : decode cX16_zero 78 = .ok (.iconst 1, 1) := by decide +kernel
theorem dX16_zero_79 : decode cX16_zero 79 = .ok (.iconst 3, 1) := by decide +kernel
theorem dX16_zero_80 : decode cX16_zero 80 = .ok (.invokestatic 300, 3) := by decide +kernel
theorem dX16_zero_83 : decode cX16_zero 83 = .ok (.ior, 1) := by decide +kernel
theorem dX16_zero_84 : decode cX16_zero 84 = .ok (.istore 5, 2) := by decide +kernel
theorem dX16_zero_86 : decode cX16_zero 86 = .ok (.iload_n 1, 1) := by decide +kernel
theorem dX16_zero_87 : decode cX16_zero 87 = .ok (.ifCond .ne 23, 3) := by decide +kernel
theorem dX16_zero_90 : decode cX16_zero 90 = .ok (.iload 5, 2) := by decide +kernel
theorem dX16_zero_92 : decode cX16_zero 92 = .ok (.ifCond .ne 7, 3) := by decide +kernel
theorem dX16_zero_95 : decode cX16_zero 95 = .ok (.iconst 0, 1) := by decide +kernel
theorem dX16_zero_96 : decode cX16_zero 96 = .ok (.goto 13, 3) := by decide +kernel
theorem dX16_zero_99 : decode cX16_zero 99 = .ok (.bipush 19, 2) := by decide +kernel
theorem dX16_zero_101 : decode cX16_zero 101 = .ok (.iconst 0, 1) := by decide +kernel
theorem dX16_zero_102 : decode cX16_zero 102 = .ok (.iload_n 2, 1) := by decide +kernel
theorem dX16_zero_103 : decode cX16_zero 103 = .ok (.iconst 2, 1) := by decide +kernel
theorem dX16_zero_104 : decode cX16_zero 104 = .ok (.iload 5, 2) := by decide +kernel
theorem dX16_zero_106 : decode cX16_zero 106 = .ok (.invokestatic 313, 3) := by decide +kernel
theorem dX16_zero_109 : decode cX16_zero 109 = .ok (.ireturn, 1) := by decide +kernel
theorem dX16_zero_110 : decode cX16_zero 110 = .ok (.iload_n 1, 1) := by decide +kernel
theorem dX16_zero_111 : decode cX16_zero 111 = .ok (.iconst 2, 1) := by decide +kernel
theorem dX16_zero_112 : decode cX16_zero 112 = .ok (.if_icmp .ne 15, 3) := by decide +kernel
theorem dX16_zero_115 : decode cX16_zero 115 = .ok (.iconst 3, 1) := by decide +kernel
theorem dX16_zero_116 : decode cX16_zero 116 = .ok (.iconst 2, 1) := by decide +kernel
theorem dX16_zero_117 : decode cX16_zero 117 = .ok (.iload_n 2, 1) := by decide +kernel
theorem dX16_zero_118 : decode cX16_zero 118 = .ok (.iload_n 3, 1) := by decide +kernel
theorem dX16_zero_119 : decode cX16_zero 119 = .ok (.iload 4, 2) := by decide +kernel
theorem dX16_zero_121 : decode cX16_zero 121 = .ok (.invokestatic 313, 3) := by decide +kernel
theorem dX16_zero_124 : decode cX16_zero 124 = .ok (.goto 20, 3) := by decide +kernel
theorem dX16_zero_127 : decode cX16_zero 127 = .ok (.iload_n 1, 1) := by decide +kernel
theorem dX16_zero_128 : decode cX16_zero 128 = .ok (.bipush 6, 2) := by decide +kernel
theorem dX16_zero_130 : decode cX16_zero 130 = .ok (.if_icmp .ne 13, 3) := by decide +kernel
theorem dX16_zero_133 : decode cX16_zero 133 = .ok (.iload_n 3, 1) := by decide +kernel
theorem dX16_zero_134 : decode cX16_zero 134 = .ok (.iload_n 2, 1) := by decide +kernel
theorem dX16_zero_135 : decode cX16_zero 135 = .ok (.iload 4, 2) := by decide +kernel
theorem dX16_zero_137 : decode cX16_zero 137 = .ok (.invokestatic 317, 3) := by decide +kernel
theorem dX16_zero_140 : decode cX16_zero 140 = .ok (.goto 4, 3) := by decide +kernel
theorem dX16_zero_143 : decode cX16_zero 143 = .ok (.iconst 0, 1) := by decide +kernel
theorem dX16_zero_144 : decode cX16_zero 144 = .ok (.ireturn, 1) := by decide +kernel
theorem dX16_one_0 : decode cX16_one 0 = .ok (.iload_n 0, 1) := by decide +kernel
theorem dX16_one_1 : decode cX16_one 1 = .ok (.bipush 7, 2) := by decide +kernel
theorem dX16_one_3 : decode cX16_one 3 = .ok (.iconst 5, 1) := by decide +kernel
theorem dX16_one_4 : decode cX16_one 4 = .ok (.invokestatic 297, 3) := by decide +kernel
theorem dX16_one_7 : decode cX16_one 7 = .ok (.istore_n 2, 1) := by decide +kernel
theorem dX16_one_8 : decode cX16_one 8 = .ok (.iload_n 0, 1) := by decide +kernel
theorem dX16_one_9 : decode cX16_one 9 = .ok (.bipush 12, 2) := by decide +kernel
theorem dX16_one_11 : decode cX16_one 11 = .ok (.iconst 1, 1) := by decide +kernel
theorem dX16_one_12 : decode cX16_one 12 = .ok (.iconst 5, 1) := by decide +kernel
theorem dX16_one_13 : decode cX16_one 13 = .ok (.invokestatic 300, 3) := by decide +kernel
theorem dX16_one_16 : decode cX16_one 16 = .ok (.iload_n 0, 1) := by decide +kernel
theorem dX16_one_17 : decode cX16_one 17 = .ok (.iconst 2, 1) := by decide +kernel
theorem dX16_one_18 : decode cX16_one 18 = .ok (.iconst 5, 1) := by decide +kernel
theorem dX16_one_19 : decode cX16_one 19 = .ok (.invokestatic 297, 3) := by decide +kernel
theorem dX16_one_22 : decode cX16_one 22 = .ok (.ior, 1) := by decide +kernel
theorem dX16_one_23 : decode cX16_one 23 = .ok (.bipush 6, 2) := by decide +kernel
theorem dX16_one_25 : decode cX16_one 25 = .ok (.invokestatic 320, 3) := by decide +kernel
theorem dX16_one_28 : decode cX16_one 28 = .ok (.istore_n 3, 1) := by decide +kernel
theorem dX16_one_29 : decode cX16_one 29 = .ok (.iload_n 0, 1) := by decide +kernel
theorem dX16_one_30 : decode cX16_one 30 = .ok (.bipush 12, 2) := by decide +kernel
theorem dX16_one_32 : decode cX16_one 32 = .ok (.iconst 1, 1) := by decide +kernel
theorem dX16_one_33 : decode cX16_one 33 = .ok (.bipush 11, 2) := by decide +kernel
theorem dX16_one_35 : decode cX16_one 35 = .ok (.invokestatic 300, 3) := by decide +kernel
theorem dX16_one_38 : decode cX16_one 38 = .ok (.iload_n 0, 1) := by decide +kernel
theorem dX16_one_39 : decode cX16_one 39 = .ok (.bipush 11, 2) := by decide +kernel
theorem dX16_one_41 : decode cX16_one 41 = .ok (.iconst 1, 1) := by decide +kernel
theorem dX16_one_42 : decode cX16_one 42 = .ok (.iconst 4, 1) := by decide +kernel
theorem dX16_one_43 : decode cX16_one 43 = .ok (.invokestatic 300, 3) := by decide +kernel
theorem dX16_one_46 : decode cX16_one 46 = .ok (.ior, 1) := by decide +kernel
theorem dX16_one_47 : decode cX16_one 47 = .ok (.iload_n 0, 1) := by decide +kernel
theorem dX16_one_48 : decode cX16_one 48 = .ok (.bipush 9, 2) := by decide +kernel
theorem dX16_one_50 : decode cX16_one 50 = .ok (.iconst 2, 1) := by decide +kernel
theorem dX16_one_51 : decode cX16_one 51 = .ok (.bipush 8, 2) := by decide +kernel
theorem dX16_one_53 : decode cX16_one 53 = .ok (.invokestatic 300, 3) := by decide +kernel
theorem dX16_one_56 : decode cX16_one 56 = .ok (.ior, 1) := by decide +kernel
theorem dX16_one_57 : decode cX16_one 57 = .ok (.iload_n 0, 1) := by decide +kernel
theorem dX16_one_58 : decode cX16_one 58 = .ok (.bipush 8, 2) := by decide +kernel
theorem dX16_one_60 : decode cX16_one 60 = .ok (.iconst 1, 1) := by decide +kernel
theorem dX16_one_61 : decode cX16_one 61 = .ok (.bipush 10, 2) := by decide +kernel
theorem dX16_one_63 : decode cX16_one 63 = .ok (.invokestatic 300, 3) := by decide +kernel
theorem dX16_one_66 : decode cX16_one 66 = .ok (.ior, 1) := by decide +kernel
theorem dX16_one_67 : decode cX16_one 67 = .ok (.iload_n 0, 1) := by decide +kernel
theorem dX16_one_68 : decode cX16_one 68 = .ok (.bipush 7, 2) := by decide +kernel
theorem dX16_one_70 : decode cX16_one 70 = .ok (.iconst 1, 1) := by decide +kernel
theorem dX16_one_71 : decode cX16_one 71 = .ok (.bipush 6, 2) := by decide +kernel
theorem dX16_one_73 : decode cX16_one 73 = .ok (.invokestatic 300, 3) := by decide +kernel
theorem dX16_one_76 : decode cX16_one 76 = .ok (.ior, 1) := by decide +kernel
theorem dX16_one_77 : decode cX16_one 77 = .ok (.iload_n 0, 1) := by decide +kernel
theorem dX16_one_78 : decode cX16_one 78 = .ok (.bipush 6, 2) := by decide +kernel
theorem dX16_one_80 : decode cX16_one 80 = .ok (.iconst 1, 1) := by decide +kernel
theorem dX16_one_81 : decode cX16_one 81 = .ok (.bipush 7, 2) := by decide +kernel
theorem dX16_one_83 : decode cX16_one 83 = .ok (.invokestatic 300, 3) := by decide +kernel
theorem dX16_one_86 : decode cX16_one 86 = .ok (.ior, 1) := by decide +kernel
theorem dX16_one_87 : decode cX16_one 87 = .ok (.iload_n 0, 1) := by decide +kernel
theorem dX16_one_88 : decode cX16_one 88 = .ok (.iconst 3, 1) := by decide +kernel
theorem dX16_one_89 : decode cX16_one 89 = .ok (.iconst 3, 1) := by decide +kernel
theorem dX16_one_90 : decode cX16_one 90 = .ok (.iconst 1, 1) := by decide +kernel
theorem dX16_one_91 : decode cX16_one 91 = .ok (.invokestatic 300, 3) := by decide +kernel
theorem dX16_one_94 : decode cX16_one 94 = .ok (.ior, 1) := by decide +kernel
theorem dX16_one_95 : decode cX16_one 95 = .ok (.iload_n 0, 1) := by decide +kernel
theorem dX16_one_96 : decode cX16_one 96 = .ok (.iconst 2, 1) := by decide +kernel
theorem dX16_one_97 : decode cX16_one 97 = .ok (.iconst 1, 1) := by decide +kernel
theorem dX16_one_98 : decode cX16_one 98 = .ok (.iconst 5, 1) := by decide +kernel
theorem dX16_one_99 : decode cX16_one 99 = .ok (.invokestatic 300, 3) := by decide +kernel
theorem dX16_one_102 : decode cX16_one 102 = .ok (.ior, 1) := by decide +kernel
theorem dX16_one_103 : decode cX16_one 103 = .ok (.bipush 12, 2) := by decide +kernel
theorem dX16_one_105 : decode cX16_one 105 = .ok (.invokestatic 320, 3) := by decide +kernel
theorem dX16_one_108 : decode cX16_one 108 = .ok (.istore 4, 2) := by decide +kernel
theorem dX16_one_110 : decode cX16_one 110 = .ok (.iload_n 0, 1) := by decide +kernel
theorem dX16_one_111 : decode cX16_one 111 = .ok (.bipush 12, 2) := by decide +kernel
theorem dX16_one_113 : decode cX16_one 113 = .ok (.iconst 1, 1) := by decide +kernel
theorem dX16_one_114 : decode cX16_one 114 = .ok (.bipush 8, 2) := by decide +kernel
theorem dX16_one_116 : decode cX16_one 116 = .ok (.invokestatic 300, 3) := by decide +kernel
theorem dX16_one_119 : decode cX16_one 119 = .ok (.iload_n 0, 1) := by decide +kernel
theorem dX16_one_120 : decode cX16_one 120 = .ok (.bipush 10, 2) := by decide +kernel
theorem dX16_one_122 : decode cX16_one 122 = .ok (.iconst 2, 1) := by decide +kernel
theorem dX16_one_123 : decode cX16_one 123 = .ok (.iconst 3, 1) := by decide +kernel
theorem dX16_one_124 : decode cX16_one 124 = .ok (.invokestatic 300, 3) := by decide +kernel
theorem dX16_one_127 : decode cX16_one 127 = .ok (.ior, 1) := by decide +kernel
theorem dX16_one_128 : decode cX16_one 128 = .ok (.iload_n 0, 1) := by decide +kernel
theorem dX16_one_129 : decode cX16_one 129 = .ok (.iconst 5, 1) := by decide +kernel
theorem dX16_one_130 : decode cX16_one 130 = .ok (.iconst 2, 1) := by decide +kernel
theorem dX16_one_131 : decode cX16_one 131 = .ok (.bipush 6, 2) := by decide +kernel
theorem dX16_one_133 : decode cX16_one 133 = .ok (.invokestatic 300, 3) := by decide +kernel
theorem dX16_one_136 : decode cX16_one 136 = .ok (.ior, 1) := by decide +kernel
theorem dX16_one_137 : decode cX16_one 137 = .ok (.iload_n 0, 1) := by decide +kernel
theorem dX16_one_138 : decode cX16_one 138 = .ok (.iconst 3, 1) := by decide +kernel
theorem dX16_one_139 : decode cX16_one 139 = .ok (.iconst 2, 1) := by decide +kernel
theorem dX16_one_140 : decode cX16_one 140 = .ok (.iconst 1, 1) := by decide +kernel
theorem dX16_one_141 : decode cX16_one 141 = .ok (.invokestatic 300, 3) := by decide +kernel
theorem dX16_one_144 : decode cX16_one 144 = .ok (.ior, 1) := by decide +kernel
theorem dX16_one_145 : decode cX16_one 145 = .ok (.iload_n 0, 1) := by decide +kernel
theorem dX16_one_146 : decode cX16_one 146 = .ok (.iconst 2, 1) := by decide +kernel
theorem dX16_one_147 : decode cX16_one 147 = .ok (.iconst 1, 1) := by decide +kernel
theorem dX16_one_148 : decode cX16_one 148 = .ok (.iconst 5, 1) := by decide +kernel
theorem dX16_one_149 : decode cX16_one 149 = .ok (.invokestatic 300, 3) := by decide +kernel
theorem dX16_one_152 : decode cX16_one 152 = .ok (.ior, 1) := by decide +kernel
theorem dX16_one_153 : decode cX16_one 153 = .ok (.bipush 9, 2) := by decide +kernel
theorem dX16_one_155 : decode cX16_one 155 = .ok (.invokestatic 320, 3) := by decide +kernel
theorem dX16_one_158 : decode cX16_one 158 = .ok (.istore 5, 2) := by decide +kernel
theorem dX16_one_160 : decode cX16_one 160 = .ok (.iload_n 0, 1) := by decide +kernel
theorem dX16_one_161 : decode cX16_one 161 = .ok (.bipush 12, 2) := by decide +kernel
theorem dX16_one_163 : decode cX16_one 163 = .ok (.iconst 1, 1) := by decide +kernel
theorem dX16_one_164 : decode cX16_one 164 = .ok (.bipush 9, 2) := by decide +kernel
theorem dX16_one_166 : decode cX16_one 166 = .ok (.invokestatic 300, 3) := by decide +kernel
theorem dX16_one_169 : decode cX16_one 169 = .ok (.iload_n 0, 1) := by decide +kernel
theorem dX16_one_170 : decode cX16_one 170 = .ok (.bipush 6, 2) := by decide +kernel
theorem dX16_one_172 : decode cX16_one 172 = .ok (.iconst 1, 1) := by decide +kernel
theorem dX16_one_173 : decode cX16_one 173 = .ok (.iconst 4, 1) := by decide +kernel
theorem dX16_one_174 : decode cX16_one 174 = .ok (.invokestatic 300, 3) := by decide +kernel
theorem dX16_one_177 : decode cX16_one 177 = .ok (.ior, 1) := by decide +kernel
theorem dX16_one_178 : decode cX16_one 178 = .ok (.iload_n 0, 1) := by decide +kernel
theorem dX16_one_179 : decode cX16_one 179 = .ok (.iconst 5, 1) := by decide +kernel
theorem dX16_one_180 : decode cX16_one 180 = .ok (.iconst 1, 1) := by decide +kernel
theorem dX16_one_181 : decode cX16_one 181 = .ok (.bipush 6, 2) := by decide +kernel
theorem dX16_one_183 : decode cX16_one 183 = .ok (.invokestatic 300, 3) := by decide +kernel
theorem dX16_one_186 : decode cX16_one 186 = .ok (.ior, 1) := by decide +kernel
theorem dX16_one_187 : decode cX16_one 187 = .ok (.iload_n 0, 1) := by decide +kernel
theorem dX16_one_188 : decode cX16_one 188 = .ok (.iconst 3, 1) := by decide +kernel
theorem dX16_one_189 : decode cX16_one 189 = .ok (.iconst 2, 1) := by decide +kernel
theorem dX16_one_190 : decode cX16_one 190 = .ok (.bipush 7, 2) := by decide +kernel
theorem dX16_one_192 : decode cX16_one 192 = .ok (.invokestatic 300, 3) := by decide +kernel
theorem dX16_one_195 : decode cX16_one 195 = .ok (.ior, 1) := by decide +kernel
theorem dX16_one_196 : decode cX16_one 196 = .ok (.iload_n 0, 1) := by decide +kernel
theorem dX16_one_197 : decode cX16_one 197 = .ok (.iconst 2, 1) := by decide +kernel
theorem dX16_one_198 : decode cX16_one 198 = .ok (.iconst 1, 1) := by decide +kernel
theorem dX16_one_199 : decode cX16_one 199 = .ok (.iconst 5, 1) := by decide +kernel
theorem dX16_one_200 : decode cX16_one 200 = .ok (.invokestatic 300, 3) := by decide +kernel
theorem dX16_one_203 : decode cX16_one 203 = .ok (.ior, 1) := by decide +kernel
theorem dX16_one_204 : decode cX16_one 204 = .ok (.bipush 10, 2) := by decide +kernel
theorem dX16_one_206 : decode cX16_one 206 = .ok (.invokestatic 320, 3) := by decide +kernel
theorem dX16_one_209 : decode cX16_one 209 = .ok (.istore 6, 2) := by decide +kernel
theorem dX16_one_211 : decode cX16_one 211 = .ok (.iload_n 1, 1) := by decide +kernel
theorem dX16_one_212 : decode cX16_one 212 = .ok (.tableswitch 128 0 5 #[40, 50, 57, 67, 115, 121], 40) := by decide +kernel
theorem dX16_one_252 : decode cX16_one 252 = .ok (.bipush 19, 2) := by decide +kernel
theorem dX16_one_254 : decode cX16_one 254 = .ok (.iconst 0, 1) := by decide +kernel
theorem dX16_one_255 : decode cX16_one 255 = .ok (.iload_n 2, 1) := by decide +kernel
theorem dX16_one_256 : decode cX16_one 256 = .ok (.iload_n 2, 1) := by decide +kernel
theorem dX16_one_257 : decode cX16_one 257 = .ok (.iload_n 3, 1) := by decide +kernel
theorem dX16_one_258 : decode cX16_one 258 = .ok (.invokestatic 313, 3) := by decide +kernel
theorem dX16_one_261 : decode cX16_one 261 = .ok (.ireturn, 1) := by decide +kernel
theorem dX16_one_262 : decode cX16_one 262 = .ok (.iconst 1, 1) := by decide +kernel
theorem dX16_one_263 : decode cX16_one 263 = .ok (.iload 4, 2) := by decide +kernel
theorem dX16_one_265 : decode cX16_one 265 = .ok (.invokestatic 323, 3) := by decide +kernel
theorem dX16_one_268 : decode cX16_one 268 = .ok (.ireturn, 1) := by decide +kernel
theorem dX16_one_269 : decode cX16_one 269 = .ok (.bipush 19, 2) := by decide +kernel
theorem dX16_one_271 : decode cX16_one 271 = .ok (.iconst 0, 1) := by decide +kernel
theorem dX16_one_272 : decode cX16_one 272 = .ok (.iload_n 2, 1) := by decide +kernel
theorem dX16_one_273 : decode cX16_one 273 = .ok (.iconst 0, 1) := by decide +kernel
theorem dX16_one_274 : decode cX16_one 274 = .ok (.iload_n 3, 1) := by decide +kernel
theorem dX16_one_275 : decode cX16_one 275 = .ok (.invokestatic 313, 3) := by decide +kernel
theorem dX16_one_278 : decode cX16_one 278 = .ok (.ireturn, 1) := by decide +kernel
theorem dX16_one_279 : decode cX16_one 279 = .ok (.iload_n 2, 1) := by decide +kernel
theorem dX16_one_280 : decode cX16_one 280 = .ok (.iconst 2, 1) := by decide +kernel
theorem dX16_one_281 : decode cX16_one 281 = .ok (.if_icmp .ne 25, 3) := by decide +kernel
theorem dX16_one_284 : decode cX16_one 284 = .ok (.iload 6, 2) := by decide +kernel
theorem dX16_one_286 : decode cX16_one 286 = .ok (.ifCond .ne 7, 3) := by decide +kernel
theorem dX16_one_289 : decode cX16_one 289 = .ok (.iconst 0, 1) := by decide +kernel
theorem dX16_one_290 : decode cX16_one 290 = .ok (.goto 36, 3) := by decide +kernel
theorem dX16_one_293 : decode cX16_one 293 = .ok (.bipush 19, 2) := by decide +kernel
theorem dX16_one_295 : decode cX16_one 295 = .ok (.iconst 0, 1) := by decide +kernel
theorem dX16_one_296 : decode cX16_one 296 = .ok (.iconst 2, 1) := by decide +kernel
theorem dX16_one_297 : decode cX16_one 297 = .ok (.iconst 2, 1) := by decide +kernel
theorem dX16_one_298 : decode cX16_one 298 = .ok (.iload 6, 2) := by decide +kernel
theorem dX16_one_300 : decode cX16_one 300 = .ok (.invokestatic 313, 3) := by decide +kernel
theorem dX16_one_303 : decode cX16_one 303 = .ok (.goto 23, 3) := by decide +kernel
theorem dX16_one_306 : decode cX16_one 306 = .ok (.iload_n 3, 1) := by decide +kernel
theorem dX16_one_307 : decode cX16_one 307 = .ok (.ifCond .ne 7, 3) := by decide +kernel
theorem dX16_one_310 : decode cX16_one 310 = .ok (.iconst 0, 1) := by decide +kernel
theorem dX16_one_311 : decode cX16_one 311 = .ok (.goto 15, 3) := by decide +kernel
theorem dX16_one_314 : decode cX16_one 314 = .ok (.bipush 55, 2) := by decide +kernel
theorem dX16_one_316 : decode cX16_one 316 = .ok (.iload_n 2, 1) := by decide +kernel
theorem dX16_one_317 : decode cX16_one 317 = .ok (.bipush 7, 2) := by decide +kernel
theorem dX16_one_319 : decode cX16_one 319 = .ok (.ishl, 1) := by decide +kernel
theorem dX16_one_320 : decode cX16_one 320 = .ok (.ior, 1) := by decide +kernel
theorem dX16_one_321 : decode cX16_one 321 = .ok (.iload_n 3, 1) := by decide +kernel
theorem dX16_one_322 : decode cX16_one 322 = .ok (.bipush 12, 2) := by decide +kernel
theorem dX16_one_324 : decode cX16_one 324 = .ok (.ishl, 1) := by decide +kernel
theorem dX16_one_325 : decode cX16_one 325 = .ok (.ior, 1) := by decide +kernel
theorem dX16_one_326 : decode cX16_one 326 = .ok (.ireturn, 1) := by decide +kernel
theorem dX16_one_327 : decode cX16_one 327 = .ok (.iload_n 0, 1) := by decide +kernel
theorem dX16_one_328 : decode cX16_one 328 = .ok (.iload_n 3, 1) := by decide +kernel
theorem dX16_one_329 : decode cX16_one 329 = .ok (.invokestatic 326, 3) := by decide +kernel
theorem dX16_one_332 : decode cX16_one 332 = .ok (.ireturn, 1) := by decide +kernel
theorem dX16_one_333 : decode cX16_one 333 = .ok (.iconst 0, 1) := by decide +kernel
theorem dX16_one_334 : decode cX16_one 334 = .ok (.iload 4, 2) := by decide +kernel
theorem dX16_one_336 : decode cX16_one 336 = .ok (.invokestatic 323, 3) := by decide +kernel
theorem dX16_one_339 : decode cX16_one 339 = .ok (.ireturn, 1) := by decide +kernel
theorem dX16_one_340 : decode cX16_one 340 = .ok (.iload_n 1, 1) := by decide +kernel
theorem dX16_one_341 : decode cX16_one 341 = .ok (.bipush 6, 2) := by decide +kernel
theorem dX16_one_343 : decode cX16_one 343 = .ok (.isub, 1) := by decide +kernel
theorem dX16_one_344 : decode cX16_one 344 = .ok (.bipush 8, 2) := by decide +kernel
theorem dX16_one_346 : decode cX16_one 346 = .ok (.iload_n 0, 1) := by decide +kernel
theorem dX16_one_347 : decode cX16_one 347 = .ok (.bipush 7, 2) := by decide +kernel
theorem dX16_one_349 : decode cX16_one 349 = .ok (.iconst 3, 1) := by decide +kernel
theorem dX16_one_350 : decode cX16_one 350 = .ok (.invokestatic 297, 3) := by decide +kernel
theorem dX16_one_353 : decode cX16_one 353 = .ok (.iadd, 1) := by decide +kernel
theorem dX16_one_354 : decode cX16_one 354 = .ok (.iload 5, 2) := by decide +kernel
theorem dX16_one_356 : decode cX16_one 356 = .ok (.invokestatic 329, 3) := by decide +kernel
theorem dX16_one_359 : decode cX16_one 359 = .ok (.ireturn, 1) := by decide +kernel
theorem dX16_four_0 : decode cX16_four 0 = .ok (.bipush 8, 2) := by decide +kernel
theorem dX16_four_2 : decode cX16_four 2 = .ok (.iload_n 0, 1) := by decide +kernel
theorem dX16_four_3 : decode cX16_four 3 = .ok (.bipush 7, 2) := by decide +kernel
theorem dX16_four_5 : decode cX16_four 5 = .ok (.iconst 3, 1) := by decide +kernel
theorem dX16_four_6 : decode cX16_four 6 = .ok (.invokestatic 297, 3) := by decide +kernel
theorem dX16_four_9 : decode cX16_four 9 = .ok (.iadd, 1) := by decide +kernel
theorem dX16_four_10 : decode cX16_four 10 = .ok (.istore_n 2, 1) := by decide +kernel
theorem dX16_four_11 : decode cX16_four 11 = .ok (.bipush 8, 2) := by decide +kernel
theorem dX16_four_13 : decode cX16_four 13 = .ok (.iload_n 0, 1) := by decide +kernel
theorem dX16_four_14 : decode cX16_four 14 = .ok (.iconst 2, 1) := by decide +kernel
theorem dX16_four_15 : decode cX16_four 15 = .ok (.iconst 3, 1) := by decide +kernel
theorem dX16_four_16 : decode cX16_four 16 = .ok (.invokestatic 297, 3) := by decide +kernel
theorem dX16_four_19 : decode cX16_four 19 = .ok (.iadd, 1) := by decide +kernel
theorem dX16_four_20 : decode cX16_four 20 = .ok (.istore_n 3, 1) := by decide +kernel
theorem dX16_four_21 : decode cX16_four 21 = .ok (.iload_n 0, 1) := by decide +kernel
theorem dX16_four_22 : decode cX16_four 22 = .ok (.bipush 10, 2) := by decide +kernel
theorem dX16_four_24 : decode cX16_four 24 = .ok (.iconst 2, 1) := by decide +kernel
theorem dX16_four_25 : decode cX16_four 25 = .ok (.invokestatic 297, 3) := by decide +kernel
theorem dX16_four_28 : decode cX16_four 28 = .ok (.istore 4, 2) := by decide +kernel
theorem dX16_four_30 : decode cX16_four 30 = .ok (.iload_n 0, 1) := by decide +kernel
theorem dX16_four_31 : decode cX16_four 31 = .ok (.iconst 5, 1) := by decide +kernel
theorem dX16_four_32 : decode cX16_four 32 = .ok (.iconst 2, 1) := by decide +kernel
theorem dX16_four_33 : decode cX16_four 33 = .ok (.invokestatic 297, 3) := by decide +kernel
theorem dX16_four_36 : decode cX16_four 36 = .ok (.istore 5, 2) := by decide +kernel
theorem dX16_four_38 : decode cX16_four 38 = .ok (.iload 4, 2) := by decide +kernel
theorem dX16_four_40 : decode cX16_four 40 = .ok (.iconst 2, 1) := by decide +kernel
theorem dX16_four_41 : decode cX16_four 41 = .ok (.if_icmp .ne 14, 3) := by decide +kernel
theorem dX16_four_44 : decode cX16_four 44 = .ok (.bipush 19, 2) := by decide +kernel
theorem dX16_four_46 : decode cX16_four 46 = .ok (.bipush 7, 2) := by decide +kernel
theorem dX16_four_48 : decode cX16_four 48 = .ok (.iload_n 2, 1) := by decide +kernel
theorem dX16_four_49 : decode cX16_four 49 = .ok (.iload_n 2, 1) := by decide +kernel
theorem dX16_four_50 : decode cX16_four 50 = .ok (.iload_n 1, 1) := by decide +kernel
theorem dX16_four_51 : decode cX16_four 51 = .ok (.invokestatic 313, 3) := by decide +kernel
theorem dX16_four_54 : decode cX16_four 54 = .ok (.ireturn, 1) := by decide +kernel
theorem dX16_four_55 : decode cX16_four 55 = .ok (.iload_n 0, 1) := by decide +kernel
theorem dX16_four_56 : decode cX16_four 56 = .ok (.bipush 12, 2) := by decide +kernel
theorem dX16_four_58 : decode cX16_four 58 = .ok (.iconst 1, 1) := by decide +kernel
theorem dX16_four_59 : decode cX16_four 59 = .ok (.invokestatic 297, 3) := by decide +kernel
theorem dX16_four_62 : decode cX16_four 62 = .ok (.iconst 1, 1) := by decide +kernel
theorem dX16_four_63 : decode cX16_four 63 = .ok (.if_icmp .ne 5, 3) := by decide +kernel
theorem dX16_four_66 : decode cX16_four 66 = .ok (.iconst 0, 1) := by decide +kernel
theorem dX16_four_67 : decode cX16_four 67 = .ok (.ireturn, 1) := by decide +kernel
theorem dX16_four_68 : decode cX16_four 68 = .ok (.iload 4, 2) := by decide +kernel
theorem dX16_four_70 : decode cX16_four 70 = .ok (.iconst 2, 1) := by decide +kernel
theorem dX16_four_71 : decode cX16_four 71 = .ok (.if_icmp .ge 24, 3) := by decide +kernel
theorem dX16_four_74 : decode cX16_four 74 = .ok (.bipush 19, 2) := by decide +kernel
theorem dX16_four_76 : decode cX16_four 76 = .ok (.iconst 5, 1) := by decide +kernel
theorem dX16_four_77 : decode cX16_four 77 = .ok (.iload_n 2, 1) := by decide +kernel
theorem dX16_four_78 : decode cX16_four 78 = .ok (.iload_n 2, 1) := by decide +kernel
theorem dX16_four_79 : decode cX16_four 79 = .ok (.iload_n 0, 1) := by decide +kernel
theorem dX16_four_80 : decode cX16_four 80 = .ok (.iconst 2, 1) := by decide +kernel
theorem dX16_four_81 : decode cX16_four 81 = .ok (.iconst 5, 1) := by decide +kernel
theorem dX16_four_82 : decode cX16_four 82 = .ok (.invokestatic 297, 3) := by decide +kernel
theorem dX16_four_85 : decode cX16_four 85 = .ok (.iload 4, 2) := by decide +kernel
theorem dX16_four_87 : decode cX16_four 87 = .ok (.bipush 10, 2) := by decide +kernel
theorem dX16_four_89 : decode cX16_four 89 = .ok (.ishl, 1) := by decide +kernel
theorem dX16_four_90 : decode cX16_four 90 = .ok (.ior, 1) := by decide +kernel
theorem dX16_four_91 : decode cX16_four 91 = .ok (.invokestatic 313, 3) := by decide +kernel
theorem dX16_four_94 : decode cX16_four 94 = .ok (.ireturn, 1) := by decide +kernel
theorem dX16_four_95 : decode cX16_four 95 = .ok (.iload 5, 2) := by decide +kernel
theorem dX16_four_97 : decode cX16_four 97 = .ok (.ifCond .ne 15, 3) := by decide +kernel
theorem dX16_four_100 : decode cX16_four 100 = .ok (.iconst 0, 1) := by decide +kernel
theorem dX16_four_101 : decode cX16_four 101 = .ok (.bipush 32, 2) := by decide +kernel
theorem dX16_four_103 : decode cX16_four 103 = .ok (.iload_n 2, 1) := by decide +kernel
theorem dX16_four_104 : decode cX16_four 104 = .ok (.iload_n 2, 1) := by decide +kernel
theorem dX16_four_105 : decode cX16_four 105 = .ok (.iload_n 3, 1) := by decide +kernel
theorem dX16_four_106 : decode cX16_four 106 = .ok (.invokestatic 332, 3) := by decide +kernel
theorem dX16_four_109 : decode cX16_four 109 = .ok (.goto 24, 3) := by decide +kernel
theorem dX16_four_112 : decode cX16_four 112 = .ok (.iload 5, 2) := by decide +kernel
theorem dX16_four_114 : decode cX16_four 114 = .ok (.iconst 1, 1) := by decide +kernel
theorem dX16_four_115 : decode cX16_four 115 = .ok (.if_icmp .ne 7, 3) := by decide +kernel
theorem dX16_four_118 : decode cX16_four 118 = .ok (.iconst 4, 1) := by decide +kernel
theorem dX16_four_119 : decode cX16_four 119 = .ok (.goto 7, 3) := by decide +kernel
theorem dX16_four_122 : decode cX16_four 122 = .ok (.iload 5, 2) := by decide +kernel
theorem dX16_four_124 : decode cX16_four 124 = .ok (.iconst 4, 1) := by decide +kernel
theorem dX16_four_125 : decode cX16_four 125 = .ok (.iadd, 1) := by decide +kernel
theorem dX16_four_126 : decode cX16_four 126 = .ok (.iconst 0, 1) := by decide +kernel
theorem dX16_four_127 : decode cX16_four 127 = .ok (.iload_n 2, 1) := by decide +kernel
theorem dX16_four_128 : decode cX16_four 128 = .ok (.iload_n 2, 1) := by decide +kernel
theorem dX16_four_129 : decode cX16_four 129 = .ok (.iload_n 3, 1) := by decide +kernel
theorem dX16_four_130 : decode cX16_four 130 = .ok (.invokestatic 332, 3) := by decide +kernel
theorem dX16_four_133 : decode cX16_four 133 = .ok (.ireturn, 1) := by decide +kernel
theorem dX16_two_0 : decode cX16_two 0 = .ok (.iload_n 0, 1) := by decide +kernel
theorem dX16_two_1 : decode cX16_two 1 = .ok (.bipush 7, 2) := by decide +kernel
theorem dX16_two_3 : decode cX16_two 3 = .ok (.iconst 5, 1) := by decide +kernel
theorem dX16_two_4 : decode cX16_two 4 = .ok (.invokestatic 297, 3) := by decide +kernel
theorem dX16_two_7 : decode cX16_two 7 = .ok (.istore_n 2, 1) := by decide +kernel
theorem dX16_two_8 : decode cX16_two 8 = .ok (.iload_n 0, 1) := by decide +kernel
theorem dX16_two_9 : decode cX16_two 9 = .ok (.iconst 2, 1) := by decide +kernel
theorem dX16_two_10 : decode cX16_two 10 = .ok (.iconst 5, 1) := by decide +kernel
theorem dX16_two_11 : decode cX16_two 11 = .ok (.invokestatic 297, 3) := by decide +kernel
theorem dX16_two_14 : decode cX16_two 14 = .ok (.istore_n 3, 1) := by decide +kernel
theorem dX16_two_15 : decode cX16_two 15 = .ok (.iload_n 0, 1) := by decide +kernel
theorem dX16_two_16 : decode cX16_two 16 = .ok (.bipush 12, 2) := by decide +kernel
theorem dX16_two_18 : decode cX16_two 18 = .ok (.iconst 1, 1) := by decide +kernel
theorem dX16_two_19 : decode cX16_two 19 = .ok (.invokestatic 297, 3) := by decide +kernel
theorem dX16_two_22 : decode cX16_two 22 = .ok (.iconst 1, 1) := by decide +kernel
theorem dX16_two_23 : decode cX16_two 23 = .ok (.if_icmp .ne 7, 3) := by decide +kernel
theorem dX16_two_26 : decode cX16_two 26 = .ok (.iconst 1, 1) := by decide +kernel
theorem dX16_two_27 : decode cX16_two 27 = .ok (.goto 4, 3) := by decide +kernel
theorem dX16_two_30 : decode cX16_two 30 = .ok (.iconst 0, 1) := by decide +kernel
theorem dX16_two_31 : decode cX16_two 31 = .ok (.istore 4, 2) := by decide +kernel
theorem dX16_two_33 : decode cX16_two 33 = .ok (.iload_n 0, 1) := by decide +kernel
theorem dX16_two_34 : decode cX16_two 34 = .ok (.bipush 12, 2) := by decide +kernel
theorem dX16_two_36 : decode cX16_two 36 = .ok (.iconst 1, 1) := by decide +kernel
theorem dX16_two_37 : decode cX16_two 37 = .ok (.iconst 5, 1) := by decide +kernel
theorem dX16_two_38 : decode cX16_two 38 = .ok (.invokestatic 300, 3) := by decide +kernel
theorem dX16_two_41 : decode cX16_two 41 = .ok (.iload_n 0, 1) := by decide +kernel
theorem dX16_two_42 : decode cX16_two 42 = .ok (.iconst 4, 1) := by decide +kernel
theorem dX16_two_43 : decode cX16_two 43 = .ok (.iconst 3, 1) := by decide +kernel
theorem dX16_two_44 : decode cX16_two 44 = .ok (.iconst 2, 1) := by decide +kernel
theorem dX16_two_45 : decode cX16_two 45 = .ok (.invokestatic 300, 3) := by decide +kernel
