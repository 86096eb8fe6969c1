theorem dX4_expandedSecond_77 : decode cX4_expandedSecond 77 = .ok (.ishr, 1) := by decide +kernel
theorem dX4_expandedSecond_78 : decode cX4_expandedSecond 78 = .ok (.bipush 16, 2) := by decide +kernel
theorem dX4_expandedSecond_80 : decode cX4_expandedSecond 80 = .ok (.iand, 1) := by decide +kernel
theorem dX4_expandedSecond_81 : decode cX4_expandedSecond 81 = .ok (.ior, 1) := by decide +kernel
theorem dX4_expandedSecond_82 : decode cX4_expandedSecond 82 = .ok (.iload_n 0, 1) := by decide +kernel
theorem dX4_expandedSecond_83 : decode cX4_expandedSecond 83 = .ok (.iconst 1, 1) := by decide +kernel
theorem dX4_expandedSecond_84 : decode cX4_expandedSecond 84 = .ok (.ishr, 1) := by decide +kernel
theorem dX4_expandedSecond_85 : decode cX4_expandedSecond 85 = .ok (.sipush 768, 3) := by decide +kernel
theorem dX4_expandedSecond_88 : decode cX4_expandedSecond 88 = .ok (.iand, 1) := by decide +kernel
theorem dX4_expandedSecond_89 : decode cX4_expandedSecond 89 = .ok (.ior, 1) := by decide +kernel
theorem dX4_expandedSecond_90 : decode cX4_expandedSecond 90 = .ok (.iload_n 0, 1) := by decide +kernel
theorem dX4_expandedSecond_91 : decode cX4_expandedSecond 91 = .ok (.iconst 2, 1) := by decide +kernel
theorem dX4_expandedSecond_92 : decode cX4_expandedSecond 92 = .ok (.ishl, 1) := by decide +kernel
theorem dX4_expandedSecond_93 : decode cX4_expandedSecond 93 = .ok (.sipush 1024, 3) := by decide +kernel
theorem dX4_expandedSecond_96 : decode cX4_expandedSecond 96 = .ok (.iand, 1) := by decide +kernel
theorem dX4_expandedSecond_97 : decode cX4_expandedSecond 97 = .ok (.ior, 1) := by decide +kernel
theorem dX4_expandedSecond_98 : decode cX4_expandedSecond 98 = .ok (.iload_n 0, 1) := by decide +kernel
theorem dX4_expandedSecond_99 : decode cX4_expandedSecond 99 = .ok (.iconst 1, 1) := by decide +kernel
theorem dX4_expandedSecond_100 : decode cX4_expandedSecond 100 = .ok (.ishr, 1) := by decide +kernel
theorem dX4_expandedSecond_101 : decode cX4_expandedSecond 101 = .ok (.bipush 64, 2) := by decide +kernel
theorem dX4_expandedSecond_103 : decode cX4_expandedSecond 103 = .ok (.iand, 1) := by decide +kernel
theorem dX4_expandedSecond_104 : decode cX4_expandedSecond 104 = .ok (.ior, 1) := by decide +kernel
theorem dX4_expandedSecond_105 : decode cX4_expandedSecond 105 = .ok (.iload_n 0, 1) := by decide +kernel
theorem dX4_expandedSecond_106 : decode cX4_expandedSecond 106 = .ok (.iconst 1, 1) := by decide +kernel
theorem dX4_expandedSecond_107 : decode cX4_expandedSecond 107 = .ok (.ishl, 1) := by decide +kernel
theorem dX4_expandedSecond_108 : decode cX4_expandedSecond 108 = .ok (.sipush 128, 3) := by decide +kernel
theorem dX4_expandedSecond_111 : decode cX4_expandedSecond 111 = .ok (.iand, 1) := by decide +kernel
theorem dX4_expandedSecond_112 : decode cX4_expandedSecond 112 = .ok (.ior, 1) := by decide +kernel
theorem dX4_expandedSecond_113 : decode cX4_expandedSecond 113 = .ok (.iload_n 0, 1) := by decide +kernel
theorem dX4_expandedSecond_114 : decode cX4_expandedSecond 114 = .ok (.iconst 2, 1) := by decide +kernel
theorem dX4_expandedSecond_115 : decode cX4_expandedSecond 115 = .ok (.ishr, 1) := by decide +kernel
theorem dX4_expandedSecond_116 : decode cX4_expandedSecond 116 = .ok (.bipush 14, 2) := by decide +kernel
theorem dX4_expandedSecond_118 : decode cX4_expandedSecond 118 = .ok (.iand, 1) := by decide +kernel
theorem dX4_expandedSecond_119 : decode cX4_expandedSecond 119 = .ok (.ior, 1) := by decide +kernel
theorem dX4_expandedSecond_120 : decode cX4_expandedSecond 120 = .ok (.iload_n 0, 1) := by decide +kernel
theorem dX4_expandedSecond_121 : decode cX4_expandedSecond 121 = .ok (.iconst 3, 1) := by decide +kernel
theorem dX4_expandedSecond_122 : decode cX4_expandedSecond 122 = .ok (.ishl, 1) := by decide +kernel
theorem dX4_expandedSecond_123 : decode cX4_expandedSecond 123 = .ok (.bipush 32, 2) := by decide +kernel
theorem dX4_expandedSecond_125 : decode cX4_expandedSecond 125 = .ok (.iand, 1) := by decide +kernel
theorem dX4_expandedSecond_126 : decode cX4_expandedSecond 126 = .ok (.ior, 1) := by decide +kernel
theorem dX4_expandedSecond_127 : decode cX4_expandedSecond 127 = .ok (.istore_n 3, 1) := by decide +kernel
theorem dX4_expandedSecond_128 : decode cX4_expandedSecond 128 = .ok (.bipush 111, 2) := by decide +kernel
theorem dX4_expandedSecond_130 : decode cX4_expandedSecond 130 = .ok (.iload_n 0, 1) := by decide +kernel
theorem dX4_expandedSecond_131 : decode cX4_expandedSecond 131 = .ok (.bipush 13, 2) := by decide +kernel
theorem dX4_expandedSecond_133 : decode cX4_expandedSecond 133 = .ok (.ishr, 1) := by decide +kernel
theorem dX4_expandedSecond_134 : decode cX4_expandedSecond 134 = .ok (.iconst 1, 1) := by decide +kernel
theorem dX4_expandedSecond_135 : decode cX4_expandedSecond 135 = .ok (.if_icmp .ne 9, 3) := by decide +kernel
theorem dX4_expandedSecond_138 : decode cX4_expandedSecond 138 = .ok (.sipush 128, 3) := by decide +kernel
theorem dX4_expandedSecond_141 : decode cX4_expandedSecond 141 = .ok (.goto 4, 3) := by decide +kernel
theorem dX4_expandedSecond_144 : decode cX4_expandedSecond 144 = .ok (.iconst 0, 1) := by decide +kernel
theorem dX4_expandedSecond_145 : decode cX4_expandedSecond 145 = .ok (.ior, 1) := by decide +kernel
theorem dX4_expandedSecond_146 : decode cX4_expandedSecond 146 = .ok (.iload_n 3, 1) := by decide +kernel
theorem dX4_expandedSecond_147 : decode cX4_expandedSecond 147 = .ok (.invokestatic 165, 3) := by decide +kernel
theorem dX4_expandedSecond_150 : decode cX4_expandedSecond 150 = .ok (.ior, 1) := by decide +kernel
theorem dX4_expandedSecond_151 : decode cX4_expandedSecond 151 = .ok (.ireturn, 1) := by decide +kernel
theorem dX4_expandedSecond_152 : decode cX4_expandedSecond 152 = .ok (.iload_n 2, 1) := by decide +kernel
theorem dX4_expandedSecond_153 : decode cX4_expandedSecond 153 = .ok (.iconst 0, 1) := by decide +kernel
theorem dX4_expandedSecond_154 : decode cX4_expandedSecond 154 = .ok (.iconst 0, 1) := by decide +kernel
theorem dX4_expandedSecond_155 : decode cX4_expandedSecond 155 = .ok (.iload_n 1, 1) := by decide +kernel
theorem dX4_expandedSecond_156 : decode cX4_expandedSecond 156 = .ok (.invokestatic 153, 3) := by decide +kernel
theorem dX4_expandedSecond_159 : decode cX4_expandedSecond 159 = .ok (.ireturn, 1) := by decide +kernel
theorem dX4_expandedSecond_160 : decode cX4_expandedSecond 160 = .ok (.iload_n 1, 1) := by decide +kernel
theorem dX4_expandedSecond_161 : decode cX4_expandedSecond 161 = .ok (.iconst 2, 1) := by decide +kernel
theorem dX4_expandedSecond_162 : decode cX4_expandedSecond 162 = .ok (.if_icmp .eq 24, 3) := by decide +kernel
theorem dX4_expandedSecond_165 : decode cX4_expandedSecond 165 = .ok (.iload_n 2, 1) := by decide +kernel
theorem dX4_expandedSecond_166 : decode cX4_expandedSecond 166 = .ok (.ifCond .ne 7, 3) := by decide +kernel
theorem dX4_expandedSecond_169 : decode cX4_expandedSecond 169 = .ok (.iconst 0, 1) := by decide +kernel
theorem dX4_expandedSecond_170 : decode cX4_expandedSecond 170 = .ok (.goto 15, 3) := by decide +kernel
theorem dX4_expandedSecond_173 : decode cX4_expandedSecond 173 = .ok (.iload_n 2, 1) := by decide +kernel
theorem dX4_expandedSecond_174 : decode cX4_expandedSecond 174 = .ok (.bipush 12, 2) := by decide +kernel
theorem dX4_expandedSecond_176 : decode cX4_expandedSecond 176 = .ok (.ishl, 1) := by decide +kernel
theorem dX4_expandedSecond_177 : decode cX4_expandedSecond 177 = .ok (.iload_n 1, 1) := by decide +kernel
theorem dX4_expandedSecond_178 : decode cX4_expandedSecond 178 = .ok (.bipush 7, 2) := by decide +kernel
theorem dX4_expandedSecond_180 : decode cX4_expandedSecond 180 = .ok (.ishl, 1) := by decide +kernel
theorem dX4_expandedSecond_181 : decode cX4_expandedSecond 181 = .ok (.ior, 1) := by decide +kernel
theorem dX4_expandedSecond_182 : decode cX4_expandedSecond 182 = .ok (.bipush 55, 2) := by decide +kernel
theorem dX4_expandedSecond_184 : decode cX4_expandedSecond 184 = .ok (.ior, 1) := by decide +kernel
theorem dX4_expandedSecond_185 : decode cX4_expandedSecond 185 = .ok (.ireturn, 1) := by decide +kernel
theorem dX4_expandedSecond_186 : decode cX4_expandedSecond 186 = .ok (.iload_n 0, 1) := by decide +kernel
theorem dX4_expandedSecond_187 : decode cX4_expandedSecond 187 = .ok (.bipush 19, 2) := by decide +kernel
theorem dX4_expandedSecond_189 : decode cX4_expandedSecond 189 = .ok (.ishl, 1) := by decide +kernel
theorem dX4_expandedSecond_190 : decode cX4_expandedSecond 190 = .ok (.bipush 31, 2) := by decide +kernel
theorem dX4_expandedSecond_192 : decode cX4_expandedSecond 192 = .ok (.ishr, 1) := by decide +kernel
theorem dX4_expandedSecond_193 : decode cX4_expandedSecond 193 = .ok (.bipush 9, 2) := by decide +kernel
theorem dX4_expandedSecond_195 : decode cX4_expandedSecond 195 = .ok (.ishl, 1) := by decide +kernel
theorem dX4_expandedSecond_196 : decode cX4_expandedSecond 196 = .ok (.iload_n 0, 1) := by decide +kernel
theorem dX4_expandedSecond_197 : decode cX4_expandedSecond 197 = .ok (.iconst 2, 1) := by decide +kernel
theorem dX4_expandedSecond_198 : decode cX4_expandedSecond 198 = .ok (.ishr, 1) := by decide +kernel
theorem dX4_expandedSecond_199 : decode cX4_expandedSecond 199 = .ok (.bipush 16, 2) := by decide +kernel
theorem dX4_expandedSecond_201 : decode cX4_expandedSecond 201 = .ok (.iand, 1) := by decide +kernel
theorem dX4_expandedSecond_202 : decode cX4_expandedSecond 202 = .ok (.ior, 1) := by decide +kernel
theorem dX4_expandedSecond_203 : decode cX4_expandedSecond 203 = .ok (.iload_n 0, 1) := by decide +kernel
theorem dX4_expandedSecond_204 : decode cX4_expandedSecond 204 = .ok (.iconst 1, 1) := by decide +kernel
theorem dX4_expandedSecond_205 : decode cX4_expandedSecond 205 = .ok (.ishl, 1) := by decide +kernel
theorem dX4_expandedSecond_206 : decode cX4_expandedSecond 206 = .ok (.bipush 64, 2) := by decide +kernel
theorem dX4_expandedSecond_208 : decode cX4_expandedSecond 208 = .ok (.iand, 1) := by decide +kernel
theorem dX4_expandedSecond_209 : decode cX4_expandedSecond 209 = .ok (.ior, 1) := by decide +kernel
theorem dX4_expandedSecond_210 : decode cX4_expandedSecond 210 = .ok (.iload_n 0, 1) := by decide +kernel
theorem dX4_expandedSecond_211 : decode cX4_expandedSecond 211 = .ok (.iconst 4, 1) := by decide +kernel
theorem dX4_expandedSecond_212 : decode cX4_expandedSecond 212 = .ok (.ishl, 1) := by decide +kernel
theorem dX4_expandedSecond_213 : decode cX4_expandedSecond 213 = .ok (.sipush 384, 3) := by decide +kernel
theorem dX4_expandedSecond_216 : decode cX4_expandedSecond 216 = .ok (.iand, 1) := by decide +kernel
theorem dX4_expandedSecond_217 : decode cX4_expandedSecond 217 = .ok (.ior, 1) := by decide +kernel
theorem dX4_expandedSecond_218 : decode cX4_expandedSecond 218 = .ok (.iload_n 0, 1) := by decide +kernel
theorem dX4_expandedSecond_219 : decode cX4_expandedSecond 219 = .ok (.iconst 3, 1) := by decide +kernel
theorem dX4_expandedSecond_220 : decode cX4_expandedSecond 220 = .ok (.ishl, 1) := by decide +kernel
theorem dX4_expandedSecond_221 : decode cX4_expandedSecond 221 = .ok (.bipush 32, 2) := by decide +kernel
theorem dX4_expandedSecond_223 : decode cX4_expandedSecond 223 = .ok (.iand, 1) := by decide +kernel
theorem dX4_expandedSecond_224 : decode cX4_expandedSecond 224 = .ok (.ior, 1) := by decide +kernel
theorem dX4_expandedSecond_225 : decode cX4_expandedSecond 225 = .ok (.istore 4, 2) := by decide +kernel
theorem dX4_expandedSecond_227 : decode cX4_expandedSecond 227 = .ok (.iload 4, 2) := by decide +kernel
theorem dX4_expandedSecond_229 : decode cX4_expandedSecond 229 = .ok (.ifCond .ne 7, 3) := by decide +kernel
theorem dX4_expandedSecond_232 : decode cX4_expandedSecond 232 = .ok (.iconst 0, 1) := by decide +kernel
theorem dX4_expandedSecond_233 : decode cX4_expandedSecond 233 = .ok (.goto 11, 3) := by decide +kernel
theorem dX4_expandedSecond_236 : decode cX4_expandedSecond 236 = .ok (.iload 4, 2) := by decide +kernel
theorem dX4_expandedSecond_238 : decode cX4_expandedSecond 238 = .ok (.iconst 2, 1) := by decide +kernel
theorem dX4_expandedSecond_239 : decode cX4_expandedSecond 239 = .ok (.iconst 0, 1) := by decide +kernel
theorem dX4_expandedSecond_240 : decode cX4_expandedSecond 240 = .ok (.iconst 2, 1) := by decide +kernel
theorem dX4_expandedSecond_241 : decode cX4_expandedSecond 241 = .ok (.invokestatic 153, 3) := by decide +kernel
theorem dX4_expandedSecond_244 : decode cX4_expandedSecond 244 = .ok (.ireturn, 1) := by decide +kernel
theorem dX4_expandedSecond_245 : decode cX4_expandedSecond 245 = .ok (.iload_n 0, 1) := by decide +kernel
theorem dX4_expandedSecond_246 : decode cX4_expandedSecond 246 = .ok (.bipush 19, 2) := by decide +kernel
theorem dX4_expandedSecond_248 : decode cX4_expandedSecond 248 = .ok (.ishl, 1) := by decide +kernel
theorem dX4_expandedSecond_249 : decode cX4_expandedSecond 249 = .ok (.bipush 31, 2) := by decide +kernel
theorem dX4_expandedSecond_251 : decode cX4_expandedSecond 251 = .ok (.ishr, 1) := by decide +kernel
theorem dX4_expandedSecond_252 : decode cX4_expandedSecond 252 = .ok (.bipush 8, 2) := by decide +kernel
theorem dX4_expandedSecond_254 : decode cX4_expandedSecond 254 = .ok (.ishl, 1) := by decide +kernel
theorem dX4_expandedSecond_255 : decode cX4_expandedSecond 255 = .ok (.iload_n 0, 1) := by decide +kernel
theorem dX4_expandedSecond_256 : decode cX4_expandedSecond 256 = .ok (.bipush 7, 2) := by decide +kernel
theorem dX4_expandedSecond_258 : decode cX4_expandedSecond 258 = .ok (.ishr, 1) := by decide +kernel
theorem dX4_expandedSecond_259 : decode cX4_expandedSecond 259 = .ok (.bipush 24, 2) := by decide +kernel
theorem dX4_expandedSecond_261 : decode cX4_expandedSecond 261 = .ok (.iand, 1) := by decide +kernel
theorem dX4_expandedSecond_262 : decode cX4_expandedSecond 262 = .ok (.ior, 1) := by decide +kernel
theorem dX4_expandedSecond_263 : decode cX4_expandedSecond 263 = .ok (.iload_n 0, 1) := by decide +kernel
theorem dX4_expandedSecond_264 : decode cX4_expandedSecond 264 = .ok (.iconst 1, 1) := by decide +kernel
theorem dX4_expandedSecond_265 : decode cX4_expandedSecond 265 = .ok (.ishl, 1) := by decide +kernel
theorem dX4_expandedSecond_266 : decode cX4_expandedSecond 266 = .ok (.sipush 192, 3) := by decide +kernel
theorem dX4_expandedSecond_269 : decode cX4_expandedSecond 269 = .ok (.iand, 1) := by decide +kernel
theorem dX4_expandedSecond_270 : decode cX4_expandedSecond 270 = .ok (.ior, 1) := by decide +kernel
theorem dX4_expandedSecond_271 : decode cX4_expandedSecond 271 = .ok (.iload_n 0, 1) := by decide +kernel
theorem dX4_expandedSecond_272 : decode cX4_expandedSecond 272 = .ok (.iconst 2, 1) := by decide +kernel
theorem dX4_expandedSecond_273 : decode cX4_expandedSecond 273 = .ok (.ishr, 1) := by decide +kernel
theorem dX4_expandedSecond_274 : decode cX4_expandedSecond 274 = .ok (.bipush 6, 2) := by decide +kernel
theorem dX4_expandedSecond_276 : decode cX4_expandedSecond 276 = .ok (.iand, 1) := by decide +kernel
theorem dX4_expandedSecond_277 : decode cX4_expandedSecond 277 = .ok (.ior, 1) := by decide +kernel
theorem dX4_expandedSecond_278 : decode cX4_expandedSecond 278 = .ok (.iload_n 0, 1) := by decide +kernel
theorem dX4_expandedSecond_279 : decode cX4_expandedSecond 279 = .ok (.iconst 3, 1) := by decide +kernel
theorem dX4_expandedSecond_280 : decode cX4_expandedSecond 280 = .ok (.ishl, 1) := by decide +kernel
theorem dX4_expandedSecond_281 : decode cX4_expandedSecond 281 = .ok (.bipush 32, 2) := by decide +kernel
theorem dX4_expandedSecond_283 : decode cX4_expandedSecond 283 = .ok (.iand, 1) := by decide +kernel
theorem dX4_expandedSecond_284 : decode cX4_expandedSecond 284 = .ok (.ior, 1) := by decide +kernel
theorem dX4_expandedSecond_285 : decode cX4_expandedSecond 285 = .ok (.istore 5, 2) := by decide +kernel
theorem dX4_expandedSecond_287 : decode cX4_expandedSecond 287 = .ok (.bipush 99, 2) := by decide +kernel
theorem dX4_expandedSecond_289 : decode cX4_expandedSecond 289 = .ok (.iload_n 0, 1) := by decide +kernel
theorem dX4_expandedSecond_290 : decode cX4_expandedSecond 290 = .ok (.bipush 13, 2) := by decide +kernel
theorem dX4_expandedSecond_292 : decode cX4_expandedSecond 292 = .ok (.ishr, 1) := by decide +kernel
theorem dX4_expandedSecond_293 : decode cX4_expandedSecond 293 = .ok (.bipush 12, 2) := by decide +kernel
theorem dX4_expandedSecond_295 : decode cX4_expandedSecond 295 = .ok (.ishl, 1) := by decide +kernel
theorem dX4_expandedSecond_296 : decode cX4_expandedSecond 296 = .ok (.sipush 4096, 3) := by decide +kernel
theorem dX4_expandedSecond_299 : decode cX4_expandedSecond 299 = .ok (.iand, 1) := by decide +kernel
theorem dX4_expandedSecond_300 : decode cX4_expandedSecond 300 = .ok (.ior, 1) := by decide +kernel
theorem dX4_expandedSecond_301 : decode cX4_expandedSecond 301 = .ok (.bipush 8, 2) := by decide +kernel
theorem dX4_expandedSecond_303 : decode cX4_expandedSecond 303 = .ok (.iload_n 0, 1) := by decide +kernel
theorem dX4_expandedSecond_304 : decode cX4_expandedSecond 304 = .ok (.bipush 7, 2) := by decide +kernel
theorem dX4_expandedSecond_306 : decode cX4_expandedSecond 306 = .ok (.ishr, 1) := by decide +kernel
theorem dX4_expandedSecond_307 : decode cX4_expandedSecond 307 = .ok (.bipush 7, 2) := by decide +kernel
theorem dX4_expandedSecond_309 : decode cX4_expandedSecond 309 = .ok (.iand, 1) := by decide +kernel
theorem dX4_expandedSecond_310 : decode cX4_expandedSecond 310 = .ok (.iadd, 1) := by decide +kernel
theorem dX4_expandedSecond_311 : decode cX4_expandedSecond 311 = .ok (.bipush 15, 2) := by decide +kernel
theorem dX4_expandedSecond_313 : decode cX4_expandedSecond 313 = .ok (.ishl, 1) := by decide +kernel
theorem dX4_expandedSecond_314 : decode cX4_expandedSecond 314 = .ok (.ior, 1) := by decide +kernel
theorem dX4_expandedSecond_315 : decode cX4_expandedSecond 315 = .ok (.iload 5, 2) := by decide +kernel
theorem dX4_expandedSecond_317 : decode cX4_expandedSecond 317 = .ok (.invokestatic 168, 3) := by decide +kernel
theorem dX4_expandedSecond_320 : decode cX4_expandedSecond 320 = .ok (.ior, 1) := by decide +kernel
theorem dX4_expandedSecond_321 : decode cX4_expandedSecond 321 = .ok (.ireturn, 1) := by decide +kernel
theorem dX4_expandedSums_0 : decode cX4_expandedSums 0 = .ok (.bipush 8, 2) := by decide +kernel
theorem dX4_expandedSums_2 : decode cX4_expandedSums 2 = .ok (.iload_n 0, 1) := by decide +kernel
theorem dX4_expandedSums_3 : decode cX4_expandedSums 3 = .ok (.bipush 7, 2) := by decide +kernel
theorem dX4_expandedSums_5 : decode cX4_expandedSums 5 = .ok (.ishr, 1) := by decide +kernel
theorem dX4_expandedSums_6 : decode cX4_expandedSums 6 = .ok (.bipush 7, 2) := by decide +kernel
theorem dX4_expandedSums_8 : decode cX4_expandedSums 8 = .ok (.iand, 1) := by decide +kernel
theorem dX4_expandedSums_9 : decode cX4_expandedSums 9 = .ok (.iadd, 1) := by decide +kernel
theorem dX4_expandedSums_10 : decode cX4_expandedSums 10 = .ok (.istore_n 1, 1) := by decide +kernel
theorem dX4_expandedSums_11 : decode cX4_expandedSums 11 = .ok (.bipush 8, 2) := by decide +kernel
theorem dX4_expandedSums_13 : decode cX4_expandedSums 13 = .ok (.iload_n 0, 1) := by decide +kernel
theorem dX4_expandedSums_14 : decode cX4_expandedSums 14 = .ok (.iconst 2, 1) := by decide +kernel
theorem dX4_expandedSums_15 : decode cX4_expandedSums 15 = .ok (.ishr, 1) := by decide +kernel
theorem dX4_expandedSums_16 : decode cX4_expandedSums 16 = .ok (.bipush 7, 2) := by decide +kernel
theorem dX4_expandedSums_18 : decode cX4_expandedSums 18 = .ok (.iand, 1) := by decide +kernel
theorem dX4_expandedSums_19 : decode cX4_expandedSums 19 = .ok (.iadd, 1) := by decide +kernel
theorem dX4_expandedSums_20 : decode cX4_expandedSums 20 = .ok (.istore_n 2, 1) := by decide +kernel
theorem dX4_expandedSums_21 : decode cX4_expandedSums 21 = .ok (.iload_n 0, 1) := by decide +kernel
theorem dX4_expandedSums_22 : decode cX4_expandedSums 22 = .ok (.sipush 4096, 3) := by decide +kernel
theorem dX4_expandedSums_25 : decode cX4_expandedSums 25 = .ok (.iand, 1) := by decide +kernel
theorem dX4_expandedSums_26 : decode cX4_expandedSums 26 = .ok (.ifCond .eq 7, 3) := by decide +kernel
theorem dX4_expandedSums_29 : decode cX4_expandedSums 29 = .ok (.iconst 1, 1) := by decide +kernel
theorem dX4_expandedSums_30 : decode cX4_expandedSums 30 = .ok (.goto 4, 3) := by decide +kernel
theorem dX4_expandedSums_33 : decode cX4_expandedSums 33 = .ok (.iconst 0, 1) := by decide +kernel
theorem dX4_expandedSums_34 : decode cX4_expandedSums 34 = .ok (.istore_n 3, 1) := by decide +kernel
theorem dX4_expandedSums_35 : decode cX4_expandedSums 35 = .ok (.iload_n 0, 1) := by decide +kernel
theorem dX4_expandedSums_36 : decode cX4_expandedSums 36 = .ok (.bipush 10, 2) := by decide +kernel
theorem dX4_expandedSums_38 : decode cX4_expandedSums 38 = .ok (.ishr, 1) := by decide +kernel
theorem dX4_expandedSums_39 : decode cX4_expandedSums 39 = .ok (.iconst 3, 1) := by decide +kernel
theorem dX4_expandedSums_40 : decode cX4_expandedSums 40 = .ok (.iand, 1) := by decide +kernel
theorem dX4_expandedSums_41 : decode cX4_expandedSums 41 = .ok (.istore 4, 2) := by decide +kernel
theorem dX4_expandedSums_43 : decode cX4_expandedSums 43 = .ok (.iload 4, 2) := by decide +kernel
theorem dX4_expandedSums_45 : decode cX4_expandedSums 45 = .ok (.iconst 2, 1) := by decide +kernel
theorem dX4_expandedSums_46 : decode cX4_expandedSums 46 = .ok (.if_icmp .ne 15, 3) := by decide +kernel
theorem dX4_expandedSums_49 : decode cX4_expandedSums 49 = .ok (.iload_n 0, 1) := by decide +kernel
theorem dX4_expandedSums_50 : decode cX4_expandedSums 50 = .ok (.invokestatic 162, 3) := by decide +kernel
theorem dX4_expandedSums_53 : decode cX4_expandedSums 53 = .ok (.iload_n 1, 1) := by decide +kernel
theorem dX4_expandedSums_54 : decode cX4_expandedSums 54 = .ok (.bipush 7, 2) := by decide +kernel
theorem dX4_expandedSums_56 : decode cX4_expandedSums 56 = .ok (.iload_n 1, 1) := by decide +kernel
theorem dX4_expandedSums_57 : decode cX4_expandedSums 57 = .ok (.invokestatic 153, 3) := by decide +kernel
theorem dX4_expandedSums_60 : decode cX4_expandedSums 60 = .ok (.ireturn, 1) := by decide +kernel
theorem dX4_expandedSums_61 : decode cX4_expandedSums 61 = .ok (.iload_n 3, 1) := by decide +kernel
theorem dX4_expandedSums_62 : decode cX4_expandedSums 62 = .ok (.ifCond .eq 5, 3) := by decide +kernel
theorem dX4_expandedSums_65 : decode cX4_expandedSums 65 = .ok (.iconst 0, 1) := by decide +kernel
theorem dX4_expandedSums_66 : decode cX4_expandedSums 66 = .ok (.ireturn, 1) := by decide +kernel
theorem dX4_expandedSums_67 : decode cX4_expandedSums 67 = .ok (.iload 4, 2) := by decide +kernel
theorem dX4_expandedSums_69 : decode cX4_expandedSums 69 = .ok (.iconst 2, 1) := by decide +kernel
theorem dX4_expandedSums_70 : decode cX4_expandedSums 70 = .ok (.if_icmp .ge 22, 3) := by decide +kernel
theorem dX4_expandedSums_73 : decode cX4_expandedSums 73 = .ok (.iload_n 0, 1) := by decide +kernel
theorem dX4_expandedSums_74 : decode cX4_expandedSums 74 = .ok (.iconst 2, 1) := by decide +kernel
theorem dX4_expandedSums_75 : decode cX4_expandedSums 75 = .ok (.ishr, 1) := by decide +kernel
theorem dX4_expandedSums_76 : decode cX4_expandedSums 76 = .ok (.bipush 31, 2) := by decide +kernel
theorem dX4_expandedSums_78 : decode cX4_expandedSums 78 = .ok (.iand, 1) := by decide +kernel
theorem dX4_expandedSums_79 : decode cX4_expandedSums 79 = .ok (.iload 4, 2) := by decide +kernel
theorem dX4_expandedSums_81 : decode cX4_expandedSums 81 = .ok (.bipush 10, 2) := by decide +kernel
theorem dX4_expandedSums_83 : decode cX4_expandedSums 83 = .ok (.ishl, 1) := by decide +kernel
theorem dX4_expandedSums_84 : decode cX4_expandedSums 84 = .ok (.ior, 1) := by decide +kernel
theorem dX4_expandedSums_85 : decode cX4_expandedSums 85 = .ok (.iload_n 1, 1) := by decide +kernel
theorem dX4_expandedSums_86 : decode cX4_expandedSums 86 = .ok (.iconst 5, 1) := by decide +kernel
theorem dX4_expandedSums_87 : decode cX4_expandedSums 87 = .ok (.iload_n 1, 1) := by decide +kernel
theorem dX4_expandedSums_88 : decode cX4_expandedSums 88 = .ok (.invokestatic 153, 3) := by decide +kernel
theorem dX4_expandedSums_91 : decode cX4_expandedSums 91 = .ok (.ireturn, 1) := by decide +kernel
theorem dX4_expandedSums_92 : decode cX4_expandedSums 92 = .ok (.iload_n 2, 1) := by decide +kernel
theorem dX4_expandedSums_93 : decode cX4_expandedSums 93 = .ok (.bipush 20, 2) := by decide +kernel
theorem dX4_expandedSums_95 : decode cX4_expandedSums 95 = .ok (.ishl, 1) := by decide +kernel
theorem dX4_expandedSums_96 : decode cX4_expandedSums 96 = .ok (.iload_n 1, 1) := by decide +kernel
theorem dX4_expandedSums_97 : decode cX4_expandedSums 97 = .ok (.bipush 15, 2) := by decide +kernel
theorem dX4_expandedSums_99 : decode cX4_expandedSums 99 = .ok (.ishl, 1) := by decide +kernel
theorem dX4_expandedSums_100 : decode cX4_expandedSums 100 = .ok (.ior, 1) := by decide +kernel
theorem dX4_expandedSums_101 : decode cX4_expandedSums 101 = .ok (.iload_n 1, 1) := by decide +kernel
theorem dX4_expandedSums_102 : decode cX4_expandedSums 102 = .ok (.bipush 7, 2) := by decide +kernel
theorem dX4_expandedSums_104 : decode cX4_expandedSums 104 = .ok (.ishl, 1) := by decide +kernel
theorem dX4_expandedSums_105 : decode cX4_expandedSums 105 = .ok (.ior, 1) := by decide +kernel
theorem dX4_expandedSums_106 : decode cX4_expandedSums 106 = .ok (.bipush 51, 2) := by decide +kernel
theorem dX4_expandedSums_108 : decode cX4_expandedSums 108 = .ok (.ior, 1) := by decide +kernel
theorem dX4_expandedSums_109 : decode cX4_expandedSums 109 = .ok (.istore 5, 2) := by decide +kernel
theorem dX4_expandedSums_111 : decode cX4_expandedSums 111 = .ok (.iload_n 0, 1) := by decide +kernel
theorem dX4_expandedSums_112 : decode cX4_expandedSums 112 = .ok (.iconst 5, 1) := by decide +kernel
theorem dX4_expandedSums_113 : decode cX4_expandedSums 113 = .ok (.ishr, 1) := by decide +kernel
theorem dX4_expandedSums_114 : decode cX4_expandedSums 114 = .ok (.iconst 3, 1) := by decide +kernel
theorem dX4_expandedSums_115 : decode cX4_expandedSums 115 = .ok (.iand, 1) := by decide +kernel
theorem dX4_expandedSums_116 : decode cX4_expandedSums 116 = .ok (.tableswitch 48 0 2 #[28, 34, 41], 28) := by decide +kernel
theorem dX4_expandedSums_144 : decode cX4_expandedSums 144 = .ok (.iload 5, 2) := by decide +kernel
theorem dX4_expandedSums_146 : decode cX4_expandedSums 146 = .ok (.ldc 171, 2) := by decide +kernel
theorem dX4_expandedSums_148 : decode cX4_expandedSums 148 = .ok (.ior, 1) := by decide +kernel
theorem dX4_expandedSums_149 : decode cX4_expandedSums 149 = .ok (.ireturn, 1) := by decide +kernel
theorem dX4_expandedSums_150 : decode cX4_expandedSums 150 = .ok (.iload 5, 2) := by decide +kernel
theorem dX4_expandedSums_152 : decode cX4_expandedSums 152 = .ok (.sipush 16384, 3) := by decide +kernel
theorem dX4_expandedSums_155 : decode cX4_expandedSums 155 = .ok (.ior, 1) := by decide +kernel
theorem dX4_expandedSums_156 : decode cX4_expandedSums 156 = .ok (.ireturn, 1) := by decide +kernel
theorem dX4_expandedSums_157 : decode cX4_expandedSums 157 = .ok (.iload 5, 2) := by decide +kernel
theorem dX4_expandedSums_159 : decode cX4_expandedSums 159 = .ok (.sipush 24576, 3) := by decide +kernel
theorem dX4_expandedSums_162 : decode cX4_expandedSums 162 = .ok (.ior, 1) := by decide +kernel
theorem dX4_expandedSums_163 : decode cX4_expandedSums 163 = .ok (.ireturn, 1) := by decide +kernel
theorem dX4_expandedSums_164 : decode cX4_expandedSums 164 = .ok (.iload 5, 2) := by decide +kernel
theorem dX4_expandedSums_166 : decode cX4_expandedSums 166 = .ok (.sipush 28672, 3) := by decide +kernel
theorem dX4_expandedSums_169 : decode cX4_expandedSums 169 = .ok (.ior, 1) := by decide +kernel
theorem dX4_expandedSums_170 : decode cX4_expandedSums 170 = .ok (.ireturn, 1) := by decide +kernel
theorem dX4_expandedThird_0 : decode cX4_expandedThird 0 = .ok (.iload_n 0, 1) := by decide +kernel
theorem dX4_expandedThird_1 : decode cX4_expandedThird 1 = .ok (.bipush 7, 2) := by decide +kernel
theorem dX4_expandedThird_3 : decode cX4_expandedThird 3 = .ok (.ishr, 1) := by decide +kernel
theorem dX4_expandedThird_4 : decode cX4_expandedThird 4 = .ok (.bipush 31, 2) := by decide +kernel
theorem dX4_expandedThird_6 : decode cX4_expandedThird 6 = .ok (.iand, 1) := by decide +kernel
theorem dX4_expandedThird_7 : decode cX4_expandedThird 7 = .ok (.istore_n 1, 1) := by decide +kernel
theorem dX4_expandedThird_8 : decode cX4_expandedThird 8 = .ok (.iload_n 0, 1) := by decide +kernel
theorem dX4_expandedThird_9 : decode cX4_expandedThird 9 = .ok (.iconst 2, 1) := by decide +kernel
theorem dX4_expandedThird_10 : decode cX4_expandedThird 10 = .ok (.ishr, 1) := by decide +kernel
theorem dX4_expandedThird_11 : decode cX4_expandedThird 11 = .ok (.bipush 31, 2) := by decide +kernel
theorem dX4_expandedThird_13 : decode cX4_expandedThird 13 = .ok (.iand, 1) := by decide +kernel
theorem dX4_expandedThird_14 : decode cX4_expandedThird 14 = .ok (.istore_n 2, 1) := by decide +kernel
theorem dX4_expandedThird_15 : decode cX4_expandedThird 15 = .ok (.iload_n 0, 1) := by decide +kernel
theorem dX4_expandedThird_16 : decode cX4_expandedThird 16 = .ok (.sipush 4096, 3) := by decide +kernel
theorem dX4_expandedThird_19 : decode cX4_expandedThird 19 = .ok (.iand, 1) := by decide +kernel
theorem dX4_expandedThird_20 : decode cX4_expandedThird 20 = .ok (.ifCond .eq 7, 3) := by decide +kernel
theorem dX4_expandedThird_23 : decode cX4_expandedThird 23 = .ok (.iconst 1, 1) := by decide +kernel
theorem dX4_expandedThird_24 : decode cX4_expandedThird 24 = .ok (.goto 4, 3) := by decide +kernel
theorem dX4_expandedThird_27 : decode cX4_expandedThird 27 = .ok (.iconst 0, 1) := by decide +kernel
theorem dX4_expandedThird_28 : decode cX4_expandedThird 28 = .ok (.istore_n 3, 1) := by decide +kernel
theorem dX4_expandedThird_29 : decode cX4_expandedThird 29 = .ok (.iload_n 0, 1) := by decide +kernel
theorem dX4_expandedThird_30 : decode cX4_expandedThird 30 = .ok (.bipush 13, 2) := by decide +kernel
theorem dX4_expandedThird_32 : decode cX4_expandedThird 32 = .ok (.ishr, 1) := by decide +kernel
theorem dX4_expandedThird_33 : decode cX4_expandedThird 33 = .ok (.tableswitch 182 0 6 #[43, 182, 59, 182, 95, 182, 161], 43) := by decide +kernel
theorem dX4_expandedThird_76 : decode cX4_expandedThird 76 = .ok (.iload_n 3, 1) := by decide +kernel
theorem dX4_expandedThird_77 : decode cX4_expandedThird 77 = .ok (.ifCond .eq 7, 3) := by decide +kernel
theorem dX4_expandedThird_80 : decode cX4_expandedThird 80 = .ok (.iconst 0, 1) := by decide +kernel
theorem dX4_expandedThird_81 : decode cX4_expandedThird 81 = .ok (.goto 10, 3) := by decide +kernel
theorem dX4_expandedThird_84 : decode cX4_expandedThird 84 = .ok (.iload_n 2, 1) := by decide +kernel
theorem dX4_expandedThird_85 : decode cX4_expandedThird 85 = .ok (.iload_n 1, 1) := by decide +kernel
theorem dX4_expandedThird_86 : decode cX4_expandedThird 86 = .ok (.iconst 1, 1) := by decide +kernel
theorem dX4_expandedThird_87 : decode cX4_expandedThird 87 = .ok (.iload_n 1, 1) := by decide +kernel
theorem dX4_expandedThird_88 : decode cX4_expandedThird 88 = .ok (.invokestatic 153, 3) := by decide +kernel
theorem dX4_expandedThird_91 : decode cX4_expandedThird 91 = .ok (.ireturn, 1) := by decide +kernel
theorem dX4_expandedThird_92 : decode cX4_expandedThird 92 = .ok (.iload_n 1, 1) := by decide +kernel
theorem dX4_expandedThird_93 : decode cX4_expandedThird 93 = .ok (.ifCond .ne 7, 3) := by decide +kernel
theorem dX4_expandedThird_96 : decode cX4_expandedThird 96 = .ok (.iconst 0, 1) := by decide +kernel
theorem dX4_expandedThird_97 : decode cX4_expandedThird 97 = .ok (.goto 30, 3) := by decide +kernel
theorem dX4_expandedThird_100 : decode cX4_expandedThird 100 = .ok (.iload_n 0, 1) := by decide +kernel
theorem dX4_expandedThird_101 : decode cX4_expandedThird 101 = .ok (.bipush 7, 2) := by decide +kernel
theorem dX4_expandedThird_103 : decode cX4_expandedThird 103 = .ok (.ishr, 1) := by decide +kernel
theorem dX4_expandedThird_104 : decode cX4_expandedThird 104 = .ok (.bipush 32, 2) := by decide +kernel
theorem dX4_expandedThird_106 : decode cX4_expandedThird 106 = .ok (.iand, 1) := by decide +kernel
theorem dX4_expandedThird_107 : decode cX4_expandedThird 107 = .ok (.iload_n 0, 1) := by decide +kernel
theorem dX4_expandedThird_108 : decode cX4_expandedThird 108 = .ok (.iconst 2, 1) := by decide +kernel
theorem dX4_expandedThird_109 : decode cX4_expandedThird 109 = .ok (.ishr, 1) := by decide +kernel
theorem dX4_expandedThird_110 : decode cX4_expandedThird 110 = .ok (.bipush 28, 2) := by decide +kernel
theorem dX4_expandedThird_112 : decode cX4_expandedThird 112 = .ok (.iand, 1) := by decide +kernel
theorem dX4_expandedThird_113 : decode cX4_expandedThird 113 = .ok (.ior, 1) := by decide +kernel
theorem dX4_expandedThird_114 : decode cX4_expandedThird 114 = .ok (.iload_n 0, 1) := by decide +kernel
theorem dX4_expandedThird_115 : decode cX4_expandedThird 115 = .ok (.iconst 4, 1) := by decide +kernel
theorem dX4_expandedThird_116 : decode cX4_expandedThird 116 = .ok (.ishl, 1) := by decide +kernel
theorem dX4_expandedThird_117 : decode cX4_expandedThird 117 = .ok (.sipush 192, 3) := by decide +kernel
theorem dX4_expandedThird_120 : decode cX4_expandedThird 120 = .ok (.iand, 1) := by decide +kernel
theorem dX4_expandedThird_121 : decode cX4_expandedThird 121 = .ok (.ior, 1) := by decide +kernel
theorem dX4_expandedThird_122 : decode cX4_expandedThird 122 = .ok (.iconst 2, 1) := by decide +kernel
theorem dX4_expandedThird_123 : decode cX4_expandedThird 123 = .ok (.iload_n 1, 1) := by decide +kernel
theorem dX4_expandedThird_124 : decode cX4_expandedThird 124 = .ok (.invokestatic 156, 3) := by decide +kernel
theorem dX4_expandedThird_127 : decode cX4_expandedThird 127 = .ok (.ireturn, 1) := by decide +kernel
theorem dX4_expandedThird_128 : decode cX4_expandedThird 128 = .ok (.iload_n 2, 1) := by decide +kernel
theorem dX4_expandedThird_129 : decode cX4_expandedThird 129 = .ok (.ifCond .eq 29, 3) := by decide +kernel
theorem dX4_expandedThird_132 : decode cX4_expandedThird 132 = .ok (.iload_n 2, 1) := by decide +kernel
theorem dX4_expandedThird_133 : decode cX4_expandedThird 133 = .ok (.bipush 20, 2) := by decide +kernel
theorem dX4_expandedThird_135 : decode cX4_expandedThird 135 = .ok (.ishl, 1) := by decide +kernel
theorem dX4_expandedThird_136 : decode cX4_expandedThird 136 = .ok (.iload_n 3, 1) := by decide +kernel
theorem dX4_expandedThird_137 : decode cX4_expandedThird 137 = .ok (.ifCond .eq 7, 3) := by decide +kernel
theorem dX4_expandedThird_140 : decode cX4_expandedThird 140 = .ok (.iload_n 1, 1) := by decide +kernel
theorem dX4_expandedThird_141 : decode cX4_expandedThird 141 = .ok (.goto 4, 3) := by decide +kernel
theorem dX4_expandedThird_144 : decode cX4_expandedThird 144 = .ok (.iconst 0, 1) := by decide +kernel
theorem dX4_expandedThird_145 : decode cX4_expandedThird 145 = .ok (.bipush 15, 2) := by decide +kernel
theorem dX4_expandedThird_147 : decode cX4_expandedThird 147 = .ok (.ishl, 1) := by decide +kernel
theorem dX4_expandedThird_148 : decode cX4_expandedThird 148 = .ok (.ior, 1) := by decide +kernel
theorem dX4_expandedThird_149 : decode cX4_expandedThird 149 = .ok (.iload_n 1, 1) := by decide +kernel
theorem dX4_expandedThird_150 : decode cX4_expandedThird 150 = .ok (.bipush 7, 2) := by decide +kernel
theorem dX4_expandedThird_152 : decode cX4_expandedThird 152 = .ok (.ishl, 1) := by decide +kernel
theorem dX4_expandedThird_153 : decode cX4_expandedThird 153 = .ok (.ior, 1) := by decide +kernel
theorem dX4_expandedThird_154 : decode cX4_expandedThird 154 = .ok (.bipush 51, 2) := by decide +kernel
theorem dX4_expandedThird_156 : decode cX4_expandedThird 156 = .ok (.ior, 1) := by decide +kernel
