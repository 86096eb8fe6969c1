theorem dX7_fits_538 : decode cX7_fits 538 = .ok (.sipush 252, 3) := by decide +kernel
theorem dX7_fits_541 : decode cX7_fits 541 = .ok (.if_icmp .gt 13, 3) := by decide +kernel
theorem dX7_fits_544 : decode cX7_fits 544 = .ok (.iload_n 1, 1) := by decide +kernel
theorem dX7_fits_545 : decode cX7_fits 545 = .ok (.iconst 3, 1) := by decide +kernel
theorem dX7_fits_546 : decode cX7_fits 546 = .ok (.iand, 1) := by decide +kernel
theorem dX7_fits_547 : decode cX7_fits 547 = .ok (.ifCond .ne 7, 3) := by decide +kernel
theorem dX7_fits_550 : decode cX7_fits 550 = .ok (.iconst 1, 1) := by decide +kernel
theorem dX7_fits_551 : decode cX7_fits 551 = .ok (.goto 4, 3) := by decide +kernel
theorem dX7_fits_554 : decode cX7_fits 554 = .ok (.iconst 0, 1) := by decide +kernel
theorem dX7_fits_555 : decode cX7_fits 555 = .ok (.ireturn, 1) := by decide +kernel
theorem dX7_fits_556 : decode cX7_fits 556 = .ok (.iconst 1, 1) := by decide +kernel
theorem dX7_fits_557 : decode cX7_fits 557 = .ok (.ireturn, 1) := by decide +kernel
theorem dX7_placed_0 : decode cX7_placed 0 = .ok (.iload_n 0, 1) := by decide +kernel
theorem dX7_placed_1 : decode cX7_placed 1 = .ok (.tableswitch 370 72 122 #[258, 253, 329, 370, 370, 370, 370, 370, 370, 370, 370, 266, 290, 285, 370, 370, 370, 370, 370, 370, 370, 370, 370, 370, 370, 224, 229, 370, 219, 370, 370, 370, 370, 370, 370, 370, 370, 219, 219, 370, 238, 245, 370, 234, 370, 370, 370, 370, 370, 370, 234], 219) := by decide +kernel
theorem dX7_placed_220 : decode cX7_placed 220 = .ok (.iload_n 1, 1) := by decide +kernel
theorem dX7_placed_221 : decode cX7_placed 221 = .ok (.bipush 7, 2) := by decide +kernel
theorem dX7_placed_223 : decode cX7_placed 223 = .ok (.ishl, 1) := by decide +kernel
theorem dX7_placed_224 : decode cX7_placed 224 = .ok (.ireturn, 1) := by decide +kernel
theorem dX7_placed_225 : decode cX7_placed 225 = .ok (.iload_n 1, 1) := by decide +kernel
theorem dX7_placed_226 : decode cX7_placed 226 = .ok (.bipush 15, 2) := by decide +kernel
theorem dX7_placed_228 : decode cX7_placed 228 = .ok (.ishl, 1) := by decide +kernel
theorem dX7_placed_229 : decode cX7_placed 229 = .ok (.ireturn, 1) := by decide +kernel
theorem dX7_placed_230 : decode cX7_placed 230 = .ok (.iload_n 1, 1) := by decide +kernel
theorem dX7_placed_231 : decode cX7_placed 231 = .ok (.bipush 20, 2) := by decide +kernel
theorem dX7_placed_233 : decode cX7_placed 233 = .ok (.ishl, 1) := by decide +kernel
theorem dX7_placed_234 : decode cX7_placed 234 = .ok (.ireturn, 1) := by decide +kernel
theorem dX7_placed_235 : decode cX7_placed 235 = .ok (.iload_n 1, 1) := by decide +kernel
theorem dX7_placed_236 : decode cX7_placed 236 = .ok (.iconst 2, 1) := by decide +kernel
theorem dX7_placed_237 : decode cX7_placed 237 = .ok (.ishl, 1) := by decide +kernel
theorem dX7_placed_238 : decode cX7_placed 238 = .ok (.ireturn, 1) := by decide +kernel
theorem dX7_placed_239 : decode cX7_placed 239 = .ok (.iload_n 1, 1) := by decide +kernel
theorem dX7_placed_240 : decode cX7_placed 240 = .ok (.bipush 7, 2) := by decide +kernel
theorem dX7_placed_242 : decode cX7_placed 242 = .ok (.iand, 1) := by decide +kernel
theorem dX7_placed_243 : decode cX7_placed 243 = .ok (.iconst 2, 1) := by decide +kernel
theorem dX7_placed_244 : decode cX7_placed 244 = .ok (.ishl, 1) := by decide +kernel
theorem dX7_placed_245 : decode cX7_placed 245 = .ok (.ireturn, 1) := by decide +kernel
theorem dX7_placed_246 : decode cX7_placed 246 = .ok (.iload_n 1, 1) := by decide +kernel
theorem dX7_placed_247 : decode cX7_placed 247 = .ok (.bipush 7, 2) := by decide +kernel
theorem dX7_placed_249 : decode cX7_placed 249 = .ok (.iand, 1) := by decide +kernel
theorem dX7_placed_250 : decode cX7_placed 250 = .ok (.bipush 7, 2) := by decide +kernel
theorem dX7_placed_252 : decode cX7_placed 252 = .ok (.ishl, 1) := by decide +kernel
theorem dX7_placed_253 : decode cX7_placed 253 = .ok (.ireturn, 1) := by decide +kernel
theorem dX7_placed_254 : decode cX7_placed 254 = .ok (.iload_n 1, 1) := by decide +kernel
theorem dX7_placed_255 : decode cX7_placed 255 = .ok (.bipush 20, 2) := by decide +kernel
theorem dX7_placed_257 : decode cX7_placed 257 = .ok (.ishl, 1) := by decide +kernel
theorem dX7_placed_258 : decode cX7_placed 258 = .ok (.ireturn, 1) := by decide +kernel
theorem dX7_placed_259 : decode cX7_placed 259 = .ok (.iload_n 1, 1) := by decide +kernel
theorem dX7_placed_260 : decode cX7_placed 260 = .ok (.bipush 31, 2) := by decide +kernel
theorem dX7_placed_262 : decode cX7_placed 262 = .ok (.iand, 1) := by decide +kernel
theorem dX7_placed_263 : decode cX7_placed 263 = .ok (.bipush 20, 2) := by decide +kernel
theorem dX7_placed_265 : decode cX7_placed 265 = .ok (.ishl, 1) := by decide +kernel
theorem dX7_placed_266 : decode cX7_placed 266 = .ok (.ireturn, 1) := by decide +kernel
theorem dX7_placed_267 : decode cX7_placed 267 = .ok (.iload_n 1, 1) := by decide +kernel
theorem dX7_placed_268 : decode cX7_placed 268 = .ok (.iconst 5, 1) := by decide +kernel
theorem dX7_placed_269 : decode cX7_placed 269 = .ok (.bipush 7, 2) := by decide +kernel
theorem dX7_placed_271 : decode cX7_placed 271 = .ok (.bipush 25, 2) := by decide +kernel
theorem dX7_placed_273 : decode cX7_placed 273 = .ok (.invokestatic 466, 3) := by decide +kernel
theorem dX7_placed_276 : decode cX7_placed 276 = .ok (.iload_n 1, 1) := by decide +kernel
theorem dX7_placed_277 : decode cX7_placed 277 = .ok (.iconst 0, 1) := by decide +kernel
theorem dX7_placed_278 : decode cX7_placed 278 = .ok (.iconst 5, 1) := by decide +kernel
theorem dX7_placed_279 : decode cX7_placed 279 = .ok (.bipush 7, 2) := by decide +kernel
theorem dX7_placed_281 : decode cX7_placed 281 = .ok (.invokestatic 466, 3) := by decide +kernel
theorem dX7_placed_284 : decode cX7_placed 284 = .ok (.ior, 1) := by decide +kernel
theorem dX7_placed_285 : decode cX7_placed 285 = .ok (.ireturn, 1) := by decide +kernel
theorem dX7_placed_286 : decode cX7_placed 286 = .ok (.iload_n 1, 1) := by decide +kernel
theorem dX7_placed_287 : decode cX7_placed 287 = .ok (.bipush 12, 2) := by decide +kernel
theorem dX7_placed_289 : decode cX7_placed 289 = .ok (.ishl, 1) := by decide +kernel
theorem dX7_placed_290 : decode cX7_placed 290 = .ok (.ireturn, 1) := by decide +kernel
theorem dX7_placed_291 : decode cX7_placed 291 = .ok (.iload_n 1, 1) := by decide +kernel
theorem dX7_placed_292 : decode cX7_placed 292 = .ok (.bipush 12, 2) := by decide +kernel
theorem dX7_placed_294 : decode cX7_placed 294 = .ok (.iconst 1, 1) := by decide +kernel
theorem dX7_placed_295 : decode cX7_placed 295 = .ok (.bipush 31, 2) := by decide +kernel
theorem dX7_placed_297 : decode cX7_placed 297 = .ok (.invokestatic 466, 3) := by decide +kernel
theorem dX7_placed_300 : decode cX7_placed 300 = .ok (.iload_n 1, 1) := by decide +kernel
theorem dX7_placed_301 : decode cX7_placed 301 = .ok (.iconst 5, 1) := by decide +kernel
theorem dX7_placed_302 : decode cX7_placed 302 = .ok (.bipush 6, 2) := by decide +kernel
theorem dX7_placed_304 : decode cX7_placed 304 = .ok (.bipush 25, 2) := by decide +kernel
theorem dX7_placed_306 : decode cX7_placed 306 = .ok (.invokestatic 466, 3) := by decide +kernel
theorem dX7_placed_309 : decode cX7_placed 309 = .ok (.ior, 1) := by decide +kernel
theorem dX7_placed_310 : decode cX7_placed 310 = .ok (.iload_n 1, 1) := by decide +kernel
theorem dX7_placed_311 : decode cX7_placed 311 = .ok (.iconst 1, 1) := by decide +kernel
theorem dX7_placed_312 : decode cX7_placed 312 = .ok (.iconst 4, 1) := by decide +kernel
theorem dX7_placed_313 : decode cX7_placed 313 = .ok (.bipush 8, 2) := by decide +kernel
theorem dX7_placed_315 : decode cX7_placed 315 = .ok (.invokestatic 466, 3) := by decide +kernel
theorem dX7_placed_318 : decode cX7_placed 318 = .ok (.ior, 1) := by decide +kernel
theorem dX7_placed_319 : decode cX7_placed 319 = .ok (.iload_n 1, 1) := by decide +kernel
theorem dX7_placed_320 : decode cX7_placed 320 = .ok (.bipush 11, 2) := by decide +kernel
theorem dX7_placed_322 : decode cX7_placed 322 = .ok (.iconst 1, 1) := by decide +kernel
theorem dX7_placed_323 : decode cX7_placed 323 = .ok (.bipush 7, 2) := by decide +kernel
theorem dX7_placed_325 : decode cX7_placed 325 = .ok (.invokestatic 466, 3) := by decide +kernel
theorem dX7_placed_328 : decode cX7_placed 328 = .ok (.ior, 1) := by decide +kernel
theorem dX7_placed_329 : decode cX7_placed 329 = .ok (.ireturn, 1) := by decide +kernel
theorem dX7_placed_330 : decode cX7_placed 330 = .ok (.iload_n 1, 1) := by decide +kernel
theorem dX7_placed_331 : decode cX7_placed 331 = .ok (.bipush 20, 2) := by decide +kernel
theorem dX7_placed_333 : decode cX7_placed 333 = .ok (.iconst 1, 1) := by decide +kernel
theorem dX7_placed_334 : decode cX7_placed 334 = .ok (.bipush 31, 2) := by decide +kernel
theorem dX7_placed_336 : decode cX7_placed 336 = .ok (.invokestatic 466, 3) := by decide +kernel
theorem dX7_placed_339 : decode cX7_placed 339 = .ok (.iload_n 1, 1) := by decide +kernel
theorem dX7_placed_340 : decode cX7_placed 340 = .ok (.iconst 1, 1) := by decide +kernel
theorem dX7_placed_341 : decode cX7_placed 341 = .ok (.bipush 10, 2) := by decide +kernel
theorem dX7_placed_343 : decode cX7_placed 343 = .ok (.bipush 21, 2) := by decide +kernel
theorem dX7_placed_345 : decode cX7_placed 345 = .ok (.invokestatic 466, 3) := by decide +kernel
theorem dX7_placed_348 : decode cX7_placed 348 = .ok (.ior, 1) := by decide +kernel
theorem dX7_placed_349 : decode cX7_placed 349 = .ok (.iload_n 1, 1) := by decide +kernel
theorem dX7_placed_350 : decode cX7_placed 350 = .ok (.bipush 11, 2) := by decide +kernel
theorem dX7_placed_352 : decode cX7_placed 352 = .ok (.iconst 1, 1) := by decide +kernel
theorem dX7_placed_353 : decode cX7_placed 353 = .ok (.bipush 20, 2) := by decide +kernel
theorem dX7_placed_355 : decode cX7_placed 355 = .ok (.invokestatic 466, 3) := by decide +kernel
theorem dX7_placed_358 : decode cX7_placed 358 = .ok (.ior, 1) := by decide +kernel
theorem dX7_placed_359 : decode cX7_placed 359 = .ok (.iload_n 1, 1) := by decide +kernel
theorem dX7_placed_360 : decode cX7_placed 360 = .ok (.bipush 12, 2) := by decide +kernel
theorem dX7_placed_362 : decode cX7_placed 362 = .ok (.bipush 8, 2) := by decide +kernel
theorem dX7_placed_364 : decode cX7_placed 364 = .ok (.bipush 12, 2) := by decide +kernel
theorem dX7_placed_366 : decode cX7_placed 366 = .ok (.invokestatic 466, 3) := by decide +kernel
theorem dX7_placed_369 : decode cX7_placed 369 = .ok (.ior, 1) := by decide +kernel
theorem dX7_placed_370 : decode cX7_placed 370 = .ok (.ireturn, 1) := by decide +kernel
theorem dX7_placed_371 : decode cX7_placed 371 = .ok (.iload_n 0, 1) := by decide +kernel
theorem dX7_placed_372 : decode cX7_placed 372 = .ok (.iload_n 1, 1) := by decide +kernel
theorem dX7_placed_373 : decode cX7_placed 373 = .ok (.invokestatic 470, 3) := by decide +kernel
theorem dX7_placed_376 : decode cX7_placed 376 = .ok (.ireturn, 1) := by decide +kernel
theorem dX7_placedShort_0 : decode cX7_placedShort 0 = .ok (.iload_n 0, 1) := by decide +kernel
theorem dX7_placedShort_1 : decode cX7_placedShort 1 = .ok (.tableswitch 372 75 89 #[75, 150, 194, 194, 372, 327, 353, 372, 372, 372, 372, 319, 247, 211, 274], 75) := by decide +kernel
theorem dX7_placedShort_76 : decode cX7_placedShort 76 = .ok (.iload_n 1, 1) := by decide +kernel
theorem dX7_placedShort_77 : decode cX7_placedShort 77 = .ok (.bipush 11, 2) := by decide +kernel
theorem dX7_placedShort_79 : decode cX7_placedShort 79 = .ok (.iconst 1, 1) := by decide +kernel
theorem dX7_placedShort_80 : decode cX7_placedShort 80 = .ok (.bipush 12, 2) := by decide +kernel
theorem dX7_placedShort_82 : decode cX7_placedShort 82 = .ok (.invokestatic 466, 3) := by decide +kernel
theorem dX7_placedShort_85 : decode cX7_placedShort 85 = .ok (.iload_n 1, 1) := by decide +kernel
theorem dX7_placedShort_86 : decode cX7_placedShort 86 = .ok (.iconst 4, 1) := by decide +kernel
theorem dX7_placedShort_87 : decode cX7_placedShort 87 = .ok (.iconst 1, 1) := by decide +kernel
theorem dX7_placedShort_88 : decode cX7_placedShort 88 = .ok (.bipush 11, 2) := by decide +kernel
theorem dX7_placedShort_90 : decode cX7_placedShort 90 = .ok (.invokestatic 466, 3) := by decide +kernel
theorem dX7_placedShort_93 : decode cX7_placedShort 93 = .ok (.ior, 1) := by decide +kernel
theorem dX7_placedShort_94 : decode cX7_placedShort 94 = .ok (.iload_n 1, 1) := by decide +kernel
theorem dX7_placedShort_95 : decode cX7_placedShort 95 = .ok (.bipush 8, 2) := by decide +kernel
theorem dX7_placedShort_97 : decode cX7_placedShort 97 = .ok (.iconst 2, 1) := by decide +kernel
theorem dX7_placedShort_98 : decode cX7_placedShort 98 = .ok (.bipush 9, 2) := by decide +kernel
theorem dX7_placedShort_100 : decode cX7_placedShort 100 = .ok (.invokestatic 466, 3) := by decide +kernel
theorem dX7_placedShort_103 : decode cX7_placedShort 103 = .ok (.ior, 1) := by decide +kernel
theorem dX7_placedShort_104 : decode cX7_placedShort 104 = .ok (.iload_n 1, 1) := by decide +kernel
theorem dX7_placedShort_105 : decode cX7_placedShort 105 = .ok (.bipush 10, 2) := by decide +kernel
theorem dX7_placedShort_107 : decode cX7_placedShort 107 = .ok (.iconst 1, 1) := by decide +kernel
theorem dX7_placedShort_108 : decode cX7_placedShort 108 = .ok (.bipush 8, 2) := by decide +kernel
theorem dX7_placedShort_110 : decode cX7_placedShort 110 = .ok (.invokestatic 466, 3) := by decide +kernel
theorem dX7_placedShort_113 : decode cX7_placedShort 113 = .ok (.ior, 1) := by decide +kernel
theorem dX7_placedShort_114 : decode cX7_placedShort 114 = .ok (.iload_n 1, 1) := by decide +kernel
theorem dX7_placedShort_115 : decode cX7_placedShort 115 = .ok (.bipush 6, 2) := by decide +kernel
theorem dX7_placedShort_117 : decode cX7_placedShort 117 = .ok (.iconst 1, 1) := by decide +kernel
theorem dX7_placedShort_118 : decode cX7_placedShort 118 = .ok (.bipush 7, 2) := by decide +kernel
theorem dX7_placedShort_120 : decode cX7_placedShort 120 = .ok (.invokestatic 466, 3) := by decide +kernel
theorem dX7_placedShort_123 : decode cX7_placedShort 123 = .ok (.ior, 1) := by decide +kernel
theorem dX7_placedShort_124 : decode cX7_placedShort 124 = .ok (.iload_n 1, 1) := by decide +kernel
theorem dX7_placedShort_125 : decode cX7_placedShort 125 = .ok (.bipush 7, 2) := by decide +kernel
theorem dX7_placedShort_127 : decode cX7_placedShort 127 = .ok (.iconst 1, 1) := by decide +kernel
theorem dX7_placedShort_128 : decode cX7_placedShort 128 = .ok (.bipush 6, 2) := by decide +kernel
theorem dX7_placedShort_130 : decode cX7_placedShort 130 = .ok (.invokestatic 466, 3) := by decide +kernel
theorem dX7_placedShort_133 : decode cX7_placedShort 133 = .ok (.ior, 1) := by decide +kernel
theorem dX7_placedShort_134 : decode cX7_placedShort 134 = .ok (.iload_n 1, 1) := by decide +kernel
theorem dX7_placedShort_135 : decode cX7_placedShort 135 = .ok (.iconst 1, 1) := by decide +kernel
theorem dX7_placedShort_136 : decode cX7_placedShort 136 = .ok (.iconst 3, 1) := by decide +kernel
theorem dX7_placedShort_137 : decode cX7_placedShort 137 = .ok (.iconst 3, 1) := by decide +kernel
theorem dX7_placedShort_138 : decode cX7_placedShort 138 = .ok (.invokestatic 466, 3) := by decide +kernel
theorem dX7_placedShort_141 : decode cX7_placedShort 141 = .ok (.ior, 1) := by decide +kernel
theorem dX7_placedShort_142 : decode cX7_placedShort 142 = .ok (.iload_n 1, 1) := by decide +kernel
theorem dX7_placedShort_143 : decode cX7_placedShort 143 = .ok (.iconst 5, 1) := by decide +kernel
theorem dX7_placedShort_144 : decode cX7_placedShort 144 = .ok (.iconst 1, 1) := by decide +kernel
theorem dX7_placedShort_145 : decode cX7_placedShort 145 = .ok (.iconst 2, 1) := by decide +kernel
theorem dX7_placedShort_146 : decode cX7_placedShort 146 = .ok (.invokestatic 466, 3) := by decide +kernel
theorem dX7_placedShort_149 : decode cX7_placedShort 149 = .ok (.ior, 1) := by decide +kernel
theorem dX7_placedShort_150 : decode cX7_placedShort 150 = .ok (.ireturn, 1) := by decide +kernel
theorem dX7_placedShort_151 : decode cX7_placedShort 151 = .ok (.iload_n 1, 1) := by decide +kernel
theorem dX7_placedShort_152 : decode cX7_placedShort 152 = .ok (.bipush 8, 2) := by decide +kernel
theorem dX7_placedShort_154 : decode cX7_placedShort 154 = .ok (.iconst 1, 1) := by decide +kernel
theorem dX7_placedShort_155 : decode cX7_placedShort 155 = .ok (.bipush 12, 2) := by decide +kernel
theorem dX7_placedShort_157 : decode cX7_placedShort 157 = .ok (.invokestatic 466, 3) := by decide +kernel
theorem dX7_placedShort_160 : decode cX7_placedShort 160 = .ok (.iload_n 1, 1) := by decide +kernel
theorem dX7_placedShort_161 : decode cX7_placedShort 161 = .ok (.iconst 3, 1) := by decide +kernel
theorem dX7_placedShort_162 : decode cX7_placedShort 162 = .ok (.iconst 2, 1) := by decide +kernel
theorem dX7_placedShort_163 : decode cX7_placedShort 163 = .ok (.bipush 10, 2) := by decide +kernel
theorem dX7_placedShort_165 : decode cX7_placedShort 165 = .ok (.invokestatic 466, 3) := by decide +kernel
theorem dX7_placedShort_168 : decode cX7_placedShort 168 = .ok (.ior, 1) := by decide +kernel
theorem dX7_placedShort_169 : decode cX7_placedShort 169 = .ok (.iload_n 1, 1) := by decide +kernel
theorem dX7_placedShort_170 : decode cX7_placedShort 170 = .ok (.bipush 6, 2) := by decide +kernel
theorem dX7_placedShort_172 : decode cX7_placedShort 172 = .ok (.iconst 2, 1) := by decide +kernel
theorem dX7_placedShort_173 : decode cX7_placedShort 173 = .ok (.iconst 5, 1) := by decide +kernel
theorem dX7_placedShort_174 : decode cX7_placedShort 174 = .ok (.invokestatic 466, 3) := by decide +kernel
theorem dX7_placedShort_177 : decode cX7_placedShort 177 = .ok (.ior, 1) := by decide +kernel
theorem dX7_placedShort_178 : decode cX7_placedShort 178 = .ok (.iload_n 1, 1) := by decide +kernel
theorem dX7_placedShort_179 : decode cX7_placedShort 179 = .ok (.iconst 1, 1) := by decide +kernel
theorem dX7_placedShort_180 : decode cX7_placedShort 180 = .ok (.iconst 2, 1) := by decide +kernel
theorem dX7_placedShort_181 : decode cX7_placedShort 181 = .ok (.iconst 3, 1) := by decide +kernel
theorem dX7_placedShort_182 : decode cX7_placedShort 182 = .ok (.invokestatic 466, 3) := by decide +kernel
theorem dX7_placedShort_185 : decode cX7_placedShort 185 = .ok (.ior, 1) := by decide +kernel
theorem dX7_placedShort_186 : decode cX7_placedShort 186 = .ok (.iload_n 1, 1) := by decide +kernel
theorem dX7_placedShort_187 : decode cX7_placedShort 187 = .ok (.iconst 5, 1) := by decide +kernel
theorem dX7_placedShort_188 : decode cX7_placedShort 188 = .ok (.iconst 1, 1) := by decide +kernel
theorem dX7_placedShort_189 : decode cX7_placedShort 189 = .ok (.iconst 2, 1) := by decide +kernel
theorem dX7_placedShort_190 : decode cX7_placedShort 190 = .ok (.invokestatic 466, 3) := by decide +kernel
theorem dX7_placedShort_193 : decode cX7_placedShort 193 = .ok (.ior, 1) := by decide +kernel
theorem dX7_placedShort_194 : decode cX7_placedShort 194 = .ok (.ireturn, 1) := by decide +kernel
theorem dX7_placedShort_195 : decode cX7_placedShort 195 = .ok (.iload_n 1, 1) := by decide +kernel
theorem dX7_placedShort_196 : decode cX7_placedShort 196 = .ok (.iconst 5, 1) := by decide +kernel
theorem dX7_placedShort_197 : decode cX7_placedShort 197 = .ok (.iconst 1, 1) := by decide +kernel
theorem dX7_placedShort_198 : decode cX7_placedShort 198 = .ok (.bipush 12, 2) := by decide +kernel
theorem dX7_placedShort_200 : decode cX7_placedShort 200 = .ok (.invokestatic 466, 3) := by decide +kernel
theorem dX7_placedShort_203 : decode cX7_placedShort 203 = .ok (.iload_n 1, 1) := by decide +kernel
theorem dX7_placedShort_204 : decode cX7_placedShort 204 = .ok (.iconst 0, 1) := by decide +kernel
theorem dX7_placedShort_205 : decode cX7_placedShort 205 = .ok (.iconst 5, 1) := by decide +kernel
theorem dX7_placedShort_206 : decode cX7_placedShort 206 = .ok (.iconst 2, 1) := by decide +kernel
theorem dX7_placedShort_207 : decode cX7_placedShort 207 = .ok (.invokestatic 466, 3) := by decide +kernel
theorem dX7_placedShort_210 : decode cX7_placedShort 210 = .ok (.ior, 1) := by decide +kernel
theorem dX7_placedShort_211 : decode cX7_placedShort 211 = .ok (.ireturn, 1) := by decide +kernel
theorem dX7_placedShort_212 : decode cX7_placedShort 212 = .ok (.iload_n 1, 1) := by decide +kernel
theorem dX7_placedShort_213 : decode cX7_placedShort 213 = .ok (.iconst 4, 1) := by decide +kernel
theorem dX7_placedShort_214 : decode cX7_placedShort 214 = .ok (.iconst 2, 1) := by decide +kernel
theorem dX7_placedShort_215 : decode cX7_placedShort 215 = .ok (.bipush 11, 2) := by decide +kernel
theorem dX7_placedShort_217 : decode cX7_placedShort 217 = .ok (.invokestatic 466, 3) := by decide +kernel
theorem dX7_placedShort_220 : decode cX7_placedShort 220 = .ok (.iload_n 1, 1) := by decide +kernel
theorem dX7_placedShort_221 : decode cX7_placedShort 221 = .ok (.bipush 6, 2) := by decide +kernel
theorem dX7_placedShort_223 : decode cX7_placedShort 223 = .ok (.iconst 4, 1) := by decide +kernel
theorem dX7_placedShort_224 : decode cX7_placedShort 224 = .ok (.bipush 7, 2) := by decide +kernel
theorem dX7_placedShort_226 : decode cX7_placedShort 226 = .ok (.invokestatic 466, 3) := by decide +kernel
theorem dX7_placedShort_229 : decode cX7_placedShort 229 = .ok (.ior, 1) := by decide +kernel
theorem dX7_placedShort_230 : decode cX7_placedShort 230 = .ok (.iload_n 1, 1) := by decide +kernel
theorem dX7_placedShort_231 : decode cX7_placedShort 231 = .ok (.iconst 2, 1) := by decide +kernel
theorem dX7_placedShort_232 : decode cX7_placedShort 232 = .ok (.iconst 1, 1) := by decide +kernel
theorem dX7_placedShort_233 : decode cX7_placedShort 233 = .ok (.bipush 6, 2) := by decide +kernel
theorem dX7_placedShort_235 : decode cX7_placedShort 235 = .ok (.invokestatic 466, 3) := by decide +kernel
theorem dX7_placedShort_238 : decode cX7_placedShort 238 = .ok (.ior, 1) := by decide +kernel
theorem dX7_placedShort_239 : decode cX7_placedShort 239 = .ok (.iload_n 1, 1) := by decide +kernel
theorem dX7_placedShort_240 : decode cX7_placedShort 240 = .ok (.iconst 3, 1) := by decide +kernel
theorem dX7_placedShort_241 : decode cX7_placedShort 241 = .ok (.iconst 1, 1) := by decide +kernel
theorem dX7_placedShort_242 : decode cX7_placedShort 242 = .ok (.iconst 5, 1) := by decide +kernel
theorem dX7_placedShort_243 : decode cX7_placedShort 243 = .ok (.invokestatic 466, 3) := by decide +kernel
theorem dX7_placedShort_246 : decode cX7_placedShort 246 = .ok (.ior, 1) := by decide +kernel
theorem dX7_placedShort_247 : decode cX7_placedShort 247 = .ok (.ireturn, 1) := by decide +kernel
theorem dX7_placedShort_248 : decode cX7_placedShort 248 = .ok (.iload_n 1, 1) := by decide +kernel
theorem dX7_placedShort_249 : decode cX7_placedShort 249 = .ok (.iconst 3, 1) := by decide +kernel
theorem dX7_placedShort_250 : decode cX7_placedShort 250 = .ok (.iconst 3, 1) := by decide +kernel
theorem dX7_placedShort_251 : decode cX7_placedShort 251 = .ok (.bipush 10, 2) := by decide +kernel
theorem dX7_placedShort_253 : decode cX7_placedShort 253 = .ok (.invokestatic 466, 3) := by decide +kernel
theorem dX7_placedShort_256 : decode cX7_placedShort 256 = .ok (.iload_n 1, 1) := by decide +kernel
theorem dX7_placedShort_257 : decode cX7_placedShort 257 = .ok (.iconst 2, 1) := by decide +kernel
theorem dX7_placedShort_258 : decode cX7_placedShort 258 = .ok (.iconst 1, 1) := by decide +kernel
theorem dX7_placedShort_259 : decode cX7_placedShort 259 = .ok (.bipush 6, 2) := by decide +kernel
theorem dX7_placedShort_261 : decode cX7_placedShort 261 = .ok (.invokestatic 466, 3) := by decide +kernel
theorem dX7_placedShort_264 : decode cX7_placedShort 264 = .ok (.ior, 1) := by decide +kernel
theorem dX7_placedShort_265 : decode cX7_placedShort 265 = .ok (.iload_n 1, 1) := by decide +kernel
theorem dX7_placedShort_266 : decode cX7_placedShort 266 = .ok (.bipush 6, 2) := by decide +kernel
theorem dX7_placedShort_268 : decode cX7_placedShort 268 = .ok (.iconst 1, 1) := by decide +kernel
theorem dX7_placedShort_269 : decode cX7_placedShort 269 = .ok (.iconst 5, 1) := by decide +kernel
theorem dX7_placedShort_270 : decode cX7_placedShort 270 = .ok (.invokestatic 466, 3) := by decide +kernel
theorem dX7_placedShort_273 : decode cX7_placedShort 273 = .ok (.ior, 1) := by decide +kernel
theorem dX7_placedShort_274 : decode cX7_placedShort 274 = .ok (.ireturn, 1) := by decide +kernel
theorem dX7_placedShort_275 : decode cX7_placedShort 275 = .ok (.iload_n 1, 1) := by decide +kernel
theorem dX7_placedShort_276 : decode cX7_placedShort 276 = .ok (.bipush 9, 2) := by decide +kernel
theorem dX7_placedShort_278 : decode cX7_placedShort 278 = .ok (.iconst 1, 1) := by decide +kernel
theorem dX7_placedShort_279 : decode cX7_placedShort 279 = .ok (.bipush 12, 2) := by decide +kernel
theorem dX7_placedShort_281 : decode cX7_placedShort 281 = .ok (.invokestatic 466, 3) := by decide +kernel
theorem dX7_placedShort_284 : decode cX7_placedShort 284 = .ok (.iload_n 1, 1) := by decide +kernel
theorem dX7_placedShort_285 : decode cX7_placedShort 285 = .ok (.iconst 4, 1) := by decide +kernel
theorem dX7_placedShort_286 : decode cX7_placedShort 286 = .ok (.iconst 1, 1) := by decide +kernel
theorem dX7_placedShort_287 : decode cX7_placedShort 287 = .ok (.bipush 6, 2) := by decide +kernel
theorem dX7_placedShort_289 : decode cX7_placedShort 289 = .ok (.invokestatic 466, 3) := by decide +kernel
theorem dX7_placedShort_292 : decode cX7_placedShort 292 = .ok (.ior, 1) := by decide +kernel
theorem dX7_placedShort_293 : decode cX7_placedShort 293 = .ok (.iload_n 1, 1) := by decide +kernel
theorem dX7_placedShort_294 : decode cX7_placedShort 294 = .ok (.bipush 6, 2) := by decide +kernel
theorem dX7_placedShort_296 : decode cX7_placedShort 296 = .ok (.iconst 1, 1) := by decide +kernel
theorem dX7_placedShort_297 : decode cX7_placedShort 297 = .ok (.iconst 5, 1) := by decide +kernel
theorem dX7_placedShort_298 : decode cX7_placedShort 298 = .ok (.invokestatic 466, 3) := by decide +kernel
theorem dX7_placedShort_301 : decode cX7_placedShort 301 = .ok (.ior, 1) := by decide +kernel
theorem dX7_placedShort_302 : decode cX7_placedShort 302 = .ok (.iload_n 1, 1) := by decide +kernel
theorem dX7_placedShort_303 : decode cX7_placedShort 303 = .ok (.bipush 7, 2) := by decide +kernel
theorem dX7_placedShort_305 : decode cX7_placedShort 305 = .ok (.iconst 2, 1) := by decide +kernel
theorem dX7_placedShort_306 : decode cX7_placedShort 306 = .ok (.iconst 3, 1) := by decide +kernel
theorem dX7_placedShort_307 : decode cX7_placedShort 307 = .ok (.invokestatic 466, 3) := by decide +kernel
theorem dX7_placedShort_310 : decode cX7_placedShort 310 = .ok (.ior, 1) := by decide +kernel
theorem dX7_placedShort_311 : decode cX7_placedShort 311 = .ok (.iload_n 1, 1) := by decide +kernel
theorem dX7_placedShort_312 : decode cX7_placedShort 312 = .ok (.iconst 5, 1) := by decide +kernel
theorem dX7_placedShort_313 : decode cX7_placedShort 313 = .ok (.iconst 1, 1) := by decide +kernel
theorem dX7_placedShort_314 : decode cX7_placedShort 314 = .ok (.iconst 2, 1) := by decide +kernel
theorem dX7_placedShort_315 : decode cX7_placedShort 315 = .ok (.invokestatic 466, 3) := by decide +kernel
theorem dX7_placedShort_318 : decode cX7_placedShort 318 = .ok (.ior, 1) := by decide +kernel
theorem dX7_placedShort_319 : decode cX7_placedShort 319 = .ok (.ireturn, 1) := by decide +kernel
theorem dX7_placedShort_320 : decode cX7_placedShort 320 = .ok (.iload_n 1, 1) := by decide +kernel
theorem dX7_placedShort_321 : decode cX7_placedShort 321 = .ok (.iconst 0, 1) := by decide +kernel
theorem dX7_placedShort_322 : decode cX7_placedShort 322 = .ok (.iconst 5, 1) := by decide +kernel
theorem dX7_placedShort_323 : decode cX7_placedShort 323 = .ok (.iconst 2, 1) := by decide +kernel
theorem dX7_placedShort_324 : decode cX7_placedShort 324 = .ok (.invokestatic 466, 3) := by decide +kernel
theorem dX7_placedShort_327 : decode cX7_placedShort 327 = .ok (.ireturn, 1) := by decide +kernel
theorem dX7_placedShort_328 : decode cX7_placedShort 328 = .ok (.iload_n 1, 1) := by decide +kernel
theorem dX7_placedShort_329 : decode cX7_placedShort 329 = .ok (.iconst 5, 1) := by decide +kernel
theorem dX7_placedShort_330 : decode cX7_placedShort 330 = .ok (.iconst 1, 1) := by decide +kernel
theorem dX7_placedShort_331 : decode cX7_placedShort 331 = .ok (.bipush 12, 2) := by decide +kernel
theorem dX7_placedShort_333 : decode cX7_placedShort 333 = .ok (.invokestatic 466, 3) := by decide +kernel
theorem dX7_placedShort_336 : decode cX7_placedShort 336 = .ok (.iload_n 1, 1) := by decide +kernel
theorem dX7_placedShort_337 : decode cX7_placedShort 337 = .ok (.iconst 2, 1) := by decide +kernel
theorem dX7_placedShort_338 : decode cX7_placedShort 338 = .ok (.iconst 3, 1) := by decide +kernel
theorem dX7_placedShort_339 : decode cX7_placedShort 339 = .ok (.iconst 4, 1) := by decide +kernel
theorem dX7_placedShort_340 : decode cX7_placedShort 340 = .ok (.invokestatic 466, 3) := by decide +kernel
theorem dX7_placedShort_343 : decode cX7_placedShort 343 = .ok (.ior, 1) := by decide +kernel
theorem dX7_placedShort_344 : decode cX7_placedShort 344 = .ok (.iload_n 1, 1) := by decide +kernel
theorem dX7_placedShort_345 : decode cX7_placedShort 345 = .ok (.bipush 6, 2) := by decide +kernel
theorem dX7_placedShort_347 : decode cX7_placedShort 347 = .ok (.iconst 2, 1) := by decide +kernel
theorem dX7_placedShort_348 : decode cX7_placedShort 348 = .ok (.iconst 2, 1) := by decide +kernel
theorem dX7_placedShort_349 : decode cX7_placedShort 349 = .ok (.invokestatic 466, 3) := by decide +kernel
theorem dX7_placedShort_352 : decode cX7_placedShort 352 = .ok (.ior, 1) := by decide +kernel
theorem dX7_placedShort_353 : decode cX7_placedShort 353 = .ok (.ireturn, 1) := by decide +kernel
theorem dX7_placedShort_354 : decode cX7_placedShort 354 = .ok (.iload_n 1, 1) := by decide +kernel
theorem dX7_placedShort_355 : decode cX7_placedShort 355 = .ok (.iconst 2, 1) := by decide +kernel
theorem dX7_placedShort_356 : decode cX7_placedShort 356 = .ok (.iconst 4, 1) := by decide +kernel
theorem dX7_placedShort_357 : decode cX7_placedShort 357 = .ok (.bipush 9, 2) := by decide +kernel
theorem dX7_placedShort_359 : decode cX7_placedShort 359 = .ok (.invokestatic 466, 3) := by decide +kernel
theorem dX7_placedShort_362 : decode cX7_placedShort 362 = .ok (.iload_n 1, 1) := by decide +kernel
theorem dX7_placedShort_363 : decode cX7_placedShort 363 = .ok (.bipush 6, 2) := by decide +kernel
theorem dX7_placedShort_365 : decode cX7_placedShort 365 = .ok (.iconst 2, 1) := by decide +kernel
theorem dX7_placedShort_366 : decode cX7_placedShort 366 = .ok (.bipush 7, 2) := by decide +kernel
theorem dX7_placedShort_368 : decode cX7_placedShort 368 = .ok (.invokestatic 466, 3) := by decide +kernel
theorem dX7_placedShort_371 : decode cX7_placedShort 371 = .ok (.ior, 1) := by decide +kernel
theorem dX7_placedShort_372 : decode cX7_placedShort 372 = .ok (.ireturn, 1) := by decide +kernel
theorem dX7_placedShort_373 : decode cX7_placedShort 373 = .ok (.iconst 0, 1) := by decide +kernel
theorem dX7_placedShort_374 : decode cX7_placedShort 374 = .ok (.ireturn, 1) := by decide +kernel
theorem dX7_part_0 : decode cX7_part 0 = .ok (.iload_n 0, 1) := by decide +kernel
theorem dX7_part_1 : decode cX7_part 1 = .ok (.iload_n 1, 1) := by decide +kernel
theorem dX7_part_2 : decode cX7_part 2 = .ok (.ishr, 1) := by decide +kernel
theorem dX7_part_3 : decode cX7_part 3 = .ok (.iconst 1, 1) := by decide +kernel
theorem dX7_part_4 : decode cX7_part 4 = .ok (.iload_n 2, 1) := by decide +kernel
theorem dX7_part_5 : decode cX7_part 5 = .ok (.ishl, 1) := by decide +kernel
theorem dX7_part_6 : decode cX7_part 6 = .ok (.iconst 1, 1) := by decide +kernel
theorem dX7_part_7 : decode cX7_part 7 = .ok (.isub, 1) := by decide +kernel
theorem dX7_part_8 : decode cX7_part 8 = .ok (.iand, 1) := by decide +kernel
theorem dX7_part_9 : decode cX7_part 9 = .ok (.iload_n 3, 1) := by decide +kernel
theorem dX7_part_10 : decode cX7_part 10 = .ok (.ishl, 1) := by decide +kernel
theorem dX7_part_11 : decode cX7_part 11 = .ok (.ireturn, 1) := by decide +kernel
theorem dX7_taken_0 : decode cX7_taken 0 = .ok (.iload_n 0, 1) := by decide +kernel
theorem dX7_taken_1 : decode cX7_taken 1 = .ok (.tableswitch 171 97 122 #[127, 135, 171, 119, 171, 171, 171, 171, 171, 171, 171, 171, 119, 119, 171, 150, 160, 171, 143, 171, 171, 171, 171, 171, 171, 143], 119) := by decide +kernel
theorem dX7_taken_120 : decode cX7_taken 120 = .ok (.iload_n 1, 1) := by decide +kernel
theorem dX7_taken_121 : decode cX7_taken 121 = .ok (.bipush 7, 2) := by decide +kernel
theorem dX7_taken_123 : decode cX7_taken 123 = .ok (.ishr, 1) := by decide +kernel
theorem dX7_taken_124 : decode cX7_taken 124 = .ok (.bipush 31, 2) := by decide +kernel
theorem dX7_taken_126 : decode cX7_taken 126 = .ok (.iand, 1) := by decide +kernel
theorem dX7_taken_127 : decode cX7_taken 127 = .ok (.ireturn, 1) := by decide +kernel
theorem dX7_taken_128 : decode cX7_taken 128 = .ok (.iload_n 1, 1) := by decide +kernel
theorem dX7_taken_129 : decode cX7_taken 129 = .ok (.bipush 15, 2) := by decide +kernel
theorem dX7_taken_131 : decode cX7_taken 131 = .ok (.ishr, 1) := by decide +kernel
theorem dX7_taken_132 : decode cX7_taken 132 = .ok (.bipush 31, 2) := by decide +kernel
theorem dX7_taken_134 : decode cX7_taken 134 = .ok (.iand, 1) := by decide +kernel
theorem dX7_taken_135 : decode cX7_taken 135 = .ok (.ireturn, 1) := by decide +kernel
theorem dX7_taken_136 : decode cX7_taken 136 = .ok (.iload_n 1, 1) := by decide +kernel
theorem dX7_taken_137 : decode cX7_taken 137 = .ok (.bipush 20, 2) := by decide +kernel
