theorem dX16_fork_72 : decode cX16_fork 72 = .ok (.aload_n 0, 1) := by decide +kernel
theorem dX16_fork_73 : decode cX16_fork 73 = .ok (.getfield 42, 3) := by decide +kernel
theorem dX16_fork_76 : decode cX16_fork 76 = .ok (.bipush 32, 2) := by decide +kernel
theorem dX16_fork_78 : decode cX16_fork 78 = .ok (.aload_n 0, 1) := by decide +kernel
theorem dX16_fork_79 : decode cX16_fork 79 = .ok (.getfield 232, 3) := by decide +kernel
theorem dX16_fork_82 : decode cX16_fork 82 = .ok (.imul, 1) := by decide +kernel
theorem dX16_fork_83 : decode cX16_fork 83 = .ok (.iload_n 2, 1) := by decide +kernel
theorem dX16_fork_84 : decode cX16_fork 84 = .ok (.iadd, 1) := by decide +kernel
theorem dX16_fork_85 : decode cX16_fork 85 = .ok (.iaload, 1) := by decide +kernel
theorem dX16_fork_86 : decode cX16_fork 86 = .ok (.iastore, 1) := by decide +kernel
theorem dX16_fork_87 : decode cX16_fork 87 = .ok (.aload_n 0, 1) := by decide +kernel
theorem dX16_fork_88 : decode cX16_fork 88 = .ok (.getfield 48, 3) := by decide +kernel
theorem dX16_fork_91 : decode cX16_fork 91 = .ok (.bipush 32, 2) := by decide +kernel
theorem dX16_fork_93 : decode cX16_fork 93 = .ok (.iload_n 1, 1) := by decide +kernel
theorem dX16_fork_94 : decode cX16_fork 94 = .ok (.imul, 1) := by decide +kernel
theorem dX16_fork_95 : decode cX16_fork 95 = .ok (.iload_n 2, 1) := by decide +kernel
theorem dX16_fork_96 : decode cX16_fork 96 = .ok (.iadd, 1) := by decide +kernel
theorem dX16_fork_97 : decode cX16_fork 97 = .ok (.aload_n 0, 1) := by decide +kernel
theorem dX16_fork_98 : decode cX16_fork 98 = .ok (.getfield 48, 3) := by decide +kernel
theorem dX16_fork_101 : decode cX16_fork 101 = .ok (.bipush 32, 2) := by decide +kernel
theorem dX16_fork_103 : decode cX16_fork 103 = .ok (.aload_n 0, 1) := by decide +kernel
theorem dX16_fork_104 : decode cX16_fork 104 = .ok (.getfield 232, 3) := by decide +kernel
theorem dX16_fork_107 : decode cX16_fork 107 = .ok (.imul, 1) := by decide +kernel
theorem dX16_fork_108 : decode cX16_fork 108 = .ok (.iload_n 2, 1) := by decide +kernel
theorem dX16_fork_109 : decode cX16_fork 109 = .ok (.iadd, 1) := by decide +kernel
theorem dX16_fork_110 : decode cX16_fork 110 = .ok (.iaload, 1) := by decide +kernel
theorem dX16_fork_111 : decode cX16_fork 111 = .ok (.iastore, 1) := by decide +kernel
theorem dX16_fork_112 : decode cX16_fork 112 = .ok (.iinc 2 1, 3) := by decide +kernel
theorem dX16_fork_115 : decode cX16_fork 115 = .ok (.goto (-59), 3) := by decide +kernel
theorem dX16_fork_118 : decode cX16_fork 118 = .ok (.aload_n 0, 1) := by decide +kernel
theorem dX16_fork_119 : decode cX16_fork 119 = .ok (.getfield 42, 3) := by decide +kernel
theorem dX16_fork_122 : decode cX16_fork 122 = .ok (.bipush 32, 2) := by decide +kernel
theorem dX16_fork_124 : decode cX16_fork 124 = .ok (.iload_n 1, 1) := by decide +kernel
theorem dX16_fork_125 : decode cX16_fork 125 = .ok (.imul, 1) := by decide +kernel
theorem dX16_fork_126 : decode cX16_fork 126 = .ok (.bipush 10, 2) := by decide +kernel
theorem dX16_fork_128 : decode cX16_fork 128 = .ok (.iadd, 1) := by decide +kernel
theorem dX16_fork_129 : decode cX16_fork 129 = .ok (.iconst 0, 1) := by decide +kernel
theorem dX16_fork_130 : decode cX16_fork 130 = .ok (.iastore, 1) := by decide +kernel
theorem dX16_fork_131 : decode cX16_fork 131 = .ok (.aload_n 0, 1) := by decide +kernel
theorem dX16_fork_132 : decode cX16_fork 132 = .ok (.getfield 45, 3) := by decide +kernel
theorem dX16_fork_135 : decode cX16_fork 135 = .ok (.iload_n 1, 1) := by decide +kernel
theorem dX16_fork_136 : decode cX16_fork 136 = .ok (.aload_n 0, 1) := by decide +kernel
theorem dX16_fork_137 : decode cX16_fork 137 = .ok (.getfield 45, 3) := by decide +kernel
theorem dX16_fork_140 : decode cX16_fork 140 = .ok (.aload_n 0, 1) := by decide +kernel
theorem dX16_fork_141 : decode cX16_fork 141 = .ok (.getfield 232, 3) := by decide +kernel
theorem dX16_fork_144 : decode cX16_fork 144 = .ok (.iaload, 1) := by decide +kernel
theorem dX16_fork_145 : decode cX16_fork 145 = .ok (.iconst 4, 1) := by decide +kernel
theorem dX16_fork_146 : decode cX16_fork 146 = .ok (.iadd, 1) := by decide +kernel
theorem dX16_fork_147 : decode cX16_fork 147 = .ok (.iastore, 1) := by decide +kernel
theorem dX16_fork_148 : decode cX16_fork 148 = .ok (.aload_n 0, 1) := by decide +kernel
theorem dX16_fork_149 : decode cX16_fork 149 = .ok (.getfield 51, 3) := by decide +kernel
theorem dX16_fork_152 : decode cX16_fork 152 = .ok (.iload_n 1, 1) := by decide +kernel
theorem dX16_fork_153 : decode cX16_fork 153 = .ok (.aload_n 0, 1) := by decide +kernel
theorem dX16_fork_154 : decode cX16_fork 154 = .ok (.getfield 51, 3) := by decide +kernel
theorem dX16_fork_157 : decode cX16_fork 157 = .ok (.aload_n 0, 1) := by decide +kernel
theorem dX16_fork_158 : decode cX16_fork 158 = .ok (.getfield 232, 3) := by decide +kernel
theorem dX16_fork_161 : decode cX16_fork 161 = .ok (.iaload, 1) := by decide +kernel
theorem dX16_fork_162 : decode cX16_fork 162 = .ok (.iastore, 1) := by decide +kernel
theorem dX16_fork_163 : decode cX16_fork 163 = .ok (.aload_n 0, 1) := by decide +kernel
theorem dX16_fork_164 : decode cX16_fork 164 = .ok (.getfield 34, 3) := by decide +kernel
theorem dX16_fork_167 : decode cX16_fork 167 = .ok (.iload_n 1, 1) := by decide +kernel
theorem dX16_fork_168 : decode cX16_fork 168 = .ok (.aload_n 0, 1) := by decide +kernel
theorem dX16_fork_169 : decode cX16_fork 169 = .ok (.getfield 34, 3) := by decide +kernel
theorem dX16_fork_172 : decode cX16_fork 172 = .ok (.aload_n 0, 1) := by decide +kernel
theorem dX16_fork_173 : decode cX16_fork 173 = .ok (.getfield 232, 3) := by decide +kernel
theorem dX16_fork_176 : decode cX16_fork 176 = .ok (.baload, 1) := by decide +kernel
theorem dX16_fork_177 : decode cX16_fork 177 = .ok (.bastore, 1) := by decide +kernel
theorem dX16_fork_178 : decode cX16_fork 178 = .ok (.aload_n 0, 1) := by decide +kernel
theorem dX16_fork_179 : decode cX16_fork 179 = .ok (.getfield 25, 3) := by decide +kernel
theorem dX16_fork_182 : decode cX16_fork 182 = .ok (.iload_n 1, 1) := by decide +kernel
theorem dX16_fork_183 : decode cX16_fork 183 = .ok (.aload_n 0, 1) := by decide +kernel
theorem dX16_fork_184 : decode cX16_fork 184 = .ok (.getfield 25, 3) := by decide +kernel
theorem dX16_fork_187 : decode cX16_fork 187 = .ok (.aload_n 0, 1) := by decide +kernel
theorem dX16_fork_188 : decode cX16_fork 188 = .ok (.getfield 232, 3) := by decide +kernel
theorem dX16_fork_191 : decode cX16_fork 191 = .ok (.iaload, 1) := by decide +kernel
theorem dX16_fork_192 : decode cX16_fork 192 = .ok (.iastore, 1) := by decide +kernel
theorem dX16_fork_193 : decode cX16_fork 193 = .ok (.aload_n 0, 1) := by decide +kernel
theorem dX16_fork_194 : decode cX16_fork 194 = .ok (.getfield 28, 3) := by decide +kernel
theorem dX16_fork_197 : decode cX16_fork 197 = .ok (.iload_n 1, 1) := by decide +kernel
theorem dX16_fork_198 : decode cX16_fork 198 = .ok (.aload_n 0, 1) := by decide +kernel
theorem dX16_fork_199 : decode cX16_fork 199 = .ok (.getfield 28, 3) := by decide +kernel
theorem dX16_fork_202 : decode cX16_fork 202 = .ok (.aload_n 0, 1) := by decide +kernel
theorem dX16_fork_203 : decode cX16_fork 203 = .ok (.getfield 232, 3) := by decide +kernel
theorem dX16_fork_206 : decode cX16_fork 206 = .ok (.iaload, 1) := by decide +kernel
theorem dX16_fork_207 : decode cX16_fork 207 = .ok (.iastore, 1) := by decide +kernel
theorem dX16_fork_208 : decode cX16_fork 208 = .ok (.iconst 0, 1) := by decide +kernel
theorem dX16_fork_209 : decode cX16_fork 209 = .ok (.istore_n 2, 1) := by decide +kernel
theorem dX16_fork_210 : decode cX16_fork 210 = .ok (.iload_n 2, 1) := by decide +kernel
theorem dX16_fork_211 : decode cX16_fork 211 = .ok (.bipush 16, 2) := by decide +kernel
theorem dX16_fork_213 : decode cX16_fork 213 = .ok (.if_icmp .ge 59, 3) := by decide +kernel
theorem dX16_fork_216 : decode cX16_fork 216 = .ok (.aload_n 0, 1) := by decide +kernel
theorem dX16_fork_217 : decode cX16_fork 217 = .ok (.getfield 54, 3) := by decide +kernel
theorem dX16_fork_220 : decode cX16_fork 220 = .ok (.bipush 16, 2) := by decide +kernel
theorem dX16_fork_222 : decode cX16_fork 222 = .ok (.iload_n 1, 1) := by decide +kernel
theorem dX16_fork_223 : decode cX16_fork 223 = .ok (.imul, 1) := by decide +kernel
theorem dX16_fork_224 : decode cX16_fork 224 = .ok (.iload_n 2, 1) := by decide +kernel
theorem dX16_fork_225 : decode cX16_fork 225 = .ok (.iadd, 1) := by decide +kernel
theorem dX16_fork_226 : decode cX16_fork 226 = .ok (.aload_n 0, 1) := by decide +kernel
theorem dX16_fork_227 : decode cX16_fork 227 = .ok (.getfield 54, 3) := by decide +kernel
theorem dX16_fork_230 : decode cX16_fork 230 = .ok (.bipush 16, 2) := by decide +kernel
theorem dX16_fork_232 : decode cX16_fork 232 = .ok (.aload_n 0, 1) := by decide +kernel
theorem dX16_fork_233 : decode cX16_fork 233 = .ok (.getfield 232, 3) := by decide +kernel
theorem dX16_fork_236 : decode cX16_fork 236 = .ok (.imul, 1) := by decide +kernel
theorem dX16_fork_237 : decode cX16_fork 237 = .ok (.iload_n 2, 1) := by decide +kernel
theorem dX16_fork_238 : decode cX16_fork 238 = .ok (.iadd, 1) := by decide +kernel
theorem dX16_fork_239 : decode cX16_fork 239 = .ok (.iaload, 1) := by decide +kernel
theorem dX16_fork_240 : decode cX16_fork 240 = .ok (.iastore, 1) := by decide +kernel
theorem dX16_fork_241 : decode cX16_fork 241 = .ok (.aload_n 0, 1) := by decide +kernel
theorem dX16_fork_242 : decode cX16_fork 242 = .ok (.getfield 57, 3) := by decide +kernel
theorem dX16_fork_245 : decode cX16_fork 245 = .ok (.bipush 16, 2) := by decide +kernel
theorem dX16_fork_247 : decode cX16_fork 247 = .ok (.iload_n 1, 1) := by decide +kernel
theorem dX16_fork_248 : decode cX16_fork 248 = .ok (.imul, 1) := by decide +kernel
theorem dX16_fork_249 : decode cX16_fork 249 = .ok (.iload_n 2, 1) := by decide +kernel
theorem dX16_fork_250 : decode cX16_fork 250 = .ok (.iadd, 1) := by decide +kernel
theorem dX16_fork_251 : decode cX16_fork 251 = .ok (.aload_n 0, 1) := by decide +kernel
theorem dX16_fork_252 : decode cX16_fork 252 = .ok (.getfield 57, 3) := by decide +kernel
theorem dX16_fork_255 : decode cX16_fork 255 = .ok (.bipush 16, 2) := by decide +kernel
theorem dX16_fork_257 : decode cX16_fork 257 = .ok (.aload_n 0, 1) := by decide +kernel
theorem dX16_fork_258 : decode cX16_fork 258 = .ok (.getfield 232, 3) := by decide +kernel
theorem dX16_fork_261 : decode cX16_fork 261 = .ok (.imul, 1) := by decide +kernel
theorem dX16_fork_262 : decode cX16_fork 262 = .ok (.iload_n 2, 1) := by decide +kernel
theorem dX16_fork_263 : decode cX16_fork 263 = .ok (.iadd, 1) := by decide +kernel
theorem dX16_fork_264 : decode cX16_fork 264 = .ok (.iaload, 1) := by decide +kernel
theorem dX16_fork_265 : decode cX16_fork 265 = .ok (.iastore, 1) := by decide +kernel
theorem dX16_fork_266 : decode cX16_fork 266 = .ok (.iinc 2 1, 3) := by decide +kernel
theorem dX16_fork_269 : decode cX16_fork 269 = .ok (.goto (-59), 3) := by decide +kernel
theorem dX16_fork_272 : decode cX16_fork 272 = .ok (.iconst 0, 1) := by decide +kernel
theorem dX16_fork_273 : decode cX16_fork 273 = .ok (.istore_n 2, 1) := by decide +kernel
theorem dX16_fork_274 : decode cX16_fork 274 = .ok (.iload_n 2, 1) := by decide +kernel
theorem dX16_fork_275 : decode cX16_fork 275 = .ok (.bipush 64, 2) := by decide +kernel
theorem dX16_fork_277 : decode cX16_fork 277 = .ok (.if_icmp .ge 79, 3) := by decide +kernel
theorem dX16_fork_280 : decode cX16_fork 280 = .ok (.aload_n 0, 1) := by decide +kernel
theorem dX16_fork_281 : decode cX16_fork 281 = .ok (.getfield 64, 3) := by decide +kernel
theorem dX16_fork_284 : decode cX16_fork 284 = .ok (.bipush 64, 2) := by decide +kernel
theorem dX16_fork_286 : decode cX16_fork 286 = .ok (.aload_n 0, 1) := by decide +kernel
theorem dX16_fork_287 : decode cX16_fork 287 = .ok (.getfield 232, 3) := by decide +kernel
theorem dX16_fork_290 : decode cX16_fork 290 = .ok (.imul, 1) := by decide +kernel
theorem dX16_fork_291 : decode cX16_fork 291 = .ok (.iload_n 2, 1) := by decide +kernel
theorem dX16_fork_292 : decode cX16_fork 292 = .ok (.iadd, 1) := by decide +kernel
theorem dX16_fork_293 : decode cX16_fork 293 = .ok (.iaload, 1) := by decide +kernel
theorem dX16_fork_294 : decode cX16_fork 294 = .ok (.iconst (-1), 1) := by decide +kernel
theorem dX16_fork_295 : decode cX16_fork 295 = .ok (.if_icmp .ne 6, 3) := by decide +kernel
theorem dX16_fork_298 : decode cX16_fork 298 = .ok (.goto 52, 3) := by decide +kernel
theorem dX16_fork_301 : decode cX16_fork 301 = .ok (.aload_n 0, 1) := by decide +kernel
theorem dX16_fork_302 : decode cX16_fork 302 = .ok (.bipush 64, 2) := by decide +kernel
theorem dX16_fork_304 : decode cX16_fork 304 = .ok (.iload_n 1, 1) := by decide +kernel
theorem dX16_fork_305 : decode cX16_fork 305 = .ok (.imul, 1) := by decide +kernel
theorem dX16_fork_306 : decode cX16_fork 306 = .ok (.iload_n 2, 1) := by decide +kernel
theorem dX16_fork_307 : decode cX16_fork 307 = .ok (.iadd, 1) := by decide +kernel
theorem dX16_fork_308 : decode cX16_fork 308 = .ok (.aload_n 0, 1) := by decide +kernel
theorem dX16_fork_309 : decode cX16_fork 309 = .ok (.getfield 64, 3) := by decide +kernel
theorem dX16_fork_312 : decode cX16_fork 312 = .ok (.bipush 64, 2) := by decide +kernel
theorem dX16_fork_314 : decode cX16_fork 314 = .ok (.aload_n 0, 1) := by decide +kernel
theorem dX16_fork_315 : decode cX16_fork 315 = .ok (.getfield 232, 3) := by decide +kernel
theorem dX16_fork_318 : decode cX16_fork 318 = .ok (.imul, 1) := by decide +kernel
theorem dX16_fork_319 : decode cX16_fork 319 = .ok (.iload_n 2, 1) := by decide +kernel
theorem dX16_fork_320 : decode cX16_fork 320 = .ok (.iadd, 1) := by decide +kernel
theorem dX16_fork_321 : decode cX16_fork 321 = .ok (.iaload, 1) := by decide +kernel
theorem dX16_fork_322 : decode cX16_fork 322 = .ok (.invokevirtual 208, 3) := by decide +kernel
theorem dX16_fork_325 : decode cX16_fork 325 = .ok (.aload_n 0, 1) := by decide +kernel
theorem dX16_fork_326 : decode cX16_fork 326 = .ok (.getfield 67, 3) := by decide +kernel
theorem dX16_fork_329 : decode cX16_fork 329 = .ok (.bipush 64, 2) := by decide +kernel
theorem dX16_fork_331 : decode cX16_fork 331 = .ok (.iload_n 1, 1) := by decide +kernel
theorem dX16_fork_332 : decode cX16_fork 332 = .ok (.imul, 1) := by decide +kernel
theorem dX16_fork_333 : decode cX16_fork 333 = .ok (.iload_n 2, 1) := by decide +kernel
theorem dX16_fork_334 : decode cX16_fork 334 = .ok (.iadd, 1) := by decide +kernel
theorem dX16_fork_335 : decode cX16_fork 335 = .ok (.aload_n 0, 1) := by decide +kernel
theorem dX16_fork_336 : decode cX16_fork 336 = .ok (.getfield 67, 3) := by decide +kernel
theorem dX16_fork_339 : decode cX16_fork 339 = .ok (.bipush 64, 2) := by decide +kernel
theorem dX16_fork_341 : decode cX16_fork 341 = .ok (.aload_n 0, 1) := by decide +kernel
theorem dX16_fork_342 : decode cX16_fork 342 = .ok (.getfield 232, 3) := by decide +kernel
theorem dX16_fork_345 : decode cX16_fork 345 = .ok (.imul, 1) := by decide +kernel
theorem dX16_fork_346 : decode cX16_fork 346 = .ok (.iload_n 2, 1) := by decide +kernel
theorem dX16_fork_347 : decode cX16_fork 347 = .ok (.iadd, 1) := by decide +kernel
theorem dX16_fork_348 : decode cX16_fork 348 = .ok (.iaload, 1) := by decide +kernel
theorem dX16_fork_349 : decode cX16_fork 349 = .ok (.iastore, 1) := by decide +kernel
theorem dX16_fork_350 : decode cX16_fork 350 = .ok (.iinc 2 1, 3) := by decide +kernel
theorem dX16_fork_353 : decode cX16_fork 353 = .ok (.goto (-79), 3) := by decide +kernel
theorem dX16_fork_356 : decode cX16_fork 356 = .ok (.iconst 0, 1) := by decide +kernel
theorem dX16_fork_357 : decode cX16_fork 357 = .ok (.istore_n 2, 1) := by decide +kernel
theorem dX16_fork_358 : decode cX16_fork 358 = .ok (.iload_n 2, 1) := by decide +kernel
theorem dX16_fork_359 : decode cX16_fork 359 = .ok (.sipush 16384, 3) := by decide +kernel
theorem dX16_fork_362 : decode cX16_fork 362 = .ok (.if_icmp .ge 36, 3) := by decide +kernel
theorem dX16_fork_365 : decode cX16_fork 365 = .ok (.aload_n 0, 1) := by decide +kernel
theorem dX16_fork_366 : decode cX16_fork 366 = .ok (.getfield 61, 3) := by decide +kernel
theorem dX16_fork_369 : decode cX16_fork 369 = .ok (.sipush 16384, 3) := by decide +kernel
theorem dX16_fork_372 : decode cX16_fork 372 = .ok (.iload_n 1, 1) := by decide +kernel
theorem dX16_fork_373 : decode cX16_fork 373 = .ok (.imul, 1) := by decide +kernel
theorem dX16_fork_374 : decode cX16_fork 374 = .ok (.iload_n 2, 1) := by decide +kernel
theorem dX16_fork_375 : decode cX16_fork 375 = .ok (.iadd, 1) := by decide +kernel
theorem dX16_fork_376 : decode cX16_fork 376 = .ok (.aload_n 0, 1) := by decide +kernel
theorem dX16_fork_377 : decode cX16_fork 377 = .ok (.getfield 61, 3) := by decide +kernel
theorem dX16_fork_380 : decode cX16_fork 380 = .ok (.sipush 16384, 3) := by decide +kernel
theorem dX16_fork_383 : decode cX16_fork 383 = .ok (.aload_n 0, 1) := by decide +kernel
theorem dX16_fork_384 : decode cX16_fork 384 = .ok (.getfield 232, 3) := by decide +kernel
theorem dX16_fork_387 : decode cX16_fork 387 = .ok (.imul, 1) := by decide +kernel
theorem dX16_fork_388 : decode cX16_fork 388 = .ok (.iload_n 2, 1) := by decide +kernel
theorem dX16_fork_389 : decode cX16_fork 389 = .ok (.iadd, 1) := by decide +kernel
theorem dX16_fork_390 : decode cX16_fork 390 = .ok (.iaload, 1) := by decide +kernel
theorem dX16_fork_391 : decode cX16_fork 391 = .ok (.iastore, 1) := by decide +kernel
theorem dX16_fork_392 : decode cX16_fork 392 = .ok (.iinc 2 1, 3) := by decide +kernel
theorem dX16_fork_395 : decode cX16_fork 395 = .ok (.goto (-37), 3) := by decide +kernel
theorem dX16_fork_398 : decode cX16_fork 398 = .ok (.iload_n 1, 1) := by decide +kernel
theorem dX16_fork_399 : decode cX16_fork 399 = .ok (.ireturn, 1) := by decide +kernel
theorem dX16_exec_0 : decode cX16_exec 0 = .ok (.iload_n 1, 1) := by decide +kernel
theorem dX16_exec_1 : decode cX16_exec 1 = .ok (.ifCond .lt 20, 3) := by decide +kernel
theorem dX16_exec_4 : decode cX16_exec 4 = .ok (.iload_n 1, 1) := by decide +kernel
theorem dX16_exec_5 : decode cX16_exec 5 = .ok (.iconst 3, 1) := by decide +kernel
theorem dX16_exec_6 : decode cX16_exec 6 = .ok (.if_icmp .gt 15, 3) := by decide +kernel
theorem dX16_exec_9 : decode cX16_exec 9 = .ok (.aload_n 0, 1) := by decide +kernel
theorem dX16_exec_10 : decode cX16_exec 10 = .ok (.getfield 118, 3) := by decide +kernel
theorem dX16_exec_13 : decode cX16_exec 13 = .ok (.getfield 472, 3) := by decide +kernel
theorem dX16_exec_16 : decode cX16_exec 16 = .ok (.iload_n 1, 1) := by decide +kernel
theorem dX16_exec_17 : decode cX16_exec 17 = .ok (.baload, 1) := by decide +kernel
theorem dX16_exec_18 : decode cX16_exec 18 = .ok (.ifCond .ne 6, 3) := by decide +kernel
theorem dX16_exec_21 : decode cX16_exec 21 = .ok (.bipush (-2), 2) := by decide +kernel
theorem dX16_exec_23 : decode cX16_exec 23 = .ok (.ireturn, 1) := by decide +kernel
theorem dX16_exec_24 : decode cX16_exec 24 = .ok (.aload_n 0, 1) := by decide +kernel
theorem dX16_exec_25 : decode cX16_exec 25 = .ok (.aload_n 0, 1) := by decide +kernel
theorem dX16_exec_26 : decode cX16_exec 26 = .ok (.iload_n 1, 1) := by decide +kernel
theorem dX16_exec_27 : decode cX16_exec 27 = .ok (.invokevirtual 475, 3) := by decide +kernel
theorem dX16_exec_30 : decode cX16_exec 30 = .ok (.invokevirtual 397, 3) := by decide +kernel
theorem dX16_exec_33 : decode cX16_exec 33 = .ok (.ifCond .ne 6, 3) := by decide +kernel
theorem dX16_exec_36 : decode cX16_exec 36 = .ok (.bipush (-4), 2) := by decide +kernel
theorem dX16_exec_38 : decode cX16_exec 38 = .ok (.ireturn, 1) := by decide +kernel
theorem dX16_exec_39 : decode cX16_exec 39 = .ok (.aload_n 0, 1) := by decide +kernel
theorem dX16_exec_40 : decode cX16_exec 40 = .ok (.aload_n 0, 1) := by decide +kernel
theorem dX16_exec_41 : decode cX16_exec 41 = .ok (.getfield 232, 3) := by decide +kernel
theorem dX16_exec_44 : decode cX16_exec 44 = .ok (.invokevirtual 255, 3) := by decide +kernel
theorem dX16_exec_47 : decode cX16_exec 47 = .ok (.aload_n 0, 1) := by decide +kernel
theorem dX16_exec_48 : decode cX16_exec 48 = .ok (.aload_n 0, 1) := by decide +kernel
theorem dX16_exec_49 : decode cX16_exec 49 = .ok (.getfield 232, 3) := by decide +kernel
theorem dX16_exec_52 : decode cX16_exec 52 = .ok (.iload_n 1, 1) := by decide +kernel
theorem dX16_exec_53 : decode cX16_exec 53 = .ok (.invokevirtual 164, 3) := by decide +kernel
theorem dX16_exec_56 : decode cX16_exec 56 = .ok (.iconst 0, 1) := by decide +kernel
theorem dX16_exec_57 : decode cX16_exec 57 = .ok (.istore_n 2, 1) := by decide +kernel
theorem dX16_exec_58 : decode cX16_exec 58 = .ok (.iload_n 2, 1) := by decide +kernel
theorem dX16_exec_59 : decode cX16_exec 59 = .ok (.bipush 16, 2) := by decide +kernel
theorem dX16_exec_61 : decode cX16_exec 61 = .ok (.if_icmp .ge 24, 3) := by decide +kernel
theorem dX16_exec_64 : decode cX16_exec 64 = .ok (.aload_n 0, 1) := by decide +kernel
theorem dX16_exec_65 : decode cX16_exec 65 = .ok (.getfield 54, 3) := by decide +kernel
theorem dX16_exec_68 : decode cX16_exec 68 = .ok (.bipush 16, 2) := by decide +kernel
theorem dX16_exec_70 : decode cX16_exec 70 = .ok (.aload_n 0, 1) := by decide +kernel
theorem dX16_exec_71 : decode cX16_exec 71 = .ok (.getfield 232, 3) := by decide +kernel
theorem dX16_exec_74 : decode cX16_exec 74 = .ok (.imul, 1) := by decide +kernel
theorem dX16_exec_75 : decode cX16_exec 75 = .ok (.iload_n 2, 1) := by decide +kernel
theorem dX16_exec_76 : decode cX16_exec 76 = .ok (.iadd, 1) := by decide +kernel
theorem dX16_exec_77 : decode cX16_exec 77 = .ok (.iconst 0, 1) := by decide +kernel
theorem dX16_exec_78 : decode cX16_exec 78 = .ok (.iastore, 1) := by decide +kernel
theorem dX16_exec_79 : decode cX16_exec 79 = .ok (.iinc 2 1, 3) := by decide +kernel
theorem dX16_exec_82 : decode cX16_exec 82 = .ok (.goto (-24), 3) := by decide +kernel
theorem dX16_exec_85 : decode cX16_exec 85 = .ok (.aload_n 0, 1) := by decide +kernel
theorem dX16_exec_86 : decode cX16_exec 86 = .ok (.getfield 34, 3) := by decide +kernel
theorem dX16_exec_89 : decode cX16_exec 89 = .ok (.aload_n 0, 1) := by decide +kernel
theorem dX16_exec_90 : decode cX16_exec 90 = .ok (.getfield 232, 3) := by decide +kernel
theorem dX16_exec_93 : decode cX16_exec 93 = .ok (.iconst 0, 1) := by decide +kernel
theorem dX16_exec_94 : decode cX16_exec 94 = .ok (.bastore, 1) := by decide +kernel
theorem dX16_exec_95 : decode cX16_exec 95 = .ok (.aload_n 0, 1) := by decide +kernel
theorem dX16_exec_96 : decode cX16_exec 96 = .ok (.getfield 38, 3) := by decide +kernel
theorem dX16_exec_99 : decode cX16_exec 99 = .ok (.aload_n 0, 1) := by decide +kernel
theorem dX16_exec_100 : decode cX16_exec 100 = .ok (.getfield 232, 3) := by decide +kernel
theorem dX16_exec_103 : decode cX16_exec 103 = .ok (.ldc2_w 175, 3) := by decide +kernel
theorem dX16_exec_106 : decode cX16_exec 106 = .ok (.lastore, 1) := by decide +kernel
theorem dX16_exec_107 : decode cX16_exec 107 = .ok (.aload_n 0, 1) := by decide +kernel
theorem dX16_exec_108 : decode cX16_exec 108 = .ok (.iconst (-1), 1) := by decide +kernel
theorem dX16_exec_109 : decode cX16_exec 109 = .ok (.putfield 135, 3) := by decide +kernel
theorem dX16_exec_112 : decode cX16_exec 112 = .ok (.aload_n 0, 1) := by decide +kernel
theorem dX16_exec_113 : decode cX16_exec 113 = .ok (.iconst 2, 1) := by decide +kernel
theorem dX16_exec_114 : decode cX16_exec 114 = .ok (.invokevirtual 415, 3) := by decide +kernel
theorem dX16_exec_117 : decode cX16_exec 117 = .ok (.ireturn, 1) := by decide +kernel
theorem dX16_waitFor_0 : decode cX16_waitFor 0 = .ok (.aload_n 0, 1) := by decide +kernel
theorem dX16_waitFor_1 : decode cX16_waitFor 1 = .ok (.aload_n 0, 1) := by decide +kernel
theorem dX16_waitFor_2 : decode cX16_waitFor 2 = .ok (.getfield 232, 3) := by decide +kernel
theorem dX16_waitFor_5 : decode cX16_waitFor 5 = .ok (.iconst 0, 1) := by decide +kernel
theorem dX16_waitFor_6 : decode cX16_waitFor 6 = .ok (.invokevirtual 260, 3) := by decide +kernel
theorem dX16_waitFor_9 : decode cX16_waitFor 9 = .ok (.iconst (-1), 1) := by decide +kernel
theorem dX16_waitFor_10 : decode cX16_waitFor 10 = .ok (.if_icmp .ne 6, 3) := by decide +kernel
theorem dX16_waitFor_13 : decode cX16_waitFor 13 = .ok (.bipush (-10), 2) := by decide +kernel
theorem dX16_waitFor_15 : decode cX16_waitFor 15 = .ok (.ireturn, 1) := by decide +kernel
theorem dX16_waitFor_16 : decode cX16_waitFor 16 = .ok (.aload_n 0, 1) := by decide +kernel
theorem dX16_waitFor_17 : decode cX16_waitFor 17 = .ok (.aload_n 0, 1) := by decide +kernel
theorem dX16_waitFor_18 : decode cX16_waitFor 18 = .ok (.getfield 232, 3) := by decide +kernel
theorem dX16_waitFor_21 : decode cX16_waitFor 21 = .ok (.iconst 1, 1) := by decide +kernel
theorem dX16_waitFor_22 : decode cX16_waitFor 22 = .ok (.invokevirtual 260, 3) := by decide +kernel
theorem dX16_waitFor_25 : decode cX16_waitFor 25 = .ok (.istore_n 1, 1) := by decide +kernel
theorem dX16_waitFor_26 : decode cX16_waitFor 26 = .ok (.iload_n 1, 1) := by decide +kernel
theorem dX16_waitFor_27 : decode cX16_waitFor 27 = .ok (.iconst (-1), 1) := by decide +kernel
theorem dX16_waitFor_28 : decode cX16_waitFor 28 = .ok (.if_icmp .ne 9, 3) := by decide +kernel
theorem dX16_waitFor_31 : decode cX16_waitFor 31 = .ok (.aload_n 0, 1) := by decide +kernel
theorem dX16_waitFor_32 : decode cX16_waitFor 32 = .ok (.iconst 1, 1) := by decide +kernel
theorem dX16_waitFor_33 : decode cX16_waitFor 33 = .ok (.invokevirtual 415, 3) := by decide +kernel
theorem dX16_waitFor_36 : decode cX16_waitFor 36 = .ok (.ireturn, 1) := by decide +kernel
theorem dX16_waitFor_37 : decode cX16_waitFor 37 = .ok (.aload_n 0, 1) := by decide +kernel
theorem dX16_waitFor_38 : decode cX16_waitFor 38 = .ok (.getfield 19, 3) := by decide +kernel
theorem dX16_waitFor_41 : decode cX16_waitFor 41 = .ok (.iload_n 1, 1) := by decide +kernel
theorem dX16_waitFor_42 : decode cX16_waitFor 42 = .ok (.iaload, 1) := by decide +kernel
theorem dX16_waitFor_43 : decode cX16_waitFor 43 = .ok (.istore_n 2, 1) := by decide +kernel
theorem dX16_waitFor_44 : decode cX16_waitFor 44 = .ok (.aload_n 0, 1) := by decide +kernel
theorem dX16_waitFor_45 : decode cX16_waitFor 45 = .ok (.iload_n 1, 1) := by decide +kernel
theorem dX16_waitFor_46 : decode cX16_waitFor 46 = .ok (.invokevirtual 160, 3) := by decide +kernel
theorem dX16_waitFor_49 : decode cX16_waitFor 49 = .ok (.iload_n 1, 1) := by decide +kernel
theorem dX16_waitFor_50 : decode cX16_waitFor 50 = .ok (.sipush 256, 3) := by decide +kernel
theorem dX16_waitFor_53 : decode cX16_waitFor 53 = .ok (.iload_n 2, 1) := by decide +kernel
theorem dX16_waitFor_54 : decode cX16_waitFor 54 = .ok (.imul, 1) := by decide +kernel
theorem dX16_waitFor_55 : decode cX16_waitFor 55 = .ok (.iadd, 1) := by decide +kernel
theorem dX16_waitFor_56 : decode cX16_waitFor 56 = .ok (.ireturn, 1) := by decide +kernel
theorem dX16_pipe_0 : decode cX16_pipe 0 = .ok (.iload_n 1, 1) := by decide +kernel
theorem dX16_pipe_1 : decode cX16_pipe 1 = .ok (.iconst 4, 1) := by decide +kernel
theorem dX16_pipe_2 : decode cX16_pipe 2 = .ok (.irem, 1) := by decide +kernel
theorem dX16_pipe_3 : decode cX16_pipe 3 = .ok (.ifCond .eq 6, 3) := by decide +kernel
theorem dX16_pipe_6 : decode cX16_pipe 6 = .ok (.bipush (-22), 2) := by decide +kernel
theorem dX16_pipe_8 : decode cX16_pipe 8 = .ok (.ireturn, 1) := by decide +kernel
theorem dX16_pipe_9 : decode cX16_pipe 9 = .ok (.aload_n 0, 1) := by decide +kernel
theorem dX16_pipe_10 : decode cX16_pipe 10 = .ok (.aload_n 0, 1) := by decide +kernel
theorem dX16_pipe_11 : decode cX16_pipe 11 = .ok (.getfield 232, 3) := by decide +kernel
theorem dX16_pipe_14 : decode cX16_pipe 14 = .ok (.iload_n 1, 1) := by decide +kernel
theorem dX16_pipe_15 : decode cX16_pipe 15 = .ok (.bipush 8, 2) := by decide +kernel
theorem dX16_pipe_17 : decode cX16_pipe 17 = .ok (.iconst 2, 1) := by decide +kernel
theorem dX16_pipe_18 : decode cX16_pipe 18 = .ok (.invokevirtual 478, 3) := by decide +kernel
theorem dX16_pipe_21 : decode cX16_pipe 21 = .ok (.ifCond .ne 6, 3) := by decide +kernel
theorem dX16_pipe_24 : decode cX16_pipe 24 = .ok (.bipush (-14), 2) := by decide +kernel
theorem dX16_pipe_26 : decode cX16_pipe 26 = .ok (.ireturn, 1) := by decide +kernel
theorem dX16_pipe_27 : decode cX16_pipe 27 = .ok (.iconst 0, 1) := by decide +kernel
theorem dX16_pipe_28 : decode cX16_pipe 28 = .ok (.istore_n 2, 1) := by decide +kernel
theorem dX16_pipe_29 : decode cX16_pipe 29 = .ok (.iload_n 2, 1) := by decide +kernel
theorem dX16_pipe_30 : decode cX16_pipe 30 = .ok (.bipush 8, 2) := by decide +kernel
theorem dX16_pipe_32 : decode cX16_pipe 32 = .ok (.if_icmp .ge 18, 3) := by decide +kernel
theorem dX16_pipe_35 : decode cX16_pipe 35 = .ok (.aload_n 0, 1) := by decide +kernel
theorem dX16_pipe_36 : decode cX16_pipe 36 = .ok (.getfield 85, 3) := by decide +kernel
theorem dX16_pipe_39 : decode cX16_pipe 39 = .ok (.iload_n 2, 1) := by decide +kernel
theorem dX16_pipe_40 : decode cX16_pipe 40 = .ok (.baload, 1) := by decide +kernel
theorem dX16_pipe_41 : decode cX16_pipe 41 = .ok (.ifCond .eq 9, 3) := by decide +kernel
theorem dX16_pipe_44 : decode cX16_pipe 44 = .ok (.iinc 2 1, 3) := by decide +kernel
theorem dX16_pipe_47 : decode cX16_pipe 47 = .ok (.goto (-18), 3) := by decide +kernel
theorem dX16_pipe_50 : decode cX16_pipe 50 = .ok (.aload_n 0, 1) := by decide +kernel
theorem dX16_pipe_51 : decode cX16_pipe 51 = .ok (.invokevirtual 482, 3) := by decide +kernel
theorem dX16_pipe_54 : decode cX16_pipe 54 = .ok (.iconst 2, 1) := by decide +kernel
theorem dX16_pipe_55 : decode cX16_pipe 55 = .ok (.if_icmp .lt 18, 3) := by decide +kernel
theorem dX16_pipe_58 : decode cX16_pipe 58 = .ok (.aload_n 0, 1) := by decide +kernel
theorem dX16_pipe_59 : decode cX16_pipe 59 = .ok (.invokevirtual 485, 3) := by decide +kernel
theorem dX16_pipe_62 : decode cX16_pipe 62 = .ok (.bipush 46, 2) := by decide +kernel
theorem dX16_pipe_64 : decode cX16_pipe 64 = .ok (.if_icmp .gt 9, 3) := by decide +kernel
theorem dX16_pipe_67 : decode cX16_pipe 67 = .ok (.iload_n 2, 1) := by decide +kernel
theorem dX16_pipe_68 : decode cX16_pipe 68 = .ok (.bipush 8, 2) := by decide +kernel
theorem dX16_pipe_70 : decode cX16_pipe 70 = .ok (.if_icmp .ne 6, 3) := by decide +kernel
theorem dX16_pipe_73 : decode cX16_pipe 73 = .ok (.bipush (-4), 2) := by decide +kernel
theorem dX16_pipe_75 : decode cX16_pipe 75 = .ok (.ireturn, 1) := by decide +kernel
theorem dX16_pipe_76 : decode cX16_pipe 76 = .ok (.aload_n 0, 1) := by decide +kernel
theorem dX16_pipe_77 : decode cX16_pipe 77 = .ok (.aload_n 0, 1) := by decide +kernel
theorem dX16_pipe_78 : decode cX16_pipe 78 = .ok (.aload_n 0, 1) := by decide +kernel
