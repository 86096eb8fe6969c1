theorem dX16_become_26 : decode cX16_become 26 = .ok (.return_, 1) := by decide +kernel
theorem dX16_carry_0 : decode cX16_carry 0 = .ok (.iload_n 1, 1) := by decide +kernel
theorem dX16_carry_1 : decode cX16_carry 1 = .ok (.bipush 7, 2) := by decide +kernel
theorem dX16_carry_3 : decode cX16_carry 3 = .ok (.iconst 5, 1) := by decide +kernel
theorem dX16_carry_4 : decode cX16_carry 4 = .ok (.invokestatic 297, 3) := by decide +kernel
theorem dX16_carry_7 : decode cX16_carry 7 = .ok (.istore_n 2, 1) := by decide +kernel
theorem dX16_carry_8 : decode cX16_carry 8 = .ok (.iload_n 1, 1) := by decide +kernel
theorem dX16_carry_9 : decode cX16_carry 9 = .ok (.bipush 12, 2) := by decide +kernel
theorem dX16_carry_11 : decode cX16_carry 11 = .ok (.iconst 3, 1) := by decide +kernel
theorem dX16_carry_12 : decode cX16_carry 12 = .ok (.invokestatic 297, 3) := by decide +kernel
theorem dX16_carry_15 : decode cX16_carry 15 = .ok (.istore_n 3, 1) := by decide +kernel
theorem dX16_carry_16 : decode cX16_carry 16 = .ok (.aload_n 0, 1) := by decide +kernel
theorem dX16_carry_17 : decode cX16_carry 17 = .ok (.getfield 42, 3) := by decide +kernel
theorem dX16_carry_20 : decode cX16_carry 20 = .ok (.bipush 32, 2) := by decide +kernel
theorem dX16_carry_22 : decode cX16_carry 22 = .ok (.aload_n 0, 1) := by decide +kernel
theorem dX16_carry_23 : decode cX16_carry 23 = .ok (.getfield 232, 3) := by decide +kernel
theorem dX16_carry_26 : decode cX16_carry 26 = .ok (.imul, 1) := by decide +kernel
theorem dX16_carry_27 : decode cX16_carry 27 = .ok (.iload_n 1, 1) := by decide +kernel
theorem dX16_carry_28 : decode cX16_carry 28 = .ok (.bipush 15, 2) := by decide +kernel
theorem dX16_carry_30 : decode cX16_carry 30 = .ok (.iconst 5, 1) := by decide +kernel
theorem dX16_carry_31 : decode cX16_carry 31 = .ok (.invokestatic 297, 3) := by decide +kernel
theorem dX16_carry_34 : decode cX16_carry 34 = .ok (.iadd, 1) := by decide +kernel
theorem dX16_carry_35 : decode cX16_carry 35 = .ok (.iaload, 1) := by decide +kernel
theorem dX16_carry_36 : decode cX16_carry 36 = .ok (.istore 4, 2) := by decide +kernel
theorem dX16_carry_38 : decode cX16_carry 38 = .ok (.aload_n 0, 1) := by decide +kernel
theorem dX16_carry_39 : decode cX16_carry 39 = .ok (.getfield 42, 3) := by decide +kernel
theorem dX16_carry_42 : decode cX16_carry 42 = .ok (.bipush 32, 2) := by decide +kernel
theorem dX16_carry_44 : decode cX16_carry 44 = .ok (.aload_n 0, 1) := by decide +kernel
theorem dX16_carry_45 : decode cX16_carry 45 = .ok (.getfield 232, 3) := by decide +kernel
theorem dX16_carry_48 : decode cX16_carry 48 = .ok (.imul, 1) := by decide +kernel
theorem dX16_carry_49 : decode cX16_carry 49 = .ok (.iload_n 1, 1) := by decide +kernel
theorem dX16_carry_50 : decode cX16_carry 50 = .ok (.bipush 20, 2) := by decide +kernel
theorem dX16_carry_52 : decode cX16_carry 52 = .ok (.iconst 5, 1) := by decide +kernel
theorem dX16_carry_53 : decode cX16_carry 53 = .ok (.invokestatic 297, 3) := by decide +kernel
theorem dX16_carry_56 : decode cX16_carry 56 = .ok (.iadd, 1) := by decide +kernel
theorem dX16_carry_57 : decode cX16_carry 57 = .ok (.iaload, 1) := by decide +kernel
theorem dX16_carry_58 : decode cX16_carry 58 = .ok (.istore 5, 2) := by decide +kernel
theorem dX16_carry_60 : decode cX16_carry 60 = .ok (.iload_n 1, 1) := by decide +kernel
theorem dX16_carry_61 : decode cX16_carry 61 = .ok (.bipush 25, 2) := by decide +kernel
theorem dX16_carry_63 : decode cX16_carry 63 = .ok (.bipush 7, 2) := by decide +kernel
theorem dX16_carry_65 : decode cX16_carry 65 = .ok (.invokestatic 297, 3) := by decide +kernel
theorem dX16_carry_68 : decode cX16_carry 68 = .ok (.istore 6, 2) := by decide +kernel
theorem dX16_carry_70 : decode cX16_carry 70 = .ok (.iload_n 1, 1) := by decide +kernel
theorem dX16_carry_71 : decode cX16_carry 71 = .ok (.bipush 20, 2) := by decide +kernel
theorem dX16_carry_73 : decode cX16_carry 73 = .ok (.ishr, 1) := by decide +kernel
theorem dX16_carry_74 : decode cX16_carry 74 = .ok (.istore 7, 2) := by decide +kernel
theorem dX16_carry_76 : decode cX16_carry 76 = .ok (.iload_n 1, 1) := by decide +kernel
theorem dX16_carry_77 : decode cX16_carry 77 = .ok (.iconst 0, 1) := by decide +kernel
theorem dX16_carry_78 : decode cX16_carry 78 = .ok (.bipush 7, 2) := by decide +kernel
theorem dX16_carry_80 : decode cX16_carry 80 = .ok (.invokestatic 297, 3) := by decide +kernel
theorem dX16_carry_83 : decode cX16_carry 83 = .ok (.lookupswitch 474 #[(3, 258), (15, 447), (19, 296), (23, 118), (35, 276), (47, 425), (51, 341), (55, 105), (99, 245), (103, 212), (111, 141), (115, 460)], 105) := by decide +kernel
theorem dX16_carry_188 : decode cX16_carry 188 = .ok (.aload_n 0, 1) := by decide +kernel
theorem dX16_carry_189 : decode cX16_carry 189 = .ok (.iload_n 2, 1) := by decide +kernel
theorem dX16_carry_190 : decode cX16_carry 190 = .ok (.iload_n 1, 1) := by decide +kernel
theorem dX16_carry_191 : decode cX16_carry 191 = .ok (.sipush (-4096), 3) := by decide +kernel
theorem dX16_carry_194 : decode cX16_carry 194 = .ok (.iand, 1) := by decide +kernel
theorem dX16_carry_195 : decode cX16_carry 195 = .ok (.invokevirtual 362, 3) := by decide +kernel
theorem dX16_carry_198 : decode cX16_carry 198 = .ok (.goto 364, 3) := by decide +kernel
theorem dX16_carry_201 : decode cX16_carry 201 = .ok (.aload_n 0, 1) := by decide +kernel
theorem dX16_carry_202 : decode cX16_carry 202 = .ok (.iload_n 2, 1) := by decide +kernel
theorem dX16_carry_203 : decode cX16_carry 203 = .ok (.aload_n 0, 1) := by decide +kernel
theorem dX16_carry_204 : decode cX16_carry 204 = .ok (.getfield 45, 3) := by decide +kernel
theorem dX16_carry_207 : decode cX16_carry 207 = .ok (.aload_n 0, 1) := by decide +kernel
theorem dX16_carry_208 : decode cX16_carry 208 = .ok (.getfield 232, 3) := by decide +kernel
theorem dX16_carry_211 : decode cX16_carry 211 = .ok (.iaload, 1) := by decide +kernel
theorem dX16_carry_212 : decode cX16_carry 212 = .ok (.iload_n 1, 1) := by decide +kernel
theorem dX16_carry_213 : decode cX16_carry 213 = .ok (.sipush (-4096), 3) := by decide +kernel
theorem dX16_carry_216 : decode cX16_carry 216 = .ok (.iand, 1) := by decide +kernel
theorem dX16_carry_217 : decode cX16_carry 217 = .ok (.iadd, 1) := by decide +kernel
theorem dX16_carry_218 : decode cX16_carry 218 = .ok (.invokevirtual 362, 3) := by decide +kernel
theorem dX16_carry_221 : decode cX16_carry 221 = .ok (.goto 341, 3) := by decide +kernel
theorem dX16_carry_224 : decode cX16_carry 224 = .ok (.aload_n 0, 1) := by decide +kernel
theorem dX16_carry_225 : decode cX16_carry 225 = .ok (.iload_n 2, 1) := by decide +kernel
theorem dX16_carry_226 : decode cX16_carry 226 = .ok (.aload_n 0, 1) := by decide +kernel
theorem dX16_carry_227 : decode cX16_carry 227 = .ok (.getfield 350, 3) := by decide +kernel
theorem dX16_carry_230 : decode cX16_carry 230 = .ok (.invokevirtual 362, 3) := by decide +kernel
theorem dX16_carry_233 : decode cX16_carry 233 = .ok (.aload_n 0, 1) := by decide +kernel
theorem dX16_carry_234 : decode cX16_carry 234 = .ok (.aload_n 0, 1) := by decide +kernel
theorem dX16_carry_235 : decode cX16_carry 235 = .ok (.getfield 45, 3) := by decide +kernel
theorem dX16_carry_238 : decode cX16_carry 238 = .ok (.aload_n 0, 1) := by decide +kernel
theorem dX16_carry_239 : decode cX16_carry 239 = .ok (.getfield 232, 3) := by decide +kernel
theorem dX16_carry_242 : decode cX16_carry 242 = .ok (.iaload, 1) := by decide +kernel
theorem dX16_carry_243 : decode cX16_carry 243 = .ok (.iload_n 1, 1) := by decide +kernel
theorem dX16_carry_244 : decode cX16_carry 244 = .ok (.bipush 31, 2) := by decide +kernel
theorem dX16_carry_246 : decode cX16_carry 246 = .ok (.iconst 1, 1) := by decide +kernel
theorem dX16_carry_247 : decode cX16_carry 247 = .ok (.bipush 20, 2) := by decide +kernel
theorem dX16_carry_249 : decode cX16_carry 249 = .ok (.invokestatic 300, 3) := by decide +kernel
theorem dX16_carry_252 : decode cX16_carry 252 = .ok (.iload_n 1, 1) := by decide +kernel
theorem dX16_carry_253 : decode cX16_carry 253 = .ok (.bipush 12, 2) := by decide +kernel
theorem dX16_carry_255 : decode cX16_carry 255 = .ok (.bipush 8, 2) := by decide +kernel
theorem dX16_carry_257 : decode cX16_carry 257 = .ok (.bipush 12, 2) := by decide +kernel
theorem dX16_carry_259 : decode cX16_carry 259 = .ok (.invokestatic 300, 3) := by decide +kernel
theorem dX16_carry_262 : decode cX16_carry 262 = .ok (.ior, 1) := by decide +kernel
theorem dX16_carry_263 : decode cX16_carry 263 = .ok (.iload_n 1, 1) := by decide +kernel
theorem dX16_carry_264 : decode cX16_carry 264 = .ok (.bipush 20, 2) := by decide +kernel
theorem dX16_carry_266 : decode cX16_carry 266 = .ok (.iconst 1, 1) := by decide +kernel
theorem dX16_carry_267 : decode cX16_carry 267 = .ok (.bipush 11, 2) := by decide +kernel
theorem dX16_carry_269 : decode cX16_carry 269 = .ok (.invokestatic 300, 3) := by decide +kernel
theorem dX16_carry_272 : decode cX16_carry 272 = .ok (.ior, 1) := by decide +kernel
theorem dX16_carry_273 : decode cX16_carry 273 = .ok (.iload_n 1, 1) := by decide +kernel
theorem dX16_carry_274 : decode cX16_carry 274 = .ok (.bipush 21, 2) := by decide +kernel
theorem dX16_carry_276 : decode cX16_carry 276 = .ok (.bipush 10, 2) := by decide +kernel
theorem dX16_carry_278 : decode cX16_carry 278 = .ok (.iconst 1, 1) := by decide +kernel
theorem dX16_carry_279 : decode cX16_carry 279 = .ok (.invokestatic 300, 3) := by decide +kernel
theorem dX16_carry_282 : decode cX16_carry 282 = .ok (.ior, 1) := by decide +kernel
theorem dX16_carry_283 : decode cX16_carry 283 = .ok (.bipush 21, 2) := by decide +kernel
theorem dX16_carry_285 : decode cX16_carry 285 = .ok (.invokestatic 320, 3) := by decide +kernel
theorem dX16_carry_288 : decode cX16_carry 288 = .ok (.iadd, 1) := by decide +kernel
theorem dX16_carry_289 : decode cX16_carry 289 = .ok (.putfield 350, 3) := by decide +kernel
theorem dX16_carry_292 : decode cX16_carry 292 = .ok (.goto 270, 3) := by decide +kernel
theorem dX16_carry_295 : decode cX16_carry 295 = .ok (.iload_n 3, 1) := by decide +kernel
theorem dX16_carry_296 : decode cX16_carry 296 = .ok (.ifCond .eq 8, 3) := by decide +kernel
theorem dX16_carry_299 : decode cX16_carry 299 = .ok (.aload_n 0, 1) := by decide +kernel
theorem dX16_carry_300 : decode cX16_carry 300 = .ok (.invokevirtual 356, 3) := by decide +kernel
theorem dX16_carry_303 : decode cX16_carry 303 = .ok (.pop, 1) := by decide +kernel
theorem dX16_carry_304 : decode cX16_carry 304 = .ok (.aload_n 0, 1) := by decide +kernel
theorem dX16_carry_305 : decode cX16_carry 305 = .ok (.iload_n 2, 1) := by decide +kernel
theorem dX16_carry_306 : decode cX16_carry 306 = .ok (.aload_n 0, 1) := by decide +kernel
theorem dX16_carry_307 : decode cX16_carry 307 = .ok (.getfield 350, 3) := by decide +kernel
theorem dX16_carry_310 : decode cX16_carry 310 = .ok (.invokevirtual 362, 3) := by decide +kernel
theorem dX16_carry_313 : decode cX16_carry 313 = .ok (.aload_n 0, 1) := by decide +kernel
theorem dX16_carry_314 : decode cX16_carry 314 = .ok (.iload 4, 2) := by decide +kernel
theorem dX16_carry_316 : decode cX16_carry 316 = .ok (.iload 7, 2) := by decide +kernel
theorem dX16_carry_318 : decode cX16_carry 318 = .ok (.iadd, 1) := by decide +kernel
theorem dX16_carry_319 : decode cX16_carry 319 = .ok (.bipush (-2), 2) := by decide +kernel
theorem dX16_carry_321 : decode cX16_carry 321 = .ok (.iand, 1) := by decide +kernel
theorem dX16_carry_322 : decode cX16_carry 322 = .ok (.putfield 350, 3) := by decide +kernel
theorem dX16_carry_325 : decode cX16_carry 325 = .ok (.goto 237, 3) := by decide +kernel
theorem dX16_carry_328 : decode cX16_carry 328 = .ok (.aload_n 0, 1) := by decide +kernel
theorem dX16_carry_329 : decode cX16_carry 329 = .ok (.iload_n 1, 1) := by decide +kernel
theorem dX16_carry_330 : decode cX16_carry 330 = .ok (.iload_n 3, 1) := by decide +kernel
theorem dX16_carry_331 : decode cX16_carry 331 = .ok (.iload 4, 2) := by decide +kernel
theorem dX16_carry_333 : decode cX16_carry 333 = .ok (.iload 5, 2) := by decide +kernel
theorem dX16_carry_335 : decode cX16_carry 335 = .ok (.invokevirtual 365, 3) := by decide +kernel
theorem dX16_carry_338 : decode cX16_carry 338 = .ok (.goto 224, 3) := by decide +kernel
theorem dX16_carry_341 : decode cX16_carry 341 = .ok (.aload_n 0, 1) := by decide +kernel
theorem dX16_carry_342 : decode cX16_carry 342 = .ok (.iload_n 2, 1) := by decide +kernel
theorem dX16_carry_343 : decode cX16_carry 343 = .ok (.aload_n 0, 1) := by decide +kernel
theorem dX16_carry_344 : decode cX16_carry 344 = .ok (.iload_n 3, 1) := by decide +kernel
theorem dX16_carry_345 : decode cX16_carry 345 = .ok (.iload 4, 2) := by decide +kernel
theorem dX16_carry_347 : decode cX16_carry 347 = .ok (.iload 7, 2) := by decide +kernel
theorem dX16_carry_349 : decode cX16_carry 349 = .ok (.iadd, 1) := by decide +kernel
theorem dX16_carry_350 : decode cX16_carry 350 = .ok (.invokevirtual 369, 3) := by decide +kernel
theorem dX16_carry_353 : decode cX16_carry 353 = .ok (.invokevirtual 362, 3) := by decide +kernel
theorem dX16_carry_356 : decode cX16_carry 356 = .ok (.goto 206, 3) := by decide +kernel
theorem dX16_carry_359 : decode cX16_carry 359 = .ok (.aload_n 0, 1) := by decide +kernel
theorem dX16_carry_360 : decode cX16_carry 360 = .ok (.iload_n 3, 1) := by decide +kernel
theorem dX16_carry_361 : decode cX16_carry 361 = .ok (.iload 4, 2) := by decide +kernel
theorem dX16_carry_363 : decode cX16_carry 363 = .ok (.iload 7, 2) := by decide +kernel
theorem dX16_carry_365 : decode cX16_carry 365 = .ok (.bipush (-32), 2) := by decide +kernel
theorem dX16_carry_367 : decode cX16_carry 367 = .ok (.iand, 1) := by decide +kernel
theorem dX16_carry_368 : decode cX16_carry 368 = .ok (.iload_n 2, 1) := by decide +kernel
theorem dX16_carry_369 : decode cX16_carry 369 = .ok (.ior, 1) := by decide +kernel
theorem dX16_carry_370 : decode cX16_carry 370 = .ok (.iadd, 1) := by decide +kernel
theorem dX16_carry_371 : decode cX16_carry 371 = .ok (.iload 5, 2) := by decide +kernel
theorem dX16_carry_373 : decode cX16_carry 373 = .ok (.invokevirtual 372, 3) := by decide +kernel
theorem dX16_carry_376 : decode cX16_carry 376 = .ok (.goto 186, 3) := by decide +kernel
theorem dX16_carry_379 : decode cX16_carry 379 = .ok (.aload_n 0, 1) := by decide +kernel
theorem dX16_carry_380 : decode cX16_carry 380 = .ok (.iload_n 2, 1) := by decide +kernel
theorem dX16_carry_381 : decode cX16_carry 381 = .ok (.iload_n 3, 1) := by decide +kernel
theorem dX16_carry_382 : decode cX16_carry 382 = .ok (.iconst 1, 1) := by decide +kernel
theorem dX16_carry_383 : decode cX16_carry 383 = .ok (.if_icmp .eq 8, 3) := by decide +kernel
theorem dX16_carry_386 : decode cX16_carry 386 = .ok (.iload_n 3, 1) := by decide +kernel
theorem dX16_carry_387 : decode cX16_carry 387 = .ok (.iconst 5, 1) := by decide +kernel
theorem dX16_carry_388 : decode cX16_carry 388 = .ok (.if_icmp .ne 22, 3) := by decide +kernel
theorem dX16_carry_391 : decode cX16_carry 391 = .ok (.aload_n 0, 1) := by decide +kernel
theorem dX16_carry_392 : decode cX16_carry 392 = .ok (.iload_n 3, 1) := by decide +kernel
theorem dX16_carry_393 : decode cX16_carry 393 = .ok (.iload 6, 2) := by decide +kernel
theorem dX16_carry_395 : decode cX16_carry 395 = .ok (.iload 4, 2) := by decide +kernel
theorem dX16_carry_397 : decode cX16_carry 397 = .ok (.iload_n 1, 1) := by decide +kernel
theorem dX16_carry_398 : decode cX16_carry 398 = .ok (.bipush 20, 2) := by decide +kernel
theorem dX16_carry_400 : decode cX16_carry 400 = .ok (.iconst 5, 1) := by decide +kernel
theorem dX16_carry_401 : decode cX16_carry 401 = .ok (.invokestatic 297, 3) := by decide +kernel
theorem dX16_carry_404 : decode cX16_carry 404 = .ok (.invokevirtual 375, 3) := by decide +kernel
theorem dX16_carry_407 : decode cX16_carry 407 = .ok (.goto 11, 3) := by decide +kernel
theorem dX16_carry_410 : decode cX16_carry 410 = .ok (.iload_n 3, 1) := by decide +kernel
theorem dX16_carry_411 : decode cX16_carry 411 = .ok (.iload 4, 2) := by decide +kernel
theorem dX16_carry_413 : decode cX16_carry 413 = .ok (.iload 7, 2) := by decide +kernel
theorem dX16_carry_415 : decode cX16_carry 415 = .ok (.invokestatic 378, 3) := by decide +kernel
theorem dX16_carry_418 : decode cX16_carry 418 = .ok (.invokevirtual 362, 3) := by decide +kernel
theorem dX16_carry_421 : decode cX16_carry 421 = .ok (.goto 141, 3) := by decide +kernel
theorem dX16_carry_424 : decode cX16_carry 424 = .ok (.aload_n 0, 1) := by decide +kernel
theorem dX16_carry_425 : decode cX16_carry 425 = .ok (.iload_n 2, 1) := by decide +kernel
theorem dX16_carry_426 : decode cX16_carry 426 = .ok (.iload 6, 2) := by decide +kernel
theorem dX16_carry_428 : decode cX16_carry 428 = .ok (.iconst 1, 1) := by decide +kernel
theorem dX16_carry_429 : decode cX16_carry 429 = .ok (.if_icmp .ne 14, 3) := by decide +kernel
theorem dX16_carry_432 : decode cX16_carry 432 = .ok (.iload_n 3, 1) := by decide +kernel
theorem dX16_carry_433 : decode cX16_carry 433 = .ok (.iload 4, 2) := by decide +kernel
theorem dX16_carry_435 : decode cX16_carry 435 = .ok (.iload 5, 2) := by decide +kernel
theorem dX16_carry_437 : decode cX16_carry 437 = .ok (.invokestatic 381, 3) := by decide +kernel
theorem dX16_carry_440 : decode cX16_carry 440 = .ok (.goto 62, 3) := by decide +kernel
theorem dX16_carry_443 : decode cX16_carry 443 = .ok (.iload 6, 2) := by decide +kernel
theorem dX16_carry_445 : decode cX16_carry 445 = .ok (.ifCond .ne 24, 3) := by decide +kernel
theorem dX16_carry_448 : decode cX16_carry 448 = .ok (.iload_n 3, 1) := by decide +kernel
theorem dX16_carry_449 : decode cX16_carry 449 = .ok (.iconst 1, 1) := by decide +kernel
theorem dX16_carry_450 : decode cX16_carry 450 = .ok (.if_icmp .eq 19, 3) := by decide +kernel
theorem dX16_carry_453 : decode cX16_carry 453 = .ok (.iload_n 3, 1) := by decide +kernel
theorem dX16_carry_454 : decode cX16_carry 454 = .ok (.iconst 5, 1) := by decide +kernel
theorem dX16_carry_455 : decode cX16_carry 455 = .ok (.if_icmp .eq 14, 3) := by decide +kernel
theorem dX16_carry_458 : decode cX16_carry 458 = .ok (.iload_n 3, 1) := by decide +kernel
theorem dX16_carry_459 : decode cX16_carry 459 = .ok (.iload 4, 2) := by decide +kernel
theorem dX16_carry_461 : decode cX16_carry 461 = .ok (.iload 5, 2) := by decide +kernel
theorem dX16_carry_463 : decode cX16_carry 463 = .ok (.invokestatic 378, 3) := by decide +kernel
theorem dX16_carry_466 : decode cX16_carry 466 = .ok (.goto 36, 3) := by decide +kernel
theorem dX16_carry_469 : decode cX16_carry 469 = .ok (.iload 6, 2) := by decide +kernel
theorem dX16_carry_471 : decode cX16_carry 471 = .ok (.bipush 32, 2) := by decide +kernel
theorem dX16_carry_473 : decode cX16_carry 473 = .ok (.if_icmp .ne 15, 3) := by decide +kernel
theorem dX16_carry_476 : decode cX16_carry 476 = .ok (.iload_n 3, 1) := by decide +kernel
theorem dX16_carry_477 : decode cX16_carry 477 = .ok (.ifCond .ne 11, 3) := by decide +kernel
theorem dX16_carry_480 : decode cX16_carry 480 = .ok (.iload 4, 2) := by decide +kernel
theorem dX16_carry_482 : decode cX16_carry 482 = .ok (.iload 5, 2) := by decide +kernel
theorem dX16_carry_484 : decode cX16_carry 484 = .ok (.isub, 1) := by decide +kernel
theorem dX16_carry_485 : decode cX16_carry 485 = .ok (.goto 17, 3) := by decide +kernel
theorem dX16_carry_488 : decode cX16_carry 488 = .ok (.aload_n 0, 1) := by decide +kernel
theorem dX16_carry_489 : decode cX16_carry 489 = .ok (.iload_n 3, 1) := by decide +kernel
theorem dX16_carry_490 : decode cX16_carry 490 = .ok (.iload 6, 2) := by decide +kernel
theorem dX16_carry_492 : decode cX16_carry 492 = .ok (.iload 4, 2) := by decide +kernel
theorem dX16_carry_494 : decode cX16_carry 494 = .ok (.iload 5, 2) := by decide +kernel
theorem dX16_carry_496 : decode cX16_carry 496 = .ok (.bipush 31, 2) := by decide +kernel
theorem dX16_carry_498 : decode cX16_carry 498 = .ok (.iand, 1) := by decide +kernel
theorem dX16_carry_499 : decode cX16_carry 499 = .ok (.invokevirtual 375, 3) := by decide +kernel
theorem dX16_carry_502 : decode cX16_carry 502 = .ok (.invokevirtual 362, 3) := by decide +kernel
theorem dX16_carry_505 : decode cX16_carry 505 = .ok (.goto 57, 3) := by decide +kernel
theorem dX16_carry_508 : decode cX16_carry 508 = .ok (.aload_n 0, 1) := by decide +kernel
theorem dX16_carry_509 : decode cX16_carry 509 = .ok (.iload_n 2, 1) := by decide +kernel
theorem dX16_carry_510 : decode cX16_carry 510 = .ok (.aload_n 0, 1) := by decide +kernel
theorem dX16_carry_511 : decode cX16_carry 511 = .ok (.iload_n 1, 1) := by decide +kernel
theorem dX16_carry_512 : decode cX16_carry 512 = .ok (.iload_n 3, 1) := by decide +kernel
theorem dX16_carry_513 : decode cX16_carry 513 = .ok (.iload 6, 2) := by decide +kernel
theorem dX16_carry_515 : decode cX16_carry 515 = .ok (.iconst 2, 1) := by decide +kernel
theorem dX16_carry_516 : decode cX16_carry 516 = .ok (.ishr, 1) := by decide +kernel
theorem dX16_carry_517 : decode cX16_carry 517 = .ok (.iload 4, 2) := by decide +kernel
theorem dX16_carry_519 : decode cX16_carry 519 = .ok (.iload 5, 2) := by decide +kernel
theorem dX16_carry_521 : decode cX16_carry 521 = .ok (.invokevirtual 384, 3) := by decide +kernel
theorem dX16_carry_524 : decode cX16_carry 524 = .ok (.invokevirtual 362, 3) := by decide +kernel
theorem dX16_carry_527 : decode cX16_carry 527 = .ok (.goto 35, 3) := by decide +kernel
theorem dX16_carry_530 : decode cX16_carry 530 = .ok (.iload_n 3, 1) := by decide +kernel
theorem dX16_carry_531 : decode cX16_carry 531 = .ok (.iconst 1, 1) := by decide +kernel
theorem dX16_carry_532 : decode cX16_carry 532 = .ok (.if_icmp .le 30, 3) := by decide +kernel
theorem dX16_carry_535 : decode cX16_carry 535 = .ok (.aload_n 0, 1) := by decide +kernel
theorem dX16_carry_536 : decode cX16_carry 536 = .ok (.invokevirtual 356, 3) := by decide +kernel
theorem dX16_carry_539 : decode cX16_carry 539 = .ok (.pop, 1) := by decide +kernel
theorem dX16_carry_540 : decode cX16_carry 540 = .ok (.goto 22, 3) := by decide +kernel
theorem dX16_carry_543 : decode cX16_carry 543 = .ok (.aload_n 0, 1) := by decide +kernel
theorem dX16_carry_544 : decode cX16_carry 544 = .ok (.iload_n 2, 1) := by decide +kernel
theorem dX16_carry_545 : decode cX16_carry 545 = .ok (.aload_n 0, 1) := by decide +kernel
theorem dX16_carry_546 : decode cX16_carry 546 = .ok (.iload_n 1, 1) := by decide +kernel
theorem dX16_carry_547 : decode cX16_carry 547 = .ok (.iload_n 3, 1) := by decide +kernel
theorem dX16_carry_548 : decode cX16_carry 548 = .ok (.invokevirtual 387, 3) := by decide +kernel
theorem dX16_carry_551 : decode cX16_carry 551 = .ok (.invokevirtual 362, 3) := by decide +kernel
theorem dX16_carry_554 : decode cX16_carry 554 = .ok (.goto 8, 3) := by decide +kernel
theorem dX16_carry_557 : decode cX16_carry 557 = .ok (.aload_n 0, 1) := by decide +kernel
theorem dX16_carry_558 : decode cX16_carry 558 = .ok (.invokevirtual 356, 3) := by decide +kernel
theorem dX16_carry_561 : decode cX16_carry 561 = .ok (.pop, 1) := by decide +kernel
theorem dX16_carry_562 : decode cX16_carry 562 = .ok (.return_, 1) := by decide +kernel
theorem dX16_decide_0 : decode cX16_decide 0 = .ok (.iload_n 2, 1) := by decide +kernel
theorem dX16_decide_1 : decode cX16_decide 1 = .ok (.iconst 2, 1) := by decide +kernel
theorem dX16_decide_2 : decode cX16_decide 2 = .ok (.if_icmp .eq 8, 3) := by decide +kernel
theorem dX16_decide_5 : decode cX16_decide 5 = .ok (.iload_n 2, 1) := by decide +kernel
theorem dX16_decide_6 : decode cX16_decide 6 = .ok (.iconst 3, 1) := by decide +kernel
theorem dX16_decide_7 : decode cX16_decide 7 = .ok (.if_icmp .ne 9, 3) := by decide +kernel
theorem dX16_decide_10 : decode cX16_decide 10 = .ok (.aload_n 0, 1) := by decide +kernel
theorem dX16_decide_11 : decode cX16_decide 11 = .ok (.invokevirtual 356, 3) := by decide +kernel
theorem dX16_decide_14 : decode cX16_decide 14 = .ok (.pop, 1) := by decide +kernel
theorem dX16_decide_15 : decode cX16_decide 15 = .ok (.return_, 1) := by decide +kernel
theorem dX16_decide_16 : decode cX16_decide 16 = .ok (.iload_n 2, 1) := by decide +kernel
theorem dX16_decide_17 : decode cX16_decide 17 = .ok (.iconst 2, 1) := by decide +kernel
theorem dX16_decide_18 : decode cX16_decide 18 = .ok (.if_icmp .ge 17, 3) := by decide +kernel
theorem dX16_decide_21 : decode cX16_decide 21 = .ok (.iload_n 3, 1) := by decide +kernel
theorem dX16_decide_22 : decode cX16_decide 22 = .ok (.iload 4, 2) := by decide +kernel
theorem dX16_decide_24 : decode cX16_decide 24 = .ok (.if_icmp .ne 7, 3) := by decide +kernel
theorem dX16_decide_27 : decode cX16_decide 27 = .ok (.iconst 1, 1) := by decide +kernel
theorem dX16_decide_28 : decode cX16_decide 28 = .ok (.goto 45, 3) := by decide +kernel
theorem dX16_decide_31 : decode cX16_decide 31 = .ok (.iconst 0, 1) := by decide +kernel
theorem dX16_decide_32 : decode cX16_decide 32 = .ok (.goto 41, 3) := by decide +kernel
theorem dX16_decide_35 : decode cX16_decide 35 = .ok (.iload_n 2, 1) := by decide +kernel
theorem dX16_decide_36 : decode cX16_decide 36 = .ok (.bipush 6, 2) := by decide +kernel
theorem dX16_decide_38 : decode cX16_decide 38 = .ok (.if_icmp .ge 17, 3) := by decide +kernel
theorem dX16_decide_41 : decode cX16_decide 41 = .ok (.iload_n 3, 1) := by decide +kernel
theorem dX16_decide_42 : decode cX16_decide 42 = .ok (.iload 4, 2) := by decide +kernel
theorem dX16_decide_44 : decode cX16_decide 44 = .ok (.if_icmp .ge 7, 3) := by decide +kernel
theorem dX16_decide_47 : decode cX16_decide 47 = .ok (.iconst 1, 1) := by decide +kernel
theorem dX16_decide_48 : decode cX16_decide 48 = .ok (.goto 25, 3) := by decide +kernel
theorem dX16_decide_51 : decode cX16_decide 51 = .ok (.iconst 0, 1) := by decide +kernel
theorem dX16_decide_52 : decode cX16_decide 52 = .ok (.goto 21, 3) := by decide +kernel
theorem dX16_decide_55 : decode cX16_decide 55 = .ok (.iload_n 3, 1) := by decide +kernel
theorem dX16_decide_56 : decode cX16_decide 56 = .ok (.invokestatic 390, 3) := by decide +kernel
theorem dX16_decide_59 : decode cX16_decide 59 = .ok (.iload 4, 2) := by decide +kernel
theorem dX16_decide_61 : decode cX16_decide 61 = .ok (.invokestatic 390, 3) := by decide +kernel
theorem dX16_decide_64 : decode cX16_decide 64 = .ok (.lcmp, 1) := by decide +kernel
theorem dX16_decide_65 : decode cX16_decide 65 = .ok (.ifCond .ge 7, 3) := by decide +kernel
theorem dX16_decide_68 : decode cX16_decide 68 = .ok (.iconst 1, 1) := by decide +kernel
theorem dX16_decide_69 : decode cX16_decide 69 = .ok (.goto 4, 3) := by decide +kernel
theorem dX16_decide_72 : decode cX16_decide 72 = .ok (.iconst 0, 1) := by decide +kernel
theorem dX16_decide_73 : decode cX16_decide 73 = .ok (.istore 5, 2) := by decide +kernel
theorem dX16_decide_75 : decode cX16_decide 75 = .ok (.iload_n 2, 1) := by decide +kernel
theorem dX16_decide_76 : decode cX16_decide 76 = .ok (.iconst 1, 1) := by decide +kernel
theorem dX16_decide_77 : decode cX16_decide 77 = .ok (.iand, 1) := by decide +kernel
theorem dX16_decide_78 : decode cX16_decide 78 = .ok (.iconst 1, 1) := by decide +kernel
theorem dX16_decide_79 : decode cX16_decide 79 = .ok (.if_icmp .ne 15, 3) := by decide +kernel
theorem dX16_decide_82 : decode cX16_decide 82 = .ok (.iload 5, 2) := by decide +kernel
theorem dX16_decide_84 : decode cX16_decide 84 = .ok (.ifCond .ne 7, 3) := by decide +kernel
theorem dX16_decide_87 : decode cX16_decide 87 = .ok (.iconst 1, 1) := by decide +kernel
theorem dX16_decide_88 : decode cX16_decide 88 = .ok (.goto 4, 3) := by decide +kernel
theorem dX16_decide_91 : decode cX16_decide 91 = .ok (.iconst 0, 1) := by decide +kernel
theorem dX16_decide_92 : decode cX16_decide 92 = .ok (.istore 5, 2) := by decide +kernel
theorem dX16_decide_94 : decode cX16_decide 94 = .ok (.iload 5, 2) := by decide +kernel
theorem dX16_decide_96 : decode cX16_decide 96 = .ok (.ifCond .eq 60, 3) := by decide +kernel
theorem dX16_decide_99 : decode cX16_decide 99 = .ok (.aload_n 0, 1) := by decide +kernel
theorem dX16_decide_100 : decode cX16_decide 100 = .ok (.aload_n 0, 1) := by decide +kernel
theorem dX16_decide_101 : decode cX16_decide 101 = .ok (.getfield 45, 3) := by decide +kernel
theorem dX16_decide_104 : decode cX16_decide 104 = .ok (.aload_n 0, 1) := by decide +kernel
theorem dX16_decide_105 : decode cX16_decide 105 = .ok (.getfield 232, 3) := by decide +kernel
theorem dX16_decide_108 : decode cX16_decide 108 = .ok (.iaload, 1) := by decide +kernel
theorem dX16_decide_109 : decode cX16_decide 109 = .ok (.iload_n 1, 1) := by decide +kernel
theorem dX16_decide_110 : decode cX16_decide 110 = .ok (.bipush 31, 2) := by decide +kernel
theorem dX16_decide_112 : decode cX16_decide 112 = .ok (.iconst 1, 1) := by decide +kernel
theorem dX16_decide_113 : decode cX16_decide 113 = .ok (.bipush 12, 2) := by decide +kernel
theorem dX16_decide_115 : decode cX16_decide 115 = .ok (.invokestatic 300, 3) := by decide +kernel
theorem dX16_decide_118 : decode cX16_decide 118 = .ok (.iload_n 1, 1) := by decide +kernel
theorem dX16_decide_119 : decode cX16_decide 119 = .ok (.bipush 7, 2) := by decide +kernel
theorem dX16_decide_121 : decode cX16_decide 121 = .ok (.iconst 1, 1) := by decide +kernel
theorem dX16_decide_122 : decode cX16_decide 122 = .ok (.bipush 11, 2) := by decide +kernel
theorem dX16_decide_124 : decode cX16_decide 124 = .ok (.invokestatic 300, 3) := by decide +kernel
theorem dX16_decide_127 : decode cX16_decide 127 = .ok (.ior, 1) := by decide +kernel
theorem dX16_decide_128 : decode cX16_decide 128 = .ok (.iload_n 1, 1) := by decide +kernel
theorem dX16_decide_129 : decode cX16_decide 129 = .ok (.bipush 25, 2) := by decide +kernel
theorem dX16_decide_131 : decode cX16_decide 131 = .ok (.bipush 6, 2) := by decide +kernel
theorem dX16_decide_133 : decode cX16_decide 133 = .ok (.iconst 5, 1) := by decide +kernel
theorem dX16_decide_134 : decode cX16_decide 134 = .ok (.invokestatic 300, 3) := by decide +kernel
theorem dX16_decide_137 : decode cX16_decide 137 = .ok (.ior, 1) := by decide +kernel
theorem dX16_decide_138 : decode cX16_decide 138 = .ok (.iload_n 1, 1) := by decide +kernel
theorem dX16_decide_139 : decode cX16_decide 139 = .ok (.bipush 8, 2) := by decide +kernel
theorem dX16_decide_141 : decode cX16_decide 141 = .ok (.iconst 4, 1) := by decide +kernel
theorem dX16_decide_142 : decode cX16_decide 142 = .ok (.iconst 1, 1) := by decide +kernel
theorem dX16_decide_143 : decode cX16_decide 143 = .ok (.invokestatic 300, 3) := by decide +kernel
theorem dX16_decide_146 : decode cX16_decide 146 = .ok (.ior, 1) := by decide +kernel
theorem dX16_decide_147 : decode cX16_decide 147 = .ok (.bipush 13, 2) := by decide +kernel
theorem dX16_decide_149 : decode cX16_decide 149 = .ok (.invokestatic 320, 3) := by decide +kernel
theorem dX16_decide_152 : decode cX16_decide 152 = .ok (.iadd, 1) := by decide +kernel
theorem dX16_decide_153 : decode cX16_decide 153 = .ok (.putfield 350, 3) := by decide +kernel
theorem dX16_decide_156 : decode cX16_decide 156 = .ok (.return_, 1) := by decide +kernel
theorem dX16_reckoned_0 : decode cX16_reckoned 0 = .ok (.iload_n 0, 1) := by decide +kernel
theorem dX16_reckoned_1 : decode cX16_reckoned 1 = .ok (.tableswitch 84 0 6 #[43, 84, 47, 58, 76, 84, 80], 43) := by decide +kernel
theorem dX16_reckoned_44 : decode cX16_reckoned 44 = .ok (.iload_n 1, 1) := by decide +kernel
theorem dX16_reckoned_45 : decode cX16_reckoned 45 = .ok (.iload_n 2, 1) := by decide +kernel
theorem dX16_reckoned_46 : decode cX16_reckoned 46 = .ok (.iadd, 1) := by decide +kernel
theorem dX16_reckoned_47 : decode cX16_reckoned 47 = .ok (.ireturn, 1) := by decide +kernel
theorem dX16_reckoned_48 : decode cX16_reckoned 48 = .ok (.iload_n 1, 1) := by decide +kernel
theorem dX16_reckoned_49 : decode cX16_reckoned 49 = .ok (.iload_n 2, 1) := by decide +kernel
theorem dX16_reckoned_50 : decode cX16_reckoned 50 = .ok (.if_icmp .ge 7, 3) := by decide +kernel
theorem dX16_reckoned_53 : decode cX16_reckoned 53 = .ok (.iconst 1, 1) := by decide +kernel
theorem dX16_reckoned_54 : decode cX16_reckoned 54 = .ok (.goto 4, 3) := by decide +kernel
theorem dX16_reckoned_57 : decode cX16_reckoned 57 = .ok (.iconst 0, 1) := by decide +kernel
theorem dX16_reckoned_58 : decode cX16_reckoned 58 = .ok (.ireturn, 1) := by decide +kernel
theorem dX16_reckoned_59 : decode cX16_reckoned 59 = .ok (.iload_n 1, 1) := by decide +kernel
theorem dX16_reckoned_60 : decode cX16_reckoned 60 = .ok (.invokestatic 390, 3) := by decide +kernel
theorem dX16_reckoned_63 : decode cX16_reckoned 63 = .ok (.iload_n 2, 1) := by decide +kernel
theorem dX16_reckoned_64 : decode cX16_reckoned 64 = .ok (.invokestatic 390, 3) := by decide +kernel
theorem dX16_reckoned_67 : decode cX16_reckoned 67 = .ok (.lcmp, 1) := by decide +kernel
theorem dX16_reckoned_68 : decode cX16_reckoned 68 = .ok (.ifCond .ge 7, 3) := by decide +kernel
theorem dX16_reckoned_71 : decode cX16_reckoned 71 = .ok (.iconst 1, 1) := by decide +kernel
theorem dX16_reckoned_72 : decode cX16_reckoned 72 = .ok (.goto 4, 3) := by decide +kernel
theorem dX16_reckoned_75 : decode cX16_reckoned 75 = .ok (.iconst 0, 1) := by decide +kernel
theorem dX16_reckoned_76 : decode cX16_reckoned 76 = .ok (.ireturn, 1) := by decide +kernel
theorem dX16_reckoned_77 : decode cX16_reckoned 77 = .ok (.iload_n 1, 1) := by decide +kernel
theorem dX16_reckoned_78 : decode cX16_reckoned 78 = .ok (.iload_n 2, 1) := by decide +kernel
theorem dX16_reckoned_79 : decode cX16_reckoned 79 = .ok (.ixor, 1) := by decide +kernel
theorem dX16_reckoned_80 : decode cX16_reckoned 80 = .ok (.ireturn, 1) := by decide +kernel
theorem dX16_reckoned_81 : decode cX16_reckoned 81 = .ok (.iload_n 1, 1) := by decide +kernel
theorem dX16_reckoned_82 : decode cX16_reckoned 82 = .ok (.iload_n 2, 1) := by decide +kernel
theorem dX16_reckoned_83 : decode cX16_reckoned 83 = .ok (.ior, 1) := by decide +kernel
theorem dX16_reckoned_84 : decode cX16_reckoned 84 = .ok (.ireturn, 1) := by decide +kernel
theorem dX16_reckoned_85 : decode cX16_reckoned 85 = .ok (.iload_n 1, 1) := by decide +kernel
theorem dX16_reckoned_86 : decode cX16_reckoned 86 = .ok (.iload_n 2, 1) := by decide +kernel
theorem dX16_reckoned_87 : decode cX16_reckoned 87 = .ok (.iand, 1) := by decide +kernel
theorem dX16_reckoned_88 : decode cX16_reckoned 88 = .ok (.ireturn, 1) := by decide +kernel
theorem dX16_shifted_0 : decode cX16_shifted 0 = .ok (.iload_n 1, 1) := by decide +kernel
theorem dX16_shifted_1 : decode cX16_shifted 1 = .ok (.iconst 1, 1) := by decide +kernel
theorem dX16_shifted_2 : decode cX16_shifted 2 = .ok (.if_icmp .ne 12, 3) := by decide +kernel
theorem dX16_shifted_5 : decode cX16_shifted 5 = .ok (.iload_n 2, 1) := by decide +kernel
theorem dX16_shifted_6 : decode cX16_shifted 6 = .ok (.ifCond .ne 8, 3) := by decide +kernel
theorem dX16_shifted_9 : decode cX16_shifted 9 = .ok (.iload_n 3, 1) := by decide +kernel
theorem dX16_shifted_10 : decode cX16_shifted 10 = .ok (.iload 4, 2) := by decide +kernel
theorem dX16_shifted_12 : decode cX16_shifted 12 = .ok (.ishl, 1) := by decide +kernel
theorem dX16_shifted_13 : decode cX16_shifted 13 = .ok (.ireturn, 1) := by decide +kernel
theorem dX16_shifted_14 : decode cX16_shifted 14 = .ok (.iload_n 1, 1) := by decide +kernel
theorem dX16_shifted_15 : decode cX16_shifted 15 = .ok (.iconst 5, 1) := by decide +kernel
theorem dX16_shifted_16 : decode cX16_shifted 16 = .ok (.if_icmp .ne 12, 3) := by decide +kernel
theorem dX16_shifted_19 : decode cX16_shifted 19 = .ok (.iload_n 2, 1) := by decide +kernel
theorem dX16_shifted_20 : decode cX16_shifted 20 = .ok (.ifCond .ne 8, 3) := by decide +kernel
theorem dX16_shifted_23 : decode cX16_shifted 23 = .ok (.iload_n 3, 1) := by decide +kernel
theorem dX16_shifted_24 : decode cX16_shifted 24 = .ok (.iload 4, 2) := by decide +kernel
theorem dX16_shifted_26 : decode cX16_shifted 26 = .ok (.iushr, 1) := by decide +kernel
theorem dX16_shifted_27 : decode cX16_shifted 27 = .ok (.ireturn, 1) := by decide +kernel
theorem dX16_shifted_28 : decode cX16_shifted 28 = .ok (.iload_n 1, 1) := by decide +kernel
theorem dX16_shifted_29 : decode cX16_shifted 29 = .ok (.iconst 5, 1) := by decide +kernel
theorem dX16_shifted_30 : decode cX16_shifted 30 = .ok (.if_icmp .ne 16, 3) := by decide +kernel
theorem dX16_shifted_33 : decode cX16_shifted 33 = .ok (.iload_n 2, 1) := by decide +kernel
theorem dX16_shifted_34 : decode cX16_shifted 34 = .ok (.bipush 32, 2) := by decide +kernel
theorem dX16_shifted_36 : decode cX16_shifted 36 = .ok (.if_icmp .ne 10, 3) := by decide +kernel
theorem dX16_shifted_39 : decode cX16_shifted 39 = .ok (.iload_n 3, 1) := by decide +kernel
theorem dX16_shifted_40 : decode cX16_shifted 40 = .ok (.iload 4, 2) := by decide +kernel
theorem dX16_shifted_42 : decode cX16_shifted 42 = .ok (.ishr, 1) := by decide +kernel
theorem dX16_shifted_43 : decode cX16_shifted 43 = .ok (.goto 7, 3) := by decide +kernel
theorem dX16_shifted_46 : decode cX16_shifted 46 = .ok (.aload_n 0, 1) := by decide +kernel
theorem dX16_shifted_47 : decode cX16_shifted 47 = .ok (.invokevirtual 356, 3) := by decide +kernel
theorem dX16_shifted_50 : decode cX16_shifted 50 = .ok (.ireturn, 1) := by decide +kernel
theorem dX16_multiplied_0 : decode cX16_multiplied 0 = .ok (.iload_n 1, 1) := by decide +kernel
theorem dX16_multiplied_1 : decode cX16_multiplied 1 = .ok (.invokestatic 390, 3) := by decide +kernel
theorem dX16_multiplied_4 : decode cX16_multiplied 4 = .ok (.lstore_n 3, 1) := by decide +kernel
theorem dX16_multiplied_5 : decode cX16_multiplied 5 = .ok (.iload_n 2, 1) := by decide +kernel
theorem dX16_multiplied_6 : decode cX16_multiplied 6 = .ok (.invokestatic 390, 3) := by decide +kernel
theorem dX16_multiplied_9 : decode cX16_multiplied 9 = .ok (.lstore 5, 2) := by decide +kernel
theorem dX16_multiplied_11 : decode cX16_multiplied 11 = .ok (.iload_n 0, 1) := by decide +kernel
theorem dX16_multiplied_12 : decode cX16_multiplied 12 = .ok (.tableswitch 121 0 6 #[44, 48, 58, 68, 77, 92, 106], 44) := by decide +kernel
theorem dX16_multiplied_56 : decode cX16_multiplied 56 = .ok (.iload_n 1, 1) := by decide +kernel
theorem dX16_multiplied_57 : decode cX16_multiplied 57 = .ok (.iload_n 2, 1) := by decide +kernel
theorem dX16_multiplied_58 : decode cX16_multiplied 58 = .ok (.imul, 1) := by decide +kernel
theorem dX16_multiplied_59 : decode cX16_multiplied 59 = .ok (.ireturn, 1) := by decide +kernel
theorem dX16_multiplied_60 : decode cX16_multiplied 60 = .ok (.iload_n 1, 1) := by decide +kernel
theorem dX16_multiplied_61 : decode cX16_multiplied 61 = .ok (.i2l, 1) := by decide +kernel
theorem dX16_multiplied_62 : decode cX16_multiplied 62 = .ok (.iload_n 2, 1) := by decide +kernel
theorem dX16_multiplied_63 : decode cX16_multiplied 63 = .ok (.i2l, 1) := by decide +kernel
theorem dX16_multiplied_64 : decode cX16_multiplied 64 = .ok (.lmul, 1) := by decide +kernel
theorem dX16_multiplied_65 : decode cX16_multiplied 65 = .ok (.bipush 32, 2) := by decide +kernel
theorem dX16_multiplied_67 : decode cX16_multiplied 67 = .ok (.lshr, 1) := by decide +kernel
theorem dX16_multiplied_68 : decode cX16_multiplied 68 = .ok (.l2i, 1) := by decide +kernel
theorem dX16_multiplied_69 : decode cX16_multiplied 69 = .ok (.ireturn, 1) := by decide +kernel
theorem dX16_multiplied_70 : decode cX16_multiplied 70 = .ok (.iload_n 1, 1) := by decide +kernel
theorem dX16_multiplied_71 : decode cX16_multiplied 71 = .ok (.i2l, 1) := by decide +kernel
theorem dX16_multiplied_72 : decode cX16_multiplied 72 = .ok (.lload 5, 2) := by decide +kernel
theorem dX16_multiplied_74 : decode cX16_multiplied 74 = .ok (.lmul, 1) := by decide +kernel
theorem dX16_multiplied_75 : decode cX16_multiplied 75 = .ok (.bipush 32, 2) := by decide +kernel
theorem dX16_multiplied_77 : decode cX16_multiplied 77 = .ok (.lshr, 1) := by decide +kernel
theorem dX16_multiplied_78 : decode cX16_multiplied 78 = .ok (.l2i, 1) := by decide +kernel
theorem dX16_multiplied_79 : decode cX16_multiplied 79 = .ok (.ireturn, 1) := by decide +kernel
theorem dX16_multiplied_80 : decode cX16_multiplied 80 = .ok (.lload_n 3, 1) := by decide +kernel
theorem dX16_multiplied_81 : decode cX16_multiplied 81 = .ok (.lload 5, 2) := by decide +kernel
theorem dX16_multiplied_83 : decode cX16_multiplied 83 = .ok (.lmul, 1) := by decide +kernel
theorem dX16_multiplied_84 : decode cX16_multiplied 84 = .ok (.bipush 32, 2) := by decide +kernel
theorem dX16_multiplied_86 : decode cX16_multiplied 86 = .ok (.lushr, 1) := by decide +kernel
theorem dX16_multiplied_87 : decode cX16_multiplied 87 = .ok (.l2i, 1) := by decide +kernel
theorem dX16_multiplied_88 : decode cX16_multiplied 88 = .ok (.ireturn, 1) := by decide +kernel
theorem dX16_multiplied_89 : decode cX16_multiplied 89 = .ok (.iload_n 2, 1) := by decide +kernel
theorem dX16_multiplied_90 : decode cX16_multiplied 90 = .ok (.ifCond .ne 7, 3) := by decide +kernel
theorem dX16_multiplied_93 : decode cX16_multiplied 93 = .ok (.iconst (-1), 1) := by decide +kernel
theorem dX16_multiplied_94 : decode cX16_multiplied 94 = .ok (.goto 9, 3) := by decide +kernel
theorem dX16_multiplied_97 : decode cX16_multiplied 97 = .ok (.iload_n 1, 1) := by decide +kernel
theorem dX16_multiplied_98 : decode cX16_multiplied 98 = .ok (.i2l, 1) := by decide +kernel
theorem dX16_multiplied_99 : decode cX16_multiplied 99 = .ok (.iload_n 2, 1) := by decide +kernel
theorem dX16_multiplied_100 : decode cX16_multiplied 100 = .ok (.i2l, 1) := by decide +kernel
theorem dX16_multiplied_101 : decode cX16_multiplied 101 = .ok (.ldiv, 1) := by decide +kernel
theorem dX16_multiplied_102 : decode cX16_multiplied 102 = .ok (.l2i, 1) := by decide +kernel
theorem dX16_multiplied_103 : decode cX16_multiplied 103 = .ok (.ireturn, 1) := by decide +kernel
theorem dX16_multiplied_104 : decode cX16_multiplied 104 = .ok (.iload_n 2, 1) := by decide +kernel
theorem dX16_multiplied_105 : decode cX16_multiplied 105 = .ok (.ifCond .ne 7, 3) := by decide +kernel
theorem dX16_multiplied_108 : decode cX16_multiplied 108 = .ok (.iconst (-1), 1) := by decide +kernel
theorem dX16_multiplied_109 : decode cX16_multiplied 109 = .ok (.goto 8, 3) := by decide +kernel
theorem dX16_multiplied_112 : decode cX16_multiplied 112 = .ok (.lload_n 3, 1) := by decide +kernel
theorem dX16_multiplied_113 : decode cX16_multiplied 113 = .ok (.lload 5, 2) := by decide +kernel
theorem dX16_multiplied_115 : decode cX16_multiplied 115 = .ok (.ldiv, 1) := by decide +kernel
theorem dX16_multiplied_116 : decode cX16_multiplied 116 = .ok (.l2i, 1) := by decide +kernel
theorem dX16_multiplied_117 : decode cX16_multiplied 117 = .ok (.ireturn, 1) := by decide +kernel
theorem dX16_multiplied_118 : decode cX16_multiplied 118 = .ok (.iload_n 2, 1) := by decide +kernel
theorem dX16_multiplied_119 : decode cX16_multiplied 119 = .ok (.ifCond .ne 7, 3) := by decide +kernel
theorem dX16_multiplied_122 : decode cX16_multiplied 122 = .ok (.iload_n 1, 1) := by decide +kernel
theorem dX16_multiplied_123 : decode cX16_multiplied 123 = .ok (.goto 9, 3) := by decide +kernel
theorem dX16_multiplied_126 : decode cX16_multiplied 126 = .ok (.iload_n 1, 1) := by decide +kernel
theorem dX16_multiplied_127 : decode cX16_multiplied 127 = .ok (.i2l, 1) := by decide +kernel
theorem dX16_multiplied_128 : decode cX16_multiplied 128 = .ok (.iload_n 2, 1) := by decide +kernel
theorem dX16_multiplied_129 : decode cX16_multiplied 129 = .ok (.i2l, 1) := by decide +kernel
theorem dX16_multiplied_130 : decode cX16_multiplied 130 = .ok (.lrem, 1) := by decide +kernel
theorem dX16_multiplied_131 : decode cX16_multiplied 131 = .ok (.l2i, 1) := by decide +kernel
theorem dX16_multiplied_132 : decode cX16_multiplied 132 = .ok (.ireturn, 1) := by decide +kernel
theorem dX16_multiplied_133 : decode cX16_multiplied 133 = .ok (.iload_n 2, 1) := by decide +kernel
theorem dX16_multiplied_134 : decode cX16_multiplied 134 = .ok (.ifCond .ne 7, 3) := by decide +kernel
theorem dX16_multiplied_137 : decode cX16_multiplied 137 = .ok (.iload_n 1, 1) := by decide +kernel
theorem dX16_multiplied_138 : decode cX16_multiplied 138 = .ok (.goto 8, 3) := by decide +kernel
theorem dX16_multiplied_141 : decode cX16_multiplied 141 = .ok (.lload_n 3, 1) := by decide +kernel
theorem dX16_multiplied_142 : decode cX16_multiplied 142 = .ok (.lload 5, 2) := by decide +kernel
theorem dX16_multiplied_144 : decode cX16_multiplied 144 = .ok (.lrem, 1) := by decide +kernel
theorem dX16_multiplied_145 : decode cX16_multiplied 145 = .ok (.l2i, 1) := by decide +kernel
theorem dX16_multiplied_146 : decode cX16_multiplied 146 = .ok (.ireturn, 1) := by decide +kernel
theorem dX16_loaded_0 : decode cX16_loaded 0 = .ok (.iconst 1, 1) := by decide +kernel
theorem dX16_loaded_1 : decode cX16_loaded 1 = .ok (.iload_n 1, 1) := by decide +kernel
theorem dX16_loaded_2 : decode cX16_loaded 2 = .ok (.iconst 3, 1) := by decide +kernel
theorem dX16_loaded_3 : decode cX16_loaded 3 = .ok (.iand, 1) := by decide +kernel
theorem dX16_loaded_4 : decode cX16_loaded 4 = .ok (.ishl, 1) := by decide +kernel
theorem dX16_loaded_5 : decode cX16_loaded 5 = .ok (.istore_n 3, 1) := by decide +kernel
theorem dX16_loaded_6 : decode cX16_loaded 6 = .ok (.iload_n 1, 1) := by decide +kernel
theorem dX16_loaded_7 : decode cX16_loaded 7 = .ok (.iconst 3, 1) := by decide +kernel
theorem dX16_loaded_8 : decode cX16_loaded 8 = .ok (.if_icmp .eq 8, 3) := by decide +kernel
theorem dX16_loaded_11 : decode cX16_loaded 11 = .ok (.iload_n 1, 1) := by decide +kernel
theorem dX16_loaded_12 : decode cX16_loaded 12 = .ok (.iconst 5, 1) := by decide +kernel
theorem dX16_loaded_13 : decode cX16_loaded 13 = .ok (.if_icmp .le 8, 3) := by decide +kernel
theorem dX16_loaded_16 : decode cX16_loaded 16 = .ok (.aload_n 0, 1) := by decide +kernel
theorem dX16_loaded_17 : decode cX16_loaded 17 = .ok (.invokevirtual 356, 3) := by decide +kernel
theorem dX16_loaded_20 : decode cX16_loaded 20 = .ok (.ireturn, 1) := by decide +kernel
theorem dX16_loaded_21 : decode cX16_loaded 21 = .ok (.iload_n 2, 1) := by decide +kernel
theorem dX16_loaded_22 : decode cX16_loaded 22 = .ok (.iload_n 3, 1) := by decide +kernel
theorem dX16_loaded_23 : decode cX16_loaded 23 = .ok (.irem, 1) := by decide +kernel
theorem dX16_loaded_24 : decode cX16_loaded 24 = .ok (.ifCond .eq 9, 3) := by decide +kernel
theorem dX16_loaded_27 : decode cX16_loaded 27 = .ok (.aload_n 0, 1) := by decide +kernel
theorem dX16_loaded_28 : decode cX16_loaded 28 = .ok (.iconst 5, 1) := by decide +kernel
theorem dX16_loaded_29 : decode cX16_loaded 29 = .ok (.invokevirtual 339, 3) := by decide +kernel
theorem dX16_loaded_32 : decode cX16_loaded 32 = .ok (.ireturn, 1) := by decide +kernel
theorem dX16_loaded_33 : decode cX16_loaded 33 = .ok (.aload_n 0, 1) := by decide +kernel
theorem dX16_loaded_34 : decode cX16_loaded 34 = .ok (.aload_n 0, 1) := by decide +kernel
theorem dX16_loaded_35 : decode cX16_loaded 35 = .ok (.getfield 232, 3) := by decide +kernel
theorem dX16_loaded_38 : decode cX16_loaded 38 = .ok (.iload_n 2, 1) := by decide +kernel
theorem dX16_loaded_39 : decode cX16_loaded 39 = .ok (.iconst 1, 1) := by decide +kernel
theorem dX16_loaded_40 : decode cX16_loaded 40 = .ok (.invokevirtual 218, 3) := by decide +kernel
theorem dX16_loaded_43 : decode cX16_loaded 43 = .ok (.ifCond .ne 10, 3) := by decide +kernel
theorem dX16_loaded_46 : decode cX16_loaded 46 = .ok (.aload_n 0, 1) := by decide +kernel
theorem dX16_loaded_47 : decode cX16_loaded 47 = .ok (.bipush 6, 2) := by decide +kernel
theorem dX16_loaded_49 : decode cX16_loaded 49 = .ok (.invokevirtual 339, 3) := by decide +kernel
theorem dX16_loaded_52 : decode cX16_loaded 52 = .ok (.ireturn, 1) := by decide +kernel
theorem dX16_loaded_53 : decode cX16_loaded 53 = .ok (.iconst 0, 1) := by decide +kernel
theorem dX16_loaded_54 : decode cX16_loaded 54 = .ok (.istore 4, 2) := by decide +kernel
theorem dX16_loaded_56 : decode cX16_loaded 56 = .ok (.iconst 0, 1) := by decide +kernel
theorem dX16_loaded_57 : decode cX16_loaded 57 = .ok (.istore 5, 2) := by decide +kernel
theorem dX16_loaded_59 : decode cX16_loaded 59 = .ok (.iload 5, 2) := by decide +kernel
theorem dX16_loaded_61 : decode cX16_loaded 61 = .ok (.iload_n 3, 1) := by decide +kernel
theorem dX16_loaded_62 : decode cX16_loaded 62 = .ok (.if_icmp .ge 28, 3) := by decide +kernel
theorem dX16_loaded_65 : decode cX16_loaded 65 = .ok (.iload 4, 2) := by decide +kernel
theorem dX16_loaded_67 : decode cX16_loaded 67 = .ok (.aload_n 0, 1) := by decide +kernel
theorem dX16_loaded_68 : decode cX16_loaded 68 = .ok (.iload_n 2, 1) := by decide +kernel
theorem dX16_loaded_69 : decode cX16_loaded 69 = .ok (.iload 5, 2) := by decide +kernel
theorem dX16_loaded_71 : decode cX16_loaded 71 = .ok (.iadd, 1) := by decide +kernel
theorem dX16_loaded_72 : decode cX16_loaded 72 = .ok (.invokevirtual 235, 3) := by decide +kernel
theorem dX16_loaded_75 : decode cX16_loaded 75 = .ok (.bipush 8, 2) := by decide +kernel
theorem dX16_loaded_77 : decode cX16_loaded 77 = .ok (.iload 5, 2) := by decide +kernel
theorem dX16_loaded_79 : decode cX16_loaded 79 = .ok (.imul, 1) := by decide +kernel
theorem dX16_loaded_80 : decode cX16_loaded 80 = .ok (.ishl, 1) := by decide +kernel
theorem dX16_loaded_81 : decode cX16_loaded 81 = .ok (.ior, 1) := by decide +kernel
theorem dX16_loaded_82 : decode cX16_loaded 82 = .ok (.istore 4, 2) := by decide +kernel
theorem dX16_loaded_84 : decode cX16_loaded 84 = .ok (.iinc 5 1, 3) := by decide +kernel
theorem dX16_loaded_87 : decode cX16_loaded 87 = .ok (.goto (-28), 3) := by decide +kernel
theorem dX16_loaded_90 : decode cX16_loaded 90 = .ok (.iload_n 1, 1) := by decide +kernel
theorem dX16_loaded_91 : decode cX16_loaded 91 = .ok (.iconst 2, 1) := by decide +kernel
theorem dX16_loaded_92 : decode cX16_loaded 92 = .ok (.if_icmp .ge 15, 3) := by decide +kernel
theorem dX16_loaded_95 : decode cX16_loaded 95 = .ok (.iload 4, 2) := by decide +kernel
theorem dX16_loaded_97 : decode cX16_loaded 97 = .ok (.bipush 8, 2) := by decide +kernel
theorem dX16_loaded_99 : decode cX16_loaded 99 = .ok (.iload_n 3, 1) := by decide +kernel
theorem dX16_loaded_100 : decode cX16_loaded 100 = .ok (.imul, 1) := by decide +kernel
theorem dX16_loaded_101 : decode cX16_loaded 101 = .ok (.invokestatic 320, 3) := by decide +kernel
theorem dX16_loaded_104 : decode cX16_loaded 104 = .ok (.goto 5, 3) := by decide +kernel
theorem dX16_loaded_107 : decode cX16_loaded 107 = .ok (.iload 4, 2) := by decide +kernel
theorem dX16_loaded_109 : decode cX16_loaded 109 = .ok (.ireturn, 1) := by decide +kernel
theorem dX16_stored_0 : decode cX16_stored 0 = .ok (.iconst 1, 1) := by decide +kernel
theorem dX16_stored_1 : decode cX16_stored 1 = .ok (.iload_n 1, 1) := by decide +kernel
theorem dX16_stored_2 : decode cX16_stored 2 = .ok (.iconst 3, 1) := by decide +kernel
theorem dX16_stored_3 : decode cX16_stored 3 = .ok (.iand, 1) := by decide +kernel
theorem dX16_stored_4 : decode cX16_stored 4 = .ok (.ishl, 1) := by decide +kernel
theorem dX16_stored_5 : decode cX16_stored 5 = .ok (.istore 4, 2) := by decide +kernel
theorem dX16_stored_7 : decode cX16_stored 7 = .ok (.iload_n 1, 1) := by decide +kernel
theorem dX16_stored_8 : decode cX16_stored 8 = .ok (.iconst 2, 1) := by decide +kernel
theorem dX16_stored_9 : decode cX16_stored 9 = .ok (.if_icmp .le 11, 3) := by decide +kernel
theorem dX16_stored_12 : decode cX16_stored 12 = .ok (.aload_n 0, 1) := by decide +kernel
theorem dX16_stored_13 : decode cX16_stored 13 = .ok (.invokevirtual 356, 3) := by decide +kernel
theorem dX16_stored_16 : decode cX16_stored 16 = .ok (.pop, 1) := by decide +kernel
theorem dX16_stored_17 : decode cX16_stored 17 = .ok (.goto 105, 3) := by decide +kernel
theorem dX16_stored_20 : decode cX16_stored 20 = .ok (.iload_n 2, 1) := by decide +kernel
theorem dX16_stored_21 : decode cX16_stored 21 = .ok (.iload 4, 2) := by decide +kernel
theorem dX16_stored_23 : decode cX16_stored 23 = .ok (.irem, 1) := by decide +kernel
theorem dX16_stored_24 : decode cX16_stored 24 = .ok (.ifCond .eq 12, 3) := by decide +kernel
theorem dX16_stored_27 : decode cX16_stored 27 = .ok (.aload_n 0, 1) := by decide +kernel
theorem dX16_stored_28 : decode cX16_stored 28 = .ok (.iconst 5, 1) := by decide +kernel
theorem dX16_stored_29 : decode cX16_stored 29 = .ok (.invokevirtual 339, 3) := by decide +kernel
theorem dX16_stored_32 : decode cX16_stored 32 = .ok (.pop, 1) := by decide +kernel
theorem dX16_stored_33 : decode cX16_stored 33 = .ok (.goto 89, 3) := by decide +kernel
theorem dX16_stored_36 : decode cX16_stored 36 = .ok (.aload_n 0, 1) := by decide +kernel
theorem dX16_stored_37 : decode cX16_stored 37 = .ok (.aload_n 0, 1) := by decide +kernel
theorem dX16_stored_38 : decode cX16_stored 38 = .ok (.getfield 232, 3) := by decide +kernel
theorem dX16_stored_41 : decode cX16_stored 41 = .ok (.iload_n 2, 1) := by decide +kernel
theorem dX16_stored_42 : decode cX16_stored 42 = .ok (.iconst 2, 1) := by decide +kernel
theorem dX16_stored_43 : decode cX16_stored 43 = .ok (.invokevirtual 218, 3) := by decide +kernel
theorem dX16_stored_46 : decode cX16_stored 46 = .ok (.ifCond .ne 13, 3) := by decide +kernel
theorem dX16_stored_49 : decode cX16_stored 49 = .ok (.aload_n 0, 1) := by decide +kernel
theorem dX16_stored_50 : decode cX16_stored 50 = .ok (.bipush 7, 2) := by decide +kernel
theorem dX16_stored_52 : decode cX16_stored 52 = .ok (.invokevirtual 339, 3) := by decide +kernel
theorem dX16_stored_55 : decode cX16_stored 55 = .ok (.pop, 1) := by decide +kernel
theorem dX16_stored_56 : decode cX16_stored 56 = .ok (.goto 66, 3) := by decide +kernel
theorem dX16_stored_59 : decode cX16_stored 59 = .ok (.aload_n 0, 1) := by decide +kernel
theorem dX16_stored_60 : decode cX16_stored 60 = .ok (.aload_n 0, 1) := by decide +kernel
theorem dX16_stored_61 : decode cX16_stored 61 = .ok (.aload_n 0, 1) := by decide +kernel
theorem dX16_stored_62 : decode cX16_stored 62 = .ok (.getfield 232, 3) := by decide +kernel
theorem dX16_stored_65 : decode cX16_stored 65 = .ok (.iload_n 2, 1) := by decide +kernel
theorem dX16_stored_66 : decode cX16_stored 66 = .ok (.iload 4, 2) := by decide +kernel
theorem dX16_stored_68 : decode cX16_stored 68 = .ok (.invokevirtual 394, 3) := by decide +kernel
theorem dX16_stored_71 : decode cX16_stored 71 = .ok (.invokevirtual 397, 3) := by decide +kernel
theorem dX16_stored_74 : decode cX16_stored 74 = .ok (.ifCond .ne 13, 3) := by decide +kernel
theorem dX16_stored_77 : decode cX16_stored 77 = .ok (.aload_n 0, 1) := by decide +kernel
theorem dX16_stored_78 : decode cX16_stored 78 = .ok (.bipush 8, 2) := by decide +kernel
theorem dX16_stored_80 : decode cX16_stored 80 = .ok (.invokevirtual 339, 3) := by decide +kernel
theorem dX16_stored_83 : decode cX16_stored 83 = .ok (.pop, 1) := by decide +kernel
theorem dX16_stored_84 : decode cX16_stored 84 = .ok (.goto 38, 3) := by decide +kernel
theorem dX16_stored_87 : decode cX16_stored 87 = .ok (.iconst 0, 1) := by decide +kernel
theorem dX16_stored_88 : decode cX16_stored 88 = .ok (.istore 5, 2) := by decide +kernel
theorem dX16_stored_90 : decode cX16_stored 90 = .ok (.iload 5, 2) := by decide +kernel
theorem dX16_stored_92 : decode cX16_stored 92 = .ok (.iload 4, 2) := by decide +kernel
theorem dX16_stored_94 : decode cX16_stored 94 = .ok (.if_icmp .ge 28, 3) := by decide +kernel
theorem dX16_stored_97 : decode cX16_stored 97 = .ok (.aload_n 0, 1) := by decide +kernel
theorem dX16_stored_98 : decode cX16_stored 98 = .ok (.aload_n 0, 1) := by decide +kernel
theorem dX16_stored_99 : decode cX16_stored 99 = .ok (.getfield 232, 3) := by decide +kernel
theorem dX16_stored_102 : decode cX16_stored 102 = .ok (.iload_n 2, 1) := by decide +kernel
theorem dX16_stored_103 : decode cX16_stored 103 = .ok (.iload 5, 2) := by decide +kernel
theorem dX16_stored_105 : decode cX16_stored 105 = .ok (.iadd, 1) := by decide +kernel
theorem dX16_stored_106 : decode cX16_stored 106 = .ok (.iload_n 3, 1) := by decide +kernel
theorem dX16_stored_107 : decode cX16_stored 107 = .ok (.bipush 8, 2) := by decide +kernel
theorem dX16_stored_109 : decode cX16_stored 109 = .ok (.iload 5, 2) := by decide +kernel
theorem dX16_stored_111 : decode cX16_stored 111 = .ok (.imul, 1) := by decide +kernel
theorem dX16_stored_112 : decode cX16_stored 112 = .ok (.ishr, 1) := by decide +kernel
theorem dX16_stored_113 : decode cX16_stored 113 = .ok (.invokevirtual 400, 3) := by decide +kernel
theorem dX16_stored_116 : decode cX16_stored 116 = .ok (.iinc 5 1, 3) := by decide +kernel
theorem dX16_stored_119 : decode cX16_stored 119 = .ok (.goto (-29), 3) := by decide +kernel
theorem dX16_stored_122 : decode cX16_stored 122 = .ok (.return_, 1) := by decide +kernel
theorem dX16_atomic_0 : decode cX16_atomic 0 = .ok (.iload_n 3, 1) := by decide +kernel
theorem dX16_atomic_1 : decode cX16_atomic 1 = .ok (.iconst 5, 1) := by decide +kernel
theorem dX16_atomic_2 : decode cX16_atomic 2 = .ok (.if_icmp .lt 39, 3) := by decide +kernel
theorem dX16_atomic_5 : decode cX16_atomic 5 = .ok (.iload_n 3, 1) := by decide +kernel
theorem dX16_atomic_6 : decode cX16_atomic 6 = .ok (.bipush 8, 2) := by decide +kernel
theorem dX16_atomic_8 : decode cX16_atomic 8 = .ok (.if_icmp .eq 33, 3) := by decide +kernel
theorem dX16_atomic_11 : decode cX16_atomic 11 = .ok (.iload_n 3, 1) := by decide +kernel
theorem dX16_atomic_12 : decode cX16_atomic 12 = .ok (.bipush 12, 2) := by decide +kernel
theorem dX16_atomic_14 : decode cX16_atomic 14 = .ok (.if_icmp .eq 27, 3) := by decide +kernel
theorem dX16_atomic_17 : decode cX16_atomic 17 = .ok (.iload_n 3, 1) := by decide +kernel
theorem dX16_atomic_18 : decode cX16_atomic 18 = .ok (.bipush 16, 2) := by decide +kernel
theorem dX16_atomic_20 : decode cX16_atomic 20 = .ok (.if_icmp .eq 21, 3) := by decide +kernel
theorem dX16_atomic_23 : decode cX16_atomic 23 = .ok (.iload_n 3, 1) := by decide +kernel
theorem dX16_atomic_24 : decode cX16_atomic 24 = .ok (.bipush 20, 2) := by decide +kernel
theorem dX16_atomic_26 : decode cX16_atomic 26 = .ok (.if_icmp .eq 15, 3) := by decide +kernel
theorem dX16_atomic_29 : decode cX16_atomic 29 = .ok (.iload_n 3, 1) := by decide +kernel
theorem dX16_atomic_30 : decode cX16_atomic 30 = .ok (.bipush 24, 2) := by decide +kernel
theorem dX16_atomic_32 : decode cX16_atomic 32 = .ok (.if_icmp .eq 9, 3) := by decide +kernel
theorem dX16_atomic_35 : decode cX16_atomic 35 = .ok (.iload_n 3, 1) := by decide +kernel
theorem dX16_atomic_36 : decode cX16_atomic 36 = .ok (.bipush 28, 2) := by decide +kernel
theorem dX16_atomic_38 : decode cX16_atomic 38 = .ok (.if_icmp .ne 7, 3) := by decide +kernel
theorem dX16_atomic_41 : decode cX16_atomic 41 = .ok (.iconst 1, 1) := by decide +kernel
theorem dX16_atomic_42 : decode cX16_atomic 42 = .ok (.goto 4, 3) := by decide +kernel
theorem dX16_atomic_45 : decode cX16_atomic 45 = .ok (.iconst 0, 1) := by decide +kernel
theorem dX16_atomic_46 : decode cX16_atomic 46 = .ok (.istore 6, 2) := by decide +kernel
theorem dX16_atomic_48 : decode cX16_atomic 48 = .ok (.iload_n 2, 1) := by decide +kernel
theorem dX16_atomic_49 : decode cX16_atomic 49 = .ok (.iconst 2, 1) := by decide +kernel
theorem dX16_atomic_50 : decode cX16_atomic 50 = .ok (.if_icmp .ne 23, 3) := by decide +kernel
theorem dX16_atomic_53 : decode cX16_atomic 53 = .ok (.iload 6, 2) := by decide +kernel
theorem dX16_atomic_55 : decode cX16_atomic 55 = .ok (.ifCond .eq 18, 3) := by decide +kernel
theorem dX16_atomic_58 : decode cX16_atomic 58 = .ok (.iload_n 3, 1) := by decide +kernel
theorem dX16_atomic_59 : decode cX16_atomic 59 = .ok (.iconst 2, 1) := by decide +kernel
theorem dX16_atomic_60 : decode cX16_atomic 60 = .ok (.if_icmp .ne 18, 3) := by decide +kernel
theorem dX16_atomic_63 : decode cX16_atomic 63 = .ok (.iload_n 1, 1) := by decide +kernel
theorem dX16_atomic_64 : decode cX16_atomic 64 = .ok (.bipush 20, 2) := by decide +kernel
theorem dX16_atomic_66 : decode cX16_atomic 66 = .ok (.iconst 5, 1) := by decide +kernel
theorem dX16_atomic_67 : decode cX16_atomic 67 = .ok (.invokestatic 297, 3) := by decide +kernel
theorem dX16_atomic_70 : decode cX16_atomic 70 = .ok (.ifCond .le 8, 3) := by decide +kernel
theorem dX16_atomic_73 : decode cX16_atomic 73 = .ok (.aload_n 0, 1) := by decide +kernel
theorem dX16_atomic_74 : decode cX16_atomic 74 = .ok (.invokevirtual 356, 3) := by decide +kernel
theorem dX16_atomic_77 : decode cX16_atomic 77 = .ok (.ireturn, 1) := by decide +kernel
theorem dX16_atomic_78 : decode cX16_atomic 78 = .ok (.iload 4, 2) := by decide +kernel
theorem dX16_atomic_80 : decode cX16_atomic 80 = .ok (.iconst 4, 1) := by decide +kernel
theorem dX16_atomic_81 : decode cX16_atomic 81 = .ok (.irem, 1) := by decide +kernel
theorem dX16_atomic_82 : decode cX16_atomic 82 = .ok (.ifCond .eq 9, 3) := by decide +kernel
theorem dX16_atomic_85 : decode cX16_atomic 85 = .ok (.aload_n 0, 1) := by decide +kernel
theorem dX16_atomic_86 : decode cX16_atomic 86 = .ok (.iconst 5, 1) := by decide +kernel
theorem dX16_atomic_87 : decode cX16_atomic 87 = .ok (.invokevirtual 339, 3) := by decide +kernel
theorem dX16_atomic_90 : decode cX16_atomic 90 = .ok (.ireturn, 1) := by decide +kernel
theorem dX16_atomic_91 : decode cX16_atomic 91 = .ok (.iload_n 3, 1) := by decide +kernel
theorem dX16_atomic_92 : decode cX16_atomic 92 = .ok (.iconst 2, 1) := by decide +kernel
theorem dX16_atomic_93 : decode cX16_atomic 93 = .ok (.if_icmp .eq 24, 3) := by decide +kernel
theorem dX16_atomic_96 : decode cX16_atomic 96 = .ok (.aload_n 0, 1) := by decide +kernel
theorem dX16_atomic_97 : decode cX16_atomic 97 = .ok (.aload_n 0, 1) := by decide +kernel
theorem dX16_atomic_98 : decode cX16_atomic 98 = .ok (.getfield 232, 3) := by decide +kernel
theorem dX16_atomic_101 : decode cX16_atomic 101 = .ok (.iload 4, 2) := by decide +kernel
theorem dX16_atomic_103 : decode cX16_atomic 103 = .ok (.iconst 2, 1) := by decide +kernel
theorem dX16_atomic_104 : decode cX16_atomic 104 = .ok (.invokevirtual 218, 3) := by decide +kernel
theorem dX16_atomic_107 : decode cX16_atomic 107 = .ok (.ifCond .ne 10, 3) := by decide +kernel
theorem dX16_atomic_110 : decode cX16_atomic 110 = .ok (.aload_n 0, 1) := by decide +kernel
theorem dX16_atomic_111 : decode cX16_atomic 111 = .ok (.bipush 7, 2) := by decide +kernel
theorem dX16_atomic_113 : decode cX16_atomic 113 = .ok (.invokevirtual 339, 3) := by decide +kernel
theorem dX16_atomic_116 : decode cX16_atomic 116 = .ok (.ireturn, 1) := by decide +kernel
theorem dX16_atomic_117 : decode cX16_atomic 117 = .ok (.aload_n 0, 1) := by decide +kernel
theorem dX16_atomic_118 : decode cX16_atomic 118 = .ok (.aload_n 0, 1) := by decide +kernel
theorem dX16_atomic_119 : decode cX16_atomic 119 = .ok (.getfield 232, 3) := by decide +kernel
theorem dX16_atomic_122 : decode cX16_atomic 122 = .ok (.iload 4, 2) := by decide +kernel
theorem dX16_atomic_124 : decode cX16_atomic 124 = .ok (.iconst 1, 1) := by decide +kernel
theorem dX16_atomic_125 : decode cX16_atomic 125 = .ok (.invokevirtual 218, 3) := by decide +kernel
theorem dX16_atomic_128 : decode cX16_atomic 128 = .ok (.ifCond .ne 10, 3) := by decide +kernel
theorem dX16_atomic_131 : decode cX16_atomic 131 = .ok (.aload_n 0, 1) := by decide +kernel
theorem dX16_atomic_132 : decode cX16_atomic 132 = .ok (.bipush 6, 2) := by decide +kernel
theorem dX16_atomic_134 : decode cX16_atomic 134 = .ok (.invokevirtual 339, 3) := by decide +kernel
theorem dX16_atomic_137 : decode cX16_atomic 137 = .ok (.ireturn, 1) := by decide +kernel
theorem dX16_atomic_138 : decode cX16_atomic 138 = .ok (.aload_n 0, 1) := by decide +kernel
theorem dX16_atomic_139 : decode cX16_atomic 139 = .ok (.iload 4, 2) := by decide +kernel
theorem dX16_atomic_141 : decode cX16_atomic 141 = .ok (.invokevirtual 403, 3) := by decide +kernel
theorem dX16_atomic_144 : decode cX16_atomic 144 = .ok (.istore 7, 2) := by decide +kernel
theorem dX16_atomic_146 : decode cX16_atomic 146 = .ok (.iload_n 3, 1) := by decide +kernel
theorem dX16_atomic_147 : decode cX16_atomic 147 = .ok (.iconst 2, 1) := by decide +kernel
theorem dX16_atomic_148 : decode cX16_atomic 148 = .ok (.if_icmp .ne 12, 3) := by decide +kernel
theorem dX16_atomic_151 : decode cX16_atomic 151 = .ok (.aload_n 0, 1) := by decide +kernel
theorem dX16_atomic_152 : decode cX16_atomic 152 = .ok (.iload 4, 2) := by decide +kernel
theorem dX16_atomic_154 : decode cX16_atomic 154 = .ok (.putfield 135, 3) := by decide +kernel
theorem dX16_atomic_157 : decode cX16_atomic 157 = .ok (.iload 7, 2) := by decide +kernel
theorem dX16_atomic_159 : decode cX16_atomic 159 = .ok (.ireturn, 1) := by decide +kernel
theorem dX16_atomic_160 : decode cX16_atomic 160 = .ok (.aload_n 0, 1) := by decide +kernel
theorem dX16_atomic_161 : decode cX16_atomic 161 = .ok (.getfield 135, 3) := by decide +kernel
theorem dX16_atomic_164 : decode cX16_atomic 164 = .ok (.iload 4, 2) := by decide +kernel
theorem dX16_atomic_166 : decode cX16_atomic 166 = .ok (.if_icmp .ne 7, 3) := by decide +kernel
theorem dX16_atomic_169 : decode cX16_atomic 169 = .ok (.iconst 1, 1) := by decide +kernel
theorem dX16_atomic_170 : decode cX16_atomic 170 = .ok (.goto 4, 3) := by decide +kernel
theorem dX16_atomic_173 : decode cX16_atomic 173 = .ok (.iconst 0, 1) := by decide +kernel
theorem dX16_atomic_174 : decode cX16_atomic 174 = .ok (.istore 8, 2) := by decide +kernel
theorem dX16_atomic_176 : decode cX16_atomic 176 = .ok (.iload_n 3, 1) := by decide +kernel
theorem dX16_atomic_177 : decode cX16_atomic 177 = .ok (.iconst 3, 1) := by decide +kernel
theorem dX16_atomic_178 : decode cX16_atomic 178 = .ok (.if_icmp .ne 15, 3) := by decide +kernel
theorem dX16_atomic_181 : decode cX16_atomic 181 = .ok (.iload 8, 2) := by decide +kernel
theorem dX16_atomic_183 : decode cX16_atomic 183 = .ok (.ifCond .ne 10, 3) := by decide +kernel
theorem dX16_atomic_186 : decode cX16_atomic 186 = .ok (.aload_n 0, 1) := by decide +kernel
theorem dX16_atomic_187 : decode cX16_atomic 187 = .ok (.iconst (-1), 1) := by decide +kernel
theorem dX16_atomic_188 : decode cX16_atomic 188 = .ok (.putfield 135, 3) := by decide +kernel
theorem dX16_atomic_191 : decode cX16_atomic 191 = .ok (.iconst 1, 1) := by decide +kernel
theorem dX16_atomic_192 : decode cX16_atomic 192 = .ok (.ireturn, 1) := by decide +kernel
theorem dX16_atomic_193 : decode cX16_atomic 193 = .ok (.aload_n 0, 1) := by decide +kernel
theorem dX16_atomic_194 : decode cX16_atomic 194 = .ok (.iconst 2, 1) := by decide +kernel
theorem dX16_atomic_195 : decode cX16_atomic 195 = .ok (.iload 4, 2) := by decide +kernel
theorem dX16_atomic_197 : decode cX16_atomic 197 = .ok (.iload_n 3, 1) := by decide +kernel
theorem dX16_atomic_198 : decode cX16_atomic 198 = .ok (.iconst 3, 1) := by decide +kernel
theorem dX16_atomic_199 : decode cX16_atomic 199 = .ok (.if_icmp .ne 8, 3) := by decide +kernel
theorem dX16_atomic_202 : decode cX16_atomic 202 = .ok (.iload 5, 2) := by decide +kernel
theorem dX16_atomic_204 : decode cX16_atomic 204 = .ok (.goto 11, 3) := by decide +kernel
theorem dX16_atomic_207 : decode cX16_atomic 207 = .ok (.iload_n 3, 1) := by decide +kernel
theorem dX16_atomic_208 : decode cX16_atomic 208 = .ok (.iload 7, 2) := by decide +kernel
theorem dX16_atomic_210 : decode cX16_atomic 210 = .ok (.iload 5, 2) := by decide +kernel
theorem dX16_atomic_212 : decode cX16_atomic 212 = .ok (.invokestatic 406, 3) := by decide +kernel
theorem dX16_atomic_215 : decode cX16_atomic 215 = .ok (.invokevirtual 372, 3) := by decide +kernel
theorem dX16_atomic_218 : decode cX16_atomic 218 = .ok (.iload_n 3, 1) := by decide +kernel
theorem dX16_atomic_219 : decode cX16_atomic 219 = .ok (.iconst 3, 1) := by decide +kernel
theorem dX16_atomic_220 : decode cX16_atomic 220 = .ok (.if_icmp .ne 15, 3) := by decide +kernel
theorem dX16_atomic_223 : decode cX16_atomic 223 = .ok (.aload_n 0, 1) := by decide +kernel
theorem dX16_atomic_224 : decode cX16_atomic 224 = .ok (.getfield 336, 3) := by decide +kernel
theorem dX16_atomic_227 : decode cX16_atomic 227 = .ok (.ifCond .ne 8, 3) := by decide +kernel
theorem dX16_atomic_230 : decode cX16_atomic 230 = .ok (.aload_n 0, 1) := by decide +kernel
theorem dX16_atomic_231 : decode cX16_atomic 231 = .ok (.iconst (-1), 1) := by decide +kernel
theorem dX16_atomic_232 : decode cX16_atomic 232 = .ok (.putfield 135, 3) := by decide +kernel
theorem dX16_atomic_235 : decode cX16_atomic 235 = .ok (.iload_n 3, 1) := by decide +kernel
theorem dX16_atomic_236 : decode cX16_atomic 236 = .ok (.iconst 3, 1) := by decide +kernel
theorem dX16_atomic_237 : decode cX16_atomic 237 = .ok (.if_icmp .ne 7, 3) := by decide +kernel
theorem dX16_atomic_240 : decode cX16_atomic 240 = .ok (.iconst 0, 1) := by decide +kernel
theorem dX16_atomic_241 : decode cX16_atomic 241 = .ok (.goto 5, 3) := by decide +kernel
theorem dX16_atomic_244 : decode cX16_atomic 244 = .ok (.iload 7, 2) := by decide +kernel
theorem dX16_atomic_246 : decode cX16_atomic 246 = .ok (.ireturn, 1) := by decide +kernel
theorem dX16_changed_0 : decode cX16_changed 0 = .ok (.iload_n 0, 1) := by decide +kernel
theorem dX16_changed_1 : decode cX16_changed 1 = .ok (.bipush 24, 2) := by decide +kernel
theorem dX16_changed_3 : decode cX16_changed 3 = .ok (.if_icmp .ge 16, 3) := by decide +kernel
theorem dX16_changed_6 : decode cX16_changed 6 = .ok (.iload_n 1, 1) := by decide +kernel
theorem dX16_changed_7 : decode cX16_changed 7 = .ok (.iload_n 2, 1) := by decide +kernel
theorem dX16_changed_8 : decode cX16_changed 8 = .ok (.if_icmp .ge 7, 3) := by decide +kernel
theorem dX16_changed_11 : decode cX16_changed 11 = .ok (.iconst 1, 1) := by decide +kernel
theorem dX16_changed_12 : decode cX16_changed 12 = .ok (.goto 24, 3) := by decide +kernel
theorem dX16_changed_15 : decode cX16_changed 15 = .ok (.iconst 0, 1) := by decide +kernel
theorem dX16_changed_16 : decode cX16_changed 16 = .ok (.goto 20, 3) := by decide +kernel
theorem dX16_changed_19 : decode cX16_changed 19 = .ok (.iload_n 1, 1) := by decide +kernel
theorem dX16_changed_20 : decode cX16_changed 20 = .ok (.invokestatic 390, 3) := by decide +kernel
theorem dX16_changed_23 : decode cX16_changed 23 = .ok (.iload_n 2, 1) := by decide +kernel
theorem dX16_changed_24 : decode cX16_changed 24 = .ok (.invokestatic 390, 3) := by decide +kernel
theorem dX16_changed_27 : decode cX16_changed 27 = .ok (.lcmp, 1) := by decide +kernel
theorem dX16_changed_28 : decode cX16_changed 28 = .ok (.ifCond .ge 7, 3) := by decide +kernel
theorem dX16_changed_31 : decode cX16_changed 31 = .ok (.iconst 1, 1) := by decide +kernel
theorem dX16_changed_32 : decode cX16_changed 32 = .ok (.goto 4, 3) := by decide +kernel
theorem dX16_changed_35 : decode cX16_changed 35 = .ok (.iconst 0, 1) := by decide +kernel
theorem dX16_changed_36 : decode cX16_changed 36 = .ok (.istore_n 3, 1) := by decide +kernel
theorem dX16_changed_37 : decode cX16_changed 37 = .ok (.iload_n 0, 1) := by decide +kernel
theorem dX16_changed_38 : decode cX16_changed 38 = .ok (.tableswitch 142 0 24 #[116, 114, 142, 142, 120, 142, 142, 142, 128, 142, 142, 142, 124, 142, 142, 142, 132, 142, 142, 142, 142, 142, 142, 142, 132], 114) := by decide +kernel
theorem dX16_changed_152 : decode cX16_changed 152 = .ok (.iload_n 2, 1) := by decide +kernel
theorem dX16_changed_153 : decode cX16_changed 153 = .ok (.ireturn, 1) := by decide +kernel
theorem dX16_changed_154 : decode cX16_changed 154 = .ok (.iload_n 1, 1) := by decide +kernel
theorem dX16_changed_155 : decode cX16_changed 155 = .ok (.iload_n 2, 1) := by decide +kernel
theorem dX16_changed_156 : decode cX16_changed 156 = .ok (.iadd, 1) := by decide +kernel
theorem dX16_changed_157 : decode cX16_changed 157 = .ok (.ireturn, 1) := by decide +kernel
theorem dX16_changed_158 : decode cX16_changed 158 = .ok (.iload_n 1, 1) := by decide +kernel
theorem dX16_changed_159 : decode cX16_changed 159 = .ok (.iload_n 2, 1) := by decide +kernel
theorem dX16_changed_160 : decode cX16_changed 160 = .ok (.ixor, 1) := by decide +kernel
theorem dX16_changed_161 : decode cX16_changed 161 = .ok (.ireturn, 1) := by decide +kernel
theorem dX16_changed_162 : decode cX16_changed 162 = .ok (.iload_n 1, 1) := by decide +kernel
theorem dX16_changed_163 : decode cX16_changed 163 = .ok (.iload_n 2, 1) := by decide +kernel
theorem dX16_changed_164 : decode cX16_changed 164 = .ok (.iand, 1) := by decide +kernel
theorem dX16_changed_165 : decode cX16_changed 165 = .ok (.ireturn, 1) := by decide +kernel
theorem dX16_changed_166 : decode cX16_changed 166 = .ok (.iload_n 1, 1) := by decide +kernel
theorem dX16_changed_167 : decode cX16_changed 167 = .ok (.iload_n 2, 1) := by decide +kernel
theorem dX16_changed_168 : decode cX16_changed 168 = .ok (.ior, 1) := by decide +kernel
theorem dX16_changed_169 : decode cX16_changed 169 = .ok (.ireturn, 1) := by decide +kernel
theorem dX16_changed_170 : decode cX16_changed 170 = .ok (.iload_n 3, 1) := by decide +kernel
theorem dX16_changed_171 : decode cX16_changed 171 = .ok (.ifCond .eq 7, 3) := by decide +kernel
theorem dX16_changed_174 : decode cX16_changed 174 = .ok (.iload_n 1, 1) := by decide +kernel
theorem dX16_changed_175 : decode cX16_changed 175 = .ok (.goto 4, 3) := by decide +kernel
theorem dX16_changed_178 : decode cX16_changed 178 = .ok (.iload_n 2, 1) := by decide +kernel
theorem dX16_changed_179 : decode cX16_changed 179 = .ok (.ireturn, 1) := by decide +kernel
theorem dX16_changed_180 : decode cX16_changed 180 = .ok (.iload_n 3, 1) := by decide +kernel
theorem dX16_changed_181 : decode cX16_changed 181 = .ok (.ifCond .eq 7, 3) := by decide +kernel
theorem dX16_changed_184 : decode cX16_changed 184 = .ok (.iload_n 2, 1) := by decide +kernel
theorem dX16_changed_185 : decode cX16_changed 185 = .ok (.goto 4, 3) := by decide +kernel
theorem dX16_changed_188 : decode cX16_changed 188 = .ok (.iload_n 1, 1) := by decide +kernel
theorem dX16_changed_189 : decode cX16_changed 189 = .ok (.ireturn, 1) := by decide +kernel
theorem dX16_system_0 : decode cX16_system 0 = .ok (.iload_n 1, 1) := by decide +kernel
theorem dX16_system_1 : decode cX16_system 1 = .ok (.bipush 115, 2) := by decide +kernel
theorem dX16_system_3 : decode cX16_system 3 = .ok (.if_icmp .ne 9, 3) := by decide +kernel
theorem dX16_system_6 : decode cX16_system 6 = .ok (.aload_n 0, 1) := by decide +kernel
theorem dX16_system_7 : decode cX16_system 7 = .ok (.iconst 3, 1) := by decide +kernel
theorem dX16_system_8 : decode cX16_system 8 = .ok (.invokevirtual 339, 3) := by decide +kernel
theorem dX16_system_11 : decode cX16_system 11 = .ok (.ireturn, 1) := by decide +kernel
theorem dX16_system_12 : decode cX16_system 12 = .ok (.iload_n 1, 1) := by decide +kernel
theorem dX16_system_13 : decode cX16_system 13 = .ok (.ldc_w 335, 3) := by decide +kernel
theorem dX16_system_16 : decode cX16_system 16 = .ok (.if_icmp .ne 9, 3) := by decide +kernel
theorem dX16_system_19 : decode cX16_system 19 = .ok (.aload_n 0, 1) := by decide +kernel
theorem dX16_system_20 : decode cX16_system 20 = .ok (.iconst 4, 1) := by decide +kernel
theorem dX16_system_21 : decode cX16_system 21 = .ok (.invokevirtual 339, 3) := by decide +kernel
theorem dX16_system_24 : decode cX16_system 24 = .ok (.ireturn, 1) := by decide +kernel
theorem dX16_system_25 : decode cX16_system 25 = .ok (.iload_n 1, 1) := by decide +kernel
theorem dX16_system_26 : decode cX16_system 26 = .ok (.bipush 20, 2) := by decide +kernel
theorem dX16_system_28 : decode cX16_system 28 = .ok (.iushr, 1) := by decide +kernel
theorem dX16_system_29 : decode cX16_system 29 = .ok (.istore_n 3, 1) := by decide +kernel
theorem dX16_system_30 : decode cX16_system 30 = .ok (.iload_n 2, 1) := by decide +kernel
theorem dX16_system_31 : decode cX16_system 31 = .ok (.iconst 2, 1) := by decide +kernel
theorem dX16_system_32 : decode cX16_system 32 = .ok (.if_icmp .lt 23, 3) := by decide +kernel
theorem dX16_system_35 : decode cX16_system 35 = .ok (.iload_n 2, 1) := by decide +kernel
theorem dX16_system_36 : decode cX16_system 36 = .ok (.iconst 4, 1) := by decide +kernel
theorem dX16_system_37 : decode cX16_system 37 = .ok (.if_icmp .eq 18, 3) := by decide +kernel
theorem dX16_system_40 : decode cX16_system 40 = .ok (.iload_n 2, 1) := by decide +kernel
theorem dX16_system_41 : decode cX16_system 41 = .ok (.iconst 5, 1) := by decide +kernel
theorem dX16_system_42 : decode cX16_system 42 = .ok (.if_icmp .eq 13, 3) := by decide +kernel
theorem dX16_system_45 : decode cX16_system 45 = .ok (.iload_n 1, 1) := by decide +kernel
theorem dX16_system_46 : decode cX16_system 46 = .ok (.bipush 15, 2) := by decide +kernel
theorem dX16_system_48 : decode cX16_system 48 = .ok (.iconst 5, 1) := by decide +kernel
theorem dX16_system_49 : decode cX16_system 49 = .ok (.invokestatic 297, 3) := by decide +kernel
theorem dX16_system_52 : decode cX16_system 52 = .ok (.ifCond .le 8, 3) := by decide +kernel
theorem dX16_system_55 : decode cX16_system 55 = .ok (.aload_n 0, 1) := by decide +kernel
theorem dX16_system_56 : decode cX16_system 56 = .ok (.invokevirtual 356, 3) := by decide +kernel
theorem dX16_system_59 : decode cX16_system 59 = .ok (.ireturn, 1) := by decide +kernel
theorem dX16_system_60 : decode cX16_system 60 = .ok (.iload_n 3, 1) := by decide +kernel
theorem dX16_system_61 : decode cX16_system 61 = .ok (.sipush 3072, 3) := by decide +kernel
theorem dX16_system_64 : decode cX16_system 64 = .ok (.if_icmp .eq 38, 3) := by decide +kernel
theorem dX16_system_67 : decode cX16_system 67 = .ok (.iload_n 3, 1) := by decide +kernel
theorem dX16_system_68 : decode cX16_system 68 = .ok (.sipush 3073, 3) := by decide +kernel
theorem dX16_system_71 : decode cX16_system 71 = .ok (.if_icmp .eq 31, 3) := by decide +kernel
theorem dX16_system_74 : decode cX16_system 74 = .ok (.iload_n 3, 1) := by decide +kernel
theorem dX16_system_75 : decode cX16_system 75 = .ok (.sipush 3074, 3) := by decide +kernel
theorem dX16_system_78 : decode cX16_system 78 = .ok (.if_icmp .eq 24, 3) := by decide +kernel
theorem dX16_system_81 : decode cX16_system 81 = .ok (.iload_n 3, 1) := by decide +kernel
theorem dX16_system_82 : decode cX16_system 82 = .ok (.sipush 3200, 3) := by decide +kernel
theorem dX16_system_85 : decode cX16_system 85 = .ok (.if_icmp .eq 17, 3) := by decide +kernel
theorem dX16_system_88 : decode cX16_system 88 = .ok (.iload_n 3, 1) := by decide +kernel
theorem dX16_system_89 : decode cX16_system 89 = .ok (.sipush 3201, 3) := by decide +kernel
theorem dX16_system_92 : decode cX16_system 92 = .ok (.if_icmp .eq 10, 3) := by decide +kernel
theorem dX16_system_95 : decode cX16_system 95 = .ok (.iload_n 3, 1) := by decide +kernel
theorem dX16_system_96 : decode cX16_system 96 = .ok (.sipush 3202, 3) := by decide +kernel
theorem dX16_system_99 : decode cX16_system 99 = .ok (.if_icmp .ne 7, 3) := by decide +kernel
theorem dX16_system_102 : decode cX16_system 102 = .ok (.iconst 1, 1) := by decide +kernel
theorem dX16_system_103 : decode cX16_system 103 = .ok (.goto 4, 3) := by decide +kernel
theorem dX16_system_106 : decode cX16_system 106 = .ok (.iconst 0, 1) := by decide +kernel
theorem dX16_system_107 : decode cX16_system 107 = .ok (.istore 4, 2) := by decide +kernel
theorem dX16_system_109 : decode cX16_system 109 = .ok (.iload_n 3, 1) := by decide +kernel
theorem dX16_system_110 : decode cX16_system 110 = .ok (.iconst 3, 1) := by decide +kernel
theorem dX16_system_111 : decode cX16_system 111 = .ok (.iand, 1) := by decide +kernel
theorem dX16_system_112 : decode cX16_system 112 = .ok (.iconst 1, 1) := by decide +kernel
theorem dX16_system_113 : decode cX16_system 113 = .ok (.if_icmp .ne 10, 3) := by decide +kernel
theorem dX16_system_116 : decode cX16_system 116 = .ok (.aload_n 0, 1) := by decide +kernel
theorem dX16_system_117 : decode cX16_system 117 = .ok (.getfield 151, 3) := by decide +kernel
theorem dX16_system_120 : decode cX16_system 120 = .ok (.goto 7, 3) := by decide +kernel
theorem dX16_system_123 : decode cX16_system 123 = .ok (.aload_n 0, 1) := by decide +kernel
theorem dX16_system_124 : decode cX16_system 124 = .ok (.getfield 154, 3) := by decide +kernel
theorem dX16_system_127 : decode cX16_system 127 = .ok (.lstore 5, 2) := by decide +kernel
theorem dX16_system_129 : decode cX16_system 129 = .ok (.iload 4, 2) := by decide +kernel
theorem dX16_system_131 : decode cX16_system 131 = .ok (.ifCond .eq 24, 3) := by decide +kernel
theorem dX16_system_134 : decode cX16_system 134 = .ok (.iload_n 3, 1) := by decide +kernel
theorem dX16_system_135 : decode cX16_system 135 = .ok (.sipush 3200, 3) := by decide +kernel
theorem dX16_system_138 : decode cX16_system 138 = .ok (.if_icmp .ge 8, 3) := by decide +kernel
theorem dX16_system_141 : decode cX16_system 141 = .ok (.lload 5, 2) := by decide +kernel
theorem dX16_system_143 : decode cX16_system 143 = .ok (.goto 8, 3) := by decide +kernel
theorem dX16_system_146 : decode cX16_system 146 = .ok (.lload 5, 2) := by decide +kernel
theorem dX16_system_148 : decode cX16_system 148 = .ok (.bipush 32, 2) := by decide +kernel
theorem dX16_system_150 : decode cX16_system 150 = .ok (.lshr, 1) := by decide +kernel
theorem dX16_system_151 : decode cX16_system 151 = .ok (.l2i, 1) := by decide +kernel
theorem dX16_system_152 : decode cX16_system 152 = .ok (.goto 7, 3) := by decide +kernel
theorem dX16_system_155 : decode cX16_system 155 = .ok (.aload_n 0, 1) := by decide +kernel
theorem dX16_system_156 : decode cX16_system 156 = .ok (.invokevirtual 356, 3) := by decide +kernel
theorem dX16_system_159 : decode cX16_system 159 = .ok (.ireturn, 1) := by decide +kernel
theorem dX16_call_0 : decode cX16_call 0 = .ok (.aload_n 0, 1) := by decide +kernel
theorem dX16_call_1 : decode cX16_call 1 = .ok (.getfield 42, 3) := by decide +kernel
theorem dX16_call_4 : decode cX16_call 4 = .ok (.bipush 32, 2) := by decide +kernel
theorem dX16_call_6 : decode cX16_call 6 = .ok (.aload_n 0, 1) := by decide +kernel
theorem dX16_call_7 : decode cX16_call 7 = .ok (.getfield 232, 3) := by decide +kernel
theorem dX16_call_10 : decode cX16_call 10 = .ok (.imul, 1) := by decide +kernel
theorem dX16_call_11 : decode cX16_call 11 = .ok (.bipush 17, 2) := by decide +kernel
theorem dX16_call_13 : decode cX16_call 13 = .ok (.iadd, 1) := by decide +kernel
theorem dX16_call_14 : decode cX16_call 14 = .ok (.iaload, 1) := by decide +kernel
theorem dX16_call_15 : decode cX16_call 15 = .ok (.istore_n 1, 1) := by decide +kernel
theorem dX16_call_16 : decode cX16_call 16 = .ok (.aload_n 0, 1) := by decide +kernel
theorem dX16_call_17 : decode cX16_call 17 = .ok (.iconst 0, 1) := by decide +kernel
theorem dX16_call_18 : decode cX16_call 18 = .ok (.putfield 409, 3) := by decide +kernel
theorem dX16_call_21 : decode cX16_call 21 = .ok (.aload_n 0, 1) := by decide +kernel
