theorem dX7_placedShort_134 : decode cX7_placedShort 134 = .ok (.iload_n 1, 1) := by decide +kernel
theorem dX7_placedShort_135 : decode cX7_placedShort 135 = .ok (.iconst 1, 1) := by decide +kernel
theorem dX7_placedShort_136 : decode cX7_placedShort 136 = .ok (.iconst 3, 1) := by decide +kernel
theorem dX7_placedShort_137 : decode cX7_placedShort 137 = .ok (.iconst 3, 1) := by decide +kernel
theorem dX7_placedShort_138 : decode cX7_placedShort 138 = .ok (.invokestatic 466, 3) := by decide +kernel
theorem dX7_placedShort_141 : decode cX7_placedShort 141 = .ok (.ior, 1) := by decide +kernel
theorem dX7_placedShort_142 : decode cX7_placedShort 142 = .ok (.iload_n 1, 1) := by decide +kernel
theorem dX7_placedShort_143 : decode cX7_placedShort 143 = .ok (.iconst 5, 1) := by decide +kernel
theorem dX7_placedShort_144 : decode cX7_placedShort 144 = .ok (.iconst 1, 1) := by decide +kernel
theorem dX7_placedShort_145 : decode cX7_placedShort 145 = .ok (.iconst 2, 1) := by decide +kernel
theorem dX7_placedShort_146 : decode cX7_placedShort 146 = .ok (.invokestatic 466, 3) := by decide +kernel
theorem dX7_placedShort_149 : decode cX7_placedShort 149 = .ok (.ior, 1) := by decide +kernel
theorem dX7_placedShort_150 : decode cX7_placedShort 150 = .ok (.ireturn, 1) := by decide +kernel
theorem dX7_placedShort_151 : decode cX7_placedShort 151 = .ok (.iload_n 1, 1) := by decide +kernel
theorem dX7_placedShort_152 : decode cX7_placedShort 152 = .ok (.bipush 8, 2) := by decide +kernel
theorem dX7_placedShort_154 : decode cX7_placedShort 154 = .ok (.iconst 1, 1) := by decide +kernel
theorem dX7_placedShort_155 : decode cX7_placedShort 155 = .ok (.bipush 12, 2) := by decide +kernel
theorem dX7_placedShort_157 : decode cX7_placedShort 157 = .ok (.invokestatic 466, 3) := by decide +kernel
theorem dX7_placedShort_160 : decode cX7_placedShort 160 = .ok (.iload_n 1, 1) := by decide +kernel
theorem dX7_placedShort_161 : decode cX7_placedShort 161 = .ok (.iconst 3, 1) := by decide +kernel
theorem dX7_placedShort_162 : decode cX7_placedShort 162 = .ok (.iconst 2, 1) := by decide +kernel
theorem dX7_placedShort_163 : decode cX7_placedShort 163 = .ok (.bipush 10, 2) := by decide +kernel
theorem dX7_placedShort_165 : decode cX7_placedShort 165 = .ok (.invokestatic 466, 3) := by decide +kernel
theorem dX7_placedShort_168 : decode cX7_placedShort 168 = .ok (.ior, 1) := by decide +kernel
theorem dX7_placedShort_169 : decode cX7_placedShort 169 = .ok (.iload_n 1, 1) := by decide +kernel
theorem dX7_placedShort_170 : decode cX7_placedShort 170 = .ok (.bipush 6, 2) := by decide +kernel
theorem dX7_placedShort_172 : decode cX7_placedShort 172 = .ok (.iconst 2, 1) := by decide +kernel
theorem dX7_placedShort_173 : decode cX7_placedShort 173 = .ok (.iconst 5, 1) := by decide +kernel
theorem dX7_placedShort_174 : decode cX7_placedShort 174 = .ok (.invokestatic 466, 3) := by decide +kernel
theorem dX7_placedShort_177 : decode cX7_placedShort 177 = .ok (.ior, 1) := by decide +kernel
theorem dX7_placedShort_178 : decode cX7_placedShort 178 = .ok (.iload_n 1, 1) := by decide +kernel
theorem dX7_placedShort_179 : decode cX7_placedShort 179 = .ok (.iconst 1, 1) := by decide +kernel
theorem dX7_placedShort_180 : decode cX7_placedShort 180 = .ok (.iconst 2, 1) := by decide +kernel
theorem dX7_placedShort_181 : decode cX7_placedShort 181 = .ok (.iconst 3, 1) := by decide +kernel
theorem dX7_placedShort_182 : decode cX7_placedShort 182 = .ok (.invokestatic 466, 3) := by decide +kernel
theorem dX7_placedShort_185 : decode cX7_placedShort 185 = .ok (.ior, 1) := by decide +kernel
theorem dX7_placedShort_186 : decode cX7_placedShort 186 = .ok (.iload_n 1, 1) := by decide +kernel
theorem dX7_placedShort_187 : decode cX7_placedShort 187 = .ok (.iconst 5, 1) := by decide +kernel
theorem dX7_placedShort_188 : decode cX7_placedShort 188 = .ok (.iconst 1, 1) := by decide +kernel
theorem dX7_placedShort_189 : decode cX7_placedShort 189 = .ok (.iconst 2, 1) := by decide +kernel
theorem dX7_placedShort_190 : decode cX7_placedShort 190 = .ok (.invokestatic 466, 3) := by decide +kernel
theorem dX7_placedShort_193 : decode cX7_placedShort 193 = .ok (.ior, 1) := by decide +kernel
theorem dX7_placedShort_194 : decode cX7_placedShort 194 = .ok (.ireturn, 1) := by decide +kernel
theorem dX7_placedShort_195 : decode cX7_placedShort 195 = .ok (.iload_n 1, 1) := by decide +kernel
theorem dX7_placedShort_196 : decode cX7_placedShort 196 = .ok (.iconst 5, 1) := by decide +kernel
theorem dX7_placedShort_197 : decode cX7_placedShort 197 = .ok (.iconst 1, 1) := by decide +kernel
theorem dX7_placedShort_198 : decode cX7_placedShort 198 = .ok (.bipush 12, 2) := by decide +kernel
theorem dX7_placedShort_200 : decode cX7_placedShort 200 = .ok (.invokestatic 466, 3) := by decide +kernel
theorem dX7_placedShort_203 : decode cX7_placedShort 203 = .ok (.iload_n 1, 1) := by decide +kernel
theorem dX7_placedShort_204 : decode cX7_placedShort 204 = .ok (.iconst 0, 1) := by decide +kernel
theorem dX7_placedShort_205 : decode cX7_placedShort 205 = .ok (.iconst 5, 1) := by decide +kernel
theorem dX7_placedShort_206 : decode cX7_placedShort 206 = .ok (.iconst 2, 1) := by decide +kernel
theorem dX7_placedShort_207 : decode cX7_placedShort 207 = .ok (.invokestatic 466, 3) := by decide +kernel
theorem dX7_placedShort_210 : decode cX7_placedShort 210 = .ok (.ior, 1) := by decide +kernel
theorem dX7_placedShort_211 : decode cX7_placedShort 211 = .ok (.ireturn, 1) := by decide +kernel
theorem dX7_placedShort_212 : decode cX7_placedShort 212 = .ok (.iload_n 1, 1) := by decide +kernel
theorem dX7_placedShort_213 : decode cX7_placedShort 213 = .ok (.iconst 4, 1) := by decide +kernel
theorem dX7_placedShort_214 : decode cX7_placedShort 214 = .ok (.iconst 2, 1) := by decide +kernel
theorem dX7_placedShort_215 : decode cX7_placedShort 215 = .ok (.bipush 11, 2) := by decide +kernel
theorem dX7_placedShort_217 : decode cX7_placedShort 217 = .ok (.invokestatic 466, 3) := by decide +kernel
theorem dX7_placedShort_220 : decode cX7_placedShort 220 = .ok (.iload_n 1, 1) := by decide +kernel
theorem dX7_placedShort_221 : decode cX7_placedShort 221 = .ok (.bipush 6, 2) := by decide +kernel
theorem dX7_placedShort_223 : decode cX7_placedShort 223 = .ok (.iconst 4, 1) := by decide +kernel
theorem dX7_placedShort_224 : decode cX7_placedShort 224 = .ok (.bipush 7, 2) := by decide +kernel
theorem dX7_placedShort_226 : decode cX7_placedShort 226 = .ok (.invokestatic 466, 3) := by decide +kernel
theorem dX7_placedShort_229 : decode cX7_placedShort 229 = .ok (.ior, 1) := by decide +kernel
theorem dX7_placedShort_230 : decode cX7_placedShort 230 = .ok (.iload_n 1, 1) := by decide +kernel
theorem dX7_placedShort_231 : decode cX7_placedShort 231 = .ok (.iconst 2, 1) := by decide +kernel
theorem dX7_placedShort_232 : decode cX7_placedShort 232 = .ok (.iconst 1, 1) := by decide +kernel
theorem dX7_placedShort_233 : decode cX7_placedShort 233 = .ok (.bipush 6, 2) := by decide +kernel
theorem dX7_placedShort_235 : decode cX7_placedShort 235 = .ok (.invokestatic 466, 3) := by decide +kernel
theorem dX7_placedShort_238 : decode cX7_placedShort 238 = .ok (.ior, 1) := by decide +kernel
theorem dX7_placedShort_239 : decode cX7_placedShort 239 = .ok (.iload_n 1, 1) := by decide +kernel
theorem dX7_placedShort_240 : decode cX7_placedShort 240 = .ok (.iconst 3, 1) := by decide +kernel
theorem dX7_placedShort_241 : decode cX7_placedShort 241 = .ok (.iconst 1, 1) := by decide +kernel
theorem dX7_placedShort_242 : decode cX7_placedShort 242 = .ok (.iconst 5, 1) := by decide +kernel
theorem dX7_placedShort_243 : decode cX7_placedShort 243 = .ok (.invokestatic 466, 3) := by decide +kernel
theorem dX7_placedShort_246 : decode cX7_placedShort 246 = .ok (.ior, 1) := by decide +kernel
theorem dX7_placedShort_247 : decode cX7_placedShort 247 = .ok (.ireturn, 1) := by decide +kernel
theorem dX7_placedShort_248 : decode cX7_placedShort 248 = .ok (.iload_n 1, 1) := by decide +kernel
theorem dX7_placedShort_249 : decode cX7_placedShort 249 = .ok (.iconst 3, 1) := by decide +kernel
theorem dX7_placedShort_250 : decode cX7_placedShort 250 = .ok (.iconst 3, 1) := by decide +kernel
theorem dX7_placedShort_251 : decode cX7_placedShort 251 = .ok (.bipush 10, 2) := by decide +kernel
theorem dX7_placedShort_253 : decode cX7_placedShort 253 = .ok (.invokestatic 466, 3) := by decide +kernel
theorem dX7_placedShort_256 : decode cX7_placedShort 256 = .ok (.iload_n 1, 1) := by decide +kernel
theorem dX7_placedShort_257 : decode cX7_placedShort 257 = .ok (.iconst 2, 1) := by decide +kernel
theorem dX7_placedShort_258 : decode cX7_placedShort 258 = .ok (.iconst 1, 1) := by decide +kernel
theorem dX7_placedShort_259 : decode cX7_placedShort 259 = .ok (.bipush 6, 2) := by decide +kernel
theorem dX7_placedShort_261 : decode cX7_placedShort 261 = .ok (.invokestatic 466, 3) := by decide +kernel
theorem dX7_placedShort_264 : decode cX7_placedShort 264 = .ok (.ior, 1) := by decide +kernel
theorem dX7_placedShort_265 : decode cX7_placedShort 265 = .ok (.iload_n 1, 1) := by decide +kernel
theorem dX7_placedShort_266 : decode cX7_placedShort 266 = .ok (.bipush 6, 2) := by decide +kernel
theorem dX7_placedShort_268 : decode cX7_placedShort 268 = .ok (.iconst 1, 1) := by decide +kernel
theorem dX7_placedShort_269 : decode cX7_placedShort 269 = .ok (.iconst 5, 1) := by decide +kernel
theorem dX7_placedShort_270 : decode cX7_placedShort 270 = .ok (.invokestatic 466, 3) := by decide +kernel
theorem dX7_placedShort_273 : decode cX7_placedShort 273 = .ok (.ior, 1) := by decide +kernel
theorem dX7_placedShort_274 : decode cX7_placedShort 274 = .ok (.ireturn, 1) := by decide +kernel
theorem dX7_placedShort_275 : decode cX7_placedShort 275 = .ok (.iload_n 1, 1) := by decide +kernel
theorem dX7_placedShort_276 : decode cX7_placedShort 276 = .ok (.bipush 9, 2) := by decide +kernel
theorem dX7_placedShort_278 : decode cX7_placedShort 278 = .ok (.iconst 1, 1) := by decide +kernel
theorem dX7_placedShort_279 : decode cX7_placedShort 279 = .ok (.bipush 12, 2) := by decide +kernel
theorem dX7_placedShort_281 : decode cX7_placedShort 281 = .ok (.invokestatic 466, 3) := by decide +kernel
theorem dX7_placedShort_284 : decode cX7_placedShort 284 = .ok (.iload_n 1, 1) := by decide +kernel
theorem dX7_placedShort_285 : decode cX7_placedShort 285 = .ok (.iconst 4, 1) := by decide +kernel
theorem dX7_placedShort_286 : decode cX7_placedShort 286 = .ok (.iconst 1, 1) := by decide +kernel
theorem dX7_placedShort_287 : decode cX7_placedShort 287 = .ok (.bipush 6, 2) := by decide +kernel
theorem dX7_placedShort_289 : decode cX7_placedShort 289 = .ok (.invokestatic 466, 3) := by decide +kernel
theorem dX7_placedShort_292 : decode cX7_placedShort 292 = .ok (.ior, 1) := by decide +kernel
theorem dX7_placedShort_293 : decode cX7_placedShort 293 = .ok (.iload_n 1, 1) := by decide +kernel
theorem dX7_placedShort_294 : decode cX7_placedShort 294 = .ok (.bipush 6, 2) := by decide +kernel
theorem dX7_placedShort_296 : decode cX7_placedShort 296 = .ok (.iconst 1, 1) := by decide +kernel
theorem dX7_placedShort_297 : decode cX7_placedShort 297 = .ok (.iconst 5, 1) := by decide +kernel
theorem dX7_placedShort_298 : decode cX7_placedShort 298 = .ok (.invokestatic 466, 3) := by decide +kernel
theorem dX7_placedShort_301 : decode cX7_placedShort 301 = .ok (.ior, 1) := by decide +kernel
theorem dX7_placedShort_302 : decode cX7_placedShort 302 = .ok (.iload_n 1, 1) := by decide +kernel
theorem dX7_placedShort_303 : decode cX7_placedShort 303 = .ok (.bipush 7, 2) := by decide +kernel
theorem dX7_placedShort_305 : decode cX7_placedShort 305 = .ok (.iconst 2, 1) := by decide +kernel
theorem dX7_placedShort_306 : decode cX7_placedShort 306 = .ok (.iconst 3, 1) := by decide +kernel
theorem dX7_placedShort_307 : decode cX7_placedShort 307 = .ok (.invokestatic 466, 3) := by decide +kernel
theorem dX7_placedShort_310 : decode cX7_placedShort 310 = .ok (.ior, 1) := by decide +kernel
theorem dX7_placedShort_311 : decode cX7_placedShort 311 = .ok (.iload_n 1, 1) := by decide +kernel
theorem dX7_placedShort_312 : decode cX7_placedShort 312 = .ok (.iconst 5, 1) := by decide +kernel
theorem dX7_placedShort_313 : decode cX7_placedShort 313 = .ok (.iconst 1, 1) := by decide +kernel
theorem dX7_placedShort_314 : decode cX7_placedShort 314 = .ok (.iconst 2, 1) := by decide +kernel
theorem dX7_placedShort_315 : decode cX7_placedShort 315 = .ok (.invokestatic 466, 3) := by decide +kernel
theorem dX7_placedShort_318 : decode cX7_placedShort 318 = .ok (.ior, 1) := by decide +kernel
theorem dX7_placedShort_319 : decode cX7_placedShort 319 = .ok (.ireturn, 1) := by decide +kernel
theorem dX7_placedShort_320 : decode cX7_placedShort 320 = .ok (.iload_n 1, 1) := by decide +kernel
theorem dX7_placedShort_321 : decode cX7_placedShort 321 = .ok (.iconst 0, 1) := by decide +kernel
theorem dX7_placedShort_322 : decode cX7_placedShort 322 = .ok (.iconst 5, 1) := by decide +kernel
theorem dX7_placedShort_323 : decode cX7_placedShort 323 = .ok (.iconst 2, 1) := by decide +kernel
theorem dX7_placedShort_324 : decode cX7_placedShort 324 = .ok (.invokestatic 466, 3) := by decide +kernel
theorem dX7_placedShort_327 : decode cX7_placedShort 327 = .ok (.ireturn, 1) := by decide +kernel
theorem dX7_placedShort_328 : decode cX7_placedShort 328 = .ok (.iload_n 1, 1) := by decide +kernel
theorem dX7_placedShort_329 : decode cX7_placedShort 329 = .ok (.iconst 5, 1) := by decide +kernel
theorem dX7_placedShort_330 : decode cX7_placedShort 330 = .ok (.iconst 1, 1) := by decide +kernel
theorem dX7_placedShort_331 : decode cX7_placedShort 331 = .ok (.bipush 12, 2) := by decide +kernel
theorem dX7_placedShort_333 : decode cX7_placedShort 333 = .ok (.invokestatic 466, 3) := by decide +kernel
theorem dX7_placedShort_336 : decode cX7_placedShort 336 = .ok (.iload_n 1, 1) := by decide +kernel
theorem dX7_placedShort_337 : decode cX7_placedShort 337 = .ok (.iconst 2, 1) := by decide +kernel
theorem dX7_placedShort_338 : decode cX7_placedShort 338 = .ok (.iconst 3, 1) := by decide +kernel
theorem dX7_placedShort_339 : decode cX7_placedShort 339 = .ok (.iconst 4, 1) := by decide +kernel
theorem dX7_placedShort_340 : decode cX7_placedShort 340 = .ok (.invokestatic 466, 3) := by decide +kernel
theorem dX7_placedShort_343 : decode cX7_placedShort 343 = .ok (.ior, 1) := by decide +kernel
theorem dX7_placedShort_344 : decode cX7_placedShort 344 = .ok (.iload_n 1, 1) := by decide +kernel
theorem dX7_placedShort_345 : decode cX7_placedShort 345 = .ok (.bipush 6, 2) := by decide +kernel
theorem dX7_placedShort_347 : decode cX7_placedShort 347 = .ok (.iconst 2, 1) := by decide +kernel
theorem dX7_placedShort_348 : decode cX7_placedShort 348 = .ok (.iconst 2, 1) := by decide +kernel
theorem dX7_placedShort_349 : decode cX7_placedShort 349 = .ok (.invokestatic 466, 3) := by decide +kernel
theorem dX7_placedShort_352 : decode cX7_placedShort 352 = .ok (.ior, 1) := by decide +kernel
theorem dX7_placedShort_353 : decode cX7_placedShort 353 = .ok (.ireturn, 1) := by decide +kernel
theorem dX7_placedShort_354 : decode cX7_placedShort 354 = .ok (.iload_n 1, 1) := by decide +kernel
theorem dX7_placedShort_355 : decode cX7_placedShort 355 = .ok (.iconst 2, 1) := by decide +kernel
theorem dX7_placedShort_356 : decode cX7_placedShort 356 = .ok (.iconst 4, 1) := by decide +kernel
theorem dX7_placedShort_357 : decode cX7_placedShort 357 = .ok (.bipush 9, 2) := by decide +kernel
theorem dX7_placedShort_359 : decode cX7_placedShort 359 = .ok (.invokestatic 466, 3) := by decide +kernel
theorem dX7_placedShort_362 : decode cX7_placedShort 362 = .ok (.iload_n 1, 1) := by decide +kernel
theorem dX7_placedShort_363 : decode cX7_placedShort 363 = .ok (.bipush 6, 2) := by decide +kernel
theorem dX7_placedShort_365 : decode cX7_placedShort 365 = .ok (.iconst 2, 1) := by decide +kernel
theorem dX7_placedShort_366 : decode cX7_placedShort 366 = .ok (.bipush 7, 2) := by decide +kernel
theorem dX7_placedShort_368 : decode cX7_placedShort 368 = .ok (.invokestatic 466, 3) := by decide +kernel
theorem dX7_placedShort_371 : decode cX7_placedShort 371 = .ok (.ior, 1) := by decide +kernel
theorem dX7_placedShort_372 : decode cX7_placedShort 372 = .ok (.ireturn, 1) := by decide +kernel
theorem dX7_placedShort_373 : decode cX7_placedShort 373 = .ok (.iconst 0, 1) := by decide +kernel
theorem dX7_placedShort_374 : decode cX7_placedShort 374 = .ok (.ireturn, 1) := by decide +kernel
theorem dX7_part_0 : decode cX7_part 0 = .ok (.iload_n 0, 1) := by decide +kernel
theorem dX7_part_1 : decode cX7_part 1 = .ok (.iload_n 1, 1) := by decide +kernel
theorem dX7_part_2 : decode cX7_part 2 = .ok (.ishr, 1) := by decide +kernel
theorem dX7_part_3 : decode cX7_part 3 = .ok (.iconst 1, 1) := by decide +kernel
theorem dX7_part_4 : decode cX7_part 4 = .ok (.iload_n 2, 1) := by decide +kernel
theorem dX7_part_5 : decode cX7_part 5 = .ok (.ishl, 1) := by decide +kernel
theorem dX7_part_6 : decode cX7_part 6 = .ok (.iconst 1, 1) := by decide +kernel
theorem dX7_part_7 : decode cX7_part 7 = .ok (.isub, 1) := by decide +kernel
theorem dX7_part_8 : decode cX7_part 8 = .ok (.iand, 1) := by decide +kernel
theorem dX7_part_9 : decode cX7_part 9 = .ok (.iload_n 3, 1) := by decide +kernel
theorem dX7_part_10 : decode cX7_part 10 = .ok (.ishl, 1) := by decide +kernel
theorem dX7_part_11 : decode cX7_part 11 = .ok (.ireturn, 1) := by decide +kernel
theorem dX7_taken_0 : decode cX7_taken 0 = .ok (.iload_n 0, 1) := by decide +kernel
theorem dX7_taken_1 : decode cX7_taken 1 = .ok (.tableswitch 171 97 122 #[127, 135, 171, 119, 171, 171, 171, 171, 171, 171, 171, 171, 119, 119, 171, 150, 160, 171, 143, 171, 171, 171, 171, 171, 171, 143], 119) := by decide +kernel
theorem dX7_taken_120 : decode cX7_taken 120 = .ok (.iload_n 1, 1) := by decide +kernel
theorem dX7_taken_121 : decode cX7_taken 121 = .ok (.bipush 7, 2) := by decide +kernel
theorem dX7_taken_123 : decode cX7_taken 123 = .ok (.ishr, 1) := by decide +kernel
theorem dX7_taken_124 : decode cX7_taken 124 = .ok (.bipush 31, 2) := by decide +kernel
theorem dX7_taken_126 : decode cX7_taken 126 = .ok (.iand, 1) := by decide +kernel
theorem dX7_taken_127 : decode cX7_taken 127 = .ok (.ireturn, 1) := by decide +kernel
theorem dX7_taken_128 : decode cX7_taken 128 = .ok (.iload_n 1, 1) := by decide +kernel
theorem dX7_taken_129 : decode cX7_taken 129 = .ok (.bipush 15, 2) := by decide +kernel
theorem dX7_taken_131 : decode cX7_taken 131 = .ok (.ishr, 1) := by decide +kernel
theorem dX7_taken_132 : decode cX7_taken 132 = .ok (.bipush 31, 2) := by decide +kernel
theorem dX7_taken_134 : decode cX7_taken 134 = .ok (.iand, 1) := by decide +kernel
theorem dX7_taken_135 : decode cX7_taken 135 = .ok (.ireturn, 1) := by decide +kernel
theorem dX7_taken_136 : decode cX7_taken 136 = .ok (.iload_n 1, 1) := by decide +kernel
theorem dX7_taken_137 : decode cX7_taken 137 = .ok (.bipush 20, 2) := by decide +kernel
theorem dX7_taken_139 : decode cX7_taken 139 = .ok (.ishr, 1) := by decide +kernel
theorem dX7_taken_140 : decode cX7_taken 140 = .ok (.bipush 31, 2) := by decide +kernel
theorem dX7_taken_142 : decode cX7_taken 142 = .ok (.iand, 1) := by decide +kernel
theorem dX7_taken_143 : decode cX7_taken 143 = .ok (.ireturn, 1) := by decide +kernel
theorem dX7_taken_144 : decode cX7_taken 144 = .ok (.iload_n 1, 1) := by decide +kernel
theorem dX7_taken_145 : decode cX7_taken 145 = .ok (.iconst 2, 1) := by decide +kernel
theorem dX7_taken_146 : decode cX7_taken 146 = .ok (.ishr, 1) := by decide +kernel
theorem dX7_taken_147 : decode cX7_taken 147 = .ok (.bipush 31, 2) := by decide +kernel
theorem dX7_taken_149 : decode cX7_taken 149 = .ok (.iand, 1) := by decide +kernel
theorem dX7_taken_150 : decode cX7_taken 150 = .ok (.ireturn, 1) := by decide +kernel
theorem dX7_taken_151 : decode cX7_taken 151 = .ok (.bipush 8, 2) := by decide +kernel
theorem dX7_taken_153 : decode cX7_taken 153 = .ok (.iload_n 1, 1) := by decide +kernel
theorem dX7_taken_154 : decode cX7_taken 154 = .ok (.iconst 2, 1) := by decide +kernel
theorem dX7_taken_155 : decode cX7_taken 155 = .ok (.ishr, 1) := by decide +kernel
theorem dX7_taken_156 : decode cX7_taken 156 = .ok (.bipush 7, 2) := by decide +kernel
theorem dX7_taken_158 : decode cX7_taken 158 = .ok (.iand, 1) := by decide +kernel
theorem dX7_taken_159 : decode cX7_taken 159 = .ok (.iadd, 1) := by decide +kernel
theorem dX7_taken_160 : decode cX7_taken 160 = .ok (.ireturn, 1) := by decide +kernel
theorem dX7_taken_161 : decode cX7_taken 161 = .ok (.bipush 8, 2) := by decide +kernel
theorem dX7_taken_163 : decode cX7_taken 163 = .ok (.iload_n 1, 1) := by decide +kernel
theorem dX7_taken_164 : decode cX7_taken 164 = .ok (.bipush 7, 2) := by decide +kernel
theorem dX7_taken_166 : decode cX7_taken 166 = .ok (.ishr, 1) := by decide +kernel
theorem dX7_taken_167 : decode cX7_taken 167 = .ok (.bipush 7, 2) := by decide +kernel
theorem dX7_taken_169 : decode cX7_taken 169 = .ok (.iand, 1) := by decide +kernel
theorem dX7_taken_170 : decode cX7_taken 170 = .ok (.iadd, 1) := by decide +kernel
theorem dX7_taken_171 : decode cX7_taken 171 = .ok (.ireturn, 1) := by decide +kernel
theorem dX7_taken_172 : decode cX7_taken 172 = .ok (.iload_n 0, 1) := by decide +kernel
theorem dX7_taken_173 : decode cX7_taken 173 = .ok (.iload_n 1, 1) := by decide +kernel
theorem dX7_taken_174 : decode cX7_taken 174 = .ok (.invokestatic 474, 3) := by decide +kernel
theorem dX7_taken_177 : decode cX7_taken 177 = .ok (.ireturn, 1) := by decide +kernel
theorem dX7_gathered_0 : decode cX7_gathered 0 = .ok (.iconst 0, 1) := by decide +kernel
theorem dX7_gathered_1 : decode cX7_gathered 1 = .ok (.istore_n 2, 1) := by decide +kernel
theorem dX7_gathered_2 : decode cX7_gathered 2 = .ok (.iconst 0, 1) := by decide +kernel
theorem dX7_gathered_3 : decode cX7_gathered 3 = .ok (.istore_n 3, 1) := by decide +kernel
theorem dX7_gathered_4 : decode cX7_gathered 4 = .ok (.iconst 0, 1) := by decide +kernel
theorem dX7_gathered_5 : decode cX7_gathered 5 = .ok (.istore 4, 2) := by decide +kernel
theorem dX7_gathered_7 : decode cX7_gathered 7 = .ok (.iload 4, 2) := by decide +kernel
theorem dX7_gathered_9 : decode cX7_gathered 9 = .ok (.bipush 20, 2) := by decide +kernel
theorem dX7_gathered_11 : decode cX7_gathered 11 = .ok (.if_icmp .gt 45, 3) := by decide +kernel
theorem dX7_gathered_14 : decode cX7_gathered 14 = .ok (.iload_n 0, 1) := by decide +kernel
theorem dX7_gathered_15 : decode cX7_gathered 15 = .ok (.iconst 1, 1) := by decide +kernel
theorem dX7_gathered_16 : decode cX7_gathered 16 = .ok (.iload 4, 2) := by decide +kernel
theorem dX7_gathered_18 : decode cX7_gathered 18 = .ok (.ishl, 1) := by decide +kernel
theorem dX7_gathered_19 : decode cX7_gathered 19 = .ok (.invokestatic 477, 3) := by decide +kernel
theorem dX7_gathered_22 : decode cX7_gathered 22 = .ok (.istore 5, 2) := by decide +kernel
theorem dX7_gathered_24 : decode cX7_gathered 24 = .ok (.iload 5, 2) := by decide +kernel
theorem dX7_gathered_26 : decode cX7_gathered 26 = .ok (.ifCond .eq 24, 3) := by decide +kernel
theorem dX7_gathered_29 : decode cX7_gathered 29 = .ok (.iload 4, 2) := by decide +kernel
theorem dX7_gathered_31 : decode cX7_gathered 31 = .ok (.istore_n 3, 1) := by decide +kernel
theorem dX7_gathered_32 : decode cX7_gathered 32 = .ok (.iload_n 2, 1) := by decide +kernel
theorem dX7_gathered_33 : decode cX7_gathered 33 = .ok (.iload_n 1, 1) := by decide +kernel
theorem dX7_gathered_34 : decode cX7_gathered 34 = .ok (.iload 5, 2) := by decide +kernel
theorem dX7_gathered_36 : decode cX7_gathered 36 = .ok (.iand, 1) := by decide +kernel
theorem dX7_gathered_37 : decode cX7_gathered 37 = .ok (.ifCond .eq 10, 3) := by decide +kernel
theorem dX7_gathered_40 : decode cX7_gathered 40 = .ok (.iconst 1, 1) := by decide +kernel
theorem dX7_gathered_41 : decode cX7_gathered 41 = .ok (.iload 4, 2) := by decide +kernel
theorem dX7_gathered_43 : decode cX7_gathered 43 = .ok (.ishl, 1) := by decide +kernel
theorem dX7_gathered_44 : decode cX7_gathered 44 = .ok (.goto 4, 3) := by decide +kernel
theorem dX7_gathered_47 : decode cX7_gathered 47 = .ok (.iconst 0, 1) := by decide +kernel
theorem dX7_gathered_48 : decode cX7_gathered 48 = .ok (.ior, 1) := by decide +kernel
theorem dX7_gathered_49 : decode cX7_gathered 49 = .ok (.istore_n 2, 1) := by decide +kernel
theorem dX7_gathered_50 : decode cX7_gathered 50 = .ok (.iinc 4 1, 3) := by decide +kernel
theorem dX7_gathered_53 : decode cX7_gathered 53 = .ok (.goto (-46), 3) := by decide +kernel
theorem dX7_gathered_56 : decode cX7_gathered 56 = .ok (.iload_n 0, 1) := by decide +kernel
theorem dX7_gathered_57 : decode cX7_gathered 57 = .ok (.bipush (-16), 2) := by decide +kernel
theorem dX7_gathered_59 : decode cX7_gathered 59 = .ok (.invokestatic 480, 3) := by decide +kernel
theorem dX7_gathered_62 : decode cX7_gathered 62 = .ok (.istore 4, 2) := by decide +kernel
theorem dX7_gathered_64 : decode cX7_gathered 64 = .ok (.iload 4, 2) := by decide +kernel
theorem dX7_gathered_66 : decode cX7_gathered 66 = .ok (.ifCond .eq 19, 3) := by decide +kernel
theorem dX7_gathered_69 : decode cX7_gathered 69 = .ok (.iload_n 2, 1) := by decide +kernel
theorem dX7_gathered_70 : decode cX7_gathered 70 = .ok (.iload_n 3, 1) := by decide +kernel
theorem dX7_gathered_71 : decode cX7_gathered 71 = .ok (.ishr, 1) := by decide +kernel
theorem dX7_gathered_72 : decode cX7_gathered 72 = .ok (.iconst 1, 1) := by decide +kernel
theorem dX7_gathered_73 : decode cX7_gathered 73 = .ok (.iand, 1) := by decide +kernel
theorem dX7_gathered_74 : decode cX7_gathered 74 = .ok (.ifCond .eq 11, 3) := by decide +kernel
theorem dX7_gathered_77 : decode cX7_gathered 77 = .ok (.iload_n 2, 1) := by decide +kernel
theorem dX7_gathered_78 : decode cX7_gathered 78 = .ok (.iconst 2, 1) := by decide +kernel
theorem dX7_gathered_79 : decode cX7_gathered 79 = .ok (.iload_n 3, 1) := by decide +kernel
theorem dX7_gathered_80 : decode cX7_gathered 80 = .ok (.ishl, 1) := by decide +kernel
theorem dX7_gathered_81 : decode cX7_gathered 81 = .ok (.isub, 1) := by decide +kernel
theorem dX7_gathered_82 : decode cX7_gathered 82 = .ok (.goto 4, 3) := by decide +kernel
theorem dX7_gathered_85 : decode cX7_gathered 85 = .ok (.iload_n 2, 1) := by decide +kernel
theorem dX7_gathered_86 : decode cX7_gathered 86 = .ok (.ireturn, 1) := by decide +kernel
theorem dX7_makes_0 : decode cX7_makes 0 = .ok (.iload_n 1, 1) := by decide +kernel
theorem dX7_makes_1 : decode cX7_makes 1 = .ok (.iconst 3, 1) := by decide +kernel
theorem dX7_makes_2 : decode cX7_makes 2 = .ok (.iand, 1) := by decide +kernel
theorem dX7_makes_3 : decode cX7_makes 3 = .ok (.aload_n 0, 1) := by decide +kernel
theorem dX7_makes_4 : decode cX7_makes 4 = .ok (.getfield 416, 3) := by decide +kernel
theorem dX7_makes_7 : decode cX7_makes 7 = .ok (.iconst 3, 1) := by decide +kernel
theorem dX7_makes_8 : decode cX7_makes 8 = .ok (.iand, 1) := by decide +kernel
theorem dX7_makes_9 : decode cX7_makes 9 = .ok (.if_icmp .ne 24, 3) := by decide +kernel
theorem dX7_makes_12 : decode cX7_makes 12 = .ok (.iload_n 1, 1) := by decide +kernel
theorem dX7_makes_13 : decode cX7_makes 13 = .ok (.iconst 3, 1) := by decide +kernel
theorem dX7_makes_14 : decode cX7_makes 14 = .ok (.iand, 1) := by decide +kernel
theorem dX7_makes_15 : decode cX7_makes 15 = .ok (.iconst 3, 1) := by decide +kernel
theorem dX7_makes_16 : decode cX7_makes 16 = .ok (.if_icmp .ne 19, 3) := by decide +kernel
theorem dX7_makes_19 : decode cX7_makes 19 = .ok (.iload_n 1, 1) := by decide +kernel
theorem dX7_makes_20 : decode cX7_makes 20 = .ok (.bipush 127, 2) := by decide +kernel
theorem dX7_makes_22 : decode cX7_makes 22 = .ok (.iand, 1) := by decide +kernel
theorem dX7_makes_23 : decode cX7_makes 23 = .ok (.aload_n 0, 1) := by decide +kernel
theorem dX7_makes_24 : decode cX7_makes 24 = .ok (.getfield 416, 3) := by decide +kernel
theorem dX7_makes_27 : decode cX7_makes 27 = .ok (.bipush 127, 2) := by decide +kernel
theorem dX7_makes_29 : decode cX7_makes 29 = .ok (.iand, 1) := by decide +kernel
theorem dX7_makes_30 : decode cX7_makes 30 = .ok (.if_icmp .eq 5, 3) := by decide +kernel
theorem dX7_makes_33 : decode cX7_makes 33 = .ok (.iconst 0, 1) := by decide +kernel
theorem dX7_makes_34 : decode cX7_makes 34 = .ok (.ireturn, 1) := by decide +kernel
theorem dX7_makes_35 : decode cX7_makes 35 = .ok (.aload_n 0, 1) := by decide +kernel
theorem dX7_makes_36 : decode cX7_makes 36 = .ok (.getfield 416, 3) := by decide +kernel
theorem dX7_makes_39 : decode cX7_makes 39 = .ok (.bipush 127, 2) := by decide +kernel
theorem dX7_makes_41 : decode cX7_makes 41 = .ok (.iand, 1) := by decide +kernel
theorem dX7_makes_42 : decode cX7_makes 42 = .ok (.bipush 47, 2) := by decide +kernel
theorem dX7_makes_44 : decode cX7_makes 44 = .ok (.if_icmp .ne 16, 3) := by decide +kernel
theorem dX7_makes_47 : decode cX7_makes 47 = .ok (.aload_n 0, 1) := by decide +kernel
theorem dX7_makes_48 : decode cX7_makes 48 = .ok (.getfield 416, 3) := by decide +kernel
theorem dX7_makes_51 : decode cX7_makes 51 = .ok (.iload_n 1, 1) := by decide +kernel
theorem dX7_makes_52 : decode cX7_makes 52 = .ok (.ldc_w 442, 3) := by decide +kernel
theorem dX7_makes_55 : decode cX7_makes 55 = .ok (.iand, 1) := by decide +kernel
theorem dX7_makes_56 : decode cX7_makes 56 = .ok (.ior, 1) := by decide +kernel
theorem dX7_makes_57 : decode cX7_makes 57 = .ok (.goto 7, 3) := by decide +kernel
theorem dX7_makes_60 : decode cX7_makes 60 = .ok (.aload_n 0, 1) := by decide +kernel
theorem dX7_makes_61 : decode cX7_makes 61 = .ok (.getfield 416, 3) := by decide +kernel
theorem dX7_makes_64 : decode cX7_makes 64 = .ok (.istore_n 2, 1) := by decide +kernel
theorem dX7_makes_65 : decode cX7_makes 65 = .ok (.iconst 0, 1) := by decide +kernel
theorem dX7_makes_66 : decode cX7_makes 66 = .ok (.istore_n 3, 1) := by decide +kernel
theorem dX7_makes_67 : decode cX7_makes 67 = .ok (.iload_n 3, 1) := by decide +kernel
theorem dX7_makes_68 : decode cX7_makes 68 = .ok (.aload_n 0, 1) := by decide +kernel
theorem dX7_makes_69 : decode cX7_makes 69 = .ok (.getfield 413, 3) := by decide +kernel
theorem dX7_makes_72 : decode cX7_makes 72 = .ok (.invokevirtual 430, 3) := by decide +kernel
theorem dX7_makes_75 : decode cX7_makes 75 = .ok (.if_icmp .ge 56, 3) := by decide +kernel
theorem dX7_makes_78 : decode cX7_makes 78 = .ok (.aload_n 0, 1) := by decide +kernel
theorem dX7_makes_79 : decode cX7_makes 79 = .ok (.getfield 413, 3) := by decide +kernel
theorem dX7_makes_82 : decode cX7_makes 82 = .ok (.iload_n 3, 1) := by decide +kernel
theorem dX7_makes_83 : decode cX7_makes 83 = .ok (.invokevirtual 436, 3) := by decide +kernel
theorem dX7_makes_86 : decode cX7_makes 86 = .ok (.istore 4, 2) := by decide +kernel
theorem dX7_makes_88 : decode cX7_makes 88 = .ok (.iload 4, 2) := by decide +kernel
theorem dX7_makes_90 : decode cX7_makes 90 = .ok (.bipush 65, 2) := by decide +kernel
theorem dX7_makes_92 : decode cX7_makes 92 = .ok (.if_icmp .lt 33, 3) := by decide +kernel
theorem dX7_makes_95 : decode cX7_makes 95 = .ok (.iload 4, 2) := by decide +kernel
theorem dX7_makes_97 : decode cX7_makes 97 = .ok (.iload_n 1, 1) := by decide +kernel
theorem dX7_makes_98 : decode cX7_makes 98 = .ok (.invokestatic 511, 3) := by decide +kernel
theorem dX7_makes_101 : decode cX7_makes 101 = .ok (.istore 5, 2) := by decide +kernel
theorem dX7_makes_103 : decode cX7_makes 103 = .ok (.iload 4, 2) := by decide +kernel
theorem dX7_makes_105 : decode cX7_makes 105 = .ok (.iload 5, 2) := by decide +kernel
theorem dX7_makes_107 : decode cX7_makes 107 = .ok (.invokestatic 480, 3) := by decide +kernel
theorem dX7_makes_110 : decode cX7_makes 110 = .ok (.ifCond .ne 5, 3) := by decide +kernel
theorem dX7_makes_113 : decode cX7_makes 113 = .ok (.iconst 0, 1) := by decide +kernel
theorem dX7_makes_114 : decode cX7_makes 114 = .ok (.ireturn, 1) := by decide +kernel
theorem dX7_makes_115 : decode cX7_makes 115 = .ok (.iload_n 2, 1) := by decide +kernel
theorem dX7_makes_116 : decode cX7_makes 116 = .ok (.iload 4, 2) := by decide +kernel
theorem dX7_makes_118 : decode cX7_makes 118 = .ok (.iload 5, 2) := by decide +kernel
theorem dX7_makes_120 : decode cX7_makes 120 = .ok (.invokestatic 477, 3) := by decide +kernel
theorem dX7_makes_123 : decode cX7_makes 123 = .ok (.ior, 1) := by decide +kernel
theorem dX7_makes_124 : decode cX7_makes 124 = .ok (.istore_n 2, 1) := by decide +kernel
theorem dX7_makes_125 : decode cX7_makes 125 = .ok (.iinc 3 1, 3) := by decide +kernel
theorem dX7_makes_128 : decode cX7_makes 128 = .ok (.goto (-61), 3) := by decide +kernel
theorem dX7_makes_131 : decode cX7_makes 131 = .ok (.iload_n 2, 1) := by decide +kernel
theorem dX7_makes_132 : decode cX7_makes 132 = .ok (.iload_n 1, 1) := by decide +kernel
theorem dX7_makes_133 : decode cX7_makes 133 = .ok (.if_icmp .ne 7, 3) := by decide +kernel
theorem dX7_makes_136 : decode cX7_makes 136 = .ok (.iconst 1, 1) := by decide +kernel
theorem dX7_makes_137 : decode cX7_makes 137 = .ok (.goto 4, 3) := by decide +kernel
theorem dX7_makes_140 : decode cX7_makes 140 = .ok (.iconst 0, 1) := by decide +kernel
theorem dX7_makes_141 : decode cX7_makes 141 = .ok (.ireturn, 1) := by decide +kernel
theorem dX8_startDescription_0 : decode cX8_startDescription 0 = .ok (.aload_n 0, 1) := by decide +kernel
theorem dX8_startDescription_1 : decode cX8_startDescription 1 = .ok (.iload_n 1, 1) := by decide +kernel
theorem dX8_startDescription_2 : decode cX8_startDescription 2 = .ok (.putfield 28, 3) := by decide +kernel
theorem dX8_startDescription_5 : decode cX8_startDescription 5 = .ok (.aload_n 0, 1) := by decide +kernel
theorem dX8_startDescription_6 : decode cX8_startDescription 6 = .ok (.iload_n 2, 1) := by decide +kernel
theorem dX8_startDescription_7 : decode cX8_startDescription 7 = .ok (.putfield 32, 3) := by decide +kernel
theorem dX8_startDescription_10 : decode cX8_startDescription 10 = .ok (.aload_n 0, 1) := by decide +kernel
theorem dX8_startDescription_11 : decode cX8_startDescription 11 = .ok (.iload_n 3, 1) := by decide +kernel
theorem dX8_startDescription_12 : decode cX8_startDescription 12 = .ok (.putfield 35, 3) := by decide +kernel
theorem dX8_startDescription_15 : decode cX8_startDescription 15 = .ok (.aload_n 0, 1) := by decide +kernel
theorem dX8_startDescription_16 : decode cX8_startDescription 16 = .ok (.iconst 0, 1) := by decide +kernel
theorem dX8_startDescription_17 : decode cX8_startDescription 17 = .ok (.putfield 38, 3) := by decide +kernel
theorem dX8_startDescription_20 : decode cX8_startDescription 20 = .ok (.aload_n 0, 1) := by decide +kernel
theorem dX8_startDescription_21 : decode cX8_startDescription 21 = .ok (.iconst 0, 1) := by decide +kernel
theorem dX8_startDescription_22 : decode cX8_startDescription 22 = .ok (.putfield 41, 3) := by decide +kernel
theorem dX8_startDescription_25 : decode cX8_startDescription 25 = .ok (.return_, 1) := by decide +kernel
theorem dX8_addLabel_0 : decode cX8_addLabel 0 = .ok (.aload_n 0, 1) := by decide +kernel
theorem dX8_addLabel_1 : decode cX8_addLabel 1 = .ok (.getfield 38, 3) := by decide +kernel
theorem dX8_addLabel_4 : decode cX8_addLabel 4 = .ok (.aload_n 0, 1) := by decide +kernel
theorem dX8_addLabel_5 : decode cX8_addLabel 5 = .ok (.getfield 16, 3) := by decide +kernel
theorem dX8_addLabel_8 : decode cX8_addLabel 8 = .ok (.arraylength, 1) := by decide +kernel
theorem dX8_addLabel_9 : decode cX8_addLabel 9 = .ok (.if_icmp .ge 23, 3) := by decide +kernel
theorem dX8_addLabel_12 : decode cX8_addLabel 12 = .ok (.aload_n 0, 1) := by decide +kernel
theorem dX8_addLabel_13 : decode cX8_addLabel 13 = .ok (.getfield 16, 3) := by decide +kernel
theorem dX8_addLabel_16 : decode cX8_addLabel 16 = .ok (.aload_n 0, 1) := by decide +kernel
theorem dX8_addLabel_17 : decode cX8_addLabel 17 = .ok (.getfield 38, 3) := by decide +kernel
theorem dX8_addLabel_20 : decode cX8_addLabel 20 = .ok (.iload_n 1, 1) := by decide +kernel
theorem dX8_addLabel_21 : decode cX8_addLabel 21 = .ok (.iastore, 1) := by decide +kernel
theorem dX8_addLabel_22 : decode cX8_addLabel 22 = .ok (.aload_n 0, 1) := by decide +kernel
theorem dX8_addLabel_23 : decode cX8_addLabel 23 = .ok (.dup, 1) := by decide +kernel
theorem dX8_addLabel_24 : decode cX8_addLabel 24 = .ok (.getfield 38, 3) := by decide +kernel
theorem dX8_addLabel_27 : decode cX8_addLabel 27 = .ok (.iconst 1, 1) := by decide +kernel
theorem dX8_addLabel_28 : decode cX8_addLabel 28 = .ok (.iadd, 1) := by decide +kernel
theorem dX8_addLabel_29 : decode cX8_addLabel 29 = .ok (.putfield 38, 3) := by decide +kernel
theorem dX8_addLabel_32 : decode cX8_addLabel 32 = .ok (.return_, 1) := by decide +kernel
theorem dX8_addStatement_0 : decode cX8_addStatement 0 = .ok (.aload_n 0, 1) := by decide +kernel
theorem dX8_addStatement_1 : decode cX8_addStatement 1 = .ok (.getfield 41, 3) := by decide +kernel
theorem dX8_addStatement_4 : decode cX8_addStatement 4 = .ok (.aload_n 0, 1) := by decide +kernel
theorem dX8_addStatement_5 : decode cX8_addStatement 5 = .ok (.getfield 22, 3) := by decide +kernel
theorem dX8_addStatement_8 : decode cX8_addStatement 8 = .ok (.arraylength, 1) := by decide +kernel
theorem dX8_addStatement_9 : decode cX8_addStatement 9 = .ok (.if_icmp .ge 33, 3) := by decide +kernel
theorem dX8_addStatement_12 : decode cX8_addStatement 12 = .ok (.aload_n 0, 1) := by decide +kernel
theorem dX8_addStatement_13 : decode cX8_addStatement 13 = .ok (.getfield 22, 3) := by decide +kernel
theorem dX8_addStatement_16 : decode cX8_addStatement 16 = .ok (.aload_n 0, 1) := by decide +kernel
theorem dX8_addStatement_17 : decode cX8_addStatement 17 = .ok (.getfield 41, 3) := by decide +kernel
theorem dX8_addStatement_20 : decode cX8_addStatement 20 = .ok (.iload_n 1, 1) := by decide +kernel
theorem dX8_addStatement_21 : decode cX8_addStatement 21 = .ok (.iastore, 1) := by decide +kernel
theorem dX8_addStatement_22 : decode cX8_addStatement 22 = .ok (.aload_n 0, 1) := by decide +kernel
theorem dX8_addStatement_23 : decode cX8_addStatement 23 = .ok (.getfield 25, 3) := by decide +kernel
theorem dX8_addStatement_26 : decode cX8_addStatement 26 = .ok (.aload_n 0, 1) := by decide +kernel
theorem dX8_addStatement_27 : decode cX8_addStatement 27 = .ok (.getfield 41, 3) := by decide +kernel
theorem dX8_addStatement_30 : decode cX8_addStatement 30 = .ok (.iload_n 2, 1) := by decide +kernel
theorem dX8_addStatement_31 : decode cX8_addStatement 31 = .ok (.iastore, 1) := by decide +kernel
theorem dX8_addStatement_32 : decode cX8_addStatement 32 = .ok (.aload_n 0, 1) := by decide +kernel
theorem dX8_addStatement_33 : decode cX8_addStatement 33 = .ok (.dup, 1) := by decide +kernel
theorem dX8_addStatement_34 : decode cX8_addStatement 34 = .ok (.getfield 41, 3) := by decide +kernel
theorem dX8_addStatement_37 : decode cX8_addStatement 37 = .ok (.iconst 1, 1) := by decide +kernel
theorem dX8_addStatement_38 : decode cX8_addStatement 38 = .ok (.iadd, 1) := by decide +kernel
theorem dX8_addStatement_39 : decode cX8_addStatement 39 = .ok (.putfield 41, 3) := by decide +kernel
theorem dX8_addStatement_42 : decode cX8_addStatement 42 = .ok (.return_, 1) := by decide +kernel
theorem dX8_textPages_0 : decode cX8_textPages 0 = .ok (.aload_n 0, 1) := by decide +kernel
theorem dX8_textPages_1 : decode cX8_textPages 1 = .ok (.getfield 28, 3) := by decide +kernel
theorem dX8_textPages_4 : decode cX8_textPages 4 = .ok (.sipush 1024, 3) := by decide +kernel
theorem dX8_textPages_7 : decode cX8_textPages 7 = .ok (.iadd, 1) := by decide +kernel
theorem dX8_textPages_8 : decode cX8_textPages 8 = .ok (.iconst 1, 1) := by decide +kernel
theorem dX8_textPages_9 : decode cX8_textPages 9 = .ok (.isub, 1) := by decide +kernel
theorem dX8_textPages_10 : decode cX8_textPages 10 = .ok (.sipush 1024, 3) := by decide +kernel
theorem dX8_textPages_13 : decode cX8_textPages 13 = .ok (.idiv, 1) := by decide +kernel
theorem dX8_textPages_14 : decode cX8_textPages 14 = .ok (.ireturn, 1) := by decide +kernel
theorem dX8_dataPages_0 : decode cX8_dataPages 0 = .ok (.aload_n 0, 1) := by decide +kernel
theorem dX8_dataPages_1 : decode cX8_dataPages 1 = .ok (.getfield 35, 3) := by decide +kernel
theorem dX8_dataPages_4 : decode cX8_dataPages 4 = .ok (.aload_n 0, 1) := by decide +kernel
theorem dX8_dataPages_5 : decode cX8_dataPages 5 = .ok (.getfield 32, 3) := by decide +kernel
theorem dX8_dataPages_8 : decode cX8_dataPages 8 = .ok (.if_icmp .le 25, 3) := by decide +kernel
theorem dX8_dataPages_11 : decode cX8_dataPages 11 = .ok (.aload_n 0, 1) := by decide +kernel
theorem dX8_dataPages_12 : decode cX8_dataPages 12 = .ok (.getfield 35, 3) := by decide +kernel
theorem dX8_dataPages_15 : decode cX8_dataPages 15 = .ok (.aload_n 0, 1) := by decide +kernel
theorem dX8_dataPages_16 : decode cX8_dataPages 16 = .ok (.getfield 32, 3) := by decide +kernel
theorem dX8_dataPages_19 : decode cX8_dataPages 19 = .ok (.isub, 1) := by decide +kernel
theorem dX8_dataPages_20 : decode cX8_dataPages 20 = .ok (.sipush 1024, 3) := by decide +kernel
theorem dX8_dataPages_23 : decode cX8_dataPages 23 = .ok (.iadd, 1) := by decide +kernel
theorem dX8_dataPages_24 : decode cX8_dataPages 24 = .ok (.iconst 1, 1) := by decide +kernel
theorem dX8_dataPages_25 : decode cX8_dataPages 25 = .ok (.isub, 1) := by decide +kernel
theorem dX8_dataPages_26 : decode cX8_dataPages 26 = .ok (.sipush 1024, 3) := by decide +kernel
theorem dX8_dataPages_29 : decode cX8_dataPages 29 = .ok (.idiv, 1) := by decide +kernel
theorem dX8_dataPages_30 : decode cX8_dataPages 30 = .ok (.goto 4, 3) := by decide +kernel
theorem dX8_dataPages_33 : decode cX8_dataPages 33 = .ok (.iconst 0, 1) := by decide +kernel
theorem dX8_dataPages_34 : decode cX8_dataPages 34 = .ok (.ireturn, 1) := by decide +kernel
theorem dX8_heapStart_0 : decode cX8_heapStart 0 = .ok (.aload_n 0, 1) := by decide +kernel
theorem dX8_heapStart_1 : decode cX8_heapStart 1 = .ok (.getfield 35, 3) := by decide +kernel
theorem dX8_heapStart_4 : decode cX8_heapStart 4 = .ok (.sipush 1024, 3) := by decide +kernel
theorem dX8_heapStart_7 : decode cX8_heapStart 7 = .ok (.iadd, 1) := by decide +kernel
theorem dX8_heapStart_8 : decode cX8_heapStart 8 = .ok (.iconst 1, 1) := by decide +kernel
theorem dX8_heapStart_9 : decode cX8_heapStart 9 = .ok (.isub, 1) := by decide +kernel
theorem dX8_heapStart_10 : decode cX8_heapStart 10 = .ok (.sipush 1024, 3) := by decide +kernel
theorem dX8_heapStart_13 : decode cX8_heapStart 13 = .ok (.idiv, 1) := by decide +kernel
theorem dX8_heapStart_14 : decode cX8_heapStart 14 = .ok (.sipush 1024, 3) := by decide +kernel
theorem dX8_heapStart_17 : decode cX8_heapStart 17 = .ok (.imul, 1) := by decide +kernel
theorem dX8_heapStart_18 : decode cX8_heapStart 18 = .ok (.ireturn, 1) := by decide +kernel
theorem dX8_labelUpTo_0 : decode cX8_labelUpTo 0 = .ok (.iconst (-1), 1) := by decide +kernel
theorem dX8_labelUpTo_1 : decode cX8_labelUpTo 1 = .ok (.istore_n 2, 1) := by decide +kernel
theorem dX8_labelUpTo_2 : decode cX8_labelUpTo 2 = .ok (.iconst 0, 1) := by decide +kernel
theorem dX8_labelUpTo_3 : decode cX8_labelUpTo 3 = .ok (.istore_n 3, 1) := by decide +kernel
theorem dX8_labelUpTo_4 : decode cX8_labelUpTo 4 = .ok (.iload_n 3, 1) := by decide +kernel
theorem dX8_labelUpTo_5 : decode cX8_labelUpTo 5 = .ok (.aload_n 0, 1) := by decide +kernel
theorem dX8_labelUpTo_6 : decode cX8_labelUpTo 6 = .ok (.getfield 38, 3) := by decide +kernel
theorem dX8_labelUpTo_9 : decode cX8_labelUpTo 9 = .ok (.if_icmp .ge 40, 3) := by decide +kernel
theorem dX8_labelUpTo_12 : decode cX8_labelUpTo 12 = .ok (.aload_n 0, 1) := by decide +kernel
theorem dX8_labelUpTo_13 : decode cX8_labelUpTo 13 = .ok (.getfield 16, 3) := by decide +kernel
theorem dX8_labelUpTo_16 : decode cX8_labelUpTo 16 = .ok (.iload_n 3, 1) := by decide +kernel
theorem dX8_labelUpTo_17 : decode cX8_labelUpTo 17 = .ok (.iaload, 1) := by decide +kernel
theorem dX8_labelUpTo_18 : decode cX8_labelUpTo 18 = .ok (.iload_n 1, 1) := by decide +kernel
theorem dX8_labelUpTo_19 : decode cX8_labelUpTo 19 = .ok (.if_icmp .gt 24, 3) := by decide +kernel
theorem dX8_labelUpTo_22 : decode cX8_labelUpTo 22 = .ok (.iload_n 2, 1) := by decide +kernel
theorem dX8_labelUpTo_23 : decode cX8_labelUpTo 23 = .ok (.ifCond .lt 18, 3) := by decide +kernel
theorem dX8_labelUpTo_26 : decode cX8_labelUpTo 26 = .ok (.aload_n 0, 1) := by decide +kernel
theorem dX8_labelUpTo_27 : decode cX8_labelUpTo 27 = .ok (.getfield 16, 3) := by decide +kernel
theorem dX8_labelUpTo_30 : decode cX8_labelUpTo 30 = .ok (.iload_n 3, 1) := by decide +kernel
theorem dX8_labelUpTo_31 : decode cX8_labelUpTo 31 = .ok (.iaload, 1) := by decide +kernel
theorem dX8_labelUpTo_32 : decode cX8_labelUpTo 32 = .ok (.aload_n 0, 1) := by decide +kernel
theorem dX8_labelUpTo_33 : decode cX8_labelUpTo 33 = .ok (.getfield 16, 3) := by decide +kernel
theorem dX8_labelUpTo_36 : decode cX8_labelUpTo 36 = .ok (.iload_n 2, 1) := by decide +kernel
theorem dX8_labelUpTo_37 : decode cX8_labelUpTo 37 = .ok (.iaload, 1) := by decide +kernel
theorem dX8_labelUpTo_38 : decode cX8_labelUpTo 38 = .ok (.if_icmp .lt 5, 3) := by decide +kernel
theorem dX8_labelUpTo_41 : decode cX8_labelUpTo 41 = .ok (.iload_n 3, 1) := by decide +kernel
theorem dX8_labelUpTo_42 : decode cX8_labelUpTo 42 = .ok (.istore_n 2, 1) := by decide +kernel
theorem dX8_labelUpTo_43 : decode cX8_labelUpTo 43 = .ok (.iinc 3 1, 3) := by decide +kernel
theorem dX8_labelUpTo_46 : decode cX8_labelUpTo 46 = .ok (.goto (-42), 3) := by decide +kernel
theorem dX8_labelUpTo_49 : decode cX8_labelUpTo 49 = .ok (.iload_n 2, 1) := by decide +kernel
theorem dX8_labelUpTo_50 : decode cX8_labelUpTo 50 = .ok (.ireturn, 1) := by decide +kernel
theorem dX8_lineOf_0 : decode cX8_lineOf 0 = .ok (.iload_n 1, 1) := by decide +kernel
theorem dX8_lineOf_1 : decode cX8_lineOf 1 = .ok (.ifCond .lt 27, 3) := by decide +kernel
theorem dX8_lineOf_4 : decode cX8_lineOf 4 = .ok (.iload_n 1, 1) := by decide +kernel
theorem dX8_lineOf_5 : decode cX8_lineOf 5 = .ok (.aload_n 0, 1) := by decide +kernel
theorem dX8_lineOf_6 : decode cX8_lineOf 6 = .ok (.getfield 35, 3) := by decide +kernel
theorem dX8_lineOf_9 : decode cX8_lineOf 9 = .ok (.if_icmp .ge 19, 3) := by decide +kernel
theorem dX8_lineOf_12 : decode cX8_lineOf 12 = .ok (.iload_n 1, 1) := by decide +kernel
theorem dX8_lineOf_13 : decode cX8_lineOf 13 = .ok (.aload_n 0, 1) := by decide +kernel
theorem dX8_lineOf_14 : decode cX8_lineOf 14 = .ok (.getfield 28, 3) := by decide +kernel
theorem dX8_lineOf_17 : decode cX8_lineOf 17 = .ok (.if_icmp .lt 13, 3) := by decide +kernel
theorem dX8_lineOf_20 : decode cX8_lineOf 20 = .ok (.iload_n 1, 1) := by decide +kernel
theorem dX8_lineOf_21 : decode cX8_lineOf 21 = .ok (.aload_n 0, 1) := by decide +kernel
theorem dX8_lineOf_22 : decode cX8_lineOf 22 = .ok (.getfield 32, 3) := by decide +kernel
theorem dX8_lineOf_25 : decode cX8_lineOf 25 = .ok (.if_icmp .ge 5, 3) := by decide +kernel
theorem dX8_lineOf_28 : decode cX8_lineOf 28 = .ok (.iconst 0, 1) := by decide +kernel
theorem dX8_lineOf_29 : decode cX8_lineOf 29 = .ok (.ireturn, 1) := by decide +kernel
theorem dX8_lineOf_30 : decode cX8_lineOf 30 = .ok (.iconst (-1), 1) := by decide +kernel
theorem dX8_lineOf_31 : decode cX8_lineOf 31 = .ok (.istore_n 2, 1) := by decide +kernel
theorem dX8_lineOf_32 : decode cX8_lineOf 32 = .ok (.iconst 0, 1) := by decide +kernel
theorem dX8_lineOf_33 : decode cX8_lineOf 33 = .ok (.istore_n 3, 1) := by decide +kernel
theorem dX8_lineOf_34 : decode cX8_lineOf 34 = .ok (.iload_n 3, 1) := by decide +kernel
theorem dX8_lineOf_35 : decode cX8_lineOf 35 = .ok (.aload_n 0, 1) := by decide +kernel
theorem dX8_lineOf_36 : decode cX8_lineOf 36 = .ok (.getfield 41, 3) := by decide +kernel
theorem dX8_lineOf_39 : decode cX8_lineOf 39 = .ok (.if_icmp .ge 40, 3) := by decide +kernel
theorem dX8_lineOf_42 : decode cX8_lineOf 42 = .ok (.aload_n 0, 1) := by decide +kernel
theorem dX8_lineOf_43 : decode cX8_lineOf 43 = .ok (.getfield 22, 3) := by decide +kernel
theorem dX8_lineOf_46 : decode cX8_lineOf 46 = .ok (.iload_n 3, 1) := by decide +kernel
theorem dX8_lineOf_47 : decode cX8_lineOf 47 = .ok (.iaload, 1) := by decide +kernel
theorem dX8_lineOf_48 : decode cX8_lineOf 48 = .ok (.iload_n 1, 1) := by decide +kernel
theorem dX8_lineOf_49 : decode cX8_lineOf 49 = .ok (.if_icmp .gt 24, 3) := by decide +kernel
theorem dX8_lineOf_52 : decode cX8_lineOf 52 = .ok (.iload_n 2, 1) := by decide +kernel
theorem dX8_lineOf_53 : decode cX8_lineOf 53 = .ok (.ifCond .lt 18, 3) := by decide +kernel
theorem dX8_lineOf_56 : decode cX8_lineOf 56 = .ok (.aload_n 0, 1) := by decide +kernel
theorem dX8_lineOf_57 : decode cX8_lineOf 57 = .ok (.getfield 22, 3) := by decide +kernel
theorem dX8_lineOf_60 : decode cX8_lineOf 60 = .ok (.iload_n 3, 1) := by decide +kernel
theorem dX8_lineOf_61 : decode cX8_lineOf 61 = .ok (.iaload, 1) := by decide +kernel
theorem dX8_lineOf_62 : decode cX8_lineOf 62 = .ok (.aload_n 0, 1) := by decide +kernel
theorem dX8_lineOf_63 : decode cX8_lineOf 63 = .ok (.getfield 22, 3) := by decide +kernel
theorem dX8_lineOf_66 : decode cX8_lineOf 66 = .ok (.iload_n 2, 1) := by decide +kernel
theorem dX8_lineOf_67 : decode cX8_lineOf 67 = .ok (.iaload, 1) := by decide +kernel
theorem dX8_lineOf_68 : decode cX8_lineOf 68 = .ok (.if_icmp .le 5, 3) := by decide +kernel
theorem dX8_lineOf_71 : decode cX8_lineOf 71 = .ok (.iload_n 3, 1) := by decide +kernel
theorem dX8_lineOf_72 : decode cX8_lineOf 72 = .ok (.istore_n 2, 1) := by decide +kernel
theorem dX8_lineOf_73 : decode cX8_lineOf 73 = .ok (.iinc 3 1, 3) := by decide +kernel
theorem dX8_lineOf_76 : decode cX8_lineOf 76 = .ok (.goto (-42), 3) := by decide +kernel
theorem dX8_lineOf_79 : decode cX8_lineOf 79 = .ok (.iload_n 2, 1) := by decide +kernel
theorem dX8_lineOf_80 : decode cX8_lineOf 80 = .ok (.ifCond .ge 7, 3) := by decide +kernel
theorem dX8_lineOf_83 : decode cX8_lineOf 83 = .ok (.iconst 0, 1) := by decide +kernel
theorem dX8_lineOf_84 : decode cX8_lineOf 84 = .ok (.goto 9, 3) := by decide +kernel
theorem dX8_lineOf_87 : decode cX8_lineOf 87 = .ok (.aload_n 0, 1) := by decide +kernel
theorem dX8_lineOf_88 : decode cX8_lineOf 88 = .ok (.getfield 25, 3) := by decide +kernel
theorem dX8_lineOf_91 : decode cX8_lineOf 91 = .ok (.iload_n 2, 1) := by decide +kernel
theorem dX8_lineOf_92 : decode cX8_lineOf 92 = .ok (.iaload, 1) := by decide +kernel
theorem dX8_lineOf_93 : decode cX8_lineOf 93 = .ok (.ireturn, 1) := by decide +kernel
theorem dX10_start_0 : decode cX10_start 0 = .ok (.aload_n 0, 1) := by decide +kernel
theorem dX10_start_1 : decode cX10_start 1 = .ok (.getfield 11, 3) := by decide +kernel
theorem dX10_start_4 : decode cX10_start 4 = .ok (.iconst 0, 1) := by decide +kernel
theorem dX10_start_5 : decode cX10_start 5 = .ok (.invokestatic 40, 3) := by decide +kernel
theorem dX10_start_8 : decode cX10_start 8 = .ok (.aload_n 0, 1) := by decide +kernel
theorem dX10_start_9 : decode cX10_start 9 = .ok (.getfield 15, 3) := by decide +kernel
theorem dX10_start_12 : decode cX10_start 12 = .ok (.iconst 0, 1) := by decide +kernel
theorem dX10_start_13 : decode cX10_start 13 = .ok (.invokestatic 40, 3) := by decide +kernel
theorem dX10_start_16 : decode cX10_start 16 = .ok (.aload_n 0, 1) := by decide +kernel
theorem dX10_start_17 : decode cX10_start 17 = .ok (.getfield 18, 3) := by decide +kernel
theorem dX10_start_20 : decode cX10_start 20 = .ok (.iconst 0, 1) := by decide +kernel
theorem dX10_start_21 : decode cX10_start 21 = .ok (.invokestatic 40, 3) := by decide +kernel
theorem dX10_start_24 : decode cX10_start 24 = .ok (.aload_n 0, 1) := by decide +kernel
theorem dX10_start_25 : decode cX10_start 25 = .ok (.getfield 25, 3) := by decide +kernel
theorem dX10_start_28 : decode cX10_start 28 = .ok (.iconst 0, 1) := by decide +kernel
theorem dX10_start_29 : decode cX10_start 29 = .ok (.invokestatic 40, 3) := by decide +kernel
theorem dX10_start_32 : decode cX10_start 32 = .ok (.aload_n 0, 1) := by decide +kernel
theorem dX10_start_33 : decode cX10_start 33 = .ok (.iconst 0, 1) := by decide +kernel
theorem dX10_start_34 : decode cX10_start 34 = .ok (.putfield 46, 3) := by decide +kernel
theorem dX10_start_37 : decode cX10_start 37 = .ok (.aload_n 0, 1) := by decide +kernel
theorem dX10_start_38 : decode cX10_start 38 = .ok (.lconst 0, 1) := by decide +kernel
theorem dX10_start_39 : decode cX10_start 39 = .ok (.putfield 50, 3) := by decide +kernel
theorem dX10_start_42 : decode cX10_start 42 = .ok (.aload_n 0, 1) := by decide +kernel
theorem dX10_start_43 : decode cX10_start 43 = .ok (.iconst 4, 1) := by decide +kernel
theorem dX10_start_44 : decode cX10_start 44 = .ok (.iconst 0, 1) := by decide +kernel
theorem dX10_start_45 : decode cX10_start 45 = .ok (.iconst 3, 1) := by decide +kernel
theorem dX10_start_46 : decode cX10_start 46 = .ok (.invokevirtual 54, 3) := by decide +kernel
theorem dX10_start_49 : decode cX10_start 49 = .ok (.istore_n 1, 1) := by decide +kernel
theorem dX10_start_50 : decode cX10_start 50 = .ok (.aload_n 0, 1) := by decide +kernel
theorem dX10_start_51 : decode cX10_start 51 = .ok (.iconst 0, 1) := by decide +kernel
theorem dX10_start_52 : decode cX10_start 52 = .ok (.iconst 0, 1) := by decide +kernel
theorem dX10_start_53 : decode cX10_start 53 = .ok (.iload_n 1, 1) := by decide +kernel
theorem dX10_start_54 : decode cX10_start 54 = .ok (.invokevirtual 58, 3) := by decide +kernel
theorem dX10_start_57 : decode cX10_start 57 = .ok (.aload_n 0, 1) := by decide +kernel
theorem dX10_start_58 : decode cX10_start 58 = .ok (.iconst 0, 1) := by decide +kernel
theorem dX10_start_59 : decode cX10_start 59 = .ok (.iconst 1, 1) := by decide +kernel
theorem dX10_start_60 : decode cX10_start 60 = .ok (.iload_n 1, 1) := by decide +kernel
theorem dX10_start_61 : decode cX10_start 61 = .ok (.invokevirtual 58, 3) := by decide +kernel
theorem dX10_start_64 : decode cX10_start 64 = .ok (.return_, 1) := by decide +kernel
theorem dX10_become_0 : decode cX10_become 0 = .ok (.aload_n 1, 1) := by decide +kernel
theorem dX10_become_1 : decode cX10_become 1 = .ok (.getfield 11, 3) := by decide +kernel
theorem dX10_become_4 : decode cX10_become 4 = .ok (.iconst 0, 1) := by decide +kernel
theorem dX10_become_5 : decode cX10_become 5 = .ok (.aload_n 0, 1) := by decide +kernel
theorem dX10_become_6 : decode cX10_become 6 = .ok (.getfield 11, 3) := by decide +kernel
theorem dX10_become_9 : decode cX10_become 9 = .ok (.iconst 0, 1) := by decide +kernel
theorem dX10_become_10 : decode cX10_become 10 = .ok (.aload_n 0, 1) := by decide +kernel
theorem dX10_become_11 : decode cX10_become 11 = .ok (.getfield 11, 3) := by decide +kernel
theorem dX10_become_14 : decode cX10_become 14 = .ok (.arraylength, 1) := by decide +kernel
theorem dX10_become_15 : decode cX10_become 15 = .ok (.invokestatic 62, 3) := by decide +kernel
theorem dX10_become_18 : decode cX10_become 18 = .ok (.aload_n 1, 1) := by decide +kernel
theorem dX10_become_19 : decode cX10_become 19 = .ok (.getfield 15, 3) := by decide +kernel
theorem dX10_become_22 : decode cX10_become 22 = .ok (.iconst 0, 1) := by decide +kernel
theorem dX10_become_23 : decode cX10_become 23 = .ok (.aload_n 0, 1) := by decide +kernel
theorem dX10_become_24 : decode cX10_become 24 = .ok (.getfield 15, 3) := by decide +kernel
theorem dX10_become_27 : decode cX10_become 27 = .ok (.iconst 0, 1) := by decide +kernel
theorem dX10_become_28 : decode cX10_become 28 = .ok (.aload_n 0, 1) := by decide +kernel
theorem dX10_become_29 : decode cX10_become 29 = .ok (.getfield 15, 3) := by decide +kernel
theorem dX10_become_32 : decode cX10_become 32 = .ok (.arraylength, 1) := by decide +kernel
theorem dX10_become_33 : decode cX10_become 33 = .ok (.invokestatic 62, 3) := by decide +kernel
theorem dX10_become_36 : decode cX10_become 36 = .ok (.aload_n 1, 1) := by decide +kernel
theorem dX10_become_37 : decode cX10_become 37 = .ok (.getfield 18, 3) := by decide +kernel
theorem dX10_become_40 : decode cX10_become 40 = .ok (.iconst 0, 1) := by decide +kernel
theorem dX10_become_41 : decode cX10_become 41 = .ok (.aload_n 0, 1) := by decide +kernel
theorem dX10_become_42 : decode cX10_become 42 = .ok (.getfield 18, 3) := by decide +kernel
theorem dX10_become_45 : decode cX10_become 45 = .ok (.iconst 0, 1) := by decide +kernel
theorem dX10_become_46 : decode cX10_become 46 = .ok (.aload_n 0, 1) := by decide +kernel
theorem dX10_become_47 : decode cX10_become 47 = .ok (.getfield 18, 3) := by decide +kernel
theorem dX10_become_50 : decode cX10_become 50 = .ok (.arraylength, 1) := by decide +kernel
theorem dX10_become_51 : decode cX10_become 51 = .ok (.invokestatic 62, 3) := by decide +kernel
theorem dX10_become_54 : decode cX10_become 54 = .ok (.aload_n 1, 1) := by decide +kernel
theorem dX10_become_55 : decode cX10_become 55 = .ok (.getfield 21, 3) := by decide +kernel
theorem dX10_become_58 : decode cX10_become 58 = .ok (.iconst 0, 1) := by decide +kernel
theorem dX10_become_59 : decode cX10_become 59 = .ok (.aload_n 0, 1) := by decide +kernel
theorem dX10_become_60 : decode cX10_become 60 = .ok (.getfield 21, 3) := by decide +kernel
theorem dX10_become_63 : decode cX10_become 63 = .ok (.iconst 0, 1) := by decide +kernel
theorem dX10_become_64 : decode cX10_become 64 = .ok (.aload_n 0, 1) := by decide +kernel
theorem dX10_become_65 : decode cX10_become 65 = .ok (.getfield 21, 3) := by decide +kernel
theorem dX10_become_68 : decode cX10_become 68 = .ok (.arraylength, 1) := by decide +kernel
theorem dX10_become_69 : decode cX10_become 69 = .ok (.invokestatic 62, 3) := by decide +kernel
theorem dX10_become_72 : decode cX10_become 72 = .ok (.aload_n 1, 1) := by decide +kernel
theorem dX10_become_73 : decode cX10_become 73 = .ok (.getfield 25, 3) := by decide +kernel
theorem dX10_become_76 : decode cX10_become 76 = .ok (.iconst 0, 1) := by decide +kernel
theorem dX10_become_77 : decode cX10_become 77 = .ok (.aload_n 0, 1) := by decide +kernel
theorem dX10_become_78 : decode cX10_become 78 = .ok (.getfield 25, 3) := by decide +kernel
theorem dX10_become_81 : decode cX10_become 81 = .ok (.iconst 0, 1) := by decide +kernel
theorem dX10_become_82 : decode cX10_become 82 = .ok (.aload_n 0, 1) := by decide +kernel
theorem dX10_become_83 : decode cX10_become 83 = .ok (.getfield 25, 3) := by decide +kernel
theorem dX10_become_86 : decode cX10_become 86 = .ok (.arraylength, 1) := by decide +kernel
theorem dX10_become_87 : decode cX10_become 87 = .ok (.invokestatic 62, 3) := by decide +kernel
theorem dX10_become_90 : decode cX10_become 90 = .ok (.aload_n 1, 1) := by decide +kernel
theorem dX10_become_91 : decode cX10_become 91 = .ok (.getfield 28, 3) := by decide +kernel
theorem dX10_become_94 : decode cX10_become 94 = .ok (.iconst 0, 1) := by decide +kernel
theorem dX10_become_95 : decode cX10_become 95 = .ok (.aload_n 0, 1) := by decide +kernel
theorem dX10_become_96 : decode cX10_become 96 = .ok (.getfield 28, 3) := by decide +kernel
theorem dX10_become_99 : decode cX10_become 99 = .ok (.iconst 0, 1) := by decide +kernel
theorem dX10_become_100 : decode cX10_become 100 = .ok (.aload_n 0, 1) := by decide +kernel
theorem dX10_become_101 : decode cX10_become 101 = .ok (.getfield 28, 3) := by decide +kernel
theorem dX10_become_104 : decode cX10_become 104 = .ok (.arraylength, 1) := by decide +kernel
theorem dX10_become_105 : decode cX10_become 105 = .ok (.invokestatic 62, 3) := by decide +kernel
theorem dX10_become_108 : decode cX10_become 108 = .ok (.aload_n 1, 1) := by decide +kernel
theorem dX10_become_109 : decode cX10_become 109 = .ok (.getfield 31, 3) := by decide +kernel
theorem dX10_become_112 : decode cX10_become 112 = .ok (.iconst 0, 1) := by decide +kernel
theorem dX10_become_113 : decode cX10_become 113 = .ok (.aload_n 0, 1) := by decide +kernel
theorem dX10_become_114 : decode cX10_become 114 = .ok (.getfield 31, 3) := by decide +kernel
theorem dX10_become_117 : decode cX10_become 117 = .ok (.iconst 0, 1) := by decide +kernel
theorem dX10_become_118 : decode cX10_become 118 = .ok (.aload_n 0, 1) := by decide +kernel
theorem dX10_become_119 : decode cX10_become 119 = .ok (.getfield 31, 3) := by decide +kernel
theorem dX10_become_122 : decode cX10_become 122 = .ok (.arraylength, 1) := by decide +kernel
theorem dX10_become_123 : decode cX10_become 123 = .ok (.invokestatic 62, 3) := by decide +kernel
theorem dX10_become_126 : decode cX10_become 126 = .ok (.aload_n 1, 1) := by decide +kernel
theorem dX10_become_127 : decode cX10_become 127 = .ok (.getfield 34, 3) := by decide +kernel
theorem dX10_become_130 : decode cX10_become 130 = .ok (.iconst 0, 1) := by decide +kernel
theorem dX10_become_131 : decode cX10_become 131 = .ok (.aload_n 0, 1) := by decide +kernel
theorem dX10_become_132 : decode cX10_become 132 = .ok (.getfield 34, 3) := by decide +kernel
theorem dX10_become_135 : decode cX10_become 135 = .ok (.iconst 0, 1) := by decide +kernel
theorem dX10_become_136 : decode cX10_become 136 = .ok (.aload_n 0, 1) := by decide +kernel
theorem dX10_become_137 : decode cX10_become 137 = .ok (.getfield 34, 3) := by decide +kernel
theorem dX10_become_140 : decode cX10_become 140 = .ok (.arraylength, 1) := by decide +kernel
theorem dX10_become_141 : decode cX10_become 141 = .ok (.invokestatic 62, 3) := by decide +kernel
theorem dX10_become_144 : decode cX10_become 144 = .ok (.aload_n 0, 1) := by decide +kernel
theorem dX10_become_145 : decode cX10_become 145 = .ok (.aload_n 1, 1) := by decide +kernel
theorem dX10_become_146 : decode cX10_become 146 = .ok (.getfield 46, 3) := by decide +kernel
theorem dX10_become_149 : decode cX10_become 149 = .ok (.putfield 46, 3) := by decide +kernel
theorem dX10_become_152 : decode cX10_become 152 = .ok (.aload_n 1, 1) := by decide +kernel
theorem dX10_become_153 : decode cX10_become 153 = .ok (.getfield 37, 3) := by decide +kernel
theorem dX10_become_156 : decode cX10_become 156 = .ok (.iconst 0, 1) := by decide +kernel
theorem dX10_become_157 : decode cX10_become 157 = .ok (.aload_n 0, 1) := by decide +kernel
theorem dX10_become_158 : decode cX10_become 158 = .ok (.getfield 37, 3) := by decide +kernel
theorem dX10_become_161 : decode cX10_become 161 = .ok (.iconst 0, 1) := by decide +kernel
theorem dX10_become_162 : decode cX10_become 162 = .ok (.aload_n 0, 1) := by decide +kernel
theorem dX10_become_163 : decode cX10_become 163 = .ok (.getfield 37, 3) := by decide +kernel
theorem dX10_become_166 : decode cX10_become 166 = .ok (.arraylength, 1) := by decide +kernel
theorem dX10_become_167 : decode cX10_become 167 = .ok (.invokestatic 62, 3) := by decide +kernel
theorem dX10_become_170 : decode cX10_become 170 = .ok (.aload_n 0, 1) := by decide +kernel
theorem dX10_become_171 : decode cX10_become 171 = .ok (.aload_n 1, 1) := by decide +kernel
theorem dX10_become_172 : decode cX10_become 172 = .ok (.getfield 50, 3) := by decide +kernel
theorem dX10_become_175 : decode cX10_become 175 = .ok (.putfield 50, 3) := by decide +kernel
theorem dX10_become_178 : decode cX10_become 178 = .ok (.return_, 1) := by decide +kernel
theorem dX10_openingOf_0 : decode cX10_openingOf 0 = .ok (.iload_n 2, 1) := by decide +kernel
theorem dX10_openingOf_1 : decode cX10_openingOf 1 = .ok (.ifCond .lt 9, 3) := by decide +kernel
theorem dX10_openingOf_4 : decode cX10_openingOf 4 = .ok (.iload_n 2, 1) := by decide +kernel
theorem dX10_openingOf_5 : decode cX10_openingOf 5 = .ok (.bipush 16, 2) := by decide +kernel
theorem dX10_openingOf_7 : decode cX10_openingOf 7 = .ok (.if_icmp .lt 7, 3) := by decide +kernel
theorem dX10_openingOf_10 : decode cX10_openingOf 10 = .ok (.iconst (-1), 1) := by decide +kernel
theorem dX10_openingOf_11 : decode cX10_openingOf 11 = .ok (.goto 16, 3) := by decide +kernel
theorem dX10_openingOf_14 : decode cX10_openingOf 14 = .ok (.aload_n 0, 1) := by decide +kernel
theorem dX10_openingOf_15 : decode cX10_openingOf 15 = .ok (.getfield 11, 3) := by decide +kernel
theorem dX10_openingOf_18 : decode cX10_openingOf 18 = .ok (.iload_n 1, 1) := by decide +kernel
theorem dX10_openingOf_19 : decode cX10_openingOf 19 = .ok (.bipush 16, 2) := by decide +kernel
theorem dX10_openingOf_21 : decode cX10_openingOf 21 = .ok (.imul, 1) := by decide +kernel
theorem dX10_openingOf_22 : decode cX10_openingOf 22 = .ok (.iload_n 2, 1) := by decide +kernel
theorem dX10_openingOf_23 : decode cX10_openingOf 23 = .ok (.iadd, 1) := by decide +kernel
theorem dX10_openingOf_24 : decode cX10_openingOf 24 = .ok (.iaload, 1) := by decide +kernel
theorem dX10_openingOf_25 : decode cX10_openingOf 25 = .ok (.iconst 1, 1) := by decide +kernel
theorem dX10_openingOf_26 : decode cX10_openingOf 26 = .ok (.isub, 1) := by decide +kernel
theorem dX10_openingOf_27 : decode cX10_openingOf 27 = .ok (.ireturn, 1) := by decide +kernel
theorem dX10_of_0 : decode cX10_of 0 = .ok (.aload_n 0, 1) := by decide +kernel
theorem dX10_of_1 : decode cX10_of 1 = .ok (.getfield 15, 3) := by decide +kernel
theorem dX10_of_4 : decode cX10_of 4 = .ok (.iload_n 1, 1) := by decide +kernel
theorem dX10_of_5 : decode cX10_of 5 = .ok (.iconst 5, 1) := by decide +kernel
theorem dX10_of_6 : decode cX10_of 6 = .ok (.imul, 1) := by decide +kernel
theorem dX10_of_7 : decode cX10_of 7 = .ok (.iload_n 2, 1) := by decide +kernel
theorem dX10_of_8 : decode cX10_of 8 = .ok (.iadd, 1) := by decide +kernel
theorem dX10_of_9 : decode cX10_of 9 = .ok (.iaload, 1) := by decide +kernel
theorem dX10_of_10 : decode cX10_of 10 = .ok (.ireturn, 1) := by decide +kernel
theorem dX10_freeLink_0 : decode cX10_freeLink 0 = .ok (.iconst 0, 1) := by decide +kernel
theorem dX10_freeLink_1 : decode cX10_freeLink 1 = .ok (.iload_n 2, 1) := by decide +kernel
theorem dX10_freeLink_2 : decode cX10_freeLink 2 = .ok (.invokestatic 68, 3) := by decide +kernel
theorem dX10_freeLink_5 : decode cX10_freeLink 5 = .ok (.istore_n 3, 1) := by decide +kernel
theorem dX10_freeLink_6 : decode cX10_freeLink 6 = .ok (.iload_n 3, 1) := by decide +kernel
theorem dX10_freeLink_7 : decode cX10_freeLink 7 = .ok (.bipush 16, 2) := by decide +kernel
theorem dX10_freeLink_9 : decode cX10_freeLink 9 = .ok (.if_icmp .ge 25, 3) := by decide +kernel
theorem dX10_freeLink_12 : decode cX10_freeLink 12 = .ok (.aload_n 0, 1) := by decide +kernel
theorem dX10_freeLink_13 : decode cX10_freeLink 13 = .ok (.getfield 11, 3) := by decide +kernel
theorem dX10_freeLink_16 : decode cX10_freeLink 16 = .ok (.iload_n 1, 1) := by decide +kernel
theorem dX10_freeLink_17 : decode cX10_freeLink 17 = .ok (.bipush 16, 2) := by decide +kernel
theorem dX10_freeLink_19 : decode cX10_freeLink 19 = .ok (.imul, 1) := by decide +kernel
theorem dX10_freeLink_20 : decode cX10_freeLink 20 = .ok (.iload_n 3, 1) := by decide +kernel
theorem dX10_freeLink_21 : decode cX10_freeLink 21 = .ok (.iadd, 1) := by decide +kernel
theorem dX10_freeLink_22 : decode cX10_freeLink 22 = .ok (.iaload, 1) := by decide +kernel
theorem dX10_freeLink_23 : decode cX10_freeLink 23 = .ok (.ifCond .ne 5, 3) := by decide +kernel
theorem dX10_freeLink_26 : decode cX10_freeLink 26 = .ok (.iload_n 3, 1) := by decide +kernel
theorem dX10_freeLink_27 : decode cX10_freeLink 27 = .ok (.ireturn, 1) := by decide +kernel
theorem dX10_freeLink_28 : decode cX10_freeLink 28 = .ok (.iinc 3 1, 3) := by decide +kernel
theorem dX10_freeLink_31 : decode cX10_freeLink 31 = .ok (.goto (-25), 3) := by decide +kernel
theorem dX10_freeLink_34 : decode cX10_freeLink 34 = .ok (.iconst (-1), 1) := by decide +kernel
theorem dX10_freeLink_35 : decode cX10_freeLink 35 = .ok (.ireturn, 1) := by decide +kernel
theorem dX10_openingsFree_0 : decode cX10_openingsFree 0 = .ok (.iconst 0, 1) := by decide +kernel
theorem dX10_openingsFree_1 : decode cX10_openingsFree 1 = .ok (.istore_n 1, 1) := by decide +kernel
theorem dX10_openingsFree_2 : decode cX10_openingsFree 2 = .ok (.iconst 0, 1) := by decide +kernel
theorem dX10_openingsFree_3 : decode cX10_openingsFree 3 = .ok (.istore_n 2, 1) := by decide +kernel
theorem dX10_openingsFree_4 : decode cX10_openingsFree 4 = .ok (.iload_n 2, 1) := by decide +kernel
theorem dX10_openingsFree_5 : decode cX10_openingsFree 5 = .ok (.bipush 48, 2) := by decide +kernel
theorem dX10_openingsFree_7 : decode cX10_openingsFree 7 = .ok (.if_icmp .ge 21, 3) := by decide +kernel
theorem dX10_openingsFree_10 : decode cX10_openingsFree 10 = .ok (.aload_n 0, 1) := by decide +kernel
theorem dX10_openingsFree_11 : decode cX10_openingsFree 11 = .ok (.iload_n 2, 1) := by decide +kernel
theorem dX10_openingsFree_12 : decode cX10_openingsFree 12 = .ok (.iconst 0, 1) := by decide +kernel
theorem dX10_openingsFree_13 : decode cX10_openingsFree 13 = .ok (.invokevirtual 74, 3) := by decide +kernel
theorem dX10_openingsFree_16 : decode cX10_openingsFree 16 = .ok (.ifCond .ne 6, 3) := by decide +kernel
theorem dX10_openingsFree_19 : decode cX10_openingsFree 19 = .ok (.iinc 1 1, 3) := by decide +kernel
theorem dX10_openingsFree_22 : decode cX10_openingsFree 22 = .ok (.iinc 2 1, 3) := by decide +kernel
theorem dX10_openingsFree_25 : decode cX10_openingsFree 25 = .ok (.goto (-21), 3) := by decide +kernel
theorem dX10_openingsFree_28 : decode cX10_openingsFree 28 = .ok (.iload_n 1, 1) := by decide +kernel
theorem dX10_openingsFree_29 : decode cX10_openingsFree 29 = .ok (.ireturn, 1) := by decide +kernel
theorem dX10_open_0 : decode cX10_open 0 = .ok (.iconst 0, 1) := by decide +kernel
theorem dX10_open_1 : decode cX10_open 1 = .ok (.istore 4, 2) := by decide +kernel
theorem dX10_open_3 : decode cX10_open 3 = .ok (.iload 4, 2) := by decide +kernel
theorem dX10_open_5 : decode cX10_open 5 = .ok (.bipush 48, 2) := by decide +kernel
theorem dX10_open_7 : decode cX10_open 7 = .ok (.if_icmp .ge 87, 3) := by decide +kernel
theorem dX10_open_10 : decode cX10_open 10 = .ok (.iload 4, 2) := by decide +kernel
theorem dX10_open_12 : decode cX10_open 12 = .ok (.iconst 5, 1) := by decide +kernel
theorem dX10_open_13 : decode cX10_open 13 = .ok (.imul, 1) := by decide +kernel
theorem dX10_open_14 : decode cX10_open 14 = .ok (.istore 5, 2) := by decide +kernel
theorem dX10_open_16 : decode cX10_open 16 = .ok (.aload_n 0, 1) := by decide +kernel
theorem dX10_open_17 : decode cX10_open 17 = .ok (.getfield 15, 3) := by decide +kernel
theorem dX10_open_20 : decode cX10_open 20 = .ok (.iload 5, 2) := by decide +kernel
theorem dX10_open_22 : decode cX10_open 22 = .ok (.iconst 0, 1) := by decide +kernel
theorem dX10_open_23 : decode cX10_open 23 = .ok (.iadd, 1) := by decide +kernel
theorem dX10_open_24 : decode cX10_open 24 = .ok (.iaload, 1) := by decide +kernel
theorem dX10_open_25 : decode cX10_open 25 = .ok (.ifCond .ne 63, 3) := by decide +kernel
theorem dX10_open_28 : decode cX10_open 28 = .ok (.aload_n 0, 1) := by decide +kernel
theorem dX10_open_29 : decode cX10_open 29 = .ok (.getfield 15, 3) := by decide +kernel
theorem dX10_open_32 : decode cX10_open 32 = .ok (.iload 5, 2) := by decide +kernel
theorem dX10_open_34 : decode cX10_open 34 = .ok (.iconst 0, 1) := by decide +kernel
theorem dX10_open_35 : decode cX10_open 35 = .ok (.iadd, 1) := by decide +kernel
theorem dX10_open_36 : decode cX10_open 36 = .ok (.iload_n 1, 1) := by decide +kernel
theorem dX10_open_37 : decode cX10_open 37 = .ok (.iastore, 1) := by decide +kernel
theorem dX10_open_38 : decode cX10_open 38 = .ok (.aload_n 0, 1) := by decide +kernel
theorem dX10_open_39 : decode cX10_open 39 = .ok (.getfield 15, 3) := by decide +kernel
theorem dX10_open_42 : decode cX10_open 42 = .ok (.iload 5, 2) := by decide +kernel
theorem dX10_open_44 : decode cX10_open 44 = .ok (.iconst 1, 1) := by decide +kernel
theorem dX10_open_45 : decode cX10_open 45 = .ok (.iadd, 1) := by decide +kernel
theorem dX10_open_46 : decode cX10_open 46 = .ok (.iconst 0, 1) := by decide +kernel
theorem dX10_open_47 : decode cX10_open 47 = .ok (.iastore, 1) := by decide +kernel
theorem dX10_open_48 : decode cX10_open 48 = .ok (.aload_n 0, 1) := by decide +kernel
theorem dX10_open_49 : decode cX10_open 49 = .ok (.getfield 15, 3) := by decide +kernel
theorem dX10_open_52 : decode cX10_open 52 = .ok (.iload 5, 2) := by decide +kernel
theorem dX10_open_54 : decode cX10_open 54 = .ok (.iconst 2, 1) := by decide +kernel
theorem dX10_open_55 : decode cX10_open 55 = .ok (.iadd, 1) := by decide +kernel
theorem dX10_open_56 : decode cX10_open 56 = .ok (.iload_n 2, 1) := by decide +kernel
theorem dX10_open_57 : decode cX10_open 57 = .ok (.iastore, 1) := by decide +kernel
theorem dX10_open_58 : decode cX10_open 58 = .ok (.aload_n 0, 1) := by decide +kernel
theorem dX10_open_59 : decode cX10_open 59 = .ok (.getfield 15, 3) := by decide +kernel
theorem dX10_open_62 : decode cX10_open 62 = .ok (.iload 5, 2) := by decide +kernel
theorem dX10_open_64 : decode cX10_open 64 = .ok (.iconst 3, 1) := by decide +kernel
theorem dX10_open_65 : decode cX10_open 65 = .ok (.iadd, 1) := by decide +kernel
theorem dX10_open_66 : decode cX10_open 66 = .ok (.iconst 0, 1) := by decide +kernel
theorem dX10_open_67 : decode cX10_open 67 = .ok (.iastore, 1) := by decide +kernel
theorem dX10_open_68 : decode cX10_open 68 = .ok (.aload_n 0, 1) := by decide +kernel
theorem dX10_open_69 : decode cX10_open 69 = .ok (.getfield 15, 3) := by decide +kernel
theorem dX10_open_72 : decode cX10_open 72 = .ok (.iload 5, 2) := by decide +kernel
theorem dX10_open_74 : decode cX10_open 74 = .ok (.iconst 4, 1) := by decide +kernel
theorem dX10_open_75 : decode cX10_open 75 = .ok (.iadd, 1) := by decide +kernel
theorem dX10_open_76 : decode cX10_open 76 = .ok (.iload_n 3, 1) := by decide +kernel
theorem dX10_open_77 : decode cX10_open 77 = .ok (.iastore, 1) := by decide +kernel
theorem dX10_open_78 : decode cX10_open 78 = .ok (.aload_n 0, 1) := by decide +kernel
theorem dX10_open_79 : decode cX10_open 79 = .ok (.iload_n 1, 1) := by decide +kernel
theorem dX10_open_80 : decode cX10_open 80 = .ok (.iload_n 2, 1) := by decide +kernel
theorem dX10_open_81 : decode cX10_open 81 = .ok (.iconst 1, 1) := by decide +kernel
theorem dX10_open_82 : decode cX10_open 82 = .ok (.invokevirtual 77, 3) := by decide +kernel
theorem dX10_open_85 : decode cX10_open 85 = .ok (.iload 4, 2) := by decide +kernel
theorem dX10_open_87 : decode cX10_open 87 = .ok (.ireturn, 1) := by decide +kernel
theorem dX10_open_88 : decode cX10_open 88 = .ok (.iinc 4 1, 3) := by decide +kernel
theorem dX10_open_91 : decode cX10_open 91 = .ok (.goto (-88), 3) := by decide +kernel
theorem dX10_open_94 : decode cX10_open 94 = .ok (.iconst (-1), 1) := by decide +kernel
theorem dX10_open_95 : decode cX10_open 95 = .ok (.ireturn, 1) := by decide +kernel
theorem dX10_hold_0 : decode cX10_hold 0 = .ok (.iload_n 1, 1) := by decide +kernel
theorem dX10_hold_1 : decode cX10_hold 1 = .ok (.iconst 3, 1) := by decide +kernel
theorem dX10_hold_2 : decode cX10_hold 2 = .ok (.if_icmp .ne 20, 3) := by decide +kernel
theorem dX10_hold_5 : decode cX10_hold 5 = .ok (.aload_n 0, 1) := by decide +kernel
theorem dX10_hold_6 : decode cX10_hold 6 = .ok (.getfield 25, 3) := by decide +kernel
theorem dX10_hold_9 : decode cX10_hold 9 = .ok (.iload_n 2, 1) := by decide +kernel
theorem dX10_hold_10 : decode cX10_hold 10 = .ok (.iconst 3, 1) := by decide +kernel
theorem dX10_hold_11 : decode cX10_hold 11 = .ok (.imul, 1) := by decide +kernel
theorem dX10_hold_12 : decode cX10_hold 12 = .ok (.iconst 1, 1) := by decide +kernel
theorem dX10_hold_13 : decode cX10_hold 13 = .ok (.iadd, 1) := by decide +kernel
theorem dX10_hold_14 : decode cX10_hold 14 = .ok (.dup2, 1) := by decide +kernel
theorem dX10_hold_15 : decode cX10_hold 15 = .ok (.iaload, 1) := by decide +kernel
theorem dX10_hold_16 : decode cX10_hold 16 = .ok (.iload_n 3, 1) := by decide +kernel
theorem dX10_hold_17 : decode cX10_hold 17 = .ok (.iadd, 1) := by decide +kernel
theorem dX10_hold_18 : decode cX10_hold 18 = .ok (.iastore, 1) := by decide +kernel
theorem dX10_hold_19 : decode cX10_hold 19 = .ok (.goto 22, 3) := by decide +kernel
theorem dX10_hold_22 : decode cX10_hold 22 = .ok (.iload_n 1, 1) := by decide +kernel
theorem dX10_hold_23 : decode cX10_hold 23 = .ok (.iconst 4, 1) := by decide +kernel
theorem dX10_hold_24 : decode cX10_hold 24 = .ok (.if_icmp .eq 17, 3) := by decide +kernel
theorem dX10_hold_27 : decode cX10_hold 27 = .ok (.aload_n 0, 1) := by decide +kernel
theorem dX10_hold_28 : decode cX10_hold 28 = .ok (.getfield 18, 3) := by decide +kernel
theorem dX10_hold_31 : decode cX10_hold 31 = .ok (.iload_n 2, 1) := by decide +kernel
theorem dX10_hold_32 : decode cX10_hold 32 = .ok (.iconst 4, 1) := by decide +kernel
theorem dX10_hold_33 : decode cX10_hold 33 = .ok (.imul, 1) := by decide +kernel
theorem dX10_hold_34 : decode cX10_hold 34 = .ok (.iload_n 1, 1) := by decide +kernel
theorem dX10_hold_35 : decode cX10_hold 35 = .ok (.iadd, 1) := by decide +kernel
theorem dX10_hold_36 : decode cX10_hold 36 = .ok (.dup2, 1) := by decide +kernel
theorem dX10_hold_37 : decode cX10_hold 37 = .ok (.iaload, 1) := by decide +kernel
theorem dX10_hold_38 : decode cX10_hold 38 = .ok (.iload_n 3, 1) := by decide +kernel
theorem dX10_hold_39 : decode cX10_hold 39 = .ok (.iadd, 1) := by decide +kernel
theorem dX10_hold_40 : decode cX10_hold 40 = .ok (.iastore, 1) := by decide +kernel
theorem dX10_hold_41 : decode cX10_hold 41 = .ok (.return_, 1) := by decide +kernel
theorem dX10_linkTo_0 : decode cX10_linkTo 0 = .ok (.aload_n 0, 1) := by decide +kernel
theorem dX10_linkTo_1 : decode cX10_linkTo 1 = .ok (.getfield 11, 3) := by decide +kernel
theorem dX10_linkTo_4 : decode cX10_linkTo 4 = .ok (.iload_n 1, 1) := by decide +kernel
theorem dX10_linkTo_5 : decode cX10_linkTo 5 = .ok (.bipush 16, 2) := by decide +kernel
theorem dX10_linkTo_7 : decode cX10_linkTo 7 = .ok (.imul, 1) := by decide +kernel
theorem dX10_linkTo_8 : decode cX10_linkTo 8 = .ok (.iload_n 2, 1) := by decide +kernel
theorem dX10_linkTo_9 : decode cX10_linkTo 9 = .ok (.iadd, 1) := by decide +kernel
theorem dX10_linkTo_10 : decode cX10_linkTo 10 = .ok (.iload_n 3, 1) := by decide +kernel
theorem dX10_linkTo_11 : decode cX10_linkTo 11 = .ok (.iconst 1, 1) := by decide +kernel
theorem dX10_linkTo_12 : decode cX10_linkTo 12 = .ok (.iadd, 1) := by decide +kernel
theorem dX10_linkTo_13 : decode cX10_linkTo 13 = .ok (.iastore, 1) := by decide +kernel
theorem dX10_linkTo_14 : decode cX10_linkTo 14 = .ok (.aload_n 0, 1) := by decide +kernel
theorem dX10_linkTo_15 : decode cX10_linkTo 15 = .ok (.getfield 15, 3) := by decide +kernel
theorem dX10_linkTo_18 : decode cX10_linkTo 18 = .ok (.iload_n 3, 1) := by decide +kernel
theorem dX10_linkTo_19 : decode cX10_linkTo 19 = .ok (.iconst 5, 1) := by decide +kernel
theorem dX10_linkTo_20 : decode cX10_linkTo 20 = .ok (.imul, 1) := by decide +kernel
theorem dX10_linkTo_21 : decode cX10_linkTo 21 = .ok (.iconst 1, 1) := by decide +kernel
theorem dX10_linkTo_22 : decode cX10_linkTo 22 = .ok (.iadd, 1) := by decide +kernel
theorem dX10_linkTo_23 : decode cX10_linkTo 23 = .ok (.dup2, 1) := by decide +kernel
theorem dX10_linkTo_24 : decode cX10_linkTo 24 = .ok (.iaload, 1) := by decide +kernel
theorem dX10_linkTo_25 : decode cX10_linkTo 25 = .ok (.iconst 1, 1) := by decide +kernel
theorem dX10_linkTo_26 : decode cX10_linkTo 26 = .ok (.iadd, 1) := by decide +kernel
theorem dX10_linkTo_27 : decode cX10_linkTo 27 = .ok (.iastore, 1) := by decide +kernel
theorem dX10_linkTo_28 : decode cX10_linkTo 28 = .ok (.return_, 1) := by decide +kernel
theorem dX10_close_0 : decode cX10_close 0 = .ok (.aload_n 0, 1) := by decide +kernel
theorem dX10_close_1 : decode cX10_close 1 = .ok (.iload_n 1, 1) := by decide +kernel
theorem dX10_close_2 : decode cX10_close 2 = .ok (.iload_n 2, 1) := by decide +kernel
theorem dX10_close_3 : decode cX10_close 3 = .ok (.invokevirtual 80, 3) := by decide +kernel
theorem dX10_close_6 : decode cX10_close 6 = .ok (.istore_n 3, 1) := by decide +kernel
theorem dX10_close_7 : decode cX10_close 7 = .ok (.iload_n 3, 1) := by decide +kernel
theorem dX10_close_8 : decode cX10_close 8 = .ok (.ifCond .lt 66, 3) := by decide +kernel
theorem dX10_close_11 : decode cX10_close 11 = .ok (.aload_n 0, 1) := by decide +kernel
theorem dX10_close_12 : decode cX10_close 12 = .ok (.getfield 11, 3) := by decide +kernel
theorem dX10_close_15 : decode cX10_close 15 = .ok (.iload_n 1, 1) := by decide +kernel
theorem dX10_close_16 : decode cX10_close 16 = .ok (.bipush 16, 2) := by decide +kernel
theorem dX10_close_18 : decode cX10_close 18 = .ok (.imul, 1) := by decide +kernel
theorem dX10_close_19 : decode cX10_close 19 = .ok (.iload_n 2, 1) := by decide +kernel
theorem dX10_close_20 : decode cX10_close 20 = .ok (.iadd, 1) := by decide +kernel
theorem dX10_close_21 : decode cX10_close 21 = .ok (.iconst 0, 1) := by decide +kernel
theorem dX10_close_22 : decode cX10_close 22 = .ok (.iastore, 1) := by decide +kernel
theorem dX10_close_23 : decode cX10_close 23 = .ok (.aload_n 0, 1) := by decide +kernel
theorem dX10_close_24 : decode cX10_close 24 = .ok (.getfield 15, 3) := by decide +kernel
theorem dX10_close_27 : decode cX10_close 27 = .ok (.iload_n 3, 1) := by decide +kernel
theorem dX10_close_28 : decode cX10_close 28 = .ok (.iconst 5, 1) := by decide +kernel
theorem dX10_close_29 : decode cX10_close 29 = .ok (.imul, 1) := by decide +kernel
theorem dX10_close_30 : decode cX10_close 30 = .ok (.iconst 1, 1) := by decide +kernel
theorem dX10_close_31 : decode cX10_close 31 = .ok (.iadd, 1) := by decide +kernel
theorem dX10_close_32 : decode cX10_close 32 = .ok (.dup2, 1) := by decide +kernel
theorem dX10_close_33 : decode cX10_close 33 = .ok (.iaload, 1) := by decide +kernel
theorem dX10_close_34 : decode cX10_close 34 = .ok (.iconst 1, 1) := by decide +kernel
theorem dX10_close_35 : decode cX10_close 35 = .ok (.isub, 1) := by decide +kernel
theorem dX10_close_36 : decode cX10_close 36 = .ok (.iastore, 1) := by decide +kernel
theorem dX10_close_37 : decode cX10_close 37 = .ok (.aload_n 0, 1) := by decide +kernel
theorem dX10_close_38 : decode cX10_close 38 = .ok (.iload_n 3, 1) := by decide +kernel
theorem dX10_close_39 : decode cX10_close 39 = .ok (.iconst 1, 1) := by decide +kernel
theorem dX10_close_40 : decode cX10_close 40 = .ok (.invokevirtual 74, 3) := by decide +kernel
theorem dX10_close_43 : decode cX10_close 43 = .ok (.ifCond .ne 31, 3) := by decide +kernel
theorem dX10_close_46 : decode cX10_close 46 = .ok (.aload_n 0, 1) := by decide +kernel
theorem dX10_close_47 : decode cX10_close 47 = .ok (.aload_n 0, 1) := by decide +kernel
theorem dX10_close_48 : decode cX10_close 48 = .ok (.iload_n 3, 1) := by decide +kernel
theorem dX10_close_49 : decode cX10_close 49 = .ok (.iconst 0, 1) := by decide +kernel
theorem dX10_close_50 : decode cX10_close 50 = .ok (.invokevirtual 74, 3) := by decide +kernel
theorem dX10_close_53 : decode cX10_close 53 = .ok (.aload_n 0, 1) := by decide +kernel
