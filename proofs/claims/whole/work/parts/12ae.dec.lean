theorem dX13_others_130 : decode cX13_others 130 = .ok (.ior, 1) := by decide +kernel
theorem dX13_others_131 : decode cX13_others 131 = .ok (.iload 5, 2) := by decide +kernel
theorem dX13_others_133 : decode cX13_others 133 = .ok (.bipush 12, 2) := by decide +kernel
theorem dX13_others_135 : decode cX13_others 135 = .ok (.ishl, 1) := by decide +kernel
theorem dX13_others_136 : decode cX13_others 136 = .ok (.ior, 1) := by decide +kernel
theorem dX13_others_137 : decode cX13_others 137 = .ok (.invokevirtual 570, 3) := by decide +kernel
theorem dX13_others_140 : decode cX13_others 140 = .ok (.goto 75, 3) := by decide +kernel
theorem dX13_others_143 : decode cX13_others 143 = .ok (.iload 4, 2) := by decide +kernel
theorem dX13_others_145 : decode cX13_others 145 = .ok (.bipush (-33), 2) := by decide +kernel
theorem dX13_others_147 : decode cX13_others 147 = .ok (.if_icmp .le 35, 3) := by decide +kernel
theorem dX13_others_150 : decode cX13_others 150 = .ok (.iload 4, 2) := by decide +kernel
theorem dX13_others_152 : decode cX13_others 152 = .ok (.bipush 32, 2) := by decide +kernel
theorem dX13_others_154 : decode cX13_others 154 = .ok (.if_icmp .ge 28, 3) := by decide +kernel
theorem dX13_others_157 : decode cX13_others 157 = .ok (.iload_n 3, 1) := by decide +kernel
theorem dX13_others_158 : decode cX13_others 158 = .ok (.ifCond .eq 24, 3) := by decide +kernel
theorem dX13_others_161 : decode cX13_others 161 = .ok (.aload_n 0, 1) := by decide +kernel
theorem dX13_others_162 : decode cX13_others 162 = .ok (.sipush 16385, 3) := by decide +kernel
theorem dX13_others_165 : decode cX13_others 165 = .ok (.iload_n 3, 1) := by decide +kernel
theorem dX13_others_166 : decode cX13_others 166 = .ok (.bipush 7, 2) := by decide +kernel
theorem dX13_others_168 : decode cX13_others 168 = .ok (.ishl, 1) := by decide +kernel
theorem dX13_others_169 : decode cX13_others 169 = .ok (.ior, 1) := by decide +kernel
theorem dX13_others_170 : decode cX13_others 170 = .ok (.iload 4, 2) := by decide +kernel
theorem dX13_others_172 : decode cX13_others 172 = .ok (.invokestatic 608, 3) := by decide +kernel
theorem dX13_others_175 : decode cX13_others 175 = .ok (.ior, 1) := by decide +kernel
theorem dX13_others_176 : decode cX13_others 176 = .ok (.invokevirtual 547, 3) := by decide +kernel
theorem dX13_others_179 : decode cX13_others 179 = .ok (.goto 36, 3) := by decide +kernel
theorem dX13_others_182 : decode cX13_others 182 = .ok (.iload 4, 2) := by decide +kernel
theorem dX13_others_184 : decode cX13_others 184 = .ok (.sipush (-2048), 3) := by decide +kernel
theorem dX13_others_187 : decode cX13_others 187 = .ok (.if_icmp .lt 11, 3) := by decide +kernel
theorem dX13_others_190 : decode cX13_others 190 = .ok (.iload 4, 2) := by decide +kernel
theorem dX13_others_192 : decode cX13_others 192 = .ok (.sipush 2047, 3) := by decide +kernel
theorem dX13_others_195 : decode cX13_others 195 = .ok (.if_icmp .le 20, 3) := by decide +kernel
theorem dX13_others_198 : decode cX13_others 198 = .ok (.aload_n 0, 1) := by decide +kernel
theorem dX13_others_199 : decode cX13_others 199 = .ok (.bipush 55, 2) := by decide +kernel
theorem dX13_others_201 : decode cX13_others 201 = .ok (.iload_n 3, 1) := by decide +kernel
theorem dX13_others_202 : decode cX13_others 202 = .ok (.bipush 7, 2) := by decide +kernel
theorem dX13_others_204 : decode cX13_others 204 = .ok (.ishl, 1) := by decide +kernel
theorem dX13_others_205 : decode cX13_others 205 = .ok (.ior, 1) := by decide +kernel
theorem dX13_others_206 : decode cX13_others 206 = .ok (.iload 5, 2) := by decide +kernel
theorem dX13_others_208 : decode cX13_others 208 = .ok (.bipush 12, 2) := by decide +kernel
theorem dX13_others_210 : decode cX13_others 210 = .ok (.ishl, 1) := by decide +kernel
theorem dX13_others_211 : decode cX13_others 211 = .ok (.ior, 1) := by decide +kernel
theorem dX13_others_212 : decode cX13_others 212 = .ok (.invokevirtual 570, 3) := by decide +kernel
theorem dX13_others_215 : decode cX13_others 215 = .ok (.iload_n 1, 1) := by decide +kernel
theorem dX13_others_216 : decode cX13_others 216 = .ok (.bipush 38, 2) := by decide +kernel
theorem dX13_others_218 : decode cX13_others 218 = .ok (.if_icmp .eq 24, 3) := by decide +kernel
theorem dX13_others_221 : decode cX13_others 221 = .ok (.iload 4, 2) := by decide +kernel
theorem dX13_others_223 : decode cX13_others 223 = .ok (.sipush (-2048), 3) := by decide +kernel
theorem dX13_others_226 : decode cX13_others 226 = .ok (.if_icmp .lt 11, 3) := by decide +kernel
theorem dX13_others_229 : decode cX13_others 229 = .ok (.iload 4, 2) := by decide +kernel
theorem dX13_others_231 : decode cX13_others 231 = .ok (.sipush 2047, 3) := by decide +kernel
theorem dX13_others_234 : decode cX13_others 234 = .ok (.if_icmp .le 30, 3) := by decide +kernel
theorem dX13_others_237 : decode cX13_others 237 = .ok (.iload 6, 2) := by decide +kernel
theorem dX13_others_239 : decode cX13_others 239 = .ok (.ifCond .eq 25, 3) := by decide +kernel
theorem dX13_others_242 : decode cX13_others 242 = .ok (.aload_n 0, 1) := by decide +kernel
theorem dX13_others_243 : decode cX13_others 243 = .ok (.bipush 19, 2) := by decide +kernel
theorem dX13_others_245 : decode cX13_others 245 = .ok (.iload_n 3, 1) := by decide +kernel
theorem dX13_others_246 : decode cX13_others 246 = .ok (.bipush 7, 2) := by decide +kernel
theorem dX13_others_248 : decode cX13_others 248 = .ok (.ishl, 1) := by decide +kernel
theorem dX13_others_249 : decode cX13_others 249 = .ok (.ior, 1) := by decide +kernel
theorem dX13_others_250 : decode cX13_others 250 = .ok (.iload_n 3, 1) := by decide +kernel
theorem dX13_others_251 : decode cX13_others 251 = .ok (.bipush 15, 2) := by decide +kernel
theorem dX13_others_253 : decode cX13_others 253 = .ok (.ishl, 1) := by decide +kernel
theorem dX13_others_254 : decode cX13_others 254 = .ok (.ior, 1) := by decide +kernel
theorem dX13_others_255 : decode cX13_others 255 = .ok (.iload 6, 2) := by decide +kernel
theorem dX13_others_257 : decode cX13_others 257 = .ok (.bipush 20, 2) := by decide +kernel
theorem dX13_others_259 : decode cX13_others 259 = .ok (.ishl, 1) := by decide +kernel
theorem dX13_others_260 : decode cX13_others 260 = .ok (.ior, 1) := by decide +kernel
theorem dX13_others_261 : decode cX13_others 261 = .ok (.invokevirtual 570, 3) := by decide +kernel
theorem dX13_others_264 : decode cX13_others 264 = .ok (.iload_n 1, 1) := by decide +kernel
theorem dX13_others_265 : decode cX13_others 265 = .ok (.bipush 39, 2) := by decide +kernel
theorem dX13_others_267 : decode cX13_others 267 = .ok (.if_icmp .ne 54, 3) := by decide +kernel
theorem dX13_others_270 : decode cX13_others 270 = .ok (.iload 4, 2) := by decide +kernel
theorem dX13_others_272 : decode cX13_others 272 = .ok (.sipush (-2049), 3) := by decide +kernel
theorem dX13_others_275 : decode cX13_others 275 = .ok (.if_icmp .le 46, 3) := by decide +kernel
theorem dX13_others_278 : decode cX13_others 278 = .ok (.iload 4, 2) := by decide +kernel
theorem dX13_others_280 : decode cX13_others 280 = .ok (.sipush 2048, 3) := by decide +kernel
theorem dX13_others_283 : decode cX13_others 283 = .ok (.if_icmp .ge 38, 3) := by decide +kernel
theorem dX13_others_286 : decode cX13_others 286 = .ok (.iload_n 3, 1) := by decide +kernel
theorem dX13_others_287 : decode cX13_others 287 = .ok (.ifCond .eq 17, 3) := by decide +kernel
theorem dX13_others_290 : decode cX13_others 290 = .ok (.iload 4, 2) := by decide +kernel
theorem dX13_others_292 : decode cX13_others 292 = .ok (.bipush (-32), 2) := by decide +kernel
theorem dX13_others_294 : decode cX13_others 294 = .ok (.if_icmp .lt 10, 3) := by decide +kernel
theorem dX13_others_297 : decode cX13_others 297 = .ok (.iload 4, 2) := by decide +kernel
theorem dX13_others_299 : decode cX13_others 299 = .ok (.bipush 31, 2) := by decide +kernel
theorem dX13_others_301 : decode cX13_others 301 = .ok (.if_icmp .le 20, 3) := by decide +kernel
theorem dX13_others_304 : decode cX13_others 304 = .ok (.aload_n 0, 1) := by decide +kernel
theorem dX13_others_305 : decode cX13_others 305 = .ok (.bipush 19, 2) := by decide +kernel
theorem dX13_others_307 : decode cX13_others 307 = .ok (.iload_n 3, 1) := by decide +kernel
theorem dX13_others_308 : decode cX13_others 308 = .ok (.bipush 7, 2) := by decide +kernel
theorem dX13_others_310 : decode cX13_others 310 = .ok (.ishl, 1) := by decide +kernel
theorem dX13_others_311 : decode cX13_others 311 = .ok (.ior, 1) := by decide +kernel
theorem dX13_others_312 : decode cX13_others 312 = .ok (.iload 4, 2) := by decide +kernel
theorem dX13_others_314 : decode cX13_others 314 = .ok (.bipush 20, 2) := by decide +kernel
theorem dX13_others_316 : decode cX13_others 316 = .ok (.ishl, 1) := by decide +kernel
theorem dX13_others_317 : decode cX13_others 317 = .ok (.ior, 1) := by decide +kernel
theorem dX13_others_318 : decode cX13_others 318 = .ok (.invokevirtual 570, 3) := by decide +kernel
theorem dX13_others_321 : decode cX13_others 321 = .ok (.return_, 1) := by decide +kernel
theorem dX13_notZero_0 : decode cX13_notZero 0 = .ok (.aload_n 0, 1) := by decide +kernel
theorem dX13_notZero_1 : decode cX13_notZero 1 = .ok (.getfield 522, 3) := by decide +kernel
theorem dX13_notZero_4 : decode cX13_notZero 4 = .ok (.iconst 2, 1) := by decide +kernel
theorem dX13_notZero_5 : decode cX13_notZero 5 = .ok (.if_icmp .ne 13, 3) := by decide +kernel
theorem dX13_notZero_8 : decode cX13_notZero 8 = .ok (.iload_n 1, 1) := by decide +kernel
theorem dX13_notZero_9 : decode cX13_notZero 9 = .ok (.ifCond .ne 9, 3) := by decide +kernel
theorem dX13_notZero_12 : decode cX13_notZero 12 = .ok (.aload_n 0, 1) := by decide +kernel
theorem dX13_notZero_13 : decode cX13_notZero 13 = .ok (.bipush 10, 2) := by decide +kernel
theorem dX13_notZero_15 : decode cX13_notZero 15 = .ok (.invokevirtual 419, 3) := by decide +kernel
theorem dX13_notZero_18 : decode cX13_notZero 18 = .ok (.return_, 1) := by decide +kernel
theorem dX13_shorts_0 : decode cX13_shorts 0 = .ok (.iload_n 1, 1) := by decide +kernel
theorem dX13_shorts_1 : decode cX13_shorts 1 = .ok (.bipush 19, 2) := by decide +kernel
theorem dX13_shorts_3 : decode cX13_shorts 3 = .ok (.if_icmp .ne 36, 3) := by decide +kernel
theorem dX13_shorts_6 : decode cX13_shorts 6 = .ok (.aload_n 0, 1) := by decide +kernel
theorem dX13_shorts_7 : decode cX13_shorts 7 = .ok (.invokevirtual 525, 3) := by decide +kernel
theorem dX13_shorts_10 : decode cX13_shorts 10 = .ok (.aload_n 0, 1) := by decide +kernel
theorem dX13_shorts_11 : decode cX13_shorts 11 = .ok (.getfield 486, 3) := by decide +kernel
theorem dX13_shorts_14 : decode cX13_shorts 14 = .ok (.isub, 1) := by decide +kernel
theorem dX13_shorts_15 : decode cX13_shorts 15 = .ok (.istore_n 3, 1) := by decide +kernel
theorem dX13_shorts_16 : decode cX13_shorts 16 = .ok (.aload_n 0, 1) := by decide +kernel
theorem dX13_shorts_17 : decode cX13_shorts 17 = .ok (.iload_n 3, 1) := by decide +kernel
theorem dX13_shorts_18 : decode cX13_shorts 18 = .ok (.sipush (-2048), 3) := by decide +kernel
theorem dX13_shorts_21 : decode cX13_shorts 21 = .ok (.sipush 2046, 3) := by decide +kernel
theorem dX13_shorts_24 : decode cX13_shorts 24 = .ok (.iconst 2, 1) := by decide +kernel
theorem dX13_shorts_25 : decode cX13_shorts 25 = .ok (.invokevirtual 528, 3) := by decide +kernel
theorem dX13_shorts_28 : decode cX13_shorts 28 = .ok (.aload_n 0, 1) := by decide +kernel
theorem dX13_shorts_29 : decode cX13_shorts 29 = .ok (.iload_n 2, 1) := by decide +kernel
theorem dX13_shorts_30 : decode cX13_shorts 30 = .ok (.iload_n 3, 1) := by decide +kernel
theorem dX13_shorts_31 : decode cX13_shorts 31 = .ok (.invokestatic 564, 3) := by decide +kernel
theorem dX13_shorts_34 : decode cX13_shorts 34 = .ok (.ior, 1) := by decide +kernel
theorem dX13_shorts_35 : decode cX13_shorts 35 = .ok (.invokevirtual 547, 3) := by decide +kernel
theorem dX13_shorts_38 : decode cX13_shorts 38 = .ok (.return_, 1) := by decide +kernel
theorem dX13_shorts_39 : decode cX13_shorts 39 = .ok (.iload_n 1, 1) := by decide +kernel
theorem dX13_shorts_40 : decode cX13_shorts 40 = .ok (.bipush 20, 2) := by decide +kernel
theorem dX13_shorts_42 : decode cX13_shorts 42 = .ok (.if_icmp .ne 75, 3) := by decide +kernel
theorem dX13_shorts_45 : decode cX13_shorts 45 = .ok (.aload_n 0, 1) := by decide +kernel
theorem dX13_shorts_46 : decode cX13_shorts 46 = .ok (.sipush (-512), 3) := by decide +kernel
theorem dX13_shorts_49 : decode cX13_shorts 49 = .ok (.sipush 496, 3) := by decide +kernel
theorem dX13_shorts_52 : decode cX13_shorts 52 = .ok (.bipush 16, 2) := by decide +kernel
theorem dX13_shorts_54 : decode cX13_shorts 54 = .ok (.invokevirtual 585, 3) := by decide +kernel
theorem dX13_shorts_57 : decode cX13_shorts 57 = .ok (.istore_n 3, 1) := by decide +kernel
theorem dX13_shorts_58 : decode cX13_shorts 58 = .ok (.aload_n 0, 1) := by decide +kernel
theorem dX13_shorts_59 : decode cX13_shorts 59 = .ok (.iload_n 3, 1) := by decide +kernel
theorem dX13_shorts_60 : decode cX13_shorts 60 = .ok (.invokevirtual 611, 3) := by decide +kernel
theorem dX13_shorts_63 : decode cX13_shorts 63 = .ok (.aload_n 0, 1) := by decide +kernel
theorem dX13_shorts_64 : decode cX13_shorts 64 = .ok (.iload_n 2, 1) := by decide +kernel
theorem dX13_shorts_65 : decode cX13_shorts 65 = .ok (.iload_n 3, 1) := by decide +kernel
theorem dX13_shorts_66 : decode cX13_shorts 66 = .ok (.bipush 9, 2) := by decide +kernel
theorem dX13_shorts_68 : decode cX13_shorts 68 = .ok (.bipush 9, 2) := by decide +kernel
theorem dX13_shorts_70 : decode cX13_shorts 70 = .ok (.bipush 12, 2) := by decide +kernel
theorem dX13_shorts_72 : decode cX13_shorts 72 = .ok (.invokestatic 550, 3) := by decide +kernel
theorem dX13_shorts_75 : decode cX13_shorts 75 = .ok (.ior, 1) := by decide +kernel
theorem dX13_shorts_76 : decode cX13_shorts 76 = .ok (.iload_n 3, 1) := by decide +kernel
theorem dX13_shorts_77 : decode cX13_shorts 77 = .ok (.iconst 4, 1) := by decide +kernel
theorem dX13_shorts_78 : decode cX13_shorts 78 = .ok (.iconst 4, 1) := by decide +kernel
theorem dX13_shorts_79 : decode cX13_shorts 79 = .ok (.bipush 6, 2) := by decide +kernel
theorem dX13_shorts_81 : decode cX13_shorts 81 = .ok (.invokestatic 550, 3) := by decide +kernel
theorem dX13_shorts_84 : decode cX13_shorts 84 = .ok (.ior, 1) := by decide +kernel
theorem dX13_shorts_85 : decode cX13_shorts 85 = .ok (.iload_n 3, 1) := by decide +kernel
theorem dX13_shorts_86 : decode cX13_shorts 86 = .ok (.bipush 6, 2) := by decide +kernel
theorem dX13_shorts_88 : decode cX13_shorts 88 = .ok (.bipush 6, 2) := by decide +kernel
theorem dX13_shorts_90 : decode cX13_shorts 90 = .ok (.iconst 5, 1) := by decide +kernel
theorem dX13_shorts_91 : decode cX13_shorts 91 = .ok (.invokestatic 550, 3) := by decide +kernel
theorem dX13_shorts_94 : decode cX13_shorts 94 = .ok (.ior, 1) := by decide +kernel
theorem dX13_shorts_95 : decode cX13_shorts 95 = .ok (.iload_n 3, 1) := by decide +kernel
theorem dX13_shorts_96 : decode cX13_shorts 96 = .ok (.bipush 8, 2) := by decide +kernel
theorem dX13_shorts_98 : decode cX13_shorts 98 = .ok (.bipush 7, 2) := by decide +kernel
theorem dX13_shorts_100 : decode cX13_shorts 100 = .ok (.iconst 3, 1) := by decide +kernel
theorem dX13_shorts_101 : decode cX13_shorts 101 = .ok (.invokestatic 550, 3) := by decide +kernel
theorem dX13_shorts_104 : decode cX13_shorts 104 = .ok (.ior, 1) := by decide +kernel
theorem dX13_shorts_105 : decode cX13_shorts 105 = .ok (.iload_n 3, 1) := by decide +kernel
theorem dX13_shorts_106 : decode cX13_shorts 106 = .ok (.iconst 5, 1) := by decide +kernel
theorem dX13_shorts_107 : decode cX13_shorts 107 = .ok (.iconst 5, 1) := by decide +kernel
theorem dX13_shorts_108 : decode cX13_shorts 108 = .ok (.iconst 2, 1) := by decide +kernel
theorem dX13_shorts_109 : decode cX13_shorts 109 = .ok (.invokestatic 550, 3) := by decide +kernel
theorem dX13_shorts_112 : decode cX13_shorts 112 = .ok (.ior, 1) := by decide +kernel
theorem dX13_shorts_113 : decode cX13_shorts 113 = .ok (.invokevirtual 547, 3) := by decide +kernel
theorem dX13_shorts_116 : decode cX13_shorts 116 = .ok (.return_, 1) := by decide +kernel
theorem dX13_shorts_117 : decode cX13_shorts 117 = .ok (.iload_n 1, 1) := by decide +kernel
theorem dX13_shorts_118 : decode cX13_shorts 118 = .ok (.bipush 16, 2) := by decide +kernel
theorem dX13_shorts_120 : decode cX13_shorts 120 = .ok (.if_icmp .lt 15, 3) := by decide +kernel
theorem dX13_shorts_123 : decode cX13_shorts 123 = .ok (.iload_n 1, 1) := by decide +kernel
theorem dX13_shorts_124 : decode cX13_shorts 124 = .ok (.bipush 20, 2) := by decide +kernel
theorem dX13_shorts_126 : decode cX13_shorts 126 = .ok (.if_icmp .le 13, 3) := by decide +kernel
theorem dX13_shorts_129 : decode cX13_shorts 129 = .ok (.iload_n 1, 1) := by decide +kernel
theorem dX13_shorts_130 : decode cX13_shorts 130 = .ok (.bipush 25, 2) := by decide +kernel
theorem dX13_shorts_132 : decode cX13_shorts 132 = .ok (.if_icmp .ge 7, 3) := by decide +kernel
theorem dX13_shorts_135 : decode cX13_shorts 135 = .ok (.iconst 1, 1) := by decide +kernel
theorem dX13_shorts_136 : decode cX13_shorts 136 = .ok (.goto 4, 3) := by decide +kernel
theorem dX13_shorts_139 : decode cX13_shorts 139 = .ok (.iconst 0, 1) := by decide +kernel
theorem dX13_shorts_140 : decode cX13_shorts 140 = .ok (.istore_n 3, 1) := by decide +kernel
theorem dX13_shorts_141 : decode cX13_shorts 141 = .ok (.iload_n 3, 1) := by decide +kernel
theorem dX13_shorts_142 : decode cX13_shorts 142 = .ok (.ifCond .eq 10, 3) := by decide +kernel
theorem dX13_shorts_145 : decode cX13_shorts 145 = .ok (.aload_n 0, 1) := by decide +kernel
theorem dX13_shorts_146 : decode cX13_shorts 146 = .ok (.invokevirtual 614, 3) := by decide +kernel
theorem dX13_shorts_149 : decode cX13_shorts 149 = .ok (.goto 7, 3) := by decide +kernel
theorem dX13_shorts_152 : decode cX13_shorts 152 = .ok (.aload_n 0, 1) := by decide +kernel
theorem dX13_shorts_153 : decode cX13_shorts 153 = .ok (.invokevirtual 532, 3) := by decide +kernel
theorem dX13_shorts_156 : decode cX13_shorts 156 = .ok (.istore 4, 2) := by decide +kernel
theorem dX13_shorts_158 : decode cX13_shorts 158 = .ok (.iload_n 1, 1) := by decide +kernel
theorem dX13_shorts_159 : decode cX13_shorts 159 = .ok (.bipush 27, 2) := by decide +kernel
theorem dX13_shorts_161 : decode cX13_shorts 161 = .ok (.if_icmp .ne 20, 3) := by decide +kernel
theorem dX13_shorts_164 : decode cX13_shorts 164 = .ok (.aload_n 0, 1) := by decide +kernel
theorem dX13_shorts_165 : decode cX13_shorts 165 = .ok (.iload_n 2, 1) := by decide +kernel
theorem dX13_shorts_166 : decode cX13_shorts 166 = .ok (.aload_n 0, 1) := by decide +kernel
theorem dX13_shorts_167 : decode cX13_shorts 167 = .ok (.iload 4, 2) := by decide +kernel
theorem dX13_shorts_169 : decode cX13_shorts 169 = .ok (.iconst 0, 1) := by decide +kernel
theorem dX13_shorts_170 : decode cX13_shorts 170 = .ok (.invokevirtual 617, 3) := by decide +kernel
theorem dX13_shorts_173 : decode cX13_shorts 173 = .ok (.bipush 7, 2) := by decide +kernel
theorem dX13_shorts_175 : decode cX13_shorts 175 = .ok (.ishl, 1) := by decide +kernel
theorem dX13_shorts_176 : decode cX13_shorts 176 = .ok (.ior, 1) := by decide +kernel
theorem dX13_shorts_177 : decode cX13_shorts 177 = .ok (.invokevirtual 547, 3) := by decide +kernel
theorem dX13_shorts_180 : decode cX13_shorts 180 = .ok (.return_, 1) := by decide +kernel
theorem dX13_shorts_181 : decode cX13_shorts 181 = .ok (.iload_n 1, 1) := by decide +kernel
theorem dX13_shorts_182 : decode cX13_shorts 182 = .ok (.bipush 26, 2) := by decide +kernel
theorem dX13_shorts_184 : decode cX13_shorts 184 = .ok (.if_icmp .ne 11, 3) := by decide +kernel
theorem dX13_shorts_187 : decode cX13_shorts 187 = .ok (.aload_n 0, 1) := by decide +kernel
theorem dX13_shorts_188 : decode cX13_shorts 188 = .ok (.iload 4, 2) := by decide +kernel
theorem dX13_shorts_190 : decode cX13_shorts 190 = .ok (.iconst 0, 1) := by decide +kernel
theorem dX13_shorts_191 : decode cX13_shorts 191 = .ok (.invokevirtual 617, 3) := by decide +kernel
theorem dX13_shorts_194 : decode cX13_shorts 194 = .ok (.pop, 1) := by decide +kernel
theorem dX13_shorts_195 : decode cX13_shorts 195 = .ok (.iload_n 1, 1) := by decide +kernel
theorem dX13_shorts_196 : decode cX13_shorts 196 = .ok (.bipush 18, 2) := by decide +kernel
theorem dX13_shorts_198 : decode cX13_shorts 198 = .ok (.if_icmp .ne 7, 3) := by decide +kernel
theorem dX13_shorts_201 : decode cX13_shorts 201 = .ok (.iconst 1, 1) := by decide +kernel
theorem dX13_shorts_202 : decode cX13_shorts 202 = .ok (.goto 4, 3) := by decide +kernel
theorem dX13_shorts_205 : decode cX13_shorts 205 = .ok (.iconst 0, 1) := by decide +kernel
theorem dX13_shorts_206 : decode cX13_shorts 206 = .ok (.istore 5, 2) := by decide +kernel
theorem dX13_shorts_208 : decode cX13_shorts 208 = .ok (.iload 5, 2) := by decide +kernel
theorem dX13_shorts_210 : decode cX13_shorts 210 = .ok (.ifCond .eq 11, 3) := by decide +kernel
theorem dX13_shorts_213 : decode cX13_shorts 213 = .ok (.aload_n 0, 1) := by decide +kernel
theorem dX13_shorts_214 : decode cX13_shorts 214 = .ok (.iload 4, 2) := by decide +kernel
theorem dX13_shorts_216 : decode cX13_shorts 216 = .ok (.iconst 2, 1) := by decide +kernel
theorem dX13_shorts_217 : decode cX13_shorts 217 = .ok (.invokevirtual 617, 3) := by decide +kernel
theorem dX13_shorts_220 : decode cX13_shorts 220 = .ok (.pop, 1) := by decide +kernel
theorem dX13_shorts_221 : decode cX13_shorts 221 = .ok (.aload_n 0, 1) := by decide +kernel
theorem dX13_shorts_222 : decode cX13_shorts 222 = .ok (.invokevirtual 582, 3) := by decide +kernel
theorem dX13_shorts_225 : decode cX13_shorts 225 = .ok (.ifCond .ne 4, 3) := by decide +kernel
theorem dX13_shorts_228 : decode cX13_shorts 228 = .ok (.return_, 1) := by decide +kernel
theorem dX13_shorts_229 : decode cX13_shorts 229 = .ok (.iload_n 3, 1) := by decide +kernel
theorem dX13_shorts_230 : decode cX13_shorts 230 = .ok (.ifCond .eq 14, 3) := by decide +kernel
theorem dX13_shorts_233 : decode cX13_shorts 233 = .ok (.aload_n 0, 1) := by decide +kernel
theorem dX13_shorts_234 : decode cX13_shorts 234 = .ok (.iload_n 1, 1) := by decide +kernel
theorem dX13_shorts_235 : decode cX13_shorts 235 = .ok (.iload_n 2, 1) := by decide +kernel
theorem dX13_shorts_236 : decode cX13_shorts 236 = .ok (.iload 4, 2) := by decide +kernel
theorem dX13_shorts_238 : decode cX13_shorts 238 = .ok (.invokevirtual 620, 3) := by decide +kernel
theorem dX13_shorts_241 : decode cX13_shorts 241 = .ok (.goto 100, 3) := by decide +kernel
theorem dX13_shorts_244 : decode cX13_shorts 244 = .ok (.iload_n 1, 1) := by decide +kernel
theorem dX13_shorts_245 : decode cX13_shorts 245 = .ok (.bipush 28, 2) := by decide +kernel
theorem dX13_shorts_247 : decode cX13_shorts 247 = .ok (.if_icmp .ne 29, 3) := by decide +kernel
theorem dX13_shorts_250 : decode cX13_shorts 250 = .ok (.aload_n 0, 1) := by decide +kernel
theorem dX13_shorts_251 : decode cX13_shorts 251 = .ok (.iload_n 2, 1) := by decide +kernel
theorem dX13_shorts_252 : decode cX13_shorts 252 = .ok (.iload 4, 2) := by decide +kernel
theorem dX13_shorts_254 : decode cX13_shorts 254 = .ok (.bipush 7, 2) := by decide +kernel
theorem dX13_shorts_256 : decode cX13_shorts 256 = .ok (.ishl, 1) := by decide +kernel
theorem dX13_shorts_257 : decode cX13_shorts 257 = .ok (.ior, 1) := by decide +kernel
theorem dX13_shorts_258 : decode cX13_shorts 258 = .ok (.aload_n 0, 1) := by decide +kernel
theorem dX13_shorts_259 : decode cX13_shorts 259 = .ok (.aload_n 0, 1) := by decide +kernel
theorem dX13_shorts_260 : decode cX13_shorts 260 = .ok (.invokevirtual 532, 3) := by decide +kernel
theorem dX13_shorts_263 : decode cX13_shorts 263 = .ok (.iconst 0, 1) := by decide +kernel
theorem dX13_shorts_264 : decode cX13_shorts 264 = .ok (.invokevirtual 617, 3) := by decide +kernel
theorem dX13_shorts_267 : decode cX13_shorts 267 = .ok (.iconst 2, 1) := by decide +kernel
theorem dX13_shorts_268 : decode cX13_shorts 268 = .ok (.ishl, 1) := by decide +kernel
theorem dX13_shorts_269 : decode cX13_shorts 269 = .ok (.ior, 1) := by decide +kernel
theorem dX13_shorts_270 : decode cX13_shorts 270 = .ok (.invokevirtual 547, 3) := by decide +kernel
theorem dX13_shorts_273 : decode cX13_shorts 273 = .ok (.goto 68, 3) := by decide +kernel
theorem dX13_shorts_276 : decode cX13_shorts 276 = .ok (.iload_n 1, 1) := by decide +kernel
theorem dX13_shorts_277 : decode cX13_shorts 277 = .ok (.bipush 17, 2) := by decide +kernel
theorem dX13_shorts_279 : decode cX13_shorts 279 = .ok (.if_icmp .eq 8, 3) := by decide +kernel
theorem dX13_shorts_282 : decode cX13_shorts 282 = .ok (.iload 5, 2) := by decide +kernel
theorem dX13_shorts_284 : decode cX13_shorts 284 = .ok (.ifCond .eq 15, 3) := by decide +kernel
theorem dX13_shorts_287 : decode cX13_shorts 287 = .ok (.aload_n 0, 1) := by decide +kernel
theorem dX13_shorts_288 : decode cX13_shorts 288 = .ok (.iload_n 2, 1) := by decide +kernel
theorem dX13_shorts_289 : decode cX13_shorts 289 = .ok (.iload 4, 2) := by decide +kernel
theorem dX13_shorts_291 : decode cX13_shorts 291 = .ok (.iload 5, 2) := by decide +kernel
theorem dX13_shorts_293 : decode cX13_shorts 293 = .ok (.invokevirtual 624, 3) := by decide +kernel
theorem dX13_shorts_296 : decode cX13_shorts 296 = .ok (.goto 45, 3) := by decide +kernel
theorem dX13_shorts_299 : decode cX13_shorts 299 = .ok (.iload_n 1, 1) := by decide +kernel
theorem dX13_shorts_300 : decode cX13_shorts 300 = .ok (.bipush 25, 2) := by decide +kernel
theorem dX13_shorts_302 : decode cX13_shorts 302 = .ok (.if_icmp .ne 31, 3) := by decide +kernel
theorem dX13_shorts_305 : decode cX13_shorts 305 = .ok (.aload_n 0, 1) := by decide +kernel
theorem dX13_shorts_306 : decode cX13_shorts 306 = .ok (.iload_n 2, 1) := by decide +kernel
theorem dX13_shorts_307 : decode cX13_shorts 307 = .ok (.iload 4, 2) := by decide +kernel
theorem dX13_shorts_309 : decode cX13_shorts 309 = .ok (.bipush 7, 2) := by decide +kernel
theorem dX13_shorts_311 : decode cX13_shorts 311 = .ok (.ishl, 1) := by decide +kernel
theorem dX13_shorts_312 : decode cX13_shorts 312 = .ok (.ior, 1) := by decide +kernel
theorem dX13_shorts_313 : decode cX13_shorts 313 = .ok (.aload_n 0, 1) := by decide +kernel
theorem dX13_shorts_314 : decode cX13_shorts 314 = .ok (.iconst 0, 1) := by decide +kernel
theorem dX13_shorts_315 : decode cX13_shorts 315 = .ok (.bipush 31, 2) := by decide +kernel
theorem dX13_shorts_317 : decode cX13_shorts 317 = .ok (.iconst 1, 1) := by decide +kernel
theorem dX13_shorts_318 : decode cX13_shorts 318 = .ok (.invokevirtual 585, 3) := by decide +kernel
theorem dX13_shorts_321 : decode cX13_shorts 321 = .ok (.bipush 31, 2) := by decide +kernel
theorem dX13_shorts_323 : decode cX13_shorts 323 = .ok (.iand, 1) := by decide +kernel
theorem dX13_shorts_324 : decode cX13_shorts 324 = .ok (.iconst 2, 1) := by decide +kernel
theorem dX13_shorts_325 : decode cX13_shorts 325 = .ok (.ishl, 1) := by decide +kernel
theorem dX13_shorts_326 : decode cX13_shorts 326 = .ok (.ior, 1) := by decide +kernel
theorem dX13_shorts_327 : decode cX13_shorts 327 = .ok (.invokevirtual 547, 3) := by decide +kernel
theorem dX13_shorts_330 : decode cX13_shorts 330 = .ok (.goto 11, 3) := by decide +kernel
theorem dX13_shorts_333 : decode cX13_shorts 333 = .ok (.aload_n 0, 1) := by decide +kernel
theorem dX13_shorts_334 : decode cX13_shorts 334 = .ok (.iload_n 1, 1) := by decide +kernel
theorem dX13_shorts_335 : decode cX13_shorts 335 = .ok (.iload_n 2, 1) := by decide +kernel
theorem dX13_shorts_336 : decode cX13_shorts 336 = .ok (.iload 4, 2) := by decide +kernel
theorem dX13_shorts_338 : decode cX13_shorts 338 = .ok (.invokevirtual 628, 3) := by decide +kernel
theorem dX13_shorts_341 : decode cX13_shorts 341 = .ok (.return_, 1) := by decide +kernel
theorem dX13_plainSix_0 : decode cX13_plainSix 0 = .ok (.aload_n 0, 1) := by decide +kernel
theorem dX13_plainSix_1 : decode cX13_plainSix 1 = .ok (.bipush (-32), 2) := by decide +kernel
theorem dX13_plainSix_3 : decode cX13_plainSix 3 = .ok (.bipush 31, 2) := by decide +kernel
theorem dX13_plainSix_5 : decode cX13_plainSix 5 = .ok (.iconst 1, 1) := by decide +kernel
theorem dX13_plainSix_6 : decode cX13_plainSix 6 = .ok (.invokevirtual 585, 3) := by decide +kernel
theorem dX13_plainSix_9 : decode cX13_plainSix 9 = .ok (.istore 4, 2) := by decide +kernel
theorem dX13_plainSix_11 : decode cX13_plainSix 11 = .ok (.iload_n 3, 1) := by decide +kernel
theorem dX13_plainSix_12 : decode cX13_plainSix 12 = .ok (.ifCond .eq 9, 3) := by decide +kernel
theorem dX13_plainSix_15 : decode cX13_plainSix 15 = .ok (.aload_n 0, 1) := by decide +kernel
theorem dX13_plainSix_16 : decode cX13_plainSix 16 = .ok (.iload 4, 2) := by decide +kernel
theorem dX13_plainSix_18 : decode cX13_plainSix 18 = .ok (.invokevirtual 611, 3) := by decide +kernel
theorem dX13_plainSix_21 : decode cX13_plainSix 21 = .ok (.aload_n 0, 1) := by decide +kernel
theorem dX13_plainSix_22 : decode cX13_plainSix 22 = .ok (.iload_n 1, 1) := by decide +kernel
theorem dX13_plainSix_23 : decode cX13_plainSix 23 = .ok (.iload_n 2, 1) := by decide +kernel
theorem dX13_plainSix_24 : decode cX13_plainSix 24 = .ok (.bipush 7, 2) := by decide +kernel
theorem dX13_plainSix_26 : decode cX13_plainSix 26 = .ok (.ishl, 1) := by decide +kernel
theorem dX13_plainSix_27 : decode cX13_plainSix 27 = .ok (.ior, 1) := by decide +kernel
theorem dX13_plainSix_28 : decode cX13_plainSix 28 = .ok (.iload 4, 2) := by decide +kernel
theorem dX13_plainSix_30 : decode cX13_plainSix 30 = .ok (.invokestatic 608, 3) := by decide +kernel
theorem dX13_plainSix_33 : decode cX13_plainSix 33 = .ok (.ior, 1) := by decide +kernel
theorem dX13_plainSix_34 : decode cX13_plainSix 34 = .ok (.invokevirtual 547, 3) := by decide +kernel
theorem dX13_plainSix_37 : decode cX13_plainSix 37 = .ok (.return_, 1) := by decide +kernel
theorem dX13_stacked_0 : decode cX13_stacked 0 = .ok (.aload_n 0, 1) := by decide +kernel
theorem dX13_stacked_1 : decode cX13_stacked 1 = .ok (.iconst 0, 1) := by decide +kernel
theorem dX13_stacked_2 : decode cX13_stacked 2 = .ok (.sipush 252, 3) := by decide +kernel
theorem dX13_stacked_5 : decode cX13_stacked 5 = .ok (.iconst 4, 1) := by decide +kernel
theorem dX13_stacked_6 : decode cX13_stacked 6 = .ok (.invokevirtual 585, 3) := by decide +kernel
theorem dX13_stacked_9 : decode cX13_stacked 9 = .ok (.istore 4, 2) := by decide +kernel
theorem dX13_stacked_11 : decode cX13_stacked 11 = .ok (.aload_n 0, 1) := by decide +kernel
theorem dX13_stacked_12 : decode cX13_stacked 12 = .ok (.iload_n 1, 1) := by decide +kernel
theorem dX13_stacked_13 : decode cX13_stacked 13 = .ok (.bipush 26, 2) := by decide +kernel
theorem dX13_stacked_15 : decode cX13_stacked 15 = .ok (.if_icmp .ne 42, 3) := by decide +kernel
theorem dX13_stacked_18 : decode cX13_stacked 18 = .ok (.iload_n 2, 1) := by decide +kernel
theorem dX13_stacked_19 : decode cX13_stacked 19 = .ok (.iload_n 3, 1) := by decide +kernel
theorem dX13_stacked_20 : decode cX13_stacked 20 = .ok (.bipush 7, 2) := by decide +kernel
theorem dX13_stacked_22 : decode cX13_stacked 22 = .ok (.ishl, 1) := by decide +kernel
theorem dX13_stacked_23 : decode cX13_stacked 23 = .ok (.ior, 1) := by decide +kernel
theorem dX13_stacked_24 : decode cX13_stacked 24 = .ok (.iload 4, 2) := by decide +kernel
theorem dX13_stacked_26 : decode cX13_stacked 26 = .ok (.iconst 5, 1) := by decide +kernel
theorem dX13_stacked_27 : decode cX13_stacked 27 = .ok (.iconst 5, 1) := by decide +kernel
theorem dX13_stacked_28 : decode cX13_stacked 28 = .ok (.bipush 12, 2) := by decide +kernel
theorem dX13_stacked_30 : decode cX13_stacked 30 = .ok (.invokestatic 550, 3) := by decide +kernel
theorem dX13_stacked_33 : decode cX13_stacked 33 = .ok (.ior, 1) := by decide +kernel
theorem dX13_stacked_34 : decode cX13_stacked 34 = .ok (.iload 4, 2) := by decide +kernel
theorem dX13_stacked_36 : decode cX13_stacked 36 = .ok (.iconst 4, 1) := by decide +kernel
theorem dX13_stacked_37 : decode cX13_stacked 37 = .ok (.iconst 2, 1) := by decide +kernel
theorem dX13_stacked_38 : decode cX13_stacked 38 = .ok (.iconst 4, 1) := by decide +kernel
theorem dX13_stacked_39 : decode cX13_stacked 39 = .ok (.invokestatic 550, 3) := by decide +kernel
theorem dX13_stacked_42 : decode cX13_stacked 42 = .ok (.ior, 1) := by decide +kernel
theorem dX13_stacked_43 : decode cX13_stacked 43 = .ok (.iload 4, 2) := by decide +kernel
theorem dX13_stacked_45 : decode cX13_stacked 45 = .ok (.bipush 7, 2) := by decide +kernel
theorem dX13_stacked_47 : decode cX13_stacked 47 = .ok (.bipush 6, 2) := by decide +kernel
theorem dX13_stacked_49 : decode cX13_stacked 49 = .ok (.iconst 2, 1) := by decide +kernel
theorem dX13_stacked_50 : decode cX13_stacked 50 = .ok (.invokestatic 550, 3) := by decide +kernel
theorem dX13_stacked_53 : decode cX13_stacked 53 = .ok (.ior, 1) := by decide +kernel
theorem dX13_stacked_54 : decode cX13_stacked 54 = .ok (.goto 30, 3) := by decide +kernel
theorem dX13_stacked_57 : decode cX13_stacked 57 = .ok (.iload_n 2, 1) := by decide +kernel
theorem dX13_stacked_58 : decode cX13_stacked 58 = .ok (.iload_n 3, 1) := by decide +kernel
theorem dX13_stacked_59 : decode cX13_stacked 59 = .ok (.iconst 2, 1) := by decide +kernel
theorem dX13_stacked_60 : decode cX13_stacked 60 = .ok (.ishl, 1) := by decide +kernel
theorem dX13_stacked_61 : decode cX13_stacked 61 = .ok (.ior, 1) := by decide +kernel
theorem dX13_stacked_62 : decode cX13_stacked 62 = .ok (.iload 4, 2) := by decide +kernel
theorem dX13_stacked_64 : decode cX13_stacked 64 = .ok (.iconst 5, 1) := by decide +kernel
theorem dX13_stacked_65 : decode cX13_stacked 65 = .ok (.iconst 2, 1) := by decide +kernel
theorem dX13_stacked_66 : decode cX13_stacked 66 = .ok (.bipush 9, 2) := by decide +kernel
theorem dX13_stacked_68 : decode cX13_stacked 68 = .ok (.invokestatic 550, 3) := by decide +kernel
theorem dX13_stacked_71 : decode cX13_stacked 71 = .ok (.ior, 1) := by decide +kernel
theorem dX13_stacked_72 : decode cX13_stacked 72 = .ok (.iload 4, 2) := by decide +kernel
theorem dX13_stacked_74 : decode cX13_stacked 74 = .ok (.bipush 7, 2) := by decide +kernel
theorem dX13_stacked_76 : decode cX13_stacked 76 = .ok (.bipush 6, 2) := by decide +kernel
theorem dX13_stacked_78 : decode cX13_stacked 78 = .ok (.bipush 7, 2) := by decide +kernel
theorem dX13_stacked_80 : decode cX13_stacked 80 = .ok (.invokestatic 550, 3) := by decide +kernel
theorem dX13_stacked_83 : decode cX13_stacked 83 = .ok (.ior, 1) := by decide +kernel
theorem dX13_stacked_84 : decode cX13_stacked 84 = .ok (.invokevirtual 547, 3) := by decide +kernel
theorem dX13_stacked_87 : decode cX13_stacked 87 = .ok (.return_, 1) := by decide +kernel
theorem dX13_smalls_0 : decode cX13_smalls 0 = .ok (.iload_n 1, 1) := by decide +kernel
theorem dX13_smalls_1 : decode cX13_smalls 1 = .ok (.bipush 13, 2) := by decide +kernel
theorem dX13_smalls_3 : decode cX13_smalls 3 = .ok (.if_icmp .ne 67, 3) := by decide +kernel
theorem dX13_smalls_6 : decode cX13_smalls 6 = .ok (.aload_n 0, 1) := by decide +kernel
theorem dX13_smalls_7 : decode cX13_smalls 7 = .ok (.iconst 4, 1) := by decide +kernel
theorem dX13_smalls_8 : decode cX13_smalls 8 = .ok (.sipush 1020, 3) := by decide +kernel
theorem dX13_smalls_11 : decode cX13_smalls 11 = .ok (.iconst 4, 1) := by decide +kernel
theorem dX13_smalls_12 : decode cX13_smalls 12 = .ok (.invokevirtual 585, 3) := by decide +kernel
theorem dX13_smalls_15 : decode cX13_smalls 15 = .ok (.istore 4, 2) := by decide +kernel
theorem dX13_smalls_17 : decode cX13_smalls 17 = .ok (.aload_n 0, 1) := by decide +kernel
theorem dX13_smalls_18 : decode cX13_smalls 18 = .ok (.iload_n 2, 1) := by decide +kernel
theorem dX13_smalls_19 : decode cX13_smalls 19 = .ok (.iload 4, 2) := by decide +kernel
theorem dX13_smalls_21 : decode cX13_smalls 21 = .ok (.iconst 5, 1) := by decide +kernel
theorem dX13_smalls_22 : decode cX13_smalls 22 = .ok (.iconst 4, 1) := by decide +kernel
theorem dX13_smalls_23 : decode cX13_smalls 23 = .ok (.bipush 11, 2) := by decide +kernel
theorem dX13_smalls_25 : decode cX13_smalls 25 = .ok (.invokestatic 550, 3) := by decide +kernel
theorem dX13_smalls_28 : decode cX13_smalls 28 = .ok (.ior, 1) := by decide +kernel
theorem dX13_smalls_29 : decode cX13_smalls 29 = .ok (.iload 4, 2) := by decide +kernel
theorem dX13_smalls_31 : decode cX13_smalls 31 = .ok (.bipush 9, 2) := by decide +kernel
theorem dX13_smalls_33 : decode cX13_smalls 33 = .ok (.bipush 6, 2) := by decide +kernel
theorem dX13_smalls_35 : decode cX13_smalls 35 = .ok (.bipush 7, 2) := by decide +kernel
theorem dX13_smalls_37 : decode cX13_smalls 37 = .ok (.invokestatic 550, 3) := by decide +kernel
theorem dX13_smalls_40 : decode cX13_smalls 40 = .ok (.ior, 1) := by decide +kernel
theorem dX13_smalls_41 : decode cX13_smalls 41 = .ok (.iload 4, 2) := by decide +kernel
theorem dX13_smalls_43 : decode cX13_smalls 43 = .ok (.iconst 2, 1) := by decide +kernel
theorem dX13_smalls_44 : decode cX13_smalls 44 = .ok (.iconst 2, 1) := by decide +kernel
theorem dX13_smalls_45 : decode cX13_smalls 45 = .ok (.bipush 6, 2) := by decide +kernel
theorem dX13_smalls_47 : decode cX13_smalls 47 = .ok (.invokestatic 550, 3) := by decide +kernel
theorem dX13_smalls_50 : decode cX13_smalls 50 = .ok (.ior, 1) := by decide +kernel
theorem dX13_smalls_51 : decode cX13_smalls 51 = .ok (.iload 4, 2) := by decide +kernel
theorem dX13_smalls_53 : decode cX13_smalls 53 = .ok (.iconst 3, 1) := by decide +kernel
theorem dX13_smalls_54 : decode cX13_smalls 54 = .ok (.iconst 3, 1) := by decide +kernel
theorem dX13_smalls_55 : decode cX13_smalls 55 = .ok (.iconst 5, 1) := by decide +kernel
theorem dX13_smalls_56 : decode cX13_smalls 56 = .ok (.invokestatic 550, 3) := by decide +kernel
theorem dX13_smalls_59 : decode cX13_smalls 59 = .ok (.ior, 1) := by decide +kernel
theorem dX13_smalls_60 : decode cX13_smalls 60 = .ok (.iload_n 3, 1) := by decide +kernel
theorem dX13_smalls_61 : decode cX13_smalls 61 = .ok (.iconst 2, 1) := by decide +kernel
theorem dX13_smalls_62 : decode cX13_smalls 62 = .ok (.ishl, 1) := by decide +kernel
theorem dX13_smalls_63 : decode cX13_smalls 63 = .ok (.ior, 1) := by decide +kernel
theorem dX13_smalls_64 : decode cX13_smalls 64 = .ok (.invokevirtual 547, 3) := by decide +kernel
theorem dX13_smalls_67 : decode cX13_smalls 67 = .ok (.goto 239, 3) := by decide +kernel
theorem dX13_smalls_70 : decode cX13_smalls 70 = .ok (.iload_n 1, 1) := by decide +kernel
theorem dX13_smalls_71 : decode cX13_smalls 71 = .ok (.bipush 16, 2) := by decide +kernel
theorem dX13_smalls_73 : decode cX13_smalls 73 = .ok (.if_icmp .ge 102, 3) := by decide +kernel
theorem dX13_smalls_76 : decode cX13_smalls 76 = .ok (.aload_n 0, 1) := by decide +kernel
theorem dX13_smalls_77 : decode cX13_smalls 77 = .ok (.iconst 0, 1) := by decide +kernel
theorem dX13_smalls_78 : decode cX13_smalls 78 = .ok (.bipush 124, 2) := by decide +kernel
theorem dX13_smalls_80 : decode cX13_smalls 80 = .ok (.iconst 4, 1) := by decide +kernel
theorem dX13_smalls_81 : decode cX13_smalls 81 = .ok (.invokevirtual 585, 3) := by decide +kernel
theorem dX13_smalls_84 : decode cX13_smalls 84 = .ok (.istore 4, 2) := by decide +kernel
theorem dX13_smalls_86 : decode cX13_smalls 86 = .ok (.aload_n 0, 1) := by decide +kernel
theorem dX13_smalls_87 : decode cX13_smalls 87 = .ok (.getfield 410, 3) := by decide +kernel
theorem dX13_smalls_90 : decode cX13_smalls 90 = .ok (.ifCond .ne 19, 3) := by decide +kernel
theorem dX13_smalls_93 : decode cX13_smalls 93 = .ok (.aload_n 0, 1) := by decide +kernel
theorem dX13_smalls_94 : decode cX13_smalls 94 = .ok (.bipush 40, 2) := by decide +kernel
theorem dX13_smalls_96 : decode cX13_smalls 96 = .ok (.invokevirtual 506, 3) := by decide +kernel
theorem dX13_smalls_99 : decode cX13_smalls 99 = .ok (.ifCond .eq 10, 3) := by decide +kernel
theorem dX13_smalls_102 : decode cX13_smalls 102 = .ok (.aload_n 0, 1) := by decide +kernel
theorem dX13_smalls_103 : decode cX13_smalls 103 = .ok (.invokevirtual 614, 3) := by decide +kernel
theorem dX13_smalls_106 : decode cX13_smalls 106 = .ok (.goto 4, 3) := by decide +kernel
theorem dX13_smalls_109 : decode cX13_smalls 109 = .ok (.iconst 0, 1) := by decide +kernel
theorem dX13_smalls_110 : decode cX13_smalls 110 = .ok (.istore 5, 2) := by decide +kernel
theorem dX13_smalls_112 : decode cX13_smalls 112 = .ok (.aload_n 0, 1) := by decide +kernel
theorem dX13_smalls_113 : decode cX13_smalls 113 = .ok (.getfield 410, 3) := by decide +kernel
theorem dX13_smalls_116 : decode cX13_smalls 116 = .ok (.ifCond .ne 10, 3) := by decide +kernel
theorem dX13_smalls_119 : decode cX13_smalls 119 = .ok (.aload_n 0, 1) := by decide +kernel
theorem dX13_smalls_120 : decode cX13_smalls 120 = .ok (.bipush 41, 2) := by decide +kernel
theorem dX13_smalls_122 : decode cX13_smalls 122 = .ok (.invokevirtual 506, 3) := by decide +kernel
theorem dX13_smalls_125 : decode cX13_smalls 125 = .ok (.pop, 1) := by decide +kernel
theorem dX13_smalls_126 : decode cX13_smalls 126 = .ok (.aload_n 0, 1) := by decide +kernel
theorem dX13_smalls_127 : decode cX13_smalls 127 = .ok (.iload_n 2, 1) := by decide +kernel
theorem dX13_smalls_128 : decode cX13_smalls 128 = .ok (.iload 4, 2) := by decide +kernel
theorem dX13_smalls_130 : decode cX13_smalls 130 = .ok (.iconst 5, 1) := by decide +kernel
theorem dX13_smalls_131 : decode cX13_smalls 131 = .ok (.iconst 3, 1) := by decide +kernel
theorem dX13_smalls_132 : decode cX13_smalls 132 = .ok (.bipush 10, 2) := by decide +kernel
theorem dX13_smalls_134 : decode cX13_smalls 134 = .ok (.invokestatic 550, 3) := by decide +kernel
theorem dX13_smalls_137 : decode cX13_smalls 137 = .ok (.ior, 1) := by decide +kernel
theorem dX13_smalls_138 : decode cX13_smalls 138 = .ok (.iload 4, 2) := by decide +kernel
theorem dX13_smalls_140 : decode cX13_smalls 140 = .ok (.iconst 2, 1) := by decide +kernel
theorem dX13_smalls_141 : decode cX13_smalls 141 = .ok (.iconst 2, 1) := by decide +kernel
theorem dX13_smalls_142 : decode cX13_smalls 142 = .ok (.bipush 6, 2) := by decide +kernel
theorem dX13_smalls_144 : decode cX13_smalls 144 = .ok (.invokestatic 550, 3) := by decide +kernel
theorem dX13_smalls_147 : decode cX13_smalls 147 = .ok (.ior, 1) := by decide +kernel
theorem dX13_smalls_148 : decode cX13_smalls 148 = .ok (.iload 4, 2) := by decide +kernel
theorem dX13_smalls_150 : decode cX13_smalls 150 = .ok (.bipush 6, 2) := by decide +kernel
theorem dX13_smalls_152 : decode cX13_smalls 152 = .ok (.bipush 6, 2) := by decide +kernel
theorem dX13_smalls_154 : decode cX13_smalls 154 = .ok (.iconst 5, 1) := by decide +kernel
theorem dX13_smalls_155 : decode cX13_smalls 155 = .ok (.invokestatic 550, 3) := by decide +kernel
theorem dX13_smalls_158 : decode cX13_smalls 158 = .ok (.ior, 1) := by decide +kernel
theorem dX13_smalls_159 : decode cX13_smalls 159 = .ok (.iload 5, 2) := by decide +kernel
theorem dX13_smalls_161 : decode cX13_smalls 161 = .ok (.bipush 7, 2) := by decide +kernel
theorem dX13_smalls_163 : decode cX13_smalls 163 = .ok (.ishl, 1) := by decide +kernel
theorem dX13_smalls_164 : decode cX13_smalls 164 = .ok (.ior, 1) := by decide +kernel
theorem dX13_smalls_165 : decode cX13_smalls 165 = .ok (.iload_n 3, 1) := by decide +kernel
theorem dX13_smalls_166 : decode cX13_smalls 166 = .ok (.iconst 2, 1) := by decide +kernel
theorem dX13_smalls_167 : decode cX13_smalls 167 = .ok (.ishl, 1) := by decide +kernel
theorem dX13_smalls_168 : decode cX13_smalls 168 = .ok (.ior, 1) := by decide +kernel
theorem dX13_smalls_169 : decode cX13_smalls 169 = .ok (.invokevirtual 547, 3) := by decide +kernel
theorem dX13_smalls_172 : decode cX13_smalls 172 = .ok (.goto 134, 3) := by decide +kernel
theorem dX13_smalls_175 : decode cX13_smalls 175 = .ok (.iload_n 1, 1) := by decide +kernel
theorem dX13_smalls_176 : decode cX13_smalls 176 = .ok (.bipush 21, 2) := by decide +kernel
theorem dX13_smalls_178 : decode cX13_smalls 178 = .ok (.if_icmp .ne 30, 3) := by decide +kernel
theorem dX13_smalls_181 : decode cX13_smalls 181 = .ok (.aload_n 0, 1) := by decide +kernel
theorem dX13_smalls_182 : decode cX13_smalls 182 = .ok (.iload_n 2, 1) := by decide +kernel
theorem dX13_smalls_183 : decode cX13_smalls 183 = .ok (.iload_n 3, 1) := by decide +kernel
theorem dX13_smalls_184 : decode cX13_smalls 184 = .ok (.bipush 7, 2) := by decide +kernel
theorem dX13_smalls_186 : decode cX13_smalls 186 = .ok (.ishl, 1) := by decide +kernel
theorem dX13_smalls_187 : decode cX13_smalls 187 = .ok (.ior, 1) := by decide +kernel
theorem dX13_smalls_188 : decode cX13_smalls 188 = .ok (.aload_n 0, 1) := by decide +kernel
theorem dX13_smalls_189 : decode cX13_smalls 189 = .ok (.iconst 0, 1) := by decide +kernel
theorem dX13_smalls_190 : decode cX13_smalls 190 = .ok (.bipush 31, 2) := by decide +kernel
theorem dX13_smalls_192 : decode cX13_smalls 192 = .ok (.iconst 1, 1) := by decide +kernel
theorem dX13_smalls_193 : decode cX13_smalls 193 = .ok (.invokevirtual 585, 3) := by decide +kernel
theorem dX13_smalls_196 : decode cX13_smalls 196 = .ok (.bipush 31, 2) := by decide +kernel
theorem dX13_smalls_198 : decode cX13_smalls 198 = .ok (.iand, 1) := by decide +kernel
theorem dX13_smalls_199 : decode cX13_smalls 199 = .ok (.iconst 2, 1) := by decide +kernel
theorem dX13_smalls_200 : decode cX13_smalls 200 = .ok (.ishl, 1) := by decide +kernel
theorem dX13_smalls_201 : decode cX13_smalls 201 = .ok (.ior, 1) := by decide +kernel
theorem dX13_smalls_202 : decode cX13_smalls 202 = .ok (.invokevirtual 547, 3) := by decide +kernel
theorem dX13_smalls_205 : decode cX13_smalls 205 = .ok (.goto 101, 3) := by decide +kernel
theorem dX13_smalls_208 : decode cX13_smalls 208 = .ok (.iload_n 1, 1) := by decide +kernel
theorem dX13_smalls_209 : decode cX13_smalls 209 = .ok (.bipush 22, 2) := by decide +kernel
theorem dX13_smalls_211 : decode cX13_smalls 211 = .ok (.if_icmp .ne 29, 3) := by decide +kernel
theorem dX13_smalls_214 : decode cX13_smalls 214 = .ok (.aload_n 0, 1) := by decide +kernel
theorem dX13_smalls_215 : decode cX13_smalls 215 = .ok (.iload_n 2, 1) := by decide +kernel
theorem dX13_smalls_216 : decode cX13_smalls 216 = .ok (.iload_n 3, 1) := by decide +kernel
theorem dX13_smalls_217 : decode cX13_smalls 217 = .ok (.bipush 7, 2) := by decide +kernel
theorem dX13_smalls_219 : decode cX13_smalls 219 = .ok (.ishl, 1) := by decide +kernel
theorem dX13_smalls_220 : decode cX13_smalls 220 = .ok (.ior, 1) := by decide +kernel
theorem dX13_smalls_221 : decode cX13_smalls 221 = .ok (.aload_n 0, 1) := by decide +kernel
theorem dX13_smalls_222 : decode cX13_smalls 222 = .ok (.bipush (-32), 2) := by decide +kernel
theorem dX13_smalls_224 : decode cX13_smalls 224 = .ok (.bipush 31, 2) := by decide +kernel
theorem dX13_smalls_226 : decode cX13_smalls 226 = .ok (.iconst 1, 1) := by decide +kernel
theorem dX13_smalls_227 : decode cX13_smalls 227 = .ok (.invokevirtual 585, 3) := by decide +kernel
theorem dX13_smalls_230 : decode cX13_smalls 230 = .ok (.invokestatic 608, 3) := by decide +kernel
theorem dX13_smalls_233 : decode cX13_smalls 233 = .ok (.ior, 1) := by decide +kernel
theorem dX13_smalls_234 : decode cX13_smalls 234 = .ok (.invokevirtual 547, 3) := by decide +kernel
theorem dX13_smalls_237 : decode cX13_smalls 237 = .ok (.goto 69, 3) := by decide +kernel
theorem dX13_smalls_240 : decode cX13_smalls 240 = .ok (.iload_n 1, 1) := by decide +kernel
theorem dX13_smalls_241 : decode cX13_smalls 241 = .ok (.bipush 23, 2) := by decide +kernel
theorem dX13_smalls_243 : decode cX13_smalls 243 = .ok (.if_icmp .ne 23, 3) := by decide +kernel
theorem dX13_smalls_246 : decode cX13_smalls 246 = .ok (.aload_n 0, 1) := by decide +kernel
theorem dX13_smalls_247 : decode cX13_smalls 247 = .ok (.iload_n 2, 1) := by decide +kernel
theorem dX13_smalls_248 : decode cX13_smalls 248 = .ok (.iload_n 3, 1) := by decide +kernel
theorem dX13_smalls_249 : decode cX13_smalls 249 = .ok (.bipush 7, 2) := by decide +kernel
theorem dX13_smalls_251 : decode cX13_smalls 251 = .ok (.ishl, 1) := by decide +kernel
theorem dX13_smalls_252 : decode cX13_smalls 252 = .ok (.ior, 1) := by decide +kernel
theorem dX13_smalls_253 : decode cX13_smalls 253 = .ok (.aload_n 0, 1) := by decide +kernel
theorem dX13_smalls_254 : decode cX13_smalls 254 = .ok (.invokevirtual 614, 3) := by decide +kernel
theorem dX13_smalls_257 : decode cX13_smalls 257 = .ok (.iconst 2, 1) := by decide +kernel
theorem dX13_smalls_258 : decode cX13_smalls 258 = .ok (.ishl, 1) := by decide +kernel
theorem dX13_smalls_259 : decode cX13_smalls 259 = .ok (.ior, 1) := by decide +kernel
theorem dX13_smalls_260 : decode cX13_smalls 260 = .ok (.invokevirtual 547, 3) := by decide +kernel
theorem dX13_smalls_263 : decode cX13_smalls 263 = .ok (.goto 43, 3) := by decide +kernel
theorem dX13_smalls_266 : decode cX13_smalls 266 = .ok (.aload_n 0, 1) := by decide +kernel
theorem dX13_smalls_267 : decode cX13_smalls 267 = .ok (.invokevirtual 525, 3) := by decide +kernel
theorem dX13_smalls_270 : decode cX13_smalls 270 = .ok (.aload_n 0, 1) := by decide +kernel
theorem dX13_smalls_271 : decode cX13_smalls 271 = .ok (.getfield 486, 3) := by decide +kernel
theorem dX13_smalls_274 : decode cX13_smalls 274 = .ok (.isub, 1) := by decide +kernel
theorem dX13_smalls_275 : decode cX13_smalls 275 = .ok (.istore 4, 2) := by decide +kernel
theorem dX13_smalls_277 : decode cX13_smalls 277 = .ok (.aload_n 0, 1) := by decide +kernel
theorem dX13_smalls_278 : decode cX13_smalls 278 = .ok (.iload 4, 2) := by decide +kernel
theorem dX13_smalls_280 : decode cX13_smalls 280 = .ok (.sipush (-256), 3) := by decide +kernel
theorem dX13_smalls_283 : decode cX13_smalls 283 = .ok (.sipush 254, 3) := by decide +kernel
theorem dX13_smalls_286 : decode cX13_smalls 286 = .ok (.iconst 2, 1) := by decide +kernel
theorem dX13_smalls_287 : decode cX13_smalls 287 = .ok (.invokevirtual 528, 3) := by decide +kernel
theorem dX13_smalls_290 : decode cX13_smalls 290 = .ok (.aload_n 0, 1) := by decide +kernel
theorem dX13_smalls_291 : decode cX13_smalls 291 = .ok (.iload_n 2, 1) := by decide +kernel
theorem dX13_smalls_292 : decode cX13_smalls 292 = .ok (.iload_n 3, 1) := by decide +kernel
theorem dX13_smalls_293 : decode cX13_smalls 293 = .ok (.bipush 7, 2) := by decide +kernel
theorem dX13_smalls_295 : decode cX13_smalls 295 = .ok (.ishl, 1) := by decide +kernel
theorem dX13_smalls_296 : decode cX13_smalls 296 = .ok (.ior, 1) := by decide +kernel
theorem dX13_smalls_297 : decode cX13_smalls 297 = .ok (.iload 4, 2) := by decide +kernel
theorem dX13_smalls_299 : decode cX13_smalls 299 = .ok (.invokestatic 573, 3) := by decide +kernel
theorem dX13_smalls_302 : decode cX13_smalls 302 = .ok (.ior, 1) := by decide +kernel
theorem dX13_smalls_303 : decode cX13_smalls 303 = .ok (.invokevirtual 547, 3) := by decide +kernel
theorem dX13_smalls_306 : decode cX13_smalls 306 = .ok (.return_, 1) := by decide +kernel
theorem dX13_constant_0 : decode cX13_constant 0 = .ok (.aload_n 0, 1) := by decide +kernel
theorem dX13_constant_1 : decode cX13_constant 1 = .ok (.iconst 1, 1) := by decide +kernel
theorem dX13_constant_2 : decode cX13_constant 2 = .ok (.invokevirtual 506, 3) := by decide +kernel
theorem dX13_constant_5 : decode cX13_constant 5 = .ok (.ifCond .ne 4, 3) := by decide +kernel
theorem dX13_constant_8 : decode cX13_constant 8 = .ok (.return_, 1) := by decide +kernel
theorem dX13_constant_9 : decode cX13_constant 9 = .ok (.aload_n 0, 1) := by decide +kernel
theorem dX13_constant_10 : decode cX13_constant 10 = .ok (.getfield 368, 3) := by decide +kernel
theorem dX13_constant_13 : decode cX13_constant 13 = .ok (.istore_n 1, 1) := by decide +kernel
theorem dX13_constant_14 : decode cX13_constant 14 = .ok (.aload_n 0, 1) := by decide +kernel
theorem dX13_constant_15 : decode cX13_constant 15 = .ok (.getfield 371, 3) := by decide +kernel
theorem dX13_constant_18 : decode cX13_constant 18 = .ok (.istore_n 2, 1) := by decide +kernel
theorem dX13_constant_19 : decode cX13_constant 19 = .ok (.aload_n 0, 1) := by decide +kernel
theorem dX13_constant_20 : decode cX13_constant 20 = .ok (.getfield 522, 3) := by decide +kernel
theorem dX13_constant_23 : decode cX13_constant 23 = .ok (.ifCond .ne 26, 3) := by decide +kernel
theorem dX13_constant_26 : decode cX13_constant 26 = .ok (.aload_n 0, 1) := by decide +kernel
theorem dX13_constant_27 : decode cX13_constant 27 = .ok (.iload_n 1, 1) := by decide +kernel
theorem dX13_constant_28 : decode cX13_constant 28 = .ok (.iload_n 2, 1) := by decide +kernel
theorem dX13_constant_29 : decode cX13_constant 29 = .ok (.invokevirtual 477, 3) := by decide +kernel
theorem dX13_constant_32 : decode cX13_constant 32 = .ok (.ifCond .ge 12, 3) := by decide +kernel
theorem dX13_constant_35 : decode cX13_constant 35 = .ok (.aload_n 0, 1) := by decide +kernel
theorem dX13_constant_36 : decode cX13_constant 36 = .ok (.iload_n 1, 1) := by decide +kernel
theorem dX13_constant_37 : decode cX13_constant 37 = .ok (.iload_n 2, 1) := by decide +kernel
theorem dX13_constant_38 : decode cX13_constant 38 = .ok (.invokevirtual 480, 3) := by decide +kernel
theorem dX13_constant_41 : decode cX13_constant 41 = .ok (.ifCond .lt 8, 3) := by decide +kernel
theorem dX13_constant_44 : decode cX13_constant 44 = .ok (.aload_n 0, 1) := by decide +kernel
theorem dX13_constant_45 : decode cX13_constant 45 = .ok (.iconst 4, 1) := by decide +kernel
theorem dX13_constant_46 : decode cX13_constant 46 = .ok (.invokevirtual 419, 3) := by decide +kernel
theorem dX13_constant_49 : decode cX13_constant 49 = .ok (.aload_n 0, 1) := by decide +kernel
theorem dX13_constant_50 : decode cX13_constant 50 = .ok (.invokevirtual 582, 3) := by decide +kernel
theorem dX13_constant_53 : decode cX13_constant 53 = .ok (.ifCond .ne 4, 3) := by decide +kernel
theorem dX13_constant_56 : decode cX13_constant 56 = .ok (.return_, 1) := by decide +kernel
theorem dX13_constant_57 : decode cX13_constant 57 = .ok (.aload_n 0, 1) := by decide +kernel
theorem dX13_constant_58 : decode cX13_constant 58 = .ok (.ldc_w 603, 3) := by decide +kernel
theorem dX13_constant_61 : decode cX13_constant 61 = .ok (.ldc_w 604, 3) := by decide +kernel
theorem dX13_constant_64 : decode cX13_constant 64 = .ok (.invokevirtual 605, 3) := by decide +kernel
theorem dX13_constant_67 : decode cX13_constant 67 = .ok (.istore_n 3, 1) := by decide +kernel
theorem dX13_constant_68 : decode cX13_constant 68 = .ok (.aload_n 0, 1) := by decide +kernel
theorem dX13_constant_69 : decode cX13_constant 69 = .ok (.getfield 522, 3) := by decide +kernel
theorem dX13_constant_72 : decode cX13_constant 72 = .ok (.ifCond .ne 18, 3) := by decide +kernel
theorem dX13_constant_75 : decode cX13_constant 75 = .ok (.aload_n 0, 1) := by decide +kernel
theorem dX13_constant_76 : decode cX13_constant 76 = .ok (.getfield 410, 3) := by decide +kernel
theorem dX13_constant_79 : decode cX13_constant 79 = .ok (.ifCond .ne 11, 3) := by decide +kernel
theorem dX13_constant_82 : decode cX13_constant 82 = .ok (.aload_n 0, 1) := by decide +kernel
theorem dX13_constant_83 : decode cX13_constant 83 = .ok (.iload_n 1, 1) := by decide +kernel
theorem dX13_constant_84 : decode cX13_constant 84 = .ok (.iload_n 2, 1) := by decide +kernel
theorem dX13_constant_85 : decode cX13_constant 85 = .ok (.iconst 2, 1) := by decide +kernel
theorem dX13_constant_86 : decode cX13_constant 86 = .ok (.iload_n 3, 1) := by decide +kernel
theorem dX13_constant_87 : decode cX13_constant 87 = .ok (.invokevirtual 631, 3) := by decide +kernel
theorem dX13_constant_90 : decode cX13_constant 90 = .ok (.return_, 1) := by decide +kernel
theorem dX13_quoted_0 : decode cX13_quoted 0 = .ok (.aload_n 0, 1) := by decide +kernel
theorem dX13_quoted_1 : decode cX13_quoted 1 = .ok (.iconst 4, 1) := by decide +kernel
theorem dX13_quoted_2 : decode cX13_quoted 2 = .ok (.invokevirtual 506, 3) := by decide +kernel
theorem dX13_quoted_5 : decode cX13_quoted 5 = .ok (.ifCond .ne 4, 3) := by decide +kernel
theorem dX13_quoted_8 : decode cX13_quoted 8 = .ok (.return_, 1) := by decide +kernel
theorem dX13_quoted_9 : decode cX13_quoted 9 = .ok (.aload_n 0, 1) := by decide +kernel
theorem dX13_quoted_10 : decode cX13_quoted 10 = .ok (.getfield 371, 3) := by decide +kernel
theorem dX13_quoted_13 : decode cX13_quoted 13 = .ok (.istore_n 2, 1) := by decide +kernel
theorem dX13_quoted_14 : decode cX13_quoted 14 = .ok (.aload_n 0, 1) := by decide +kernel
theorem dX13_quoted_15 : decode cX13_quoted 15 = .ok (.getfield 368, 3) := by decide +kernel
theorem dX13_quoted_18 : decode cX13_quoted 18 = .ok (.iconst 1, 1) := by decide +kernel
theorem dX13_quoted_19 : decode cX13_quoted 19 = .ok (.iadd, 1) := by decide +kernel
theorem dX13_quoted_20 : decode cX13_quoted 20 = .ok (.istore_n 3, 1) := by decide +kernel
theorem dX13_quoted_21 : decode cX13_quoted 21 = .ok (.iload_n 3, 1) := by decide +kernel
theorem dX13_quoted_22 : decode cX13_quoted 22 = .ok (.iload_n 2, 1) := by decide +kernel
theorem dX13_quoted_23 : decode cX13_quoted 23 = .ok (.iconst 1, 1) := by decide +kernel
theorem dX13_quoted_24 : decode cX13_quoted 24 = .ok (.isub, 1) := by decide +kernel
theorem dX13_quoted_25 : decode cX13_quoted 25 = .ok (.if_icmp .ge 22, 3) := by decide +kernel
theorem dX13_quoted_28 : decode cX13_quoted 28 = .ok (.aload_n 0, 1) := by decide +kernel
theorem dX13_quoted_29 : decode cX13_quoted 29 = .ok (.aload_n 0, 1) := by decide +kernel
theorem dX13_quoted_30 : decode cX13_quoted 30 = .ok (.iload_n 3, 1) := by decide +kernel
theorem dX13_quoted_31 : decode cX13_quoted 31 = .ok (.bipush 34, 2) := by decide +kernel
theorem dX13_quoted_33 : decode cX13_quoted 33 = .ok (.invokevirtual 406, 3) := by decide +kernel
theorem dX13_quoted_36 : decode cX13_quoted 36 = .ok (.invokevirtual 544, 3) := by decide +kernel
theorem dX13_quoted_39 : decode cX13_quoted 39 = .ok (.aload_n 0, 1) := by decide +kernel
theorem dX13_quoted_40 : decode cX13_quoted 40 = .ok (.getfield 371, 3) := by decide +kernel
theorem dX13_quoted_43 : decode cX13_quoted 43 = .ok (.istore_n 3, 1) := by decide +kernel
theorem dX13_quoted_44 : decode cX13_quoted 44 = .ok (.goto (-23), 3) := by decide +kernel
theorem dX13_quoted_47 : decode cX13_quoted 47 = .ok (.aload_n 0, 1) := by decide +kernel
theorem dX13_quoted_48 : decode cX13_quoted 48 = .ok (.iload_n 2, 1) := by decide +kernel
theorem dX13_quoted_49 : decode cX13_quoted 49 = .ok (.putfield 374, 3) := by decide +kernel
theorem dX13_quoted_52 : decode cX13_quoted 52 = .ok (.iload_n 1, 1) := by decide +kernel
theorem dX13_quoted_53 : decode cX13_quoted 53 = .ok (.ifCond .eq 8, 3) := by decide +kernel
theorem dX13_quoted_56 : decode cX13_quoted 56 = .ok (.aload_n 0, 1) := by decide +kernel
theorem dX13_quoted_57 : decode cX13_quoted 57 = .ok (.iconst 0, 1) := by decide +kernel
theorem dX13_quoted_58 : decode cX13_quoted 58 = .ok (.invokevirtual 544, 3) := by decide +kernel
theorem dX13_quoted_61 : decode cX13_quoted 61 = .ok (.return_, 1) := by decide +kernel
theorem dX13_directive_0 : decode cX13_directive 0 = .ok (.iload_n 1, 1) := by decide +kernel
theorem dX13_directive_1 : decode cX13_directive 1 = .ok (.bipush 42, 2) := by decide +kernel
theorem dX13_directive_3 : decode cX13_directive 3 = .ok (.if_icmp .ge 14, 3) := by decide +kernel
theorem dX13_directive_6 : decode cX13_directive 6 = .ok (.aload_n 0, 1) := by decide +kernel
theorem dX13_directive_7 : decode cX13_directive 7 = .ok (.iload_n 1, 1) := by decide +kernel
theorem dX13_directive_8 : decode cX13_directive 8 = .ok (.bipush 40, 2) := by decide +kernel
theorem dX13_directive_10 : decode cX13_directive 10 = .ok (.isub, 1) := by decide +kernel
theorem dX13_directive_11 : decode cX13_directive 11 = .ok (.putfield 634, 3) := by decide +kernel
theorem dX13_directive_14 : decode cX13_directive 14 = .ok (.goto 171, 3) := by decide +kernel
theorem dX13_directive_17 : decode cX13_directive 17 = .ok (.iload_n 1, 1) := by decide +kernel
theorem dX13_directive_18 : decode cX13_directive 18 = .ok (.bipush 42, 2) := by decide +kernel
theorem dX13_directive_20 : decode cX13_directive 20 = .ok (.if_icmp .ne 10, 3) := by decide +kernel
theorem dX13_directive_23 : decode cX13_directive 23 = .ok (.aload_n 0, 1) := by decide +kernel
theorem dX13_directive_24 : decode cX13_directive 24 = .ok (.invokevirtual 637, 3) := by decide +kernel
theorem dX13_directive_27 : decode cX13_directive 27 = .ok (.goto 158, 3) := by decide +kernel
theorem dX13_directive_30 : decode cX13_directive 30 = .ok (.iload_n 1, 1) := by decide +kernel
theorem dX13_directive_31 : decode cX13_directive 31 = .ok (.bipush 48, 2) := by decide +kernel
theorem dX13_directive_33 : decode cX13_directive 33 = .ok (.if_icmp .ne 23, 3) := by decide +kernel
theorem dX13_directive_36 : decode cX13_directive 36 = .ok (.aload_n 0, 1) := by decide +kernel
theorem dX13_directive_37 : decode cX13_directive 37 = .ok (.dup, 1) := by decide +kernel
theorem dX13_directive_38 : decode cX13_directive 38 = .ok (.getfield 541, 3) := by decide +kernel
theorem dX13_directive_41 : decode cX13_directive 41 = .ok (.aload_n 0, 1) := by decide +kernel
theorem dX13_directive_42 : decode cX13_directive 42 = .ok (.iconst 0, 1) := by decide +kernel
theorem dX13_directive_43 : decode cX13_directive 43 = .ok (.ldc_w 640, 3) := by decide +kernel
theorem dX13_directive_46 : decode cX13_directive 46 = .ok (.invokevirtual 605, 3) := by decide +kernel
theorem dX13_directive_49 : decode cX13_directive 49 = .ok (.iadd, 1) := by decide +kernel
theorem dX13_directive_50 : decode cX13_directive 50 = .ok (.putfield 541, 3) := by decide +kernel
theorem dX13_directive_53 : decode cX13_directive 53 = .ok (.goto 132, 3) := by decide +kernel
theorem dX13_directive_56 : decode cX13_directive 56 = .ok (.iload_n 1, 1) := by decide +kernel
theorem dX13_directive_57 : decode cX13_directive 57 = .ok (.bipush 49, 2) := by decide +kernel
theorem dX13_directive_59 : decode cX13_directive 59 = .ok (.if_icmp .ne 26, 3) := by decide +kernel
theorem dX13_directive_62 : decode cX13_directive 62 = .ok (.aload_n 0, 1) := by decide +kernel
theorem dX13_directive_63 : decode cX13_directive 63 = .ok (.iconst 0, 1) := by decide +kernel
theorem dX13_directive_64 : decode cX13_directive 64 = .ok (.bipush 10, 2) := by decide +kernel
theorem dX13_directive_66 : decode cX13_directive 66 = .ok (.invokevirtual 605, 3) := by decide +kernel
theorem dX13_directive_69 : decode cX13_directive 69 = .ok (.istore_n 3, 1) := by decide +kernel
theorem dX13_directive_70 : decode cX13_directive 70 = .ok (.aload_n 0, 1) := by decide +kernel
theorem dX13_directive_71 : decode cX13_directive 71 = .ok (.getfield 334, 3) := by decide +kernel
theorem dX13_directive_74 : decode cX13_directive 74 = .ok (.aload_n 0, 1) := by decide +kernel
theorem dX13_directive_75 : decode cX13_directive 75 = .ok (.getfield 454, 3) := by decide +kernel
theorem dX13_directive_78 : decode cX13_directive 78 = .ok (.iconst (-1), 1) := by decide +kernel
theorem dX13_directive_79 : decode cX13_directive 79 = .ok (.iload_n 3, 1) := by decide +kernel
theorem dX13_directive_80 : decode cX13_directive 80 = .ok (.isub, 1) := by decide +kernel
theorem dX13_directive_81 : decode cX13_directive 81 = .ok (.iastore, 1) := by decide +kernel
theorem dX13_directive_82 : decode cX13_directive 82 = .ok (.goto 103, 3) := by decide +kernel
theorem dX13_directive_85 : decode cX13_directive 85 = .ok (.iconst 1, 1) := by decide +kernel
theorem dX13_directive_86 : decode cX13_directive 86 = .ok (.istore_n 3, 1) := by decide +kernel
theorem dX13_directive_87 : decode cX13_directive 87 = .ok (.iload_n 3, 1) := by decide +kernel
theorem dX13_directive_88 : decode cX13_directive 88 = .ok (.ifCond .eq 97, 3) := by decide +kernel
theorem dX13_directive_91 : decode cX13_directive 91 = .ok (.aload_n 0, 1) := by decide +kernel
theorem dX13_directive_92 : decode cX13_directive 92 = .ok (.getfield 410, 3) := by decide +kernel
theorem dX13_directive_95 : decode cX13_directive 95 = .ok (.ifCond .ne 90, 3) := by decide +kernel
theorem dX13_directive_98 : decode cX13_directive 98 = .ok (.iload_n 2, 1) := by decide +kernel
theorem dX13_directive_99 : decode cX13_directive 99 = .ok (.ifCond .ne 21, 3) := by decide +kernel
theorem dX13_directive_102 : decode cX13_directive 102 = .ok (.aload_n 0, 1) := by decide +kernel
theorem dX13_directive_103 : decode cX13_directive 103 = .ok (.iload_n 1, 1) := by decide +kernel
theorem dX13_directive_104 : decode cX13_directive 104 = .ok (.bipush 47, 2) := by decide +kernel
theorem dX13_directive_106 : decode cX13_directive 106 = .ok (.if_icmp .ne 7, 3) := by decide +kernel
theorem dX13_directive_109 : decode cX13_directive 109 = .ok (.iconst 1, 1) := by decide +kernel
theorem dX13_directive_110 : decode cX13_directive 110 = .ok (.goto 4, 3) := by decide +kernel
theorem dX13_directive_113 : decode cX13_directive 113 = .ok (.iconst 0, 1) := by decide +kernel
theorem dX13_directive_114 : decode cX13_directive 114 = .ok (.invokevirtual 641, 3) := by decide +kernel
theorem dX13_directive_117 : decode cX13_directive 117 = .ok (.goto 36, 3) := by decide +kernel
theorem dX13_directive_120 : decode cX13_directive 120 = .ok (.aload_n 0, 1) := by decide +kernel
theorem dX13_directive_121 : decode cX13_directive 121 = .ok (.invokevirtual 525, 3) := by decide +kernel
theorem dX13_directive_124 : decode cX13_directive 124 = .ok (.istore 4, 2) := by decide +kernel
theorem dX13_directive_126 : decode cX13_directive 126 = .ok (.iconst 0, 1) := by decide +kernel
theorem dX13_directive_127 : decode cX13_directive 127 = .ok (.istore 5, 2) := by decide +kernel
theorem dX13_directive_129 : decode cX13_directive 129 = .ok (.iload 5, 2) := by decide +kernel
theorem dX13_directive_131 : decode cX13_directive 131 = .ok (.iload_n 2, 1) := by decide +kernel
theorem dX13_directive_132 : decode cX13_directive 132 = .ok (.if_icmp .ge 21, 3) := by decide +kernel
theorem dX13_directive_135 : decode cX13_directive 135 = .ok (.aload_n 0, 1) := by decide +kernel
theorem dX13_directive_136 : decode cX13_directive 136 = .ok (.iload 4, 2) := by decide +kernel
theorem dX13_directive_138 : decode cX13_directive 138 = .ok (.bipush 8, 2) := by decide +kernel
theorem dX13_directive_140 : decode cX13_directive 140 = .ok (.iload 5, 2) := by decide +kernel
theorem dX13_directive_142 : decode cX13_directive 142 = .ok (.imul, 1) := by decide +kernel
theorem dX13_directive_143 : decode cX13_directive 143 = .ok (.ishr, 1) := by decide +kernel
theorem dX13_directive_144 : decode cX13_directive 144 = .ok (.invokevirtual 544, 3) := by decide +kernel
theorem dX13_directive_147 : decode cX13_directive 147 = .ok (.iinc 5 1, 3) := by decide +kernel
theorem dX13_directive_150 : decode cX13_directive 150 = .ok (.goto (-21), 3) := by decide +kernel
theorem dX13_directive_153 : decode cX13_directive 153 = .ok (.aload_n 0, 1) := by decide +kernel
theorem dX13_directive_154 : decode cX13_directive 154 = .ok (.getfield 410, 3) := by decide +kernel
theorem dX13_directive_157 : decode cX13_directive 157 = .ok (.ifCond .ne 23, 3) := by decide +kernel
theorem dX13_directive_160 : decode cX13_directive 160 = .ok (.aload_n 0, 1) := by decide +kernel
theorem dX13_directive_161 : decode cX13_directive 161 = .ok (.invokevirtual 579, 3) := by decide +kernel
theorem dX13_directive_164 : decode cX13_directive 164 = .ok (.ifCond .ne 16, 3) := by decide +kernel
theorem dX13_directive_167 : decode cX13_directive 167 = .ok (.aload_n 0, 1) := by decide +kernel
theorem dX13_directive_168 : decode cX13_directive 168 = .ok (.bipush 44, 2) := by decide +kernel
theorem dX13_directive_170 : decode cX13_directive 170 = .ok (.invokevirtual 506, 3) := by decide +kernel
theorem dX13_directive_173 : decode cX13_directive 173 = .ok (.ifCond .eq 7, 3) := by decide +kernel
theorem dX13_directive_176 : decode cX13_directive 176 = .ok (.iconst 1, 1) := by decide +kernel
theorem dX13_directive_177 : decode cX13_directive 177 = .ok (.goto 4, 3) := by decide +kernel
theorem dX13_directive_180 : decode cX13_directive 180 = .ok (.iconst 0, 1) := by decide +kernel
theorem dX13_directive_181 : decode cX13_directive 181 = .ok (.istore_n 3, 1) := by decide +kernel
theorem dX13_directive_182 : decode cX13_directive 182 = .ok (.goto (-95), 3) := by decide +kernel
theorem dX13_directive_185 : decode cX13_directive 185 = .ok (.return_, 1) := by decide +kernel
theorem dX13_named_0 : decode cX13_named 0 = .ok (.aload_n 0, 1) := by decide +kernel
theorem dX13_named_1 : decode cX13_named 1 = .ok (.iload_n 1, 1) := by decide +kernel
theorem dX13_named_2 : decode cX13_named 2 = .ok (.iload_n 2, 1) := by decide +kernel
theorem dX13_named_3 : decode cX13_named 3 = .ok (.invokevirtual 423, 3) := by decide +kernel
theorem dX13_named_6 : decode cX13_named 6 = .ok (.lstore_n 3, 1) := by decide +kernel
theorem dX13_named_7 : decode cX13_named 7 = .ok (.iconst 0, 1) := by decide +kernel
theorem dX13_named_8 : decode cX13_named 8 = .ok (.istore 5, 2) := by decide +kernel
theorem dX13_named_10 : decode cX13_named 10 = .ok (.iload 5, 2) := by decide +kernel
theorem dX13_named_12 : decode cX13_named 12 = .ok (.aload_n 0, 1) := by decide +kernel
theorem dX13_named_13 : decode cX13_named 13 = .ok (.getfield 263, 3) := by decide +kernel
theorem dX13_named_16 : decode cX13_named 16 = .ok (.arraylength, 1) := by decide +kernel
theorem dX13_named_17 : decode cX13_named 17 = .ok (.if_icmp .ge 24, 3) := by decide +kernel
theorem dX13_named_20 : decode cX13_named 20 = .ok (.aload_n 0, 1) := by decide +kernel
theorem dX13_named_21 : decode cX13_named 21 = .ok (.getfield 263, 3) := by decide +kernel
theorem dX13_named_24 : decode cX13_named 24 = .ok (.iload 5, 2) := by decide +kernel
theorem dX13_named_26 : decode cX13_named 26 = .ok (.laload, 1) := by decide +kernel
theorem dX13_named_27 : decode cX13_named 27 = .ok (.lload_n 3, 1) := by decide +kernel
theorem dX13_named_28 : decode cX13_named 28 = .ok (.lcmp, 1) := by decide +kernel
theorem dX13_named_29 : decode cX13_named 29 = .ok (.ifCond .ne 6, 3) := by decide +kernel
theorem dX13_named_32 : decode cX13_named 32 = .ok (.iload 5, 2) := by decide +kernel
theorem dX13_named_34 : decode cX13_named 34 = .ok (.ireturn, 1) := by decide +kernel
theorem dX13_named_35 : decode cX13_named 35 = .ok (.iinc 5 1, 3) := by decide +kernel
theorem dX13_named_38 : decode cX13_named 38 = .ok (.goto (-28), 3) := by decide +kernel
theorem dX13_named_41 : decode cX13_named 41 = .ok (.iconst (-1), 1) := by decide +kernel
theorem dX13_named_42 : decode cX13_named 42 = .ok (.ireturn, 1) := by decide +kernel
theorem dX13_suffix_0 : decode cX13_suffix 0 = .ok (.aload_n 0, 1) := by decide +kernel
theorem dX13_suffix_1 : decode cX13_suffix 1 = .ok (.getfield 371, 3) := by decide +kernel
theorem dX13_suffix_4 : decode cX13_suffix 4 = .ok (.aload_n 0, 1) := by decide +kernel
theorem dX13_suffix_5 : decode cX13_suffix 5 = .ok (.getfield 368, 3) := by decide +kernel
theorem dX13_suffix_8 : decode cX13_suffix 8 = .ok (.isub, 1) := by decide +kernel
theorem dX13_suffix_9 : decode cX13_suffix 9 = .ok (.istore_n 1, 1) := by decide +kernel
theorem dX13_suffix_10 : decode cX13_suffix 10 = .ok (.iload_n 1, 1) := by decide +kernel
theorem dX13_suffix_11 : decode cX13_suffix 11 = .ok (.iconst 5, 1) := by decide +kernel
theorem dX13_suffix_12 : decode cX13_suffix 12 = .ok (.if_icmp .le 85, 3) := by decide +kernel
theorem dX13_suffix_15 : decode cX13_suffix 15 = .ok (.aload_n 0, 1) := by decide +kernel
theorem dX13_suffix_16 : decode cX13_suffix 16 = .ok (.getfield 324, 3) := by decide +kernel
theorem dX13_suffix_19 : decode cX13_suffix 19 = .ok (.aload_n 0, 1) := by decide +kernel
theorem dX13_suffix_20 : decode cX13_suffix 20 = .ok (.getfield 371, 3) := by decide +kernel
theorem dX13_suffix_23 : decode cX13_suffix 23 = .ok (.iconst 5, 1) := by decide +kernel
theorem dX13_suffix_24 : decode cX13_suffix 24 = .ok (.isub, 1) := by decide +kernel
theorem dX13_suffix_25 : decode cX13_suffix 25 = .ok (.caload, 1) := by decide +kernel
theorem dX13_suffix_26 : decode cX13_suffix 26 = .ok (.bipush 46, 2) := by decide +kernel
theorem dX13_suffix_28 : decode cX13_suffix 28 = .ok (.if_icmp .ne 69, 3) := by decide +kernel
theorem dX13_suffix_31 : decode cX13_suffix 31 = .ok (.aload_n 0, 1) := by decide +kernel
theorem dX13_suffix_32 : decode cX13_suffix 32 = .ok (.getfield 324, 3) := by decide +kernel
theorem dX13_suffix_35 : decode cX13_suffix 35 = .ok (.aload_n 0, 1) := by decide +kernel
theorem dX13_suffix_36 : decode cX13_suffix 36 = .ok (.getfield 371, 3) := by decide +kernel
theorem dX13_suffix_39 : decode cX13_suffix 39 = .ok (.iconst 4, 1) := by decide +kernel
theorem dX13_suffix_40 : decode cX13_suffix 40 = .ok (.isub, 1) := by decide +kernel
theorem dX13_suffix_41 : decode cX13_suffix 41 = .ok (.caload, 1) := by decide +kernel
theorem dX13_suffix_42 : decode cX13_suffix 42 = .ok (.bipush 97, 2) := by decide +kernel
theorem dX13_suffix_44 : decode cX13_suffix 44 = .ok (.if_icmp .ne 53, 3) := by decide +kernel
theorem dX13_suffix_47 : decode cX13_suffix 47 = .ok (.aload_n 0, 1) := by decide +kernel
theorem dX13_suffix_48 : decode cX13_suffix 48 = .ok (.getfield 324, 3) := by decide +kernel
theorem dX13_suffix_51 : decode cX13_suffix 51 = .ok (.aload_n 0, 1) := by decide +kernel
theorem dX13_suffix_52 : decode cX13_suffix 52 = .ok (.getfield 371, 3) := by decide +kernel
theorem dX13_suffix_55 : decode cX13_suffix 55 = .ok (.iconst 3, 1) := by decide +kernel
theorem dX13_suffix_56 : decode cX13_suffix 56 = .ok (.isub, 1) := by decide +kernel
theorem dX13_suffix_57 : decode cX13_suffix 57 = .ok (.caload, 1) := by decide +kernel
theorem dX13_suffix_58 : decode cX13_suffix 58 = .ok (.bipush 113, 2) := by decide +kernel
theorem dX13_suffix_60 : decode cX13_suffix 60 = .ok (.if_icmp .ne 37, 3) := by decide +kernel
theorem dX13_suffix_63 : decode cX13_suffix 63 = .ok (.aload_n 0, 1) := by decide +kernel
theorem dX13_suffix_64 : decode cX13_suffix 64 = .ok (.getfield 324, 3) := by decide +kernel
theorem dX13_suffix_67 : decode cX13_suffix 67 = .ok (.aload_n 0, 1) := by decide +kernel
theorem dX13_suffix_68 : decode cX13_suffix 68 = .ok (.getfield 371, 3) := by decide +kernel
theorem dX13_suffix_71 : decode cX13_suffix 71 = .ok (.iconst 2, 1) := by decide +kernel
theorem dX13_suffix_72 : decode cX13_suffix 72 = .ok (.isub, 1) := by decide +kernel
theorem dX13_suffix_73 : decode cX13_suffix 73 = .ok (.caload, 1) := by decide +kernel
theorem dX13_suffix_74 : decode cX13_suffix 74 = .ok (.bipush 114, 2) := by decide +kernel
theorem dX13_suffix_76 : decode cX13_suffix 76 = .ok (.if_icmp .ne 21, 3) := by decide +kernel
theorem dX13_suffix_79 : decode cX13_suffix 79 = .ok (.aload_n 0, 1) := by decide +kernel
theorem dX13_suffix_80 : decode cX13_suffix 80 = .ok (.getfield 324, 3) := by decide +kernel
theorem dX13_suffix_83 : decode cX13_suffix 83 = .ok (.aload_n 0, 1) := by decide +kernel
theorem dX13_suffix_84 : decode cX13_suffix 84 = .ok (.getfield 371, 3) := by decide +kernel
theorem dX13_suffix_87 : decode cX13_suffix 87 = .ok (.iconst 1, 1) := by decide +kernel
theorem dX13_suffix_88 : decode cX13_suffix 88 = .ok (.isub, 1) := by decide +kernel
theorem dX13_suffix_89 : decode cX13_suffix 89 = .ok (.caload, 1) := by decide +kernel
theorem dX13_suffix_90 : decode cX13_suffix 90 = .ok (.bipush 108, 2) := by decide +kernel
theorem dX13_suffix_92 : decode cX13_suffix 92 = .ok (.if_icmp .ne 5, 3) := by decide +kernel
theorem dX13_suffix_95 : decode cX13_suffix 95 = .ok (.iconst 5, 1) := by decide +kernel
theorem dX13_suffix_96 : decode cX13_suffix 96 = .ok (.ireturn, 1) := by decide +kernel
theorem dX13_suffix_97 : decode cX13_suffix 97 = .ok (.iload_n 1, 1) := by decide +kernel
theorem dX13_suffix_98 : decode cX13_suffix 98 = .ok (.iconst 3, 1) := by decide +kernel
theorem dX13_suffix_99 : decode cX13_suffix 99 = .ok (.if_icmp .le 39, 3) := by decide +kernel
theorem dX13_suffix_102 : decode cX13_suffix 102 = .ok (.aload_n 0, 1) := by decide +kernel
theorem dX13_suffix_103 : decode cX13_suffix 103 = .ok (.getfield 324, 3) := by decide +kernel
theorem dX13_suffix_106 : decode cX13_suffix 106 = .ok (.aload_n 0, 1) := by decide +kernel
theorem dX13_suffix_107 : decode cX13_suffix 107 = .ok (.getfield 371, 3) := by decide +kernel
theorem dX13_suffix_110 : decode cX13_suffix 110 = .ok (.iconst 2, 1) := by decide +kernel
theorem dX13_suffix_111 : decode cX13_suffix 111 = .ok (.isub, 1) := by decide +kernel
theorem dX13_suffix_112 : decode cX13_suffix 112 = .ok (.caload, 1) := by decide +kernel
theorem dX13_suffix_113 : decode cX13_suffix 113 = .ok (.bipush 97, 2) := by decide +kernel
theorem dX13_suffix_115 : decode cX13_suffix 115 = .ok (.if_icmp .ne 23, 3) := by decide +kernel
theorem dX13_suffix_118 : decode cX13_suffix 118 = .ok (.aload_n 0, 1) := by decide +kernel
theorem dX13_suffix_119 : decode cX13_suffix 119 = .ok (.getfield 324, 3) := by decide +kernel
theorem dX13_suffix_122 : decode cX13_suffix 122 = .ok (.aload_n 0, 1) := by decide +kernel
theorem dX13_suffix_123 : decode cX13_suffix 123 = .ok (.getfield 371, 3) := by decide +kernel
theorem dX13_suffix_126 : decode cX13_suffix 126 = .ok (.iconst 1, 1) := by decide +kernel
theorem dX13_suffix_127 : decode cX13_suffix 127 = .ok (.isub, 1) := by decide +kernel
theorem dX13_suffix_128 : decode cX13_suffix 128 = .ok (.caload, 1) := by decide +kernel
theorem dX13_suffix_129 : decode cX13_suffix 129 = .ok (.bipush 113, 2) := by decide +kernel
theorem dX13_suffix_131 : decode cX13_suffix 131 = .ok (.if_icmp .ne 7, 3) := by decide +kernel
theorem dX13_suffix_134 : decode cX13_suffix 134 = .ok (.iconst 1, 1) := by decide +kernel
theorem dX13_suffix_135 : decode cX13_suffix 135 = .ok (.goto 4, 3) := by decide +kernel
theorem dX13_suffix_138 : decode cX13_suffix 138 = .ok (.iconst 0, 1) := by decide +kernel
theorem dX13_suffix_139 : decode cX13_suffix 139 = .ok (.istore_n 2, 1) := by decide +kernel
theorem dX13_suffix_140 : decode cX13_suffix 140 = .ok (.iload_n 1, 1) := by decide +kernel
theorem dX13_suffix_141 : decode cX13_suffix 141 = .ok (.iconst 3, 1) := by decide +kernel
theorem dX13_suffix_142 : decode cX13_suffix 142 = .ok (.if_icmp .le 39, 3) := by decide +kernel
theorem dX13_suffix_145 : decode cX13_suffix 145 = .ok (.aload_n 0, 1) := by decide +kernel
theorem dX13_suffix_146 : decode cX13_suffix 146 = .ok (.getfield 324, 3) := by decide +kernel
theorem dX13_suffix_149 : decode cX13_suffix 149 = .ok (.aload_n 0, 1) := by decide +kernel
theorem dX13_suffix_150 : decode cX13_suffix 150 = .ok (.getfield 371, 3) := by decide +kernel
theorem dX13_suffix_153 : decode cX13_suffix 153 = .ok (.iconst 2, 1) := by decide +kernel
theorem dX13_suffix_154 : decode cX13_suffix 154 = .ok (.isub, 1) := by decide +kernel
theorem dX13_suffix_155 : decode cX13_suffix 155 = .ok (.caload, 1) := by decide +kernel
theorem dX13_suffix_156 : decode cX13_suffix 156 = .ok (.bipush 114, 2) := by decide +kernel
theorem dX13_suffix_158 : decode cX13_suffix 158 = .ok (.if_icmp .ne 23, 3) := by decide +kernel
theorem dX13_suffix_161 : decode cX13_suffix 161 = .ok (.aload_n 0, 1) := by decide +kernel
theorem dX13_suffix_162 : decode cX13_suffix 162 = .ok (.getfield 324, 3) := by decide +kernel
theorem dX13_suffix_165 : decode cX13_suffix 165 = .ok (.aload_n 0, 1) := by decide +kernel
theorem dX13_suffix_166 : decode cX13_suffix 166 = .ok (.getfield 371, 3) := by decide +kernel
theorem dX13_suffix_169 : decode cX13_suffix 169 = .ok (.iconst 1, 1) := by decide +kernel
theorem dX13_suffix_170 : decode cX13_suffix 170 = .ok (.isub, 1) := by decide +kernel
theorem dX13_suffix_171 : decode cX13_suffix 171 = .ok (.caload, 1) := by decide +kernel
theorem dX13_suffix_172 : decode cX13_suffix 172 = .ok (.bipush 108, 2) := by decide +kernel
theorem dX13_suffix_174 : decode cX13_suffix 174 = .ok (.if_icmp .ne 7, 3) := by decide +kernel
theorem dX13_suffix_177 : decode cX13_suffix 177 = .ok (.iconst 1, 1) := by decide +kernel
theorem dX13_suffix_178 : decode cX13_suffix 178 = .ok (.goto 4, 3) := by decide +kernel
theorem dX13_suffix_181 : decode cX13_suffix 181 = .ok (.iconst 0, 1) := by decide +kernel
theorem dX13_suffix_182 : decode cX13_suffix 182 = .ok (.istore_n 3, 1) := by decide +kernel
theorem dX13_suffix_183 : decode cX13_suffix 183 = .ok (.iload_n 2, 1) := by decide +kernel
theorem dX13_suffix_184 : decode cX13_suffix 184 = .ok (.ifCond .ne 7, 3) := by decide +kernel
theorem dX13_suffix_187 : decode cX13_suffix 187 = .ok (.iload_n 3, 1) := by decide +kernel
theorem dX13_suffix_188 : decode cX13_suffix 188 = .ok (.ifCond .eq 23, 3) := by decide +kernel
theorem dX13_suffix_191 : decode cX13_suffix 191 = .ok (.aload_n 0, 1) := by decide +kernel
theorem dX13_suffix_192 : decode cX13_suffix 192 = .ok (.getfield 324, 3) := by decide +kernel
theorem dX13_suffix_195 : decode cX13_suffix 195 = .ok (.aload_n 0, 1) := by decide +kernel
theorem dX13_suffix_196 : decode cX13_suffix 196 = .ok (.getfield 371, 3) := by decide +kernel
theorem dX13_suffix_199 : decode cX13_suffix 199 = .ok (.iconst 3, 1) := by decide +kernel
theorem dX13_suffix_200 : decode cX13_suffix 200 = .ok (.isub, 1) := by decide +kernel
theorem dX13_suffix_201 : decode cX13_suffix 201 = .ok (.caload, 1) := by decide +kernel
theorem dX13_suffix_202 : decode cX13_suffix 202 = .ok (.bipush 46, 2) := by decide +kernel
theorem dX13_suffix_204 : decode cX13_suffix 204 = .ok (.if_icmp .ne 7, 3) := by decide +kernel
theorem dX13_suffix_207 : decode cX13_suffix 207 = .ok (.iconst 3, 1) := by decide +kernel
theorem dX13_suffix_208 : decode cX13_suffix 208 = .ok (.goto 4, 3) := by decide +kernel
theorem dX13_suffix_211 : decode cX13_suffix 211 = .ok (.iconst 0, 1) := by decide +kernel
theorem dX13_suffix_212 : decode cX13_suffix 212 = .ok (.ireturn, 1) := by decide +kernel
theorem dX13_statement_0 : decode cX13_statement 0 = .ok (.aload_n 0, 1) := by decide +kernel
theorem dX13_statement_1 : decode cX13_statement 1 = .ok (.iload_n 2, 1) := by decide +kernel
theorem dX13_statement_2 : decode cX13_statement 2 = .ok (.putfield 522, 3) := by decide +kernel
theorem dX13_statement_5 : decode cX13_statement 5 = .ok (.aload_n 0, 1) := by decide +kernel
theorem dX13_statement_6 : decode cX13_statement 6 = .ok (.iload_n 1, 1) := by decide +kernel
theorem dX13_statement_7 : decode cX13_statement 7 = .ok (.putfield 374, 3) := by decide +kernel
theorem dX13_statement_10 : decode cX13_statement 10 = .ok (.aload_n 0, 1) := by decide +kernel
theorem dX13_statement_11 : decode cX13_statement 11 = .ok (.iconst 0, 1) := by decide +kernel
theorem dX13_statement_12 : decode cX13_statement 12 = .ok (.putfield 541, 3) := by decide +kernel
theorem dX13_statement_15 : decode cX13_statement 15 = .ok (.aload_n 0, 1) := by decide +kernel
theorem dX13_statement_16 : decode cX13_statement 16 = .ok (.invokevirtual 416, 3) := by decide +kernel
theorem dX13_statement_19 : decode cX13_statement 19 = .ok (.aload_n 0, 1) := by decide +kernel
theorem dX13_statement_20 : decode cX13_statement 20 = .ok (.invokevirtual 645, 3) := by decide +kernel
theorem dX13_statement_23 : decode cX13_statement 23 = .ok (.istore_n 3, 1) := by decide +kernel
theorem dX13_statement_24 : decode cX13_statement 24 = .ok (.aload_n 0, 1) := by decide +kernel
theorem dX13_statement_25 : decode cX13_statement 25 = .ok (.aload_n 0, 1) := by decide +kernel
