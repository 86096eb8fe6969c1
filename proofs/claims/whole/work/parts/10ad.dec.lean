theorem dX14_readRun_138 : decode cX14_readRun 138 = .ok (.getfield 27, 3) := by decide +kernel
theorem dX14_readRun_141 : decode cX14_readRun 141 = .ok (.iconst 1, 1) := by decide +kernel
theorem dX14_readRun_142 : decode cX14_readRun 142 = .ok (.isub, 1) := by decide +kernel
theorem dX14_readRun_143 : decode cX14_readRun 143 = .ok (.iaload, 1) := by decide +kernel
theorem dX14_readRun_144 : decode cX14_readRun 144 = .ok (.invokevirtual 94, 3) := by decide +kernel
theorem dX14_readRun_147 : decode cX14_readRun 147 = .ok (.lload 6, 2) := by decide +kernel
theorem dX14_readRun_149 : decode cX14_readRun 149 = .ok (.lconst 1, 1) := by decide +kernel
theorem dX14_readRun_150 : decode cX14_readRun 150 = .ok (.ladd, 1) := by decide +kernel
theorem dX14_readRun_151 : decode cX14_readRun 151 = .ok (.lstore 6, 2) := by decide +kernel
theorem dX14_readRun_153 : decode cX14_readRun 153 = .ok (.goto (-69), 3) := by decide +kernel
theorem dX14_readRun_156 : decode cX14_readRun 156 = .ok (.return_, 1) := by decide +kernel
theorem dX14_readBytes_0 : decode cX14_readBytes 0 = .ok (.lconst 0, 1) := by decide +kernel
theorem dX14_readBytes_1 : decode cX14_readBytes 1 = .ok (.lstore_n 2, 1) := by decide +kernel
theorem dX14_readBytes_2 : decode cX14_readBytes 2 = .ok (.iconst 0, 1) := by decide +kernel
theorem dX14_readBytes_3 : decode cX14_readBytes 3 = .ok (.istore 4, 2) := by decide +kernel
theorem dX14_readBytes_5 : decode cX14_readBytes 5 = .ok (.iload 4, 2) := by decide +kernel
theorem dX14_readBytes_7 : decode cX14_readBytes 7 = .ok (.iload_n 1, 1) := by decide +kernel
theorem dX14_readBytes_8 : decode cX14_readBytes 8 = .ok (.if_icmp .ge 20, 3) := by decide +kernel
theorem dX14_readBytes_11 : decode cX14_readBytes 11 = .ok (.lload_n 2, 1) := by decide +kernel
theorem dX14_readBytes_12 : decode cX14_readBytes 12 = .ok (.bipush 8, 2) := by decide +kernel
theorem dX14_readBytes_14 : decode cX14_readBytes 14 = .ok (.lshl, 1) := by decide +kernel
theorem dX14_readBytes_15 : decode cX14_readBytes 15 = .ok (.aload_n 0, 1) := by decide +kernel
theorem dX14_readBytes_16 : decode cX14_readBytes 16 = .ok (.invokevirtual 81, 3) := by decide +kernel
theorem dX14_readBytes_19 : decode cX14_readBytes 19 = .ok (.i2l, 1) := by decide +kernel
theorem dX14_readBytes_20 : decode cX14_readBytes 20 = .ok (.lor, 1) := by decide +kernel
theorem dX14_readBytes_21 : decode cX14_readBytes 21 = .ok (.lstore_n 2, 1) := by decide +kernel
theorem dX14_readBytes_22 : decode cX14_readBytes 22 = .ok (.iinc 4 1, 3) := by decide +kernel
theorem dX14_readBytes_25 : decode cX14_readBytes 25 = .ok (.goto (-20), 3) := by decide +kernel
theorem dX14_readBytes_28 : decode cX14_readBytes 28 = .ok (.lload_n 2, 1) := by decide +kernel
theorem dX14_readBytes_29 : decode cX14_readBytes 29 = .ok (.lreturn, 1) := by decide +kernel
theorem dX14_readEntry_0 : decode cX14_readEntry 0 = .ok (.iload_n 1, 1) := by decide +kernel
theorem dX14_readEntry_1 : decode cX14_readEntry 1 = .ok (.bipush 7, 2) := by decide +kernel
theorem dX14_readEntry_3 : decode cX14_readEntry 3 = .ok (.iand, 1) := by decide +kernel
theorem dX14_readEntry_4 : decode cX14_readEntry 4 = .ok (.istore_n 3, 1) := by decide +kernel
theorem dX14_readEntry_5 : decode cX14_readEntry 5 = .ok (.iload_n 1, 1) := by decide +kernel
theorem dX14_readEntry_6 : decode cX14_readEntry 6 = .ok (.iconst 4, 1) := by decide +kernel
theorem dX14_readEntry_7 : decode cX14_readEntry 7 = .ok (.ishr, 1) := by decide +kernel
theorem dX14_readEntry_8 : decode cX14_readEntry 8 = .ok (.istore 4, 2) := by decide +kernel
theorem dX14_readEntry_10 : decode cX14_readEntry 10 = .ok (.iload_n 3, 1) := by decide +kernel
theorem dX14_readEntry_11 : decode cX14_readEntry 11 = .ok (.iconst 5, 1) := by decide +kernel
theorem dX14_readEntry_12 : decode cX14_readEntry 12 = .ok (.if_icmp .gt 36, 3) := by decide +kernel
theorem dX14_readEntry_15 : decode cX14_readEntry 15 = .ok (.iload_n 3, 1) := by decide +kernel
theorem dX14_readEntry_16 : decode cX14_readEntry 16 = .ok (.iconst 1, 1) := by decide +kernel
theorem dX14_readEntry_17 : decode cX14_readEntry 17 = .ok (.if_icmp .ne 10, 3) := by decide +kernel
theorem dX14_readEntry_20 : decode cX14_readEntry 20 = .ok (.iload 4, 2) := by decide +kernel
theorem dX14_readEntry_22 : decode cX14_readEntry 22 = .ok (.bipush 8, 2) := by decide +kernel
theorem dX14_readEntry_24 : decode cX14_readEntry 24 = .ok (.if_icmp .gt 24, 3) := by decide +kernel
theorem dX14_readEntry_27 : decode cX14_readEntry 27 = .ok (.iload_n 3, 1) := by decide +kernel
theorem dX14_readEntry_28 : decode cX14_readEntry 28 = .ok (.iconst 3, 1) := by decide +kernel
theorem dX14_readEntry_29 : decode cX14_readEntry 29 = .ok (.if_icmp .ne 9, 3) := by decide +kernel
theorem dX14_readEntry_32 : decode cX14_readEntry 32 = .ok (.iload 4, 2) := by decide +kernel
theorem dX14_readEntry_34 : decode cX14_readEntry 34 = .ok (.iconst 1, 1) := by decide +kernel
theorem dX14_readEntry_35 : decode cX14_readEntry 35 = .ok (.if_icmp .gt 13, 3) := by decide +kernel
theorem dX14_readEntry_38 : decode cX14_readEntry 38 = .ok (.iload_n 3, 1) := by decide +kernel
theorem dX14_readEntry_39 : decode cX14_readEntry 39 = .ok (.iconst 4, 1) := by decide +kernel
theorem dX14_readEntry_40 : decode cX14_readEntry 40 = .ok (.if_icmp .ne 14, 3) := by decide +kernel
theorem dX14_readEntry_43 : decode cX14_readEntry 43 = .ok (.iload 4, 2) := by decide +kernel
theorem dX14_readEntry_45 : decode cX14_readEntry 45 = .ok (.ifCond .le 9, 3) := by decide +kernel
theorem dX14_readEntry_48 : decode cX14_readEntry 48 = .ok (.aload_n 0, 1) := by decide +kernel
theorem dX14_readEntry_49 : decode cX14_readEntry 49 = .ok (.iconst 1, 1) := by decide +kernel
theorem dX14_readEntry_50 : decode cX14_readEntry 50 = .ok (.iload_n 2, 1) := by decide +kernel
theorem dX14_readEntry_51 : decode cX14_readEntry 51 = .ok (.invokevirtual 74, 3) := by decide +kernel
theorem dX14_readEntry_54 : decode cX14_readEntry 54 = .ok (.aload_n 0, 1) := by decide +kernel
theorem dX14_readEntry_55 : decode cX14_readEntry 55 = .ok (.getfield 65, 3) := by decide +kernel
theorem dX14_readEntry_58 : decode cX14_readEntry 58 = .ok (.ifCond .le 4, 3) := by decide +kernel
theorem dX14_readEntry_61 : decode cX14_readEntry 61 = .ok (.return_, 1) := by decide +kernel
theorem dX14_readEntry_62 : decode cX14_readEntry 62 = .ok (.aload_n 0, 1) := by decide +kernel
theorem dX14_readEntry_63 : decode cX14_readEntry 63 = .ok (.iconst 3, 1) := by decide +kernel
theorem dX14_readEntry_64 : decode cX14_readEntry 64 = .ok (.lconst 1, 1) := by decide +kernel
theorem dX14_readEntry_65 : decode cX14_readEntry 65 = .ok (.invokevirtual 98, 3) := by decide +kernel
theorem dX14_readEntry_68 : decode cX14_readEntry 68 = .ok (.istore 5, 2) := by decide +kernel
theorem dX14_readEntry_70 : decode cX14_readEntry 70 = .ok (.iload_n 1, 1) := by decide +kernel
theorem dX14_readEntry_71 : decode cX14_readEntry 71 = .ok (.bipush 8, 2) := by decide +kernel
theorem dX14_readEntry_73 : decode cX14_readEntry 73 = .ok (.iand, 1) := by decide +kernel
theorem dX14_readEntry_74 : decode cX14_readEntry 74 = .ok (.ifCond .ne 10, 3) := by decide +kernel
theorem dX14_readEntry_77 : decode cX14_readEntry 77 = .ok (.aload_n 0, 1) := by decide +kernel
theorem dX14_readEntry_78 : decode cX14_readEntry 78 = .ok (.invokevirtual 87, 3) := by decide +kernel
theorem dX14_readEntry_81 : decode cX14_readEntry 81 = .ok (.goto 25, 3) := by decide +kernel
theorem dX14_readEntry_84 : decode cX14_readEntry 84 = .ok (.aload_n 0, 1) := by decide +kernel
theorem dX14_readEntry_85 : decode cX14_readEntry 85 = .ok (.getfield 27, 3) := by decide +kernel
theorem dX14_readEntry_88 : decode cX14_readEntry 88 = .ok (.ifCond .ne 7, 3) := by decide +kernel
theorem dX14_readEntry_91 : decode cX14_readEntry 91 = .ok (.lconst 0, 1) := by decide +kernel
theorem dX14_readEntry_92 : decode cX14_readEntry 92 = .ok (.goto 14, 3) := by decide +kernel
theorem dX14_readEntry_95 : decode cX14_readEntry 95 = .ok (.aload_n 0, 1) := by decide +kernel
theorem dX14_readEntry_96 : decode cX14_readEntry 96 = .ok (.getfield 16, 3) := by decide +kernel
theorem dX14_readEntry_99 : decode cX14_readEntry 99 = .ok (.aload_n 0, 1) := by decide +kernel
theorem dX14_readEntry_100 : decode cX14_readEntry 100 = .ok (.getfield 27, 3) := by decide +kernel
theorem dX14_readEntry_103 : decode cX14_readEntry 103 = .ok (.iconst 1, 1) := by decide +kernel
theorem dX14_readEntry_104 : decode cX14_readEntry 104 = .ok (.isub, 1) := by decide +kernel
theorem dX14_readEntry_105 : decode cX14_readEntry 105 = .ok (.laload, 1) := by decide +kernel
theorem dX14_readEntry_106 : decode cX14_readEntry 106 = .ok (.lstore 6, 2) := by decide +kernel
theorem dX14_readEntry_108 : decode cX14_readEntry 108 = .ok (.iload_n 3, 1) := by decide +kernel
theorem dX14_readEntry_109 : decode cX14_readEntry 109 = .ok (.iconst 3, 1) := by decide +kernel
theorem dX14_readEntry_110 : decode cX14_readEntry 110 = .ok (.if_icmp .ne 20, 3) := by decide +kernel
theorem dX14_readEntry_113 : decode cX14_readEntry 113 = .ok (.iload 4, 2) := by decide +kernel
theorem dX14_readEntry_115 : decode cX14_readEntry 115 = .ok (.iconst 1, 1) := by decide +kernel
theorem dX14_readEntry_116 : decode cX14_readEntry 116 = .ok (.if_icmp .ne 14, 3) := by decide +kernel
theorem dX14_readEntry_119 : decode cX14_readEntry 119 = .ok (.iload 5, 2) := by decide +kernel
theorem dX14_readEntry_121 : decode cX14_readEntry 121 = .ok (.ifCond .ge 9, 3) := by decide +kernel
theorem dX14_readEntry_124 : decode cX14_readEntry 124 = .ok (.aload_n 0, 1) := by decide +kernel
theorem dX14_readEntry_125 : decode cX14_readEntry 125 = .ok (.iconst 4, 1) := by decide +kernel
theorem dX14_readEntry_126 : decode cX14_readEntry 126 = .ok (.iload_n 2, 1) := by decide +kernel
theorem dX14_readEntry_127 : decode cX14_readEntry 127 = .ok (.invokevirtual 74, 3) := by decide +kernel
theorem dX14_readEntry_130 : decode cX14_readEntry 130 = .ok (.aload_n 0, 1) := by decide +kernel
theorem dX14_readEntry_131 : decode cX14_readEntry 131 = .ok (.getfield 65, 3) := by decide +kernel
theorem dX14_readEntry_134 : decode cX14_readEntry 134 = .ok (.ifCond .le 4, 3) := by decide +kernel
theorem dX14_readEntry_137 : decode cX14_readEntry 137 = .ok (.return_, 1) := by decide +kernel
theorem dX14_readEntry_138 : decode cX14_readEntry 138 = .ok (.iload_n 3, 1) := by decide +kernel
theorem dX14_readEntry_139 : decode cX14_readEntry 139 = .ok (.ifCond .eq 8, 3) := by decide +kernel
theorem dX14_readEntry_142 : decode cX14_readEntry 142 = .ok (.iload_n 3, 1) := by decide +kernel
theorem dX14_readEntry_143 : decode cX14_readEntry 143 = .ok (.iconst 2, 1) := by decide +kernel
theorem dX14_readEntry_144 : decode cX14_readEntry 144 = .ok (.if_icmp .ne 9, 3) := by decide +kernel
theorem dX14_readEntry_147 : decode cX14_readEntry 147 = .ok (.iload 4, 2) := by decide +kernel
theorem dX14_readEntry_149 : decode cX14_readEntry 149 = .ok (.i2l, 1) := by decide +kernel
theorem dX14_readEntry_150 : decode cX14_readEntry 150 = .ok (.goto 50, 3) := by decide +kernel
theorem dX14_readEntry_153 : decode cX14_readEntry 153 = .ok (.iload_n 3, 1) := by decide +kernel
theorem dX14_readEntry_154 : decode cX14_readEntry 154 = .ok (.iconst 4, 1) := by decide +kernel
theorem dX14_readEntry_155 : decode cX14_readEntry 155 = .ok (.if_icmp .ne 11, 3) := by decide +kernel
theorem dX14_readEntry_158 : decode cX14_readEntry 158 = .ok (.aload_n 0, 1) := by decide +kernel
theorem dX14_readEntry_159 : decode cX14_readEntry 159 = .ok (.iconst 4, 1) := by decide +kernel
theorem dX14_readEntry_160 : decode cX14_readEntry 160 = .ok (.invokevirtual 102, 3) := by decide +kernel
theorem dX14_readEntry_163 : decode cX14_readEntry 163 = .ok (.goto 37, 3) := by decide +kernel
theorem dX14_readEntry_166 : decode cX14_readEntry 166 = .ok (.iload_n 3, 1) := by decide +kernel
theorem dX14_readEntry_167 : decode cX14_readEntry 167 = .ok (.iconst 1, 1) := by decide +kernel
theorem dX14_readEntry_168 : decode cX14_readEntry 168 = .ok (.if_icmp .ne 12, 3) := by decide +kernel
theorem dX14_readEntry_171 : decode cX14_readEntry 171 = .ok (.aload_n 0, 1) := by decide +kernel
theorem dX14_readEntry_172 : decode cX14_readEntry 172 = .ok (.iload 4, 2) := by decide +kernel
theorem dX14_readEntry_174 : decode cX14_readEntry 174 = .ok (.invokevirtual 102, 3) := by decide +kernel
theorem dX14_readEntry_177 : decode cX14_readEntry 177 = .ok (.goto 23, 3) := by decide +kernel
theorem dX14_readEntry_180 : decode cX14_readEntry 180 = .ok (.iload 4, 2) := by decide +kernel
theorem dX14_readEntry_182 : decode cX14_readEntry 182 = .ok (.iconst 1, 1) := by decide +kernel
theorem dX14_readEntry_183 : decode cX14_readEntry 183 = .ok (.if_icmp .ne 13, 3) := by decide +kernel
theorem dX14_readEntry_186 : decode cX14_readEntry 186 = .ok (.aload_n 0, 1) := by decide +kernel
theorem dX14_readEntry_187 : decode cX14_readEntry 187 = .ok (.getfield 20, 3) := by decide +kernel
theorem dX14_readEntry_190 : decode cX14_readEntry 190 = .ok (.iload 5, 2) := by decide +kernel
theorem dX14_readEntry_192 : decode cX14_readEntry 192 = .ok (.laload, 1) := by decide +kernel
theorem dX14_readEntry_193 : decode cX14_readEntry 193 = .ok (.goto 7, 3) := by decide +kernel
theorem dX14_readEntry_196 : decode cX14_readEntry 196 = .ok (.aload_n 0, 1) := by decide +kernel
theorem dX14_readEntry_197 : decode cX14_readEntry 197 = .ok (.invokevirtual 87, 3) := by decide +kernel
theorem dX14_readEntry_200 : decode cX14_readEntry 200 = .ok (.lstore 8, 2) := by decide +kernel
theorem dX14_readEntry_202 : decode cX14_readEntry 202 = .ok (.iload_n 3, 1) := by decide +kernel
theorem dX14_readEntry_203 : decode cX14_readEntry 203 = .ok (.iconst 1, 1) := by decide +kernel
theorem dX14_readEntry_204 : decode cX14_readEntry 204 = .ok (.if_icmp .ne 8, 3) := by decide +kernel
theorem dX14_readEntry_207 : decode cX14_readEntry 207 = .ok (.iload 4, 2) := by decide +kernel
theorem dX14_readEntry_209 : decode cX14_readEntry 209 = .ok (.goto 4, 3) := by decide +kernel
theorem dX14_readEntry_212 : decode cX14_readEntry 212 = .ok (.iconst 0, 1) := by decide +kernel
theorem dX14_readEntry_213 : decode cX14_readEntry 213 = .ok (.istore 10, 2) := by decide +kernel
theorem dX14_readEntry_215 : decode cX14_readEntry 215 = .ok (.iload_n 3, 1) := by decide +kernel
theorem dX14_readEntry_216 : decode cX14_readEntry 216 = .ok (.iconst 1, 1) := by decide +kernel
theorem dX14_readEntry_217 : decode cX14_readEntry 217 = .ok (.if_icmp .ne 66, 3) := by decide +kernel
theorem dX14_readEntry_220 : decode cX14_readEntry 220 = .ok (.iload 4, 2) := by decide +kernel
theorem dX14_readEntry_222 : decode cX14_readEntry 222 = .ok (.ifCond .ne 61, 3) := by decide +kernel
theorem dX14_readEntry_225 : decode cX14_readEntry 225 = .ok (.aload_n 0, 1) := by decide +kernel
theorem dX14_readEntry_226 : decode cX14_readEntry 226 = .ok (.iconst 1, 1) := by decide +kernel
theorem dX14_readEntry_227 : decode cX14_readEntry 227 = .ok (.aload_n 0, 1) := by decide +kernel
theorem dX14_readEntry_228 : decode cX14_readEntry 228 = .ok (.invokevirtual 91, 3) := by decide +kernel
theorem dX14_readEntry_231 : decode cX14_readEntry 231 = .ok (.invokevirtual 98, 3) := by decide +kernel
theorem dX14_readEntry_234 : decode cX14_readEntry 234 = .ok (.istore 11, 2) := by decide +kernel
theorem dX14_readEntry_236 : decode cX14_readEntry 236 = .ok (.iload 11, 2) := by decide +kernel
theorem dX14_readEntry_238 : decode cX14_readEntry 238 = .ok (.ifCond .ge 9, 3) := by decide +kernel
theorem dX14_readEntry_241 : decode cX14_readEntry 241 = .ok (.aload_n 0, 1) := by decide +kernel
theorem dX14_readEntry_242 : decode cX14_readEntry 242 = .ok (.iconst 4, 1) := by decide +kernel
theorem dX14_readEntry_243 : decode cX14_readEntry 243 = .ok (.iload_n 2, 1) := by decide +kernel
theorem dX14_readEntry_244 : decode cX14_readEntry 244 = .ok (.invokevirtual 74, 3) := by decide +kernel
theorem dX14_readEntry_247 : decode cX14_readEntry 247 = .ok (.iload 11, 2) := by decide +kernel
theorem dX14_readEntry_249 : decode cX14_readEntry 249 = .ok (.ifCond .ge 7, 3) := by decide +kernel
theorem dX14_readEntry_252 : decode cX14_readEntry 252 = .ok (.lconst 0, 1) := by decide +kernel
theorem dX14_readEntry_253 : decode cX14_readEntry 253 = .ok (.goto 10, 3) := by decide +kernel
theorem dX14_readEntry_256 : decode cX14_readEntry 256 = .ok (.aload_n 0, 1) := by decide +kernel
theorem dX14_readEntry_257 : decode cX14_readEntry 257 = .ok (.getfield 20, 3) := by decide +kernel
theorem dX14_readEntry_260 : decode cX14_readEntry 260 = .ok (.iload 11, 2) := by decide +kernel
theorem dX14_readEntry_262 : decode cX14_readEntry 262 = .ok (.laload, 1) := by decide +kernel
theorem dX14_readEntry_263 : decode cX14_readEntry 263 = .ok (.lstore 8, 2) := by decide +kernel
theorem dX14_readEntry_265 : decode cX14_readEntry 265 = .ok (.iload 11, 2) := by decide +kernel
theorem dX14_readEntry_267 : decode cX14_readEntry 267 = .ok (.ifCond .ge 7, 3) := by decide +kernel
theorem dX14_readEntry_270 : decode cX14_readEntry 270 = .ok (.iconst 0, 1) := by decide +kernel
theorem dX14_readEntry_271 : decode cX14_readEntry 271 = .ok (.goto 10, 3) := by decide +kernel
theorem dX14_readEntry_274 : decode cX14_readEntry 274 = .ok (.aload_n 0, 1) := by decide +kernel
theorem dX14_readEntry_275 : decode cX14_readEntry 275 = .ok (.getfield 13, 3) := by decide +kernel
theorem dX14_readEntry_278 : decode cX14_readEntry 278 = .ok (.iload 11, 2) := by decide +kernel
theorem dX14_readEntry_280 : decode cX14_readEntry 280 = .ok (.iaload, 1) := by decide +kernel
theorem dX14_readEntry_281 : decode cX14_readEntry 281 = .ok (.istore 10, 2) := by decide +kernel
theorem dX14_readEntry_283 : decode cX14_readEntry 283 = .ok (.iload_n 3, 1) := by decide +kernel
theorem dX14_readEntry_284 : decode cX14_readEntry 284 = .ok (.iconst 2, 1) := by decide +kernel
theorem dX14_readEntry_285 : decode cX14_readEntry 285 = .ok (.if_icmp .ne 47, 3) := by decide +kernel
theorem dX14_readEntry_288 : decode cX14_readEntry 288 = .ok (.aload_n 0, 1) := by decide +kernel
theorem dX14_readEntry_289 : decode cX14_readEntry 289 = .ok (.getfield 65, 3) := by decide +kernel
theorem dX14_readEntry_292 : decode cX14_readEntry 292 = .ok (.ifCond .ne 40, 3) := by decide +kernel
theorem dX14_readEntry_295 : decode cX14_readEntry 295 = .ok (.aload_n 0, 1) := by decide +kernel
theorem dX14_readEntry_296 : decode cX14_readEntry 296 = .ok (.invokevirtual 81, 3) := by decide +kernel
theorem dX14_readEntry_299 : decode cX14_readEntry 299 = .ok (.istore 10, 2) := by decide +kernel
theorem dX14_readEntry_301 : decode cX14_readEntry 301 = .ok (.aload_n 0, 1) := by decide +kernel
theorem dX14_readEntry_302 : decode cX14_readEntry 302 = .ok (.getfield 65, 3) := by decide +kernel
theorem dX14_readEntry_305 : decode cX14_readEntry 305 = .ok (.ifCond .ne 27, 3) := by decide +kernel
theorem dX14_readEntry_308 : decode cX14_readEntry 308 = .ok (.iload 10, 2) := by decide +kernel
theorem dX14_readEntry_310 : decode cX14_readEntry 310 = .ok (.iconst 1, 1) := by decide +kernel
theorem dX14_readEntry_311 : decode cX14_readEntry 311 = .ok (.if_icmp .lt 10, 3) := by decide +kernel
theorem dX14_readEntry_314 : decode cX14_readEntry 314 = .ok (.iload 10, 2) := by decide +kernel
theorem dX14_readEntry_316 : decode cX14_readEntry 316 = .ok (.bipush 31, 2) := by decide +kernel
theorem dX14_readEntry_318 : decode cX14_readEntry 318 = .ok (.if_icmp .le 14, 3) := by decide +kernel
theorem dX14_readEntry_321 : decode cX14_readEntry 321 = .ok (.aload_n 0, 1) := by decide +kernel
theorem dX14_readEntry_322 : decode cX14_readEntry 322 = .ok (.iconst 5, 1) := by decide +kernel
theorem dX14_readEntry_323 : decode cX14_readEntry 323 = .ok (.aload_n 0, 1) := by decide +kernel
theorem dX14_readEntry_324 : decode cX14_readEntry 324 = .ok (.getfield 68, 3) := by decide +kernel
theorem dX14_readEntry_327 : decode cX14_readEntry 327 = .ok (.iconst 1, 1) := by decide +kernel
theorem dX14_readEntry_328 : decode cX14_readEntry 328 = .ok (.isub, 1) := by decide +kernel
theorem dX14_readEntry_329 : decode cX14_readEntry 329 = .ok (.invokevirtual 74, 3) := by decide +kernel
theorem dX14_readEntry_332 : decode cX14_readEntry 332 = .ok (.aload_n 0, 1) := by decide +kernel
theorem dX14_readEntry_333 : decode cX14_readEntry 333 = .ok (.getfield 65, 3) := by decide +kernel
theorem dX14_readEntry_336 : decode cX14_readEntry 336 = .ok (.ifCond .ne 14, 3) := by decide +kernel
theorem dX14_readEntry_339 : decode cX14_readEntry 339 = .ok (.aload_n 0, 1) := by decide +kernel
theorem dX14_readEntry_340 : decode cX14_readEntry 340 = .ok (.iload_n 3, 1) := by decide +kernel
theorem dX14_readEntry_341 : decode cX14_readEntry 341 = .ok (.lload 6, 2) := by decide +kernel
theorem dX14_readEntry_343 : decode cX14_readEntry 343 = .ok (.lload 8, 2) := by decide +kernel
theorem dX14_readEntry_345 : decode cX14_readEntry 345 = .ok (.iload 10, 2) := by decide +kernel
theorem dX14_readEntry_347 : decode cX14_readEntry 347 = .ok (.invokevirtual 94, 3) := by decide +kernel
theorem dX14_readEntry_350 : decode cX14_readEntry 350 = .ok (.return_, 1) := by decide +kernel
theorem dX14_read_0 : decode cX14_read 0 = .ok (.aload_n 0, 1) := by decide +kernel
theorem dX14_read_1 : decode cX14_read 1 = .ok (.aload_n 1, 1) := by decide +kernel
theorem dX14_read_2 : decode cX14_read 2 = .ok (.putfield 78, 3) := by decide +kernel
theorem dX14_read_5 : decode cX14_read 5 = .ok (.aload_n 0, 1) := by decide +kernel
theorem dX14_read_6 : decode cX14_read 6 = .ok (.iload_n 2, 1) := by decide +kernel
theorem dX14_read_7 : decode cX14_read 7 = .ok (.putfield 71, 3) := by decide +kernel
theorem dX14_read_10 : decode cX14_read 10 = .ok (.aload_n 0, 1) := by decide +kernel
theorem dX14_read_11 : decode cX14_read 11 = .ok (.aload_n 0, 1) := by decide +kernel
theorem dX14_read_12 : decode cX14_read 12 = .ok (.aload_n 0, 1) := by decide +kernel
theorem dX14_read_13 : decode cX14_read 13 = .ok (.iconst 0, 1) := by decide +kernel
theorem dX14_read_14 : decode cX14_read 14 = .ok (.dup_x1, 1) := by decide +kernel
theorem dX14_read_15 : decode cX14_read 15 = .ok (.putfield 27, 3) := by decide +kernel
theorem dX14_read_18 : decode cX14_read 18 = .ok (.dup_x1, 1) := by decide +kernel
theorem dX14_read_19 : decode cX14_read 19 = .ok (.putfield 65, 3) := by decide +kernel
theorem dX14_read_22 : decode cX14_read 22 = .ok (.putfield 68, 3) := by decide +kernel
theorem dX14_read_25 : decode cX14_read 25 = .ok (.aload_n 0, 1) := by decide +kernel
theorem dX14_read_26 : decode cX14_read 26 = .ok (.invokevirtual 87, 3) := by decide +kernel
theorem dX14_read_29 : decode cX14_read 29 = .ok (.lstore_n 3, 1) := by decide +kernel
theorem dX14_read_30 : decode cX14_read 30 = .ok (.lload_n 3, 1) := by decide +kernel
theorem dX14_read_31 : decode cX14_read 31 = .ok (.ldc2_w 106, 3) := by decide +kernel
theorem dX14_read_34 : decode cX14_read 34 = .ok (.lcmp, 1) := by decide +kernel
theorem dX14_read_35 : decode cX14_read 35 = .ok (.ifCond .le 10, 3) := by decide +kernel
theorem dX14_read_38 : decode cX14_read 38 = .ok (.aload_n 0, 1) := by decide +kernel
theorem dX14_read_39 : decode cX14_read 39 = .ok (.bipush 6, 2) := by decide +kernel
theorem dX14_read_41 : decode cX14_read 41 = .ok (.iconst 0, 1) := by decide +kernel
theorem dX14_read_42 : decode cX14_read 42 = .ok (.invokevirtual 74, 3) := by decide +kernel
theorem dX14_read_45 : decode cX14_read 45 = .ok (.aload_n 0, 1) := by decide +kernel
theorem dX14_read_46 : decode cX14_read 46 = .ok (.getfield 65, 3) := by decide +kernel
theorem dX14_read_49 : decode cX14_read 49 = .ok (.ifCond .ne 68, 3) := by decide +kernel
theorem dX14_read_52 : decode cX14_read 52 = .ok (.aload_n 0, 1) := by decide +kernel
theorem dX14_read_53 : decode cX14_read 53 = .ok (.getfield 27, 3) := by decide +kernel
theorem dX14_read_56 : decode cX14_read 56 = .ok (.i2l, 1) := by decide +kernel
theorem dX14_read_57 : decode cX14_read 57 = .ok (.lload_n 3, 1) := by decide +kernel
theorem dX14_read_58 : decode cX14_read 58 = .ok (.lcmp, 1) := by decide +kernel
theorem dX14_read_59 : decode cX14_read 59 = .ok (.ifCond .ge 58, 3) := by decide +kernel
theorem dX14_read_62 : decode cX14_read 62 = .ok (.aload_n 0, 1) := by decide +kernel
theorem dX14_read_63 : decode cX14_read 63 = .ok (.getfield 68, 3) := by decide +kernel
theorem dX14_read_66 : decode cX14_read 66 = .ok (.istore 5, 2) := by decide +kernel
theorem dX14_read_68 : decode cX14_read 68 = .ok (.aload_n 0, 1) := by decide +kernel
theorem dX14_read_69 : decode cX14_read 69 = .ok (.invokevirtual 81, 3) := by decide +kernel
theorem dX14_read_72 : decode cX14_read 72 = .ok (.istore 6, 2) := by decide +kernel
theorem dX14_read_74 : decode cX14_read 74 = .ok (.aload_n 0, 1) := by decide +kernel
theorem dX14_read_75 : decode cX14_read 75 = .ok (.getfield 65, 3) := by decide +kernel
theorem dX14_read_78 : decode cX14_read 78 = .ok (.ifCond .le 6, 3) := by decide +kernel
theorem dX14_read_81 : decode cX14_read 81 = .ok (.goto (-36), 3) := by decide +kernel
theorem dX14_read_84 : decode cX14_read 84 = .ok (.iload 6, 2) := by decide +kernel
theorem dX14_read_86 : decode cX14_read 86 = .ok (.bipush 7, 2) := by decide +kernel
theorem dX14_read_88 : decode cX14_read 88 = .ok (.iand, 1) := by decide +kernel
theorem dX14_read_89 : decode cX14_read 89 = .ok (.iconst 5, 1) := by decide +kernel
theorem dX14_read_90 : decode cX14_read 90 = .ok (.if_icmp .ne 16, 3) := by decide +kernel
theorem dX14_read_93 : decode cX14_read 93 = .ok (.aload_n 0, 1) := by decide +kernel
theorem dX14_read_94 : decode cX14_read 94 = .ok (.iload 6, 2) := by decide +kernel
theorem dX14_read_96 : decode cX14_read 96 = .ok (.iload 5, 2) := by decide +kernel
theorem dX14_read_98 : decode cX14_read 98 = .ok (.lload_n 3, 1) := by decide +kernel
theorem dX14_read_99 : decode cX14_read 99 = .ok (.l2i, 1) := by decide +kernel
theorem dX14_read_100 : decode cX14_read 100 = .ok (.invokevirtual 108, 3) := by decide +kernel
theorem dX14_read_103 : decode cX14_read 103 = .ok (.goto 11, 3) := by decide +kernel
theorem dX14_read_106 : decode cX14_read 106 = .ok (.aload_n 0, 1) := by decide +kernel
theorem dX14_read_107 : decode cX14_read 107 = .ok (.iload 6, 2) := by decide +kernel
theorem dX14_read_109 : decode cX14_read 109 = .ok (.iload 5, 2) := by decide +kernel
theorem dX14_read_111 : decode cX14_read 111 = .ok (.invokevirtual 112, 3) := by decide +kernel
theorem dX14_read_114 : decode cX14_read 114 = .ok (.goto (-69), 3) := by decide +kernel
theorem dX14_read_117 : decode cX14_read 117 = .ok (.aload_n 0, 1) := by decide +kernel
theorem dX14_read_118 : decode cX14_read 118 = .ok (.getfield 65, 3) := by decide +kernel
theorem dX14_read_121 : decode cX14_read 121 = .ok (.ifCond .ne 24, 3) := by decide +kernel
theorem dX14_read_124 : decode cX14_read 124 = .ok (.aload_n 0, 1) := by decide +kernel
theorem dX14_read_125 : decode cX14_read 125 = .ok (.getfield 68, 3) := by decide +kernel
theorem dX14_read_128 : decode cX14_read 128 = .ok (.aload_n 0, 1) := by decide +kernel
theorem dX14_read_129 : decode cX14_read 129 = .ok (.getfield 71, 3) := by decide +kernel
theorem dX14_read_132 : decode cX14_read 132 = .ok (.if_icmp .ge 13, 3) := by decide +kernel
theorem dX14_read_135 : decode cX14_read 135 = .ok (.aload_n 0, 1) := by decide +kernel
theorem dX14_read_136 : decode cX14_read 136 = .ok (.bipush 7, 2) := by decide +kernel
theorem dX14_read_138 : decode cX14_read 138 = .ok (.aload_n 0, 1) := by decide +kernel
theorem dX14_read_139 : decode cX14_read 139 = .ok (.getfield 68, 3) := by decide +kernel
theorem dX14_read_142 : decode cX14_read 142 = .ok (.invokevirtual 74, 3) := by decide +kernel
theorem dX14_read_145 : decode cX14_read 145 = .ok (.aload_n 0, 1) := by decide +kernel
theorem dX14_read_146 : decode cX14_read 146 = .ok (.getfield 65, 3) := by decide +kernel
theorem dX14_read_149 : decode cX14_read 149 = .ok (.ireturn, 1) := by decide +kernel
theorem dX17_byteAt_0 : decode cX17_byteAt 0 = .ok (.aload_n 0, 1) := by decide +kernel
theorem dX17_byteAt_1 : decode cX17_byteAt 1 = .ok (.getfield 24, 3) := by decide +kernel
theorem dX17_byteAt_4 : decode cX17_byteAt 4 = .ok (.sipush 8192, 3) := by decide +kernel
theorem dX17_byteAt_7 : decode cX17_byteAt 7 = .ok (.iload_n 1, 1) := by decide +kernel
theorem dX17_byteAt_8 : decode cX17_byteAt 8 = .ok (.imul, 1) := by decide +kernel
theorem dX17_byteAt_9 : decode cX17_byteAt 9 = .ok (.iload_n 2, 1) := by decide +kernel
theorem dX17_byteAt_10 : decode cX17_byteAt 10 = .ok (.iconst 4, 1) := by decide +kernel
theorem dX17_byteAt_11 : decode cX17_byteAt 11 = .ok (.idiv, 1) := by decide +kernel
theorem dX17_byteAt_12 : decode cX17_byteAt 12 = .ok (.iadd, 1) := by decide +kernel
theorem dX17_byteAt_13 : decode cX17_byteAt 13 = .ok (.iaload, 1) := by decide +kernel
theorem dX17_byteAt_14 : decode cX17_byteAt 14 = .ok (.bipush 8, 2) := by decide +kernel
theorem dX17_byteAt_16 : decode cX17_byteAt 16 = .ok (.iload_n 2, 1) := by decide +kernel
theorem dX17_byteAt_17 : decode cX17_byteAt 17 = .ok (.iconst 4, 1) := by decide +kernel
theorem dX17_byteAt_18 : decode cX17_byteAt 18 = .ok (.irem, 1) := by decide +kernel
theorem dX17_byteAt_19 : decode cX17_byteAt 19 = .ok (.imul, 1) := by decide +kernel
theorem dX17_byteAt_20 : decode cX17_byteAt 20 = .ok (.iushr, 1) := by decide +kernel
theorem dX17_byteAt_21 : decode cX17_byteAt 21 = .ok (.sipush 255, 3) := by decide +kernel
theorem dX17_byteAt_24 : decode cX17_byteAt 24 = .ok (.iand, 1) := by decide +kernel
theorem dX17_byteAt_25 : decode cX17_byteAt 25 = .ok (.ireturn, 1) := by decide +kernel
theorem dX17_dataSize_0 : decode cX17_dataSize 0 = .ok (.aload_n 0, 1) := by decide +kernel
theorem dX17_dataSize_1 : decode cX17_dataSize 1 = .ok (.getfield 20, 3) := by decide +kernel
theorem dX17_dataSize_4 : decode cX17_dataSize 4 = .ok (.iload_n 1, 1) := by decide +kernel
theorem dX17_dataSize_5 : decode cX17_dataSize 5 = .ok (.iaload, 1) := by decide +kernel
theorem dX17_dataSize_6 : decode cX17_dataSize 6 = .ok (.aload_n 0, 1) := by decide +kernel
theorem dX17_dataSize_7 : decode cX17_dataSize 7 = .ok (.getfield 17, 3) := by decide +kernel
theorem dX17_dataSize_10 : decode cX17_dataSize 10 = .ok (.iload_n 1, 1) := by decide +kernel
theorem dX17_dataSize_11 : decode cX17_dataSize 11 = .ok (.iaload, 1) := by decide +kernel
theorem dX17_dataSize_12 : decode cX17_dataSize 12 = .ok (.if_icmp .le 19, 3) := by decide +kernel
theorem dX17_dataSize_15 : decode cX17_dataSize 15 = .ok (.aload_n 0, 1) := by decide +kernel
theorem dX17_dataSize_16 : decode cX17_dataSize 16 = .ok (.getfield 20, 3) := by decide +kernel
theorem dX17_dataSize_19 : decode cX17_dataSize 19 = .ok (.iload_n 1, 1) := by decide +kernel
theorem dX17_dataSize_20 : decode cX17_dataSize 20 = .ok (.iaload, 1) := by decide +kernel
theorem dX17_dataSize_21 : decode cX17_dataSize 21 = .ok (.aload_n 0, 1) := by decide +kernel
theorem dX17_dataSize_22 : decode cX17_dataSize 22 = .ok (.getfield 17, 3) := by decide +kernel
theorem dX17_dataSize_25 : decode cX17_dataSize 25 = .ok (.iload_n 1, 1) := by decide +kernel
theorem dX17_dataSize_26 : decode cX17_dataSize 26 = .ok (.iaload, 1) := by decide +kernel
theorem dX17_dataSize_27 : decode cX17_dataSize 27 = .ok (.isub, 1) := by decide +kernel
theorem dX17_dataSize_28 : decode cX17_dataSize 28 = .ok (.goto 4, 3) := by decide +kernel
theorem dX17_dataSize_31 : decode cX17_dataSize 31 = .ok (.iconst 0, 1) := by decide +kernel
theorem dX17_dataSize_32 : decode cX17_dataSize 32 = .ok (.ireturn, 1) := by decide +kernel
theorem dX18_part_0 : decode cX18_part 0 = .ok (.aload_n 0, 1) := by decide +kernel
theorem dX18_part_1 : decode cX18_part 1 = .ok (.getfield 20, 3) := by decide +kernel
theorem dX18_part_4 : decode cX18_part 4 = .ok (.iload_n 1, 1) := by decide +kernel
theorem dX18_part_5 : decode cX18_part 5 = .ok (.iushr, 1) := by decide +kernel
theorem dX18_part_6 : decode cX18_part 6 = .ok (.iconst 1, 1) := by decide +kernel
theorem dX18_part_7 : decode cX18_part 7 = .ok (.iload_n 2, 1) := by decide +kernel
theorem dX18_part_8 : decode cX18_part 8 = .ok (.ishl, 1) := by decide +kernel
theorem dX18_part_9 : decode cX18_part 9 = .ok (.iconst 1, 1) := by decide +kernel
theorem dX18_part_10 : decode cX18_part 10 = .ok (.isub, 1) := by decide +kernel
theorem dX18_part_11 : decode cX18_part 11 = .ok (.iand, 1) := by decide +kernel
theorem dX18_part_12 : decode cX18_part 12 = .ok (.ireturn, 1) := by decide +kernel
theorem dX18_put_0 : decode cX18_put 0 = .ok (.aload_n 0, 1) := by decide +kernel
theorem dX18_put_1 : decode cX18_put 1 = .ok (.getfield 7, 3) := by decide +kernel
theorem dX18_put_4 : decode cX18_put 4 = .ok (.aload_n 0, 1) := by decide +kernel
theorem dX18_put_5 : decode cX18_put 5 = .ok (.getfield 24, 3) := by decide +kernel
