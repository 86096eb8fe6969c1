theorem dX15_charAt_0 : decode cX15_charAt 0 = .ok (.iload_n 1, 1) := by decide +kernel
theorem dX15_charAt_1 : decode cX15_charAt 1 = .ok (.aload_n 0, 1) := by decide +kernel
theorem dX15_charAt_2 : decode cX15_charAt 2 = .ok (.getfield 65, 3) := by decide +kernel
theorem dX15_charAt_5 : decode cX15_charAt 5 = .ok (.if_icmp .ge 12, 3) := by decide +kernel
theorem dX15_charAt_8 : decode cX15_charAt 8 = .ok (.aload_n 0, 1) := by decide +kernel
theorem dX15_charAt_9 : decode cX15_charAt 9 = .ok (.getfield 7, 3) := by decide +kernel
theorem dX15_charAt_12 : decode cX15_charAt 12 = .ok (.iload_n 1, 1) := by decide +kernel
theorem dX15_charAt_13 : decode cX15_charAt 13 = .ok (.caload, 1) := by decide +kernel
theorem dX15_charAt_14 : decode cX15_charAt 14 = .ok (.goto 4, 3) := by decide +kernel
theorem dX15_charAt_17 : decode cX15_charAt 17 = .ok (.iconst 0, 1) := by decide +kernel
theorem dX15_charAt_18 : decode cX15_charAt 18 = .ok (.ireturn, 1) := by decide +kernel
theorem dX15_isDigit_0 : decode cX15_isDigit 0 = .ok (.iload_n 0, 1) := by decide +kernel
theorem dX15_isDigit_1 : decode cX15_isDigit 1 = .ok (.bipush 48, 2) := by decide +kernel
theorem dX15_isDigit_3 : decode cX15_isDigit 3 = .ok (.if_icmp .lt 13, 3) := by decide +kernel
theorem dX15_isDigit_6 : decode cX15_isDigit 6 = .ok (.iload_n 0, 1) := by decide +kernel
theorem dX15_isDigit_7 : decode cX15_isDigit 7 = .ok (.bipush 57, 2) := by decide +kernel
theorem dX15_isDigit_9 : decode cX15_isDigit 9 = .ok (.if_icmp .gt 7, 3) := by decide +kernel
theorem dX15_isDigit_12 : decode cX15_isDigit 12 = .ok (.iconst 1, 1) := by decide +kernel
theorem dX15_isDigit_13 : decode cX15_isDigit 13 = .ok (.goto 4, 3) := by decide +kernel
theorem dX15_isDigit_16 : decode cX15_isDigit 16 = .ok (.iconst 0, 1) := by decide +kernel
theorem dX15_isDigit_17 : decode cX15_isDigit 17 = .ok (.ireturn, 1) := by decide +kernel
theorem dX15_isPlain_0 : decode cX15_isPlain 0 = .ok (.iload_n 0, 1) := by decide +kernel
theorem dX15_isPlain_1 : decode cX15_isPlain 1 = .ok (.invokestatic 69, 3) := by decide +kernel
theorem dX15_isPlain_4 : decode cX15_isPlain 4 = .ok (.ifCond .ne 27, 3) := by decide +kernel
theorem dX15_isPlain_7 : decode cX15_isPlain 7 = .ok (.iload_n 0, 1) := by decide +kernel
theorem dX15_isPlain_8 : decode cX15_isPlain 8 = .ok (.bipush 97, 2) := by decide +kernel
theorem dX15_isPlain_10 : decode cX15_isPlain 10 = .ok (.if_icmp .lt 9, 3) := by decide +kernel
theorem dX15_isPlain_13 : decode cX15_isPlain 13 = .ok (.iload_n 0, 1) := by decide +kernel
theorem dX15_isPlain_14 : decode cX15_isPlain 14 = .ok (.bipush 122, 2) := by decide +kernel
theorem dX15_isPlain_16 : decode cX15_isPlain 16 = .ok (.if_icmp .le 15, 3) := by decide +kernel
theorem dX15_isPlain_19 : decode cX15_isPlain 19 = .ok (.iload_n 0, 1) := by decide +kernel
theorem dX15_isPlain_20 : decode cX15_isPlain 20 = .ok (.bipush 65, 2) := by decide +kernel
theorem dX15_isPlain_22 : decode cX15_isPlain 22 = .ok (.if_icmp .lt 13, 3) := by decide +kernel
theorem dX15_isPlain_25 : decode cX15_isPlain 25 = .ok (.iload_n 0, 1) := by decide +kernel
theorem dX15_isPlain_26 : decode cX15_isPlain 26 = .ok (.bipush 90, 2) := by decide +kernel
theorem dX15_isPlain_28 : decode cX15_isPlain 28 = .ok (.if_icmp .gt 7, 3) := by decide +kernel
theorem dX15_isPlain_31 : decode cX15_isPlain 31 = .ok (.iconst 1, 1) := by decide +kernel
theorem dX15_isPlain_32 : decode cX15_isPlain 32 = .ok (.goto 4, 3) := by decide +kernel
theorem dX15_isPlain_35 : decode cX15_isPlain 35 = .ok (.iconst 0, 1) := by decide +kernel
theorem dX15_isPlain_36 : decode cX15_isPlain 36 = .ok (.ireturn, 1) := by decide +kernel
theorem dX15_is_0 : decode cX15_is 0 = .ok (.lconst 0, 1) := by decide +kernel
theorem dX15_is_1 : decode cX15_is 1 = .ok (.lstore 5, 2) := by decide +kernel
theorem dX15_is_3 : decode cX15_is 3 = .ok (.iload_n 2, 1) := by decide +kernel
theorem dX15_is_4 : decode cX15_is 4 = .ok (.iconst 1, 1) := by decide +kernel
theorem dX15_is_5 : decode cX15_is 5 = .ok (.isub, 1) := by decide +kernel
theorem dX15_is_6 : decode cX15_is 6 = .ok (.istore 7, 2) := by decide +kernel
theorem dX15_is_8 : decode cX15_is 8 = .ok (.iload 7, 2) := by decide +kernel
theorem dX15_is_10 : decode cX15_is 10 = .ok (.iload_n 1, 1) := by decide +kernel
theorem dX15_is_11 : decode cX15_is 11 = .ok (.if_icmp .lt 25, 3) := by decide +kernel
theorem dX15_is_14 : decode cX15_is 14 = .ok (.lload 5, 2) := by decide +kernel
theorem dX15_is_16 : decode cX15_is 16 = .ok (.bipush 8, 2) := by decide +kernel
theorem dX15_is_18 : decode cX15_is 18 = .ok (.lshl, 1) := by decide +kernel
theorem dX15_is_19 : decode cX15_is 19 = .ok (.aload_n 0, 1) := by decide +kernel
theorem dX15_is_20 : decode cX15_is 20 = .ok (.getfield 7, 3) := by decide +kernel
theorem dX15_is_23 : decode cX15_is 23 = .ok (.iload 7, 2) := by decide +kernel
theorem dX15_is_25 : decode cX15_is 25 = .ok (.caload, 1) := by decide +kernel
theorem dX15_is_26 : decode cX15_is 26 = .ok (.i2l, 1) := by decide +kernel
theorem dX15_is_27 : decode cX15_is 27 = .ok (.lor, 1) := by decide +kernel
theorem dX15_is_28 : decode cX15_is 28 = .ok (.lstore 5, 2) := by decide +kernel
theorem dX15_is_30 : decode cX15_is 30 = .ok (.iinc 7 (-1), 3) := by decide +kernel
theorem dX15_is_33 : decode cX15_is 33 = .ok (.goto (-25), 3) := by decide +kernel
theorem dX15_is_36 : decode cX15_is 36 = .ok (.iload_n 2, 1) := by decide +kernel
theorem dX15_is_37 : decode cX15_is 37 = .ok (.iload_n 1, 1) := by decide +kernel
theorem dX15_is_38 : decode cX15_is 38 = .ok (.isub, 1) := by decide +kernel
theorem dX15_is_39 : decode cX15_is 39 = .ok (.bipush 8, 2) := by decide +kernel
theorem dX15_is_41 : decode cX15_is 41 = .ok (.if_icmp .ge 14, 3) := by decide +kernel
theorem dX15_is_44 : decode cX15_is 44 = .ok (.lload 5, 2) := by decide +kernel
theorem dX15_is_46 : decode cX15_is 46 = .ok (.lload_n 3, 1) := by decide +kernel
theorem dX15_is_47 : decode cX15_is 47 = .ok (.lcmp, 1) := by decide +kernel
theorem dX15_is_48 : decode cX15_is 48 = .ok (.ifCond .ne 7, 3) := by decide +kernel
theorem dX15_is_51 : decode cX15_is 51 = .ok (.iconst 1, 1) := by decide +kernel
theorem dX15_is_52 : decode cX15_is 52 = .ok (.goto 4, 3) := by decide +kernel
theorem dX15_is_55 : decode cX15_is 55 = .ok (.iconst 0, 1) := by decide +kernel
theorem dX15_is_56 : decode cX15_is 56 = .ok (.ireturn, 1) := by decide +kernel
theorem dX15_scan_0 : decode cX15_scan 0 = .ok (.aload_n 0, 1) := by decide +kernel
theorem dX15_scan_1 : decode cX15_scan 1 = .ok (.aload_n 0, 1) := by decide +kernel
theorem dX15_scan_2 : decode cX15_scan 2 = .ok (.getfield 73, 3) := by decide +kernel
theorem dX15_scan_5 : decode cX15_scan 5 = .ok (.invokevirtual 76, 3) := by decide +kernel
theorem dX15_scan_8 : decode cX15_scan 8 = .ok (.bipush 32, 2) := by decide +kernel
theorem dX15_scan_10 : decode cX15_scan 10 = .ok (.if_icmp .ne 16, 3) := by decide +kernel
theorem dX15_scan_13 : decode cX15_scan 13 = .ok (.aload_n 0, 1) := by decide +kernel
theorem dX15_scan_14 : decode cX15_scan 14 = .ok (.dup, 1) := by decide +kernel
theorem dX15_scan_15 : decode cX15_scan 15 = .ok (.getfield 73, 3) := by decide +kernel
theorem dX15_scan_18 : decode cX15_scan 18 = .ok (.iconst 1, 1) := by decide +kernel
theorem dX15_scan_19 : decode cX15_scan 19 = .ok (.iadd, 1) := by decide +kernel
theorem dX15_scan_20 : decode cX15_scan 20 = .ok (.putfield 73, 3) := by decide +kernel
theorem dX15_scan_23 : decode cX15_scan 23 = .ok (.goto (-23), 3) := by decide +kernel
theorem dX15_scan_26 : decode cX15_scan 26 = .ok (.aload_n 0, 1) := by decide +kernel
theorem dX15_scan_27 : decode cX15_scan 27 = .ok (.aload_n 0, 1) := by decide +kernel
theorem dX15_scan_28 : decode cX15_scan 28 = .ok (.getfield 73, 3) := by decide +kernel
theorem dX15_scan_31 : decode cX15_scan 31 = .ok (.putfield 80, 3) := by decide +kernel
theorem dX15_scan_34 : decode cX15_scan 34 = .ok (.aload_n 0, 1) := by decide +kernel
theorem dX15_scan_35 : decode cX15_scan 35 = .ok (.aload_n 0, 1) := by decide +kernel
theorem dX15_scan_36 : decode cX15_scan 36 = .ok (.getfield 73, 3) := by decide +kernel
theorem dX15_scan_39 : decode cX15_scan 39 = .ok (.invokevirtual 76, 3) := by decide +kernel
theorem dX15_scan_42 : decode cX15_scan 42 = .ok (.istore_n 1, 1) := by decide +kernel
theorem dX15_scan_43 : decode cX15_scan 43 = .ok (.iload_n 1, 1) := by decide +kernel
theorem dX15_scan_44 : decode cX15_scan 44 = .ok (.invokestatic 83, 3) := by decide +kernel
theorem dX15_scan_47 : decode cX15_scan 47 = .ok (.ifCond .eq 49, 3) := by decide +kernel
theorem dX15_scan_50 : decode cX15_scan 50 = .ok (.aload_n 0, 1) := by decide +kernel
theorem dX15_scan_51 : decode cX15_scan 51 = .ok (.aload_n 0, 1) := by decide +kernel
theorem dX15_scan_52 : decode cX15_scan 52 = .ok (.getfield 73, 3) := by decide +kernel
theorem dX15_scan_55 : decode cX15_scan 55 = .ok (.invokevirtual 76, 3) := by decide +kernel
theorem dX15_scan_58 : decode cX15_scan 58 = .ok (.invokestatic 83, 3) := by decide +kernel
theorem dX15_scan_61 : decode cX15_scan 61 = .ok (.ifCond .eq 16, 3) := by decide +kernel
theorem dX15_scan_64 : decode cX15_scan 64 = .ok (.aload_n 0, 1) := by decide +kernel
theorem dX15_scan_65 : decode cX15_scan 65 = .ok (.dup, 1) := by decide +kernel
theorem dX15_scan_66 : decode cX15_scan 66 = .ok (.getfield 73, 3) := by decide +kernel
theorem dX15_scan_69 : decode cX15_scan 69 = .ok (.iconst 1, 1) := by decide +kernel
theorem dX15_scan_70 : decode cX15_scan 70 = .ok (.iadd, 1) := by decide +kernel
theorem dX15_scan_71 : decode cX15_scan 71 = .ok (.putfield 73, 3) := by decide +kernel
theorem dX15_scan_74 : decode cX15_scan 74 = .ok (.goto (-24), 3) := by decide +kernel
theorem dX15_scan_77 : decode cX15_scan 77 = .ok (.iload_n 1, 1) := by decide +kernel
theorem dX15_scan_78 : decode cX15_scan 78 = .ok (.invokestatic 69, 3) := by decide +kernel
theorem dX15_scan_81 : decode cX15_scan 81 = .ok (.ifCond .eq 10, 3) := by decide +kernel
theorem dX15_scan_84 : decode cX15_scan 84 = .ok (.aload_n 0, 1) := by decide +kernel
theorem dX15_scan_85 : decode cX15_scan 85 = .ok (.invokevirtual 86, 3) := by decide +kernel
theorem dX15_scan_88 : decode cX15_scan 88 = .ok (.goto 7, 3) := by decide +kernel
theorem dX15_scan_91 : decode cX15_scan 91 = .ok (.aload_n 0, 1) := by decide +kernel
theorem dX15_scan_92 : decode cX15_scan 92 = .ok (.invokevirtual 89, 3) := by decide +kernel
theorem dX15_scan_95 : decode cX15_scan 95 = .ok (.return_, 1) := by decide +kernel
theorem dX15_scan_96 : decode cX15_scan 96 = .ok (.aload_n 0, 1) := by decide +kernel
theorem dX15_scan_97 : decode cX15_scan 97 = .ok (.aload_n 0, 1) := by decide +kernel
theorem dX15_scan_98 : decode cX15_scan 98 = .ok (.getfield 73, 3) := by decide +kernel
theorem dX15_scan_101 : decode cX15_scan 101 = .ok (.iconst 1, 1) := by decide +kernel
theorem dX15_scan_102 : decode cX15_scan 102 = .ok (.iadd, 1) := by decide +kernel
theorem dX15_scan_103 : decode cX15_scan 103 = .ok (.invokevirtual 76, 3) := by decide +kernel
theorem dX15_scan_106 : decode cX15_scan 106 = .ok (.istore_n 2, 1) := by decide +kernel
theorem dX15_scan_107 : decode cX15_scan 107 = .ok (.iload_n 1, 1) := by decide +kernel
theorem dX15_scan_108 : decode cX15_scan 108 = .ok (.bipush 124, 2) := by decide +kernel
theorem dX15_scan_110 : decode cX15_scan 110 = .ok (.if_icmp .ne 14, 3) := by decide +kernel
theorem dX15_scan_113 : decode cX15_scan 113 = .ok (.iload_n 2, 1) := by decide +kernel
theorem dX15_scan_114 : decode cX15_scan 114 = .ok (.bipush 124, 2) := by decide +kernel
theorem dX15_scan_116 : decode cX15_scan 116 = .ok (.if_icmp .ne 8, 3) := by decide +kernel
theorem dX15_scan_119 : decode cX15_scan 119 = .ok (.bipush 10, 2) := by decide +kernel
theorem dX15_scan_121 : decode cX15_scan 121 = .ok (.goto 123, 3) := by decide +kernel
theorem dX15_scan_124 : decode cX15_scan 124 = .ok (.iload_n 1, 1) := by decide +kernel
theorem dX15_scan_125 : decode cX15_scan 125 = .ok (.bipush 38, 2) := by decide +kernel
theorem dX15_scan_127 : decode cX15_scan 127 = .ok (.if_icmp .ne 14, 3) := by decide +kernel
theorem dX15_scan_130 : decode cX15_scan 130 = .ok (.iload_n 2, 1) := by decide +kernel
theorem dX15_scan_131 : decode cX15_scan 131 = .ok (.bipush 38, 2) := by decide +kernel
theorem dX15_scan_133 : decode cX15_scan 133 = .ok (.if_icmp .ne 8, 3) := by decide +kernel
theorem dX15_scan_136 : decode cX15_scan 136 = .ok (.bipush 11, 2) := by decide +kernel
theorem dX15_scan_138 : decode cX15_scan 138 = .ok (.goto 106, 3) := by decide +kernel
theorem dX15_scan_141 : decode cX15_scan 141 = .ok (.iload_n 1, 1) := by decide +kernel
theorem dX15_scan_142 : decode cX15_scan 142 = .ok (.bipush 61, 2) := by decide +kernel
theorem dX15_scan_144 : decode cX15_scan 144 = .ok (.if_icmp .ne 14, 3) := by decide +kernel
theorem dX15_scan_147 : decode cX15_scan 147 = .ok (.iload_n 2, 1) := by decide +kernel
theorem dX15_scan_148 : decode cX15_scan 148 = .ok (.bipush 61, 2) := by decide +kernel
theorem dX15_scan_150 : decode cX15_scan 150 = .ok (.if_icmp .ne 8, 3) := by decide +kernel
theorem dX15_scan_153 : decode cX15_scan 153 = .ok (.bipush 12, 2) := by decide +kernel
theorem dX15_scan_155 : decode cX15_scan 155 = .ok (.goto 89, 3) := by decide +kernel
theorem dX15_scan_158 : decode cX15_scan 158 = .ok (.iload_n 1, 1) := by decide +kernel
theorem dX15_scan_159 : decode cX15_scan 159 = .ok (.bipush 33, 2) := by decide +kernel
theorem dX15_scan_161 : decode cX15_scan 161 = .ok (.if_icmp .ne 14, 3) := by decide +kernel
theorem dX15_scan_164 : decode cX15_scan 164 = .ok (.iload_n 2, 1) := by decide +kernel
theorem dX15_scan_165 : decode cX15_scan 165 = .ok (.bipush 61, 2) := by decide +kernel
theorem dX15_scan_167 : decode cX15_scan 167 = .ok (.if_icmp .ne 8, 3) := by decide +kernel
theorem dX15_scan_170 : decode cX15_scan 170 = .ok (.bipush 13, 2) := by decide +kernel
theorem dX15_scan_172 : decode cX15_scan 172 = .ok (.goto 72, 3) := by decide +kernel
theorem dX15_scan_175 : decode cX15_scan 175 = .ok (.iload_n 1, 1) := by decide +kernel
theorem dX15_scan_176 : decode cX15_scan 176 = .ok (.bipush 60, 2) := by decide +kernel
theorem dX15_scan_178 : decode cX15_scan 178 = .ok (.if_icmp .ne 14, 3) := by decide +kernel
theorem dX15_scan_181 : decode cX15_scan 181 = .ok (.iload_n 2, 1) := by decide +kernel
theorem dX15_scan_182 : decode cX15_scan 182 = .ok (.bipush 61, 2) := by decide +kernel
theorem dX15_scan_184 : decode cX15_scan 184 = .ok (.if_icmp .ne 8, 3) := by decide +kernel
theorem dX15_scan_187 : decode cX15_scan 187 = .ok (.bipush 15, 2) := by decide +kernel
theorem dX15_scan_189 : decode cX15_scan 189 = .ok (.goto 55, 3) := by decide +kernel
theorem dX15_scan_192 : decode cX15_scan 192 = .ok (.iload_n 1, 1) := by decide +kernel
theorem dX15_scan_193 : decode cX15_scan 193 = .ok (.bipush 62, 2) := by decide +kernel
theorem dX15_scan_195 : decode cX15_scan 195 = .ok (.if_icmp .ne 14, 3) := by decide +kernel
theorem dX15_scan_198 : decode cX15_scan 198 = .ok (.iload_n 2, 1) := by decide +kernel
theorem dX15_scan_199 : decode cX15_scan 199 = .ok (.bipush 61, 2) := by decide +kernel
theorem dX15_scan_201 : decode cX15_scan 201 = .ok (.if_icmp .ne 8, 3) := by decide +kernel
theorem dX15_scan_204 : decode cX15_scan 204 = .ok (.bipush 17, 2) := by decide +kernel
theorem dX15_scan_206 : decode cX15_scan 206 = .ok (.goto 38, 3) := by decide +kernel
theorem dX15_scan_209 : decode cX15_scan 209 = .ok (.iload_n 1, 1) := by decide +kernel
theorem dX15_scan_210 : decode cX15_scan 210 = .ok (.bipush 60, 2) := by decide +kernel
theorem dX15_scan_212 : decode cX15_scan 212 = .ok (.if_icmp .ne 14, 3) := by decide +kernel
theorem dX15_scan_215 : decode cX15_scan 215 = .ok (.iload_n 2, 1) := by decide +kernel
theorem dX15_scan_216 : decode cX15_scan 216 = .ok (.bipush 60, 2) := by decide +kernel
theorem dX15_scan_218 : decode cX15_scan 218 = .ok (.if_icmp .ne 8, 3) := by decide +kernel
theorem dX15_scan_221 : decode cX15_scan 221 = .ok (.bipush 21, 2) := by decide +kernel
theorem dX15_scan_223 : decode cX15_scan 223 = .ok (.goto 21, 3) := by decide +kernel
theorem dX15_scan_226 : decode cX15_scan 226 = .ok (.iload_n 1, 1) := by decide +kernel
theorem dX15_scan_227 : decode cX15_scan 227 = .ok (.bipush 62, 2) := by decide +kernel
theorem dX15_scan_229 : decode cX15_scan 229 = .ok (.if_icmp .ne 14, 3) := by decide +kernel
theorem dX15_scan_232 : decode cX15_scan 232 = .ok (.iload_n 2, 1) := by decide +kernel
theorem dX15_scan_233 : decode cX15_scan 233 = .ok (.bipush 62, 2) := by decide +kernel
theorem dX15_scan_235 : decode cX15_scan 235 = .ok (.if_icmp .ne 8, 3) := by decide +kernel
theorem dX15_scan_238 : decode cX15_scan 238 = .ok (.bipush 22, 2) := by decide +kernel
theorem dX15_scan_240 : decode cX15_scan 240 = .ok (.goto 4, 3) := by decide +kernel
theorem dX15_scan_243 : decode cX15_scan 243 = .ok (.iconst 0, 1) := by decide +kernel
theorem dX15_scan_244 : decode cX15_scan 244 = .ok (.istore_n 3, 1) := by decide +kernel
theorem dX15_scan_245 : decode cX15_scan 245 = .ok (.iload_n 1, 1) := by decide +kernel
theorem dX15_scan_246 : decode cX15_scan 246 = .ok (.bipush 60, 2) := by decide +kernel
theorem dX15_scan_248 : decode cX15_scan 248 = .ok (.if_icmp .ne 8, 3) := by decide +kernel
theorem dX15_scan_251 : decode cX15_scan 251 = .ok (.bipush 14, 2) := by decide +kernel
theorem dX15_scan_253 : decode cX15_scan 253 = .ok (.goto 170, 3) := by decide +kernel
theorem dX15_scan_256 : decode cX15_scan 256 = .ok (.iload_n 1, 1) := by decide +kernel
theorem dX15_scan_257 : decode cX15_scan 257 = .ok (.bipush 62, 2) := by decide +kernel
theorem dX15_scan_259 : decode cX15_scan 259 = .ok (.if_icmp .ne 8, 3) := by decide +kernel
theorem dX15_scan_262 : decode cX15_scan 262 = .ok (.bipush 16, 2) := by decide +kernel
theorem dX15_scan_264 : decode cX15_scan 264 = .ok (.goto 159, 3) := by decide +kernel
theorem dX15_scan_267 : decode cX15_scan 267 = .ok (.iload_n 1, 1) := by decide +kernel
theorem dX15_scan_268 : decode cX15_scan 268 = .ok (.bipush 124, 2) := by decide +kernel
theorem dX15_scan_270 : decode cX15_scan 270 = .ok (.if_icmp .ne 8, 3) := by decide +kernel
theorem dX15_scan_273 : decode cX15_scan 273 = .ok (.bipush 18, 2) := by decide +kernel
theorem dX15_scan_275 : decode cX15_scan 275 = .ok (.goto 148, 3) := by decide +kernel
theorem dX15_scan_278 : decode cX15_scan 278 = .ok (.iload_n 1, 1) := by decide +kernel
theorem dX15_scan_279 : decode cX15_scan 279 = .ok (.bipush 94, 2) := by decide +kernel
theorem dX15_scan_281 : decode cX15_scan 281 = .ok (.if_icmp .ne 8, 3) := by decide +kernel
theorem dX15_scan_284 : decode cX15_scan 284 = .ok (.bipush 19, 2) := by decide +kernel
theorem dX15_scan_286 : decode cX15_scan 286 = .ok (.goto 137, 3) := by decide +kernel
theorem dX15_scan_289 : decode cX15_scan 289 = .ok (.iload_n 1, 1) := by decide +kernel
theorem dX15_scan_290 : decode cX15_scan 290 = .ok (.bipush 38, 2) := by decide +kernel
theorem dX15_scan_292 : decode cX15_scan 292 = .ok (.if_icmp .ne 8, 3) := by decide +kernel
theorem dX15_scan_295 : decode cX15_scan 295 = .ok (.bipush 20, 2) := by decide +kernel
theorem dX15_scan_297 : decode cX15_scan 297 = .ok (.goto 126, 3) := by decide +kernel
theorem dX15_scan_300 : decode cX15_scan 300 = .ok (.iload_n 1, 1) := by decide +kernel
theorem dX15_scan_301 : decode cX15_scan 301 = .ok (.bipush 43, 2) := by decide +kernel
theorem dX15_scan_303 : decode cX15_scan 303 = .ok (.if_icmp .ne 8, 3) := by decide +kernel
theorem dX15_scan_306 : decode cX15_scan 306 = .ok (.bipush 23, 2) := by decide +kernel
theorem dX15_scan_308 : decode cX15_scan 308 = .ok (.goto 115, 3) := by decide +kernel
theorem dX15_scan_311 : decode cX15_scan 311 = .ok (.iload_n 1, 1) := by decide +kernel
theorem dX15_scan_312 : decode cX15_scan 312 = .ok (.bipush 45, 2) := by decide +kernel
theorem dX15_scan_314 : decode cX15_scan 314 = .ok (.if_icmp .ne 8, 3) := by decide +kernel
theorem dX15_scan_317 : decode cX15_scan 317 = .ok (.bipush 24, 2) := by decide +kernel
theorem dX15_scan_319 : decode cX15_scan 319 = .ok (.goto 104, 3) := by decide +kernel
theorem dX15_scan_322 : decode cX15_scan 322 = .ok (.iload_n 1, 1) := by decide +kernel
theorem dX15_scan_323 : decode cX15_scan 323 = .ok (.bipush 42, 2) := by decide +kernel
theorem dX15_scan_325 : decode cX15_scan 325 = .ok (.if_icmp .ne 8, 3) := by decide +kernel
theorem dX15_scan_328 : decode cX15_scan 328 = .ok (.bipush 25, 2) := by decide +kernel
theorem dX15_scan_330 : decode cX15_scan 330 = .ok (.goto 93, 3) := by decide +kernel
theorem dX15_scan_333 : decode cX15_scan 333 = .ok (.iload_n 1, 1) := by decide +kernel
theorem dX15_scan_334 : decode cX15_scan 334 = .ok (.bipush 47, 2) := by decide +kernel
theorem dX15_scan_336 : decode cX15_scan 336 = .ok (.if_icmp .ne 8, 3) := by decide +kernel
theorem dX15_scan_339 : decode cX15_scan 339 = .ok (.bipush 26, 2) := by decide +kernel
theorem dX15_scan_341 : decode cX15_scan 341 = .ok (.goto 82, 3) := by decide +kernel
theorem dX15_scan_344 : decode cX15_scan 344 = .ok (.iload_n 1, 1) := by decide +kernel
theorem dX15_scan_345 : decode cX15_scan 345 = .ok (.bipush 37, 2) := by decide +kernel
theorem dX15_scan_347 : decode cX15_scan 347 = .ok (.if_icmp .ne 8, 3) := by decide +kernel
theorem dX15_scan_350 : decode cX15_scan 350 = .ok (.bipush 27, 2) := by decide +kernel
theorem dX15_scan_352 : decode cX15_scan 352 = .ok (.goto 71, 3) := by decide +kernel
theorem dX15_scan_355 : decode cX15_scan 355 = .ok (.iload_n 1, 1) := by decide +kernel
theorem dX15_scan_356 : decode cX15_scan 356 = .ok (.bipush 33, 2) := by decide +kernel
theorem dX15_scan_358 : decode cX15_scan 358 = .ok (.if_icmp .ne 8, 3) := by decide +kernel
theorem dX15_scan_361 : decode cX15_scan 361 = .ok (.bipush 28, 2) := by decide +kernel
theorem dX15_scan_363 : decode cX15_scan 363 = .ok (.goto 60, 3) := by decide +kernel
theorem dX15_scan_366 : decode cX15_scan 366 = .ok (.iload_n 1, 1) := by decide +kernel
theorem dX15_scan_367 : decode cX15_scan 367 = .ok (.bipush 126, 2) := by decide +kernel
theorem dX15_scan_369 : decode cX15_scan 369 = .ok (.if_icmp .ne 8, 3) := by decide +kernel
theorem dX15_scan_372 : decode cX15_scan 372 = .ok (.bipush 29, 2) := by decide +kernel
theorem dX15_scan_374 : decode cX15_scan 374 = .ok (.goto 49, 3) := by decide +kernel
theorem dX15_scan_377 : decode cX15_scan 377 = .ok (.iload_n 1, 1) := by decide +kernel
theorem dX15_scan_378 : decode cX15_scan 378 = .ok (.bipush 40, 2) := by decide +kernel
theorem dX15_scan_380 : decode cX15_scan 380 = .ok (.if_icmp .ne 8, 3) := by decide +kernel
theorem dX15_scan_383 : decode cX15_scan 383 = .ok (.bipush 30, 2) := by decide +kernel
theorem dX15_scan_385 : decode cX15_scan 385 = .ok (.goto 38, 3) := by decide +kernel
theorem dX15_scan_388 : decode cX15_scan 388 = .ok (.iload_n 1, 1) := by decide +kernel
theorem dX15_scan_389 : decode cX15_scan 389 = .ok (.bipush 41, 2) := by decide +kernel
theorem dX15_scan_391 : decode cX15_scan 391 = .ok (.if_icmp .ne 8, 3) := by decide +kernel
theorem dX15_scan_394 : decode cX15_scan 394 = .ok (.bipush 31, 2) := by decide +kernel
theorem dX15_scan_396 : decode cX15_scan 396 = .ok (.goto 27, 3) := by decide +kernel
theorem dX15_scan_399 : decode cX15_scan 399 = .ok (.iload_n 1, 1) := by decide +kernel
theorem dX15_scan_400 : decode cX15_scan 400 = .ok (.bipush 91, 2) := by decide +kernel
theorem dX15_scan_402 : decode cX15_scan 402 = .ok (.if_icmp .ne 8, 3) := by decide +kernel
theorem dX15_scan_405 : decode cX15_scan 405 = .ok (.bipush 32, 2) := by decide +kernel
theorem dX15_scan_407 : decode cX15_scan 407 = .ok (.goto 16, 3) := by decide +kernel
theorem dX15_scan_410 : decode cX15_scan 410 = .ok (.iload_n 1, 1) := by decide +kernel
theorem dX15_scan_411 : decode cX15_scan 411 = .ok (.bipush 93, 2) := by decide +kernel
theorem dX15_scan_413 : decode cX15_scan 413 = .ok (.if_icmp .ne 8, 3) := by decide +kernel
theorem dX15_scan_416 : decode cX15_scan 416 = .ok (.bipush 33, 2) := by decide +kernel
theorem dX15_scan_418 : decode cX15_scan 418 = .ok (.goto 5, 3) := by decide +kernel
theorem dX15_scan_421 : decode cX15_scan 421 = .ok (.bipush 34, 2) := by decide +kernel
theorem dX15_scan_423 : decode cX15_scan 423 = .ok (.istore 4, 2) := by decide +kernel
theorem dX15_scan_425 : decode cX15_scan 425 = .ok (.aload_n 0, 1) := by decide +kernel
theorem dX15_scan_426 : decode cX15_scan 426 = .ok (.iload_n 3, 1) := by decide +kernel
theorem dX15_scan_427 : decode cX15_scan 427 = .ok (.ifCond .le 7, 3) := by decide +kernel
theorem dX15_scan_430 : decode cX15_scan 430 = .ok (.iload_n 3, 1) := by decide +kernel
theorem dX15_scan_431 : decode cX15_scan 431 = .ok (.goto 5, 3) := by decide +kernel
theorem dX15_scan_434 : decode cX15_scan 434 = .ok (.iload 4, 2) := by decide +kernel
theorem dX15_scan_436 : decode cX15_scan 436 = .ok (.putfield 92, 3) := by decide +kernel
theorem dX15_scan_439 : decode cX15_scan 439 = .ok (.aload_n 0, 1) := by decide +kernel
theorem dX15_scan_440 : decode cX15_scan 440 = .ok (.dup, 1) := by decide +kernel
theorem dX15_scan_441 : decode cX15_scan 441 = .ok (.getfield 73, 3) := by decide +kernel
theorem dX15_scan_444 : decode cX15_scan 444 = .ok (.iload_n 3, 1) := by decide +kernel
theorem dX15_scan_445 : decode cX15_scan 445 = .ok (.ifCond .le 7, 3) := by decide +kernel
theorem dX15_scan_448 : decode cX15_scan 448 = .ok (.iconst 2, 1) := by decide +kernel
theorem dX15_scan_449 : decode cX15_scan 449 = .ok (.goto 4, 3) := by decide +kernel
theorem dX15_scan_452 : decode cX15_scan 452 = .ok (.iconst 1, 1) := by decide +kernel
theorem dX15_scan_453 : decode cX15_scan 453 = .ok (.iadd, 1) := by decide +kernel
theorem dX15_scan_454 : decode cX15_scan 454 = .ok (.putfield 73, 3) := by decide +kernel
theorem dX15_scan_457 : decode cX15_scan 457 = .ok (.return_, 1) := by decide +kernel
theorem dX15_scanNumber_0 : decode cX15_scanNumber 0 = .ok (.aload_n 0, 1) := by decide +kernel
theorem dX15_scanNumber_1 : decode cX15_scanNumber 1 = .ok (.getfield 73, 3) := by decide +kernel
theorem dX15_scanNumber_4 : decode cX15_scanNumber 4 = .ok (.aload_n 0, 1) := by decide +kernel
theorem dX15_scanNumber_5 : decode cX15_scanNumber 5 = .ok (.getfield 80, 3) := by decide +kernel
theorem dX15_scanNumber_8 : decode cX15_scanNumber 8 = .ok (.isub, 1) := by decide +kernel
theorem dX15_scanNumber_9 : decode cX15_scanNumber 9 = .ok (.iconst 2, 1) := by decide +kernel
theorem dX15_scanNumber_10 : decode cX15_scanNumber 10 = .ok (.if_icmp .le 37, 3) := by decide +kernel
theorem dX15_scanNumber_13 : decode cX15_scanNumber 13 = .ok (.aload_n 0, 1) := by decide +kernel
theorem dX15_scanNumber_14 : decode cX15_scanNumber 14 = .ok (.getfield 7, 3) := by decide +kernel
theorem dX15_scanNumber_17 : decode cX15_scanNumber 17 = .ok (.aload_n 0, 1) := by decide +kernel
theorem dX15_scanNumber_18 : decode cX15_scanNumber 18 = .ok (.getfield 80, 3) := by decide +kernel
theorem dX15_scanNumber_21 : decode cX15_scanNumber 21 = .ok (.caload, 1) := by decide +kernel
theorem dX15_scanNumber_22 : decode cX15_scanNumber 22 = .ok (.bipush 48, 2) := by decide +kernel
theorem dX15_scanNumber_24 : decode cX15_scanNumber 24 = .ok (.if_icmp .ne 23, 3) := by decide +kernel
theorem dX15_scanNumber_27 : decode cX15_scanNumber 27 = .ok (.aload_n 0, 1) := by decide +kernel
theorem dX15_scanNumber_28 : decode cX15_scanNumber 28 = .ok (.getfield 7, 3) := by decide +kernel
theorem dX15_scanNumber_31 : decode cX15_scanNumber 31 = .ok (.aload_n 0, 1) := by decide +kernel
theorem dX15_scanNumber_32 : decode cX15_scanNumber 32 = .ok (.getfield 80, 3) := by decide +kernel
theorem dX15_scanNumber_35 : decode cX15_scanNumber 35 = .ok (.iconst 1, 1) := by decide +kernel
theorem dX15_scanNumber_36 : decode cX15_scanNumber 36 = .ok (.iadd, 1) := by decide +kernel
theorem dX15_scanNumber_37 : decode cX15_scanNumber 37 = .ok (.caload, 1) := by decide +kernel
theorem dX15_scanNumber_38 : decode cX15_scanNumber 38 = .ok (.bipush 120, 2) := by decide +kernel
theorem dX15_scanNumber_40 : decode cX15_scanNumber 40 = .ok (.if_icmp .ne 7, 3) := by decide +kernel
theorem dX15_scanNumber_43 : decode cX15_scanNumber 43 = .ok (.iconst 1, 1) := by decide +kernel
theorem dX15_scanNumber_44 : decode cX15_scanNumber 44 = .ok (.goto 4, 3) := by decide +kernel
theorem dX15_scanNumber_47 : decode cX15_scanNumber 47 = .ok (.iconst 0, 1) := by decide +kernel
theorem dX15_scanNumber_48 : decode cX15_scanNumber 48 = .ok (.istore_n 1, 1) := by decide +kernel
theorem dX15_scanNumber_49 : decode cX15_scanNumber 49 = .ok (.aload_n 0, 1) := by decide +kernel
theorem dX15_scanNumber_50 : decode cX15_scanNumber 50 = .ok (.iconst 1, 1) := by decide +kernel
theorem dX15_scanNumber_51 : decode cX15_scanNumber 51 = .ok (.putfield 92, 3) := by decide +kernel
theorem dX15_scanNumber_54 : decode cX15_scanNumber 54 = .ok (.aload_n 0, 1) := by decide +kernel
theorem dX15_scanNumber_55 : decode cX15_scanNumber 55 = .ok (.lconst 0, 1) := by decide +kernel
theorem dX15_scanNumber_56 : decode cX15_scanNumber 56 = .ok (.putfield 95, 3) := by decide +kernel
theorem dX15_scanNumber_59 : decode cX15_scanNumber 59 = .ok (.iload_n 1, 1) := by decide +kernel
theorem dX15_scanNumber_60 : decode cX15_scanNumber 60 = .ok (.ifCond .eq 12, 3) := by decide +kernel
theorem dX15_scanNumber_63 : decode cX15_scanNumber 63 = .ok (.aload_n 0, 1) := by decide +kernel
theorem dX15_scanNumber_64 : decode cX15_scanNumber 64 = .ok (.getfield 80, 3) := by decide +kernel
theorem dX15_scanNumber_67 : decode cX15_scanNumber 67 = .ok (.iconst 2, 1) := by decide +kernel
theorem dX15_scanNumber_68 : decode cX15_scanNumber 68 = .ok (.iadd, 1) := by decide +kernel
theorem dX15_scanNumber_69 : decode cX15_scanNumber 69 = .ok (.goto 7, 3) := by decide +kernel
theorem dX15_scanNumber_72 : decode cX15_scanNumber 72 = .ok (.aload_n 0, 1) := by decide +kernel
theorem dX15_scanNumber_73 : decode cX15_scanNumber 73 = .ok (.getfield 80, 3) := by decide +kernel
theorem dX15_scanNumber_76 : decode cX15_scanNumber 76 = .ok (.istore_n 2, 1) := by decide +kernel
theorem dX15_scanNumber_77 : decode cX15_scanNumber 77 = .ok (.iload_n 2, 1) := by decide +kernel
theorem dX15_scanNumber_78 : decode cX15_scanNumber 78 = .ok (.aload_n 0, 1) := by decide +kernel
theorem dX15_scanNumber_79 : decode cX15_scanNumber 79 = .ok (.getfield 73, 3) := by decide +kernel
theorem dX15_scanNumber_82 : decode cX15_scanNumber 82 = .ok (.if_icmp .ge 131, 3) := by decide +kernel
theorem dX15_scanNumber_85 : decode cX15_scanNumber 85 = .ok (.aload_n 0, 1) := by decide +kernel
theorem dX15_scanNumber_86 : decode cX15_scanNumber 86 = .ok (.getfield 7, 3) := by decide +kernel
theorem dX15_scanNumber_89 : decode cX15_scanNumber 89 = .ok (.iload_n 2, 1) := by decide +kernel
theorem dX15_scanNumber_90 : decode cX15_scanNumber 90 = .ok (.caload, 1) := by decide +kernel
theorem dX15_scanNumber_91 : decode cX15_scanNumber 91 = .ok (.istore_n 3, 1) := by decide +kernel
theorem dX15_scanNumber_92 : decode cX15_scanNumber 92 = .ok (.iload_n 3, 1) := by decide +kernel
theorem dX15_scanNumber_93 : decode cX15_scanNumber 93 = .ok (.invokestatic 69, 3) := by decide +kernel
theorem dX15_scanNumber_96 : decode cX15_scanNumber 96 = .ok (.ifCond .eq 10, 3) := by decide +kernel
theorem dX15_scanNumber_99 : decode cX15_scanNumber 99 = .ok (.iload_n 3, 1) := by decide +kernel
theorem dX15_scanNumber_100 : decode cX15_scanNumber 100 = .ok (.bipush 48, 2) := by decide +kernel
theorem dX15_scanNumber_102 : decode cX15_scanNumber 102 = .ok (.isub, 1) := by decide +kernel
theorem dX15_scanNumber_103 : decode cX15_scanNumber 103 = .ok (.goto 31, 3) := by decide +kernel
theorem dX15_scanNumber_106 : decode cX15_scanNumber 106 = .ok (.iload_n 1, 1) := by decide +kernel
theorem dX15_scanNumber_107 : decode cX15_scanNumber 107 = .ok (.ifCond .eq 25, 3) := by decide +kernel
theorem dX15_scanNumber_110 : decode cX15_scanNumber 110 = .ok (.iload_n 3, 1) := by decide +kernel
theorem dX15_scanNumber_111 : decode cX15_scanNumber 111 = .ok (.bipush 97, 2) := by decide +kernel
theorem dX15_scanNumber_113 : decode cX15_scanNumber 113 = .ok (.if_icmp .lt 19, 3) := by decide +kernel
theorem dX15_scanNumber_116 : decode cX15_scanNumber 116 = .ok (.iload_n 3, 1) := by decide +kernel
theorem dX15_scanNumber_117 : decode cX15_scanNumber 117 = .ok (.bipush 102, 2) := by decide +kernel
theorem dX15_scanNumber_119 : decode cX15_scanNumber 119 = .ok (.if_icmp .gt 13, 3) := by decide +kernel
theorem dX15_scanNumber_122 : decode cX15_scanNumber 122 = .ok (.iload_n 3, 1) := by decide +kernel
theorem dX15_scanNumber_123 : decode cX15_scanNumber 123 = .ok (.bipush 97, 2) := by decide +kernel
theorem dX15_scanNumber_125 : decode cX15_scanNumber 125 = .ok (.isub, 1) := by decide +kernel
theorem dX15_scanNumber_126 : decode cX15_scanNumber 126 = .ok (.bipush 10, 2) := by decide +kernel
theorem dX15_scanNumber_128 : decode cX15_scanNumber 128 = .ok (.iadd, 1) := by decide +kernel
theorem dX15_scanNumber_129 : decode cX15_scanNumber 129 = .ok (.goto 5, 3) := by decide +kernel
theorem dX15_scanNumber_132 : decode cX15_scanNumber 132 = .ok (.bipush 99, 2) := by decide +kernel
theorem dX15_scanNumber_134 : decode cX15_scanNumber 134 = .ok (.istore 4, 2) := by decide +kernel
theorem dX15_scanNumber_136 : decode cX15_scanNumber 136 = .ok (.aload_n 0, 1) := by decide +kernel
theorem dX15_scanNumber_137 : decode cX15_scanNumber 137 = .ok (.aload_n 0, 1) := by decide +kernel
theorem dX15_scanNumber_138 : decode cX15_scanNumber 138 = .ok (.getfield 95, 3) := by decide +kernel
theorem dX15_scanNumber_141 : decode cX15_scanNumber 141 = .ok (.iload_n 1, 1) := by decide +kernel
theorem dX15_scanNumber_142 : decode cX15_scanNumber 142 = .ok (.ifCond .eq 9, 3) := by decide +kernel
theorem dX15_scanNumber_145 : decode cX15_scanNumber 145 = .ok (.ldc2_w 99, 3) := by decide +kernel
theorem dX15_scanNumber_148 : decode cX15_scanNumber 148 = .ok (.goto 6, 3) := by decide +kernel
theorem dX15_scanNumber_151 : decode cX15_scanNumber 151 = .ok (.ldc2_w 101, 3) := by decide +kernel
theorem dX15_scanNumber_154 : decode cX15_scanNumber 154 = .ok (.lmul, 1) := by decide +kernel
theorem dX15_scanNumber_155 : decode cX15_scanNumber 155 = .ok (.iload 4, 2) := by decide +kernel
theorem dX15_scanNumber_157 : decode cX15_scanNumber 157 = .ok (.i2l, 1) := by decide +kernel
theorem dX15_scanNumber_158 : decode cX15_scanNumber 158 = .ok (.ladd, 1) := by decide +kernel
theorem dX15_scanNumber_159 : decode cX15_scanNumber 159 = .ok (.putfield 95, 3) := by decide +kernel
theorem dX15_scanNumber_162 : decode cX15_scanNumber 162 = .ok (.iload 4, 2) := by decide +kernel
theorem dX15_scanNumber_164 : decode cX15_scanNumber 164 = .ok (.bipush 99, 2) := by decide +kernel
theorem dX15_scanNumber_166 : decode cX15_scanNumber 166 = .ok (.if_icmp .eq 14, 3) := by decide +kernel
theorem dX15_scanNumber_169 : decode cX15_scanNumber 169 = .ok (.aload_n 0, 1) := by decide +kernel
theorem dX15_scanNumber_170 : decode cX15_scanNumber 170 = .ok (.getfield 95, 3) := by decide +kernel
theorem dX15_scanNumber_173 : decode cX15_scanNumber 173 = .ok (.ldc2_w 103, 3) := by decide +kernel
theorem dX15_scanNumber_176 : decode cX15_scanNumber 176 = .ok (.lcmp, 1) := by decide +kernel
theorem dX15_scanNumber_177 : decode cX15_scanNumber 177 = .ok (.ifCond .lt 9, 3) := by decide +kernel
theorem dX15_scanNumber_180 : decode cX15_scanNumber 180 = .ok (.aload_n 0, 1) := by decide +kernel
theorem dX15_scanNumber_181 : decode cX15_scanNumber 181 = .ok (.bipush 34, 2) := by decide +kernel
theorem dX15_scanNumber_183 : decode cX15_scanNumber 183 = .ok (.putfield 92, 3) := by decide +kernel
theorem dX15_scanNumber_186 : decode cX15_scanNumber 186 = .ok (.aload_n 0, 1) := by decide +kernel
theorem dX15_scanNumber_187 : decode cX15_scanNumber 187 = .ok (.aload_n 0, 1) := by decide +kernel
theorem dX15_scanNumber_188 : decode cX15_scanNumber 188 = .ok (.getfield 92, 3) := by decide +kernel
theorem dX15_scanNumber_191 : decode cX15_scanNumber 191 = .ok (.bipush 34, 2) := by decide +kernel
theorem dX15_scanNumber_193 : decode cX15_scanNumber 193 = .ok (.if_icmp .ne 7, 3) := by decide +kernel
theorem dX15_scanNumber_196 : decode cX15_scanNumber 196 = .ok (.lconst 0, 1) := by decide +kernel
theorem dX15_scanNumber_197 : decode cX15_scanNumber 197 = .ok (.goto 7, 3) := by decide +kernel
theorem dX15_scanNumber_200 : decode cX15_scanNumber 200 = .ok (.aload_n 0, 1) := by decide +kernel
theorem dX15_scanNumber_201 : decode cX15_scanNumber 201 = .ok (.getfield 95, 3) := by decide +kernel
theorem dX15_scanNumber_204 : decode cX15_scanNumber 204 = .ok (.putfield 95, 3) := by decide +kernel
theorem dX15_scanNumber_207 : decode cX15_scanNumber 207 = .ok (.iinc 2 1, 3) := by decide +kernel
theorem dX15_scanNumber_210 : decode cX15_scanNumber 210 = .ok (.goto (-133), 3) := by decide +kernel
theorem dX15_scanNumber_213 : decode cX15_scanNumber 213 = .ok (.return_, 1) := by decide +kernel
theorem dX15_scanWord_0 : decode cX15_scanWord 0 = .ok (.aload_n 0, 1) := by decide +kernel
theorem dX15_scanWord_1 : decode cX15_scanWord 1 = .ok (.getfield 73, 3) := by decide +kernel
theorem dX15_scanWord_4 : decode cX15_scanWord 4 = .ok (.aload_n 0, 1) := by decide +kernel
theorem dX15_scanWord_5 : decode cX15_scanWord 5 = .ok (.getfield 80, 3) := by decide +kernel
theorem dX15_scanWord_8 : decode cX15_scanWord 8 = .ok (.isub, 1) := by decide +kernel
theorem dX15_scanWord_9 : decode cX15_scanWord 9 = .ok (.istore_n 1, 1) := by decide +kernel
theorem dX15_scanWord_10 : decode cX15_scanWord 10 = .ok (.aload_n 0, 1) := by decide +kernel
theorem dX15_scanWord_11 : decode cX15_scanWord 11 = .ok (.getfield 7, 3) := by decide +kernel
theorem dX15_scanWord_14 : decode cX15_scanWord 14 = .ok (.aload_n 0, 1) := by decide +kernel
theorem dX15_scanWord_15 : decode cX15_scanWord 15 = .ok (.getfield 80, 3) := by decide +kernel
theorem dX15_scanWord_18 : decode cX15_scanWord 18 = .ok (.caload, 1) := by decide +kernel
theorem dX15_scanWord_19 : decode cX15_scanWord 19 = .ok (.bipush 120, 2) := by decide +kernel
theorem dX15_scanWord_21 : decode cX15_scanWord 21 = .ok (.if_icmp .ne 84, 3) := by decide +kernel
theorem dX15_scanWord_24 : decode cX15_scanWord 24 = .ok (.iload_n 1, 1) := by decide +kernel
theorem dX15_scanWord_25 : decode cX15_scanWord 25 = .ok (.iconst 2, 1) := by decide +kernel
theorem dX15_scanWord_26 : decode cX15_scanWord 26 = .ok (.if_icmp .ne 20, 3) := by decide +kernel
theorem dX15_scanWord_29 : decode cX15_scanWord 29 = .ok (.aload_n 0, 1) := by decide +kernel
theorem dX15_scanWord_30 : decode cX15_scanWord 30 = .ok (.getfield 7, 3) := by decide +kernel
theorem dX15_scanWord_33 : decode cX15_scanWord 33 = .ok (.aload_n 0, 1) := by decide +kernel
theorem dX15_scanWord_34 : decode cX15_scanWord 34 = .ok (.getfield 80, 3) := by decide +kernel
theorem dX15_scanWord_37 : decode cX15_scanWord 37 = .ok (.iconst 1, 1) := by decide +kernel
theorem dX15_scanWord_38 : decode cX15_scanWord 38 = .ok (.iadd, 1) := by decide +kernel
theorem dX15_scanWord_39 : decode cX15_scanWord 39 = .ok (.caload, 1) := by decide +kernel
theorem dX15_scanWord_40 : decode cX15_scanWord 40 = .ok (.invokestatic 69, 3) := by decide +kernel
theorem dX15_scanWord_43 : decode cX15_scanWord 43 = .ok (.ifCond .ne 58, 3) := by decide +kernel
theorem dX15_scanWord_46 : decode cX15_scanWord 46 = .ok (.iload_n 1, 1) := by decide +kernel
theorem dX15_scanWord_47 : decode cX15_scanWord 47 = .ok (.iconst 3, 1) := by decide +kernel
theorem dX15_scanWord_48 : decode cX15_scanWord 48 = .ok (.if_icmp .ne 57, 3) := by decide +kernel
theorem dX15_scanWord_51 : decode cX15_scanWord 51 = .ok (.aload_n 0, 1) := by decide +kernel
theorem dX15_scanWord_52 : decode cX15_scanWord 52 = .ok (.getfield 7, 3) := by decide +kernel
theorem dX15_scanWord_55 : decode cX15_scanWord 55 = .ok (.aload_n 0, 1) := by decide +kernel
theorem dX15_scanWord_56 : decode cX15_scanWord 56 = .ok (.getfield 80, 3) := by decide +kernel
theorem dX15_scanWord_59 : decode cX15_scanWord 59 = .ok (.iconst 1, 1) := by decide +kernel
theorem dX15_scanWord_60 : decode cX15_scanWord 60 = .ok (.iadd, 1) := by decide +kernel
theorem dX15_scanWord_61 : decode cX15_scanWord 61 = .ok (.caload, 1) := by decide +kernel
theorem dX15_scanWord_62 : decode cX15_scanWord 62 = .ok (.invokestatic 69, 3) := by decide +kernel
theorem dX15_scanWord_65 : decode cX15_scanWord 65 = .ok (.ifCond .eq 40, 3) := by decide +kernel
theorem dX15_scanWord_68 : decode cX15_scanWord 68 = .ok (.aload_n 0, 1) := by decide +kernel
theorem dX15_scanWord_69 : decode cX15_scanWord 69 = .ok (.getfield 7, 3) := by decide +kernel
theorem dX15_scanWord_72 : decode cX15_scanWord 72 = .ok (.aload_n 0, 1) := by decide +kernel
theorem dX15_scanWord_73 : decode cX15_scanWord 73 = .ok (.getfield 80, 3) := by decide +kernel
theorem dX15_scanWord_76 : decode cX15_scanWord 76 = .ok (.iconst 1, 1) := by decide +kernel
theorem dX15_scanWord_77 : decode cX15_scanWord 77 = .ok (.iadd, 1) := by decide +kernel
theorem dX15_scanWord_78 : decode cX15_scanWord 78 = .ok (.caload, 1) := by decide +kernel
theorem dX15_scanWord_79 : decode cX15_scanWord 79 = .ok (.bipush 48, 2) := by decide +kernel
theorem dX15_scanWord_81 : decode cX15_scanWord 81 = .ok (.if_icmp .le 24, 3) := by decide +kernel
theorem dX15_scanWord_84 : decode cX15_scanWord 84 = .ok (.aload_n 0, 1) := by decide +kernel
theorem dX15_scanWord_85 : decode cX15_scanWord 85 = .ok (.getfield 7, 3) := by decide +kernel
theorem dX15_scanWord_88 : decode cX15_scanWord 88 = .ok (.aload_n 0, 1) := by decide +kernel
theorem dX15_scanWord_89 : decode cX15_scanWord 89 = .ok (.getfield 80, 3) := by decide +kernel
theorem dX15_scanWord_92 : decode cX15_scanWord 92 = .ok (.iconst 2, 1) := by decide +kernel
theorem dX15_scanWord_93 : decode cX15_scanWord 93 = .ok (.iadd, 1) := by decide +kernel
theorem dX15_scanWord_94 : decode cX15_scanWord 94 = .ok (.caload, 1) := by decide +kernel
theorem dX15_scanWord_95 : decode cX15_scanWord 95 = .ok (.invokestatic 69, 3) := by decide +kernel
theorem dX15_scanWord_98 : decode cX15_scanWord 98 = .ok (.ifCond .eq 7, 3) := by decide +kernel
theorem dX15_scanWord_101 : decode cX15_scanWord 101 = .ok (.iconst 1, 1) := by decide +kernel
theorem dX15_scanWord_102 : decode cX15_scanWord 102 = .ok (.goto 4, 3) := by decide +kernel
theorem dX15_scanWord_105 : decode cX15_scanWord 105 = .ok (.iconst 0, 1) := by decide +kernel
theorem dX15_scanWord_106 : decode cX15_scanWord 106 = .ok (.istore_n 2, 1) := by decide +kernel
theorem dX15_scanWord_107 : decode cX15_scanWord 107 = .ok (.aload_n 0, 1) := by decide +kernel
theorem dX15_scanWord_108 : decode cX15_scanWord 108 = .ok (.iload_n 2, 1) := by decide +kernel
theorem dX15_scanWord_109 : decode cX15_scanWord 109 = .ok (.ifCond .eq 62, 3) := by decide +kernel
theorem dX15_scanWord_112 : decode cX15_scanWord 112 = .ok (.iload_n 1, 1) := by decide +kernel
theorem dX15_scanWord_113 : decode cX15_scanWord 113 = .ok (.iconst 2, 1) := by decide +kernel
theorem dX15_scanWord_114 : decode cX15_scanWord 114 = .ok (.if_icmp .ne 21, 3) := by decide +kernel
theorem dX15_scanWord_117 : decode cX15_scanWord 117 = .ok (.aload_n 0, 1) := by decide +kernel
theorem dX15_scanWord_118 : decode cX15_scanWord 118 = .ok (.getfield 7, 3) := by decide +kernel
theorem dX15_scanWord_121 : decode cX15_scanWord 121 = .ok (.aload_n 0, 1) := by decide +kernel
theorem dX15_scanWord_122 : decode cX15_scanWord 122 = .ok (.getfield 80, 3) := by decide +kernel
theorem dX15_scanWord_125 : decode cX15_scanWord 125 = .ok (.iconst 1, 1) := by decide +kernel
theorem dX15_scanWord_126 : decode cX15_scanWord 126 = .ok (.iadd, 1) := by decide +kernel
theorem dX15_scanWord_127 : decode cX15_scanWord 127 = .ok (.caload, 1) := by decide +kernel
theorem dX15_scanWord_128 : decode cX15_scanWord 128 = .ok (.bipush 48, 2) := by decide +kernel
theorem dX15_scanWord_130 : decode cX15_scanWord 130 = .ok (.isub, 1) := by decide +kernel
theorem dX15_scanWord_131 : decode cX15_scanWord 131 = .ok (.i2l, 1) := by decide +kernel
theorem dX15_scanWord_132 : decode cX15_scanWord 132 = .ok (.goto 40, 3) := by decide +kernel
theorem dX15_scanWord_135 : decode cX15_scanWord 135 = .ok (.bipush 10, 2) := by decide +kernel
theorem dX15_scanWord_137 : decode cX15_scanWord 137 = .ok (.aload_n 0, 1) := by decide +kernel
theorem dX15_scanWord_138 : decode cX15_scanWord 138 = .ok (.getfield 7, 3) := by decide +kernel
theorem dX15_scanWord_141 : decode cX15_scanWord 141 = .ok (.aload_n 0, 1) := by decide +kernel
theorem dX15_scanWord_142 : decode cX15_scanWord 142 = .ok (.getfield 80, 3) := by decide +kernel
theorem dX15_scanWord_145 : decode cX15_scanWord 145 = .ok (.iconst 1, 1) := by decide +kernel
theorem dX15_scanWord_146 : decode cX15_scanWord 146 = .ok (.iadd, 1) := by decide +kernel
theorem dX15_scanWord_147 : decode cX15_scanWord 147 = .ok (.caload, 1) := by decide +kernel
theorem dX15_scanWord_148 : decode cX15_scanWord 148 = .ok (.bipush 48, 2) := by decide +kernel
theorem dX15_scanWord_150 : decode cX15_scanWord 150 = .ok (.isub, 1) := by decide +kernel
theorem dX15_scanWord_151 : decode cX15_scanWord 151 = .ok (.imul, 1) := by decide +kernel
theorem dX15_scanWord_152 : decode cX15_scanWord 152 = .ok (.aload_n 0, 1) := by decide +kernel
theorem dX15_scanWord_153 : decode cX15_scanWord 153 = .ok (.getfield 7, 3) := by decide +kernel
theorem dX15_scanWord_156 : decode cX15_scanWord 156 = .ok (.aload_n 0, 1) := by decide +kernel
theorem dX15_scanWord_157 : decode cX15_scanWord 157 = .ok (.getfield 80, 3) := by decide +kernel
theorem dX15_scanWord_160 : decode cX15_scanWord 160 = .ok (.iconst 2, 1) := by decide +kernel
theorem dX15_scanWord_161 : decode cX15_scanWord 161 = .ok (.iadd, 1) := by decide +kernel
theorem dX15_scanWord_162 : decode cX15_scanWord 162 = .ok (.caload, 1) := by decide +kernel
theorem dX15_scanWord_163 : decode cX15_scanWord 163 = .ok (.iadd, 1) := by decide +kernel
theorem dX15_scanWord_164 : decode cX15_scanWord 164 = .ok (.bipush 48, 2) := by decide +kernel
theorem dX15_scanWord_166 : decode cX15_scanWord 166 = .ok (.isub, 1) := by decide +kernel
theorem dX15_scanWord_167 : decode cX15_scanWord 167 = .ok (.i2l, 1) := by decide +kernel
theorem dX15_scanWord_168 : decode cX15_scanWord 168 = .ok (.goto 4, 3) := by decide +kernel
theorem dX15_scanWord_171 : decode cX15_scanWord 171 = .ok (.lconst 0, 1) := by decide +kernel
theorem dX15_scanWord_172 : decode cX15_scanWord 172 = .ok (.putfield 95, 3) := by decide +kernel
theorem dX15_scanWord_175 : decode cX15_scanWord 175 = .ok (.aload_n 0, 1) := by decide +kernel
theorem dX15_scanWord_176 : decode cX15_scanWord 176 = .ok (.iload_n 2, 1) := by decide +kernel
theorem dX15_scanWord_177 : decode cX15_scanWord 177 = .ok (.ifCond .eq 18, 3) := by decide +kernel
theorem dX15_scanWord_180 : decode cX15_scanWord 180 = .ok (.aload_n 0, 1) := by decide +kernel
theorem dX15_scanWord_181 : decode cX15_scanWord 181 = .ok (.getfield 95, 3) := by decide +kernel
theorem dX15_scanWord_184 : decode cX15_scanWord 184 = .ok (.ldc2_w 105, 3) := by decide +kernel
theorem dX15_scanWord_187 : decode cX15_scanWord 187 = .ok (.lcmp, 1) := by decide +kernel
theorem dX15_scanWord_188 : decode cX15_scanWord 188 = .ok (.ifCond .ge 7, 3) := by decide +kernel
theorem dX15_scanWord_191 : decode cX15_scanWord 191 = .ok (.iconst 2, 1) := by decide +kernel
theorem dX15_scanWord_192 : decode cX15_scanWord 192 = .ok (.goto 162, 3) := by decide +kernel
theorem dX15_scanWord_195 : decode cX15_scanWord 195 = .ok (.aload_n 0, 1) := by decide +kernel
theorem dX15_scanWord_196 : decode cX15_scanWord 196 = .ok (.aload_n 0, 1) := by decide +kernel
theorem dX15_scanWord_197 : decode cX15_scanWord 197 = .ok (.getfield 80, 3) := by decide +kernel
theorem dX15_scanWord_200 : decode cX15_scanWord 200 = .ok (.aload_n 0, 1) := by decide +kernel
theorem dX15_scanWord_201 : decode cX15_scanWord 201 = .ok (.getfield 73, 3) := by decide +kernel
theorem dX15_scanWord_204 : decode cX15_scanWord 204 = .ok (.ldc2_w 107, 3) := by decide +kernel
theorem dX15_scanWord_207 : decode cX15_scanWord 207 = .ok (.invokevirtual 109, 3) := by decide +kernel
theorem dX15_scanWord_210 : decode cX15_scanWord 210 = .ok (.ifCond .eq 7, 3) := by decide +kernel
theorem dX15_scanWord_213 : decode cX15_scanWord 213 = .ok (.iconst 3, 1) := by decide +kernel
theorem dX15_scanWord_214 : decode cX15_scanWord 214 = .ok (.goto 140, 3) := by decide +kernel
theorem dX15_scanWord_217 : decode cX15_scanWord 217 = .ok (.aload_n 0, 1) := by decide +kernel
theorem dX15_scanWord_218 : decode cX15_scanWord 218 = .ok (.aload_n 0, 1) := by decide +kernel
theorem dX15_scanWord_219 : decode cX15_scanWord 219 = .ok (.getfield 80, 3) := by decide +kernel
theorem dX15_scanWord_222 : decode cX15_scanWord 222 = .ok (.aload_n 0, 1) := by decide +kernel
theorem dX15_scanWord_223 : decode cX15_scanWord 223 = .ok (.getfield 73, 3) := by decide +kernel
theorem dX15_scanWord_226 : decode cX15_scanWord 226 = .ok (.ldc2_w 113, 3) := by decide +kernel
theorem dX15_scanWord_229 : decode cX15_scanWord 229 = .ok (.invokevirtual 109, 3) := by decide +kernel
theorem dX15_scanWord_232 : decode cX15_scanWord 232 = .ok (.ifCond .eq 7, 3) := by decide +kernel
theorem dX15_scanWord_235 : decode cX15_scanWord 235 = .ok (.iconst 4, 1) := by decide +kernel
theorem dX15_scanWord_236 : decode cX15_scanWord 236 = .ok (.goto 118, 3) := by decide +kernel
theorem dX15_scanWord_239 : decode cX15_scanWord 239 = .ok (.aload_n 0, 1) := by decide +kernel
theorem dX15_scanWord_240 : decode cX15_scanWord 240 = .ok (.aload_n 0, 1) := by decide +kernel
theorem dX15_scanWord_241 : decode cX15_scanWord 241 = .ok (.getfield 80, 3) := by decide +kernel
theorem dX15_scanWord_244 : decode cX15_scanWord 244 = .ok (.aload_n 0, 1) := by decide +kernel
theorem dX15_scanWord_245 : decode cX15_scanWord 245 = .ok (.getfield 73, 3) := by decide +kernel
theorem dX15_scanWord_248 : decode cX15_scanWord 248 = .ok (.ldc2_w 115, 3) := by decide +kernel
theorem dX15_scanWord_251 : decode cX15_scanWord 251 = .ok (.invokevirtual 109, 3) := by decide +kernel
theorem dX15_scanWord_254 : decode cX15_scanWord 254 = .ok (.ifCond .eq 7, 3) := by decide +kernel
theorem dX15_scanWord_257 : decode cX15_scanWord 257 = .ok (.iconst 5, 1) := by decide +kernel
theorem dX15_scanWord_258 : decode cX15_scanWord 258 = .ok (.goto 96, 3) := by decide +kernel
theorem dX15_scanWord_261 : decode cX15_scanWord 261 = .ok (.aload_n 0, 1) := by decide +kernel
theorem dX15_scanWord_262 : decode cX15_scanWord 262 = .ok (.aload_n 0, 1) := by decide +kernel
theorem dX15_scanWord_263 : decode cX15_scanWord 263 = .ok (.getfield 80, 3) := by decide +kernel
theorem dX15_scanWord_266 : decode cX15_scanWord 266 = .ok (.aload_n 0, 1) := by decide +kernel
theorem dX15_scanWord_267 : decode cX15_scanWord 267 = .ok (.getfield 73, 3) := by decide +kernel
theorem dX15_scanWord_270 : decode cX15_scanWord 270 = .ok (.ldc2_w 117, 3) := by decide +kernel
theorem dX15_scanWord_273 : decode cX15_scanWord 273 = .ok (.invokevirtual 109, 3) := by decide +kernel
theorem dX15_scanWord_276 : decode cX15_scanWord 276 = .ok (.ifCond .eq 8, 3) := by decide +kernel
theorem dX15_scanWord_279 : decode cX15_scanWord 279 = .ok (.bipush 6, 2) := by decide +kernel
theorem dX15_scanWord_281 : decode cX15_scanWord 281 = .ok (.goto 73, 3) := by decide +kernel
theorem dX15_scanWord_284 : decode cX15_scanWord 284 = .ok (.aload_n 0, 1) := by decide +kernel
theorem dX15_scanWord_285 : decode cX15_scanWord 285 = .ok (.aload_n 0, 1) := by decide +kernel
theorem dX15_scanWord_286 : decode cX15_scanWord 286 = .ok (.getfield 80, 3) := by decide +kernel
theorem dX15_scanWord_289 : decode cX15_scanWord 289 = .ok (.aload_n 0, 1) := by decide +kernel
theorem dX15_scanWord_290 : decode cX15_scanWord 290 = .ok (.getfield 73, 3) := by decide +kernel
theorem dX15_scanWord_293 : decode cX15_scanWord 293 = .ok (.ldc2_w 119, 3) := by decide +kernel
theorem dX15_scanWord_296 : decode cX15_scanWord 296 = .ok (.invokevirtual 109, 3) := by decide +kernel
theorem dX15_scanWord_299 : decode cX15_scanWord 299 = .ok (.ifCond .eq 8, 3) := by decide +kernel
theorem dX15_scanWord_302 : decode cX15_scanWord 302 = .ok (.bipush 7, 2) := by decide +kernel
theorem dX15_scanWord_304 : decode cX15_scanWord 304 = .ok (.goto 50, 3) := by decide +kernel
theorem dX15_scanWord_307 : decode cX15_scanWord 307 = .ok (.aload_n 0, 1) := by decide +kernel
theorem dX15_scanWord_308 : decode cX15_scanWord 308 = .ok (.aload_n 0, 1) := by decide +kernel
theorem dX15_scanWord_309 : decode cX15_scanWord 309 = .ok (.getfield 80, 3) := by decide +kernel
theorem dX15_scanWord_312 : decode cX15_scanWord 312 = .ok (.aload_n 0, 1) := by decide +kernel
theorem dX15_scanWord_313 : decode cX15_scanWord 313 = .ok (.getfield 73, 3) := by decide +kernel
theorem dX15_scanWord_316 : decode cX15_scanWord 316 = .ok (.ldc2_w 121, 3) := by decide +kernel
theorem dX15_scanWord_319 : decode cX15_scanWord 319 = .ok (.invokevirtual 109, 3) := by decide +kernel
theorem dX15_scanWord_322 : decode cX15_scanWord 322 = .ok (.ifCond .eq 8, 3) := by decide +kernel
theorem dX15_scanWord_325 : decode cX15_scanWord 325 = .ok (.bipush 8, 2) := by decide +kernel
theorem dX15_scanWord_327 : decode cX15_scanWord 327 = .ok (.goto 27, 3) := by decide +kernel
theorem dX15_scanWord_330 : decode cX15_scanWord 330 = .ok (.aload_n 0, 1) := by decide +kernel
theorem dX15_scanWord_331 : decode cX15_scanWord 331 = .ok (.aload_n 0, 1) := by decide +kernel
theorem dX15_scanWord_332 : decode cX15_scanWord 332 = .ok (.getfield 80, 3) := by decide +kernel
theorem dX15_scanWord_335 : decode cX15_scanWord 335 = .ok (.aload_n 0, 1) := by decide +kernel
theorem dX15_scanWord_336 : decode cX15_scanWord 336 = .ok (.getfield 73, 3) := by decide +kernel
theorem dX15_scanWord_339 : decode cX15_scanWord 339 = .ok (.ldc2_w 123, 3) := by decide +kernel
theorem dX15_scanWord_342 : decode cX15_scanWord 342 = .ok (.invokevirtual 109, 3) := by decide +kernel
theorem dX15_scanWord_345 : decode cX15_scanWord 345 = .ok (.ifCond .eq 8, 3) := by decide +kernel
theorem dX15_scanWord_348 : decode cX15_scanWord 348 = .ok (.bipush 9, 2) := by decide +kernel
theorem dX15_scanWord_350 : decode cX15_scanWord 350 = .ok (.goto 4, 3) := by decide +kernel
theorem dX15_scanWord_353 : decode cX15_scanWord 353 = .ok (.iconst 0, 1) := by decide +kernel
theorem dX15_scanWord_354 : decode cX15_scanWord 354 = .ok (.putfield 92, 3) := by decide +kernel
theorem dX15_scanWord_357 : decode cX15_scanWord 357 = .ok (.return_, 1) := by decide +kernel
theorem dX15_meet_0 : decode cX15_meet 0 = .ok (.aload_n 0, 1) := by decide +kernel
theorem dX15_meet_1 : decode cX15_meet 1 = .ok (.getfield 125, 3) := by decide +kernel
theorem dX15_meet_4 : decode cX15_meet 4 = .ok (.ifCond .ne 13, 3) := by decide +kernel
theorem dX15_meet_7 : decode cX15_meet 7 = .ok (.aload_n 0, 1) := by decide +kernel
theorem dX15_meet_8 : decode cX15_meet 8 = .ok (.iload_n 1, 1) := by decide +kernel
theorem dX15_meet_9 : decode cX15_meet 9 = .ok (.bipush 8, 2) := by decide +kernel
theorem dX15_meet_11 : decode cX15_meet 11 = .ok (.iload_n 2, 1) := by decide +kernel
theorem dX15_meet_12 : decode cX15_meet 12 = .ok (.imul, 1) := by decide +kernel
theorem dX15_meet_13 : decode cX15_meet 13 = .ok (.iadd, 1) := by decide +kernel
theorem dX15_meet_14 : decode cX15_meet 14 = .ok (.putfield 125, 3) := by decide +kernel
theorem dX15_meet_17 : decode cX15_meet 17 = .ok (.return_, 1) := by decide +kernel
theorem dX15_begins_0 : decode cX15_begins 0 = .ok (.iload_n 0, 1) := by decide +kernel
theorem dX15_begins_1 : decode cX15_begins 1 = .ok (.bipush 10, 2) := by decide +kernel
theorem dX15_begins_3 : decode cX15_begins 3 = .ok (.if_icmp .lt 33, 3) := by decide +kernel
theorem dX15_begins_6 : decode cX15_begins 6 = .ok (.iload_n 0, 1) := by decide +kernel
theorem dX15_begins_7 : decode cX15_begins 7 = .ok (.bipush 24, 2) := by decide +kernel
theorem dX15_begins_9 : decode cX15_begins 9 = .ok (.if_icmp .eq 27, 3) := by decide +kernel
theorem dX15_begins_12 : decode cX15_begins 12 = .ok (.iload_n 0, 1) := by decide +kernel
theorem dX15_begins_13 : decode cX15_begins 13 = .ok (.bipush 28, 2) := by decide +kernel
theorem dX15_begins_15 : decode cX15_begins 15 = .ok (.if_icmp .eq 21, 3) := by decide +kernel
theorem dX15_begins_18 : decode cX15_begins 18 = .ok (.iload_n 0, 1) := by decide +kernel
theorem dX15_begins_19 : decode cX15_begins 19 = .ok (.bipush 29, 2) := by decide +kernel
theorem dX15_begins_21 : decode cX15_begins 21 = .ok (.if_icmp .eq 15, 3) := by decide +kernel
theorem dX15_begins_24 : decode cX15_begins 24 = .ok (.iload_n 0, 1) := by decide +kernel
theorem dX15_begins_25 : decode cX15_begins 25 = .ok (.bipush 30, 2) := by decide +kernel
theorem dX15_begins_27 : decode cX15_begins 27 = .ok (.if_icmp .eq 9, 3) := by decide +kernel
theorem dX15_begins_30 : decode cX15_begins 30 = .ok (.iload_n 0, 1) := by decide +kernel
theorem dX15_begins_31 : decode cX15_begins 31 = .ok (.bipush 32, 2) := by decide +kernel
theorem dX15_begins_33 : decode cX15_begins 33 = .ok (.if_icmp .ne 7, 3) := by decide +kernel
theorem dX15_begins_36 : decode cX15_begins 36 = .ok (.iconst 1, 1) := by decide +kernel
theorem dX15_begins_37 : decode cX15_begins 37 = .ok (.goto 4, 3) := by decide +kernel
theorem dX15_begins_40 : decode cX15_begins 40 = .ok (.iconst 0, 1) := by decide +kernel
theorem dX15_begins_41 : decode cX15_begins 41 = .ok (.ireturn, 1) := by decide +kernel
theorem dX15_isBetween_0 : decode cX15_isBetween 0 = .ok (.iload_n 0, 1) := by decide +kernel
theorem dX15_isBetween_1 : decode cX15_isBetween 1 = .ok (.bipush 10, 2) := by decide +kernel
theorem dX15_isBetween_3 : decode cX15_isBetween 3 = .ok (.if_icmp .lt 13, 3) := by decide +kernel
theorem dX15_isBetween_6 : decode cX15_isBetween 6 = .ok (.iload_n 0, 1) := by decide +kernel
theorem dX15_isBetween_7 : decode cX15_isBetween 7 = .ok (.bipush 27, 2) := by decide +kernel
theorem dX15_isBetween_9 : decode cX15_isBetween 9 = .ok (.if_icmp .gt 7, 3) := by decide +kernel
theorem dX15_isBetween_12 : decode cX15_isBetween 12 = .ok (.iconst 1, 1) := by decide +kernel
theorem dX15_isBetween_13 : decode cX15_isBetween 13 = .ok (.goto 4, 3) := by decide +kernel
theorem dX15_isBetween_16 : decode cX15_isBetween 16 = .ok (.iconst 0, 1) := by decide +kernel
theorem dX15_isBetween_17 : decode cX15_isBetween 17 = .ok (.ireturn, 1) := by decide +kernel
theorem dX15_remembers_0 : decode cX15_remembers 0 = .ok (.iconst 0, 1) := by decide +kernel
theorem dX15_remembers_1 : decode cX15_remembers 1 = .ok (.istore_n 1, 1) := by decide +kernel
theorem dX15_remembers_2 : decode cX15_remembers 2 = .ok (.iconst 0, 1) := by decide +kernel
theorem dX15_remembers_3 : decode cX15_remembers 3 = .ok (.istore_n 2, 1) := by decide +kernel
theorem dX15_remembers_4 : decode cX15_remembers 4 = .ok (.iload_n 2, 1) := by decide +kernel
theorem dX15_remembers_5 : decode cX15_remembers 5 = .ok (.aload_n 0, 1) := by decide +kernel
theorem dX15_remembers_6 : decode cX15_remembers 6 = .ok (.getfield 128, 3) := by decide +kernel
theorem dX15_remembers_9 : decode cX15_remembers 9 = .ok (.if_icmp .ge 64, 3) := by decide +kernel
theorem dX15_remembers_12 : decode cX15_remembers 12 = .ok (.iload_n 1, 1) := by decide +kernel
theorem dX15_remembers_13 : decode cX15_remembers 13 = .ok (.ifCond .ne 48, 3) := by decide +kernel
theorem dX15_remembers_16 : decode cX15_remembers 16 = .ok (.aload_n 0, 1) := by decide +kernel
theorem dX15_remembers_17 : decode cX15_remembers 17 = .ok (.getfield 40, 3) := by decide +kernel
theorem dX15_remembers_20 : decode cX15_remembers 20 = .ok (.iload_n 2, 1) := by decide +kernel
theorem dX15_remembers_21 : decode cX15_remembers 21 = .ok (.iaload, 1) := by decide +kernel
theorem dX15_remembers_22 : decode cX15_remembers 22 = .ok (.ifCond .le 43, 3) := by decide +kernel
theorem dX15_remembers_25 : decode cX15_remembers 25 = .ok (.aload_n 0, 1) := by decide +kernel
theorem dX15_remembers_26 : decode cX15_remembers 26 = .ok (.getfield 34, 3) := by decide +kernel
theorem dX15_remembers_29 : decode cX15_remembers 29 = .ok (.aload_n 0, 1) := by decide +kernel
theorem dX15_remembers_30 : decode cX15_remembers 30 = .ok (.getfield 40, 3) := by decide +kernel
theorem dX15_remembers_33 : decode cX15_remembers 33 = .ok (.iload_n 2, 1) := by decide +kernel
theorem dX15_remembers_34 : decode cX15_remembers 34 = .ok (.iaload, 1) := by decide +kernel
theorem dX15_remembers_35 : decode cX15_remembers 35 = .ok (.iconst 1, 1) := by decide +kernel
theorem dX15_remembers_36 : decode cX15_remembers 36 = .ok (.isub, 1) := by decide +kernel
theorem dX15_remembers_37 : decode cX15_remembers 37 = .ok (.iaload, 1) := by decide +kernel
theorem dX15_remembers_38 : decode cX15_remembers 38 = .ok (.bipush 8, 2) := by decide +kernel
theorem dX15_remembers_40 : decode cX15_remembers 40 = .ok (.if_icmp .eq 21, 3) := by decide +kernel
theorem dX15_remembers_43 : decode cX15_remembers 43 = .ok (.aload_n 0, 1) := by decide +kernel
theorem dX15_remembers_44 : decode cX15_remembers 44 = .ok (.getfield 34, 3) := by decide +kernel
theorem dX15_remembers_47 : decode cX15_remembers 47 = .ok (.aload_n 0, 1) := by decide +kernel
theorem dX15_remembers_48 : decode cX15_remembers 48 = .ok (.getfield 40, 3) := by decide +kernel
theorem dX15_remembers_51 : decode cX15_remembers 51 = .ok (.iload_n 2, 1) := by decide +kernel
theorem dX15_remembers_52 : decode cX15_remembers 52 = .ok (.iaload, 1) := by decide +kernel
theorem dX15_remembers_53 : decode cX15_remembers 53 = .ok (.iconst 1, 1) := by decide +kernel
theorem dX15_remembers_54 : decode cX15_remembers 54 = .ok (.isub, 1) := by decide +kernel
theorem dX15_remembers_55 : decode cX15_remembers 55 = .ok (.iaload, 1) := by decide +kernel
theorem dX15_remembers_56 : decode cX15_remembers 56 = .ok (.bipush 9, 2) := by decide +kernel
theorem dX15_remembers_58 : decode cX15_remembers 58 = .ok (.if_icmp .ne 7, 3) := by decide +kernel
theorem dX15_remembers_61 : decode cX15_remembers 61 = .ok (.iconst 1, 1) := by decide +kernel
theorem dX15_remembers_62 : decode cX15_remembers 62 = .ok (.goto 4, 3) := by decide +kernel
theorem dX15_remembers_65 : decode cX15_remembers 65 = .ok (.iconst 0, 1) := by decide +kernel
theorem dX15_remembers_66 : decode cX15_remembers 66 = .ok (.istore_n 1, 1) := by decide +kernel
theorem dX15_remembers_67 : decode cX15_remembers 67 = .ok (.iinc 2 1, 3) := by decide +kernel
theorem dX15_remembers_70 : decode cX15_remembers 70 = .ok (.goto (-66), 3) := by decide +kernel
theorem dX15_remembers_73 : decode cX15_remembers 73 = .ok (.iload_n 1, 1) := by decide +kernel
theorem dX15_remembers_74 : decode cX15_remembers 74 = .ok (.ireturn, 1) := by decide +kernel
theorem dX15_take_0 : decode cX15_take 0 = .ok (.aload_n 0, 1) := by decide +kernel
theorem dX15_take_1 : decode cX15_take 1 = .ok (.getfield 34, 3) := by decide +kernel
theorem dX15_take_4 : decode cX15_take 4 = .ok (.aload_n 0, 1) := by decide +kernel
theorem dX15_take_5 : decode cX15_take 5 = .ok (.getfield 131, 3) := by decide +kernel
theorem dX15_take_8 : decode cX15_take 8 = .ok (.aload_n 0, 1) := by decide +kernel
theorem dX15_take_9 : decode cX15_take 9 = .ok (.getfield 92, 3) := by decide +kernel
theorem dX15_take_12 : decode cX15_take 12 = .ok (.iastore, 1) := by decide +kernel
theorem dX15_take_13 : decode cX15_take 13 = .ok (.aload_n 0, 1) := by decide +kernel
theorem dX15_take_14 : decode cX15_take 14 = .ok (.getfield 43, 3) := by decide +kernel
theorem dX15_take_17 : decode cX15_take 17 = .ok (.aload_n 0, 1) := by decide +kernel
theorem dX15_take_18 : decode cX15_take 18 = .ok (.getfield 131, 3) := by decide +kernel
theorem dX15_take_21 : decode cX15_take 21 = .ok (.aload_n 0, 1) := by decide +kernel
theorem dX15_take_22 : decode cX15_take 22 = .ok (.getfield 95, 3) := by decide +kernel
theorem dX15_take_25 : decode cX15_take 25 = .ok (.lastore, 1) := by decide +kernel
theorem dX15_take_26 : decode cX15_take 26 = .ok (.aload_n 0, 1) := by decide +kernel
theorem dX15_take_27 : decode cX15_take 27 = .ok (.getfield 37, 3) := by decide +kernel
theorem dX15_take_30 : decode cX15_take 30 = .ok (.aload_n 0, 1) := by decide +kernel
theorem dX15_take_31 : decode cX15_take 31 = .ok (.getfield 131, 3) := by decide +kernel
theorem dX15_take_34 : decode cX15_take 34 = .ok (.iconst (-1), 1) := by decide +kernel
theorem dX15_take_35 : decode cX15_take 35 = .ok (.iastore, 1) := by decide +kernel
theorem dX15_take_36 : decode cX15_take 36 = .ok (.aload_n 0, 1) := by decide +kernel
theorem dX15_take_37 : decode cX15_take 37 = .ok (.dup, 1) := by decide +kernel
theorem dX15_take_38 : decode cX15_take 38 = .ok (.getfield 131, 3) := by decide +kernel
theorem dX15_take_41 : decode cX15_take 41 = .ok (.iconst 1, 1) := by decide +kernel
theorem dX15_take_42 : decode cX15_take 42 = .ok (.iadd, 1) := by decide +kernel
theorem dX15_take_43 : decode cX15_take 43 = .ok (.putfield 131, 3) := by decide +kernel
theorem dX15_take_46 : decode cX15_take 46 = .ok (.return_, 1) := by decide +kernel
theorem dX15_shut_0 : decode cX15_shut 0 = .ok (.aload_n 0, 1) := by decide +kernel
theorem dX15_shut_1 : decode cX15_shut 1 = .ok (.dup, 1) := by decide +kernel
theorem dX15_shut_2 : decode cX15_shut 2 = .ok (.getfield 128, 3) := by decide +kernel
theorem dX15_shut_5 : decode cX15_shut 5 = .ok (.iconst 1, 1) := by decide +kernel
theorem dX15_shut_6 : decode cX15_shut 6 = .ok (.isub, 1) := by decide +kernel
theorem dX15_shut_7 : decode cX15_shut 7 = .ok (.putfield 128, 3) := by decide +kernel
theorem dX15_shut_10 : decode cX15_shut 10 = .ok (.aload_n 0, 1) := by decide +kernel
theorem dX15_shut_11 : decode cX15_shut 11 = .ok (.getfield 37, 3) := by decide +kernel
theorem dX15_shut_14 : decode cX15_shut 14 = .ok (.aload_n 0, 1) := by decide +kernel
theorem dX15_shut_15 : decode cX15_shut 15 = .ok (.getfield 40, 3) := by decide +kernel
theorem dX15_shut_18 : decode cX15_shut 18 = .ok (.aload_n 0, 1) := by decide +kernel
theorem dX15_shut_19 : decode cX15_shut 19 = .ok (.getfield 128, 3) := by decide +kernel
theorem dX15_shut_22 : decode cX15_shut 22 = .ok (.iaload, 1) := by decide +kernel
theorem dX15_shut_23 : decode cX15_shut 23 = .ok (.aload_n 0, 1) := by decide +kernel
theorem dX15_shut_24 : decode cX15_shut 24 = .ok (.getfield 131, 3) := by decide +kernel
theorem dX15_shut_27 : decode cX15_shut 27 = .ok (.iastore, 1) := by decide +kernel
theorem dX15_shut_28 : decode cX15_shut 28 = .ok (.aload_n 0, 1) := by decide +kernel
theorem dX15_shut_29 : decode cX15_shut 29 = .ok (.invokevirtual 134, 3) := by decide +kernel
theorem dX15_shut_32 : decode cX15_shut 32 = .ok (.aload_n 0, 1) := by decide +kernel
theorem dX15_shut_33 : decode cX15_shut 33 = .ok (.getfield 37, 3) := by decide +kernel
theorem dX15_shut_36 : decode cX15_shut 36 = .ok (.aload_n 0, 1) := by decide +kernel
theorem dX15_shut_37 : decode cX15_shut 37 = .ok (.getfield 131, 3) := by decide +kernel
theorem dX15_shut_40 : decode cX15_shut 40 = .ok (.iconst 1, 1) := by decide +kernel
theorem dX15_shut_41 : decode cX15_shut 41 = .ok (.isub, 1) := by decide +kernel
theorem dX15_shut_42 : decode cX15_shut 42 = .ok (.aload_n 0, 1) := by decide +kernel
theorem dX15_shut_43 : decode cX15_shut 43 = .ok (.getfield 40, 3) := by decide +kernel
theorem dX15_shut_46 : decode cX15_shut 46 = .ok (.aload_n 0, 1) := by decide +kernel
theorem dX15_shut_47 : decode cX15_shut 47 = .ok (.getfield 128, 3) := by decide +kernel
theorem dX15_shut_50 : decode cX15_shut 50 = .ok (.iaload, 1) := by decide +kernel
theorem dX15_shut_51 : decode cX15_shut 51 = .ok (.iastore, 1) := by decide +kernel
theorem dX15_shut_52 : decode cX15_shut 52 = .ok (.return_, 1) := by decide +kernel
theorem dX15_read_0 : decode cX15_read 0 = .ok (.aload_n 0, 1) := by decide +kernel
theorem dX15_read_1 : decode cX15_read 1 = .ok (.aload_n 0, 1) := by decide +kernel
theorem dX15_read_2 : decode cX15_read 2 = .ok (.aload_n 0, 1) := by decide +kernel
theorem dX15_read_3 : decode cX15_read 3 = .ok (.aload_n 0, 1) := by decide +kernel
theorem dX15_read_4 : decode cX15_read 4 = .ok (.iconst 0, 1) := by decide +kernel
theorem dX15_read_5 : decode cX15_read 5 = .ok (.dup_x1, 1) := by decide +kernel
theorem dX15_read_6 : decode cX15_read 6 = .ok (.putfield 125, 3) := by decide +kernel
theorem dX15_read_9 : decode cX15_read 9 = .ok (.dup_x1, 1) := by decide +kernel
theorem dX15_read_10 : decode cX15_read 10 = .ok (.putfield 128, 3) := by decide +kernel
theorem dX15_read_13 : decode cX15_read 13 = .ok (.dup_x1, 1) := by decide +kernel
theorem dX15_read_14 : decode cX15_read 14 = .ok (.putfield 131, 3) := by decide +kernel
theorem dX15_read_17 : decode cX15_read 17 = .ok (.putfield 73, 3) := by decide +kernel
theorem dX15_read_20 : decode cX15_read 20 = .ok (.iconst 0, 1) := by decide +kernel
theorem dX15_read_21 : decode cX15_read 21 = .ok (.istore_n 1, 1) := by decide +kernel
theorem dX15_read_22 : decode cX15_read 22 = .ok (.iconst 0, 1) := by decide +kernel
theorem dX15_read_23 : decode cX15_read 23 = .ok (.istore_n 2, 1) := by decide +kernel
theorem dX15_read_24 : decode cX15_read 24 = .ok (.aload_n 0, 1) := by decide +kernel
theorem dX15_read_25 : decode cX15_read 25 = .ok (.getfield 125, 3) := by decide +kernel
theorem dX15_read_28 : decode cX15_read 28 = .ok (.ifCond .ne 435, 3) := by decide +kernel
theorem dX15_read_31 : decode cX15_read 31 = .ok (.aload_n 0, 1) := by decide +kernel
theorem dX15_read_32 : decode cX15_read 32 = .ok (.aload_n 0, 1) := by decide +kernel
theorem dX15_read_33 : decode cX15_read 33 = .ok (.getfield 73, 3) := by decide +kernel
theorem dX15_read_36 : decode cX15_read 36 = .ok (.invokevirtual 76, 3) := by decide +kernel
theorem dX15_read_39 : decode cX15_read 39 = .ok (.bipush 32, 2) := by decide +kernel
theorem dX15_read_41 : decode cX15_read 41 = .ok (.if_icmp .ne 16, 3) := by decide +kernel
theorem dX15_read_44 : decode cX15_read 44 = .ok (.aload_n 0, 1) := by decide +kernel
theorem dX15_read_45 : decode cX15_read 45 = .ok (.dup, 1) := by decide +kernel
theorem dX15_read_46 : decode cX15_read 46 = .ok (.getfield 73, 3) := by decide +kernel
theorem dX15_read_49 : decode cX15_read 49 = .ok (.iconst 1, 1) := by decide +kernel
theorem dX15_read_50 : decode cX15_read 50 = .ok (.iadd, 1) := by decide +kernel
theorem dX15_read_51 : decode cX15_read 51 = .ok (.putfield 73, 3) := by decide +kernel
theorem dX15_read_54 : decode cX15_read 54 = .ok (.goto (-23), 3) := by decide +kernel
theorem dX15_read_57 : decode cX15_read 57 = .ok (.aload_n 0, 1) := by decide +kernel
theorem dX15_read_58 : decode cX15_read 58 = .ok (.getfield 73, 3) := by decide +kernel
theorem dX15_read_61 : decode cX15_read 61 = .ok (.aload_n 0, 1) := by decide +kernel
theorem dX15_read_62 : decode cX15_read 62 = .ok (.getfield 65, 3) := by decide +kernel
theorem dX15_read_65 : decode cX15_read 65 = .ok (.if_icmp .ne 6, 3) := by decide +kernel
theorem dX15_read_68 : decode cX15_read 68 = .ok (.goto 395, 3) := by decide +kernel
theorem dX15_read_71 : decode cX15_read 71 = .ok (.aload_n 0, 1) := by decide +kernel
theorem dX15_read_72 : decode cX15_read 72 = .ok (.invokevirtual 137, 3) := by decide +kernel
theorem dX15_read_75 : decode cX15_read 75 = .ok (.iload_n 2, 1) := by decide +kernel
theorem dX15_read_76 : decode cX15_read 76 = .ok (.iconst 1, 1) := by decide +kernel
theorem dX15_read_77 : decode cX15_read 77 = .ok (.if_icmp .ne 49, 3) := by decide +kernel
theorem dX15_read_80 : decode cX15_read 80 = .ok (.aload_n 0, 1) := by decide +kernel
theorem dX15_read_81 : decode cX15_read 81 = .ok (.getfield 128, 3) := by decide +kernel
theorem dX15_read_84 : decode cX15_read 84 = .ok (.ifCond .le 42, 3) := by decide +kernel
theorem dX15_read_87 : decode cX15_read 87 = .ok (.aload_n 0, 1) := by decide +kernel
theorem dX15_read_88 : decode cX15_read 88 = .ok (.getfield 92, 3) := by decide +kernel
theorem dX15_read_91 : decode cX15_read 91 = .ok (.aload_n 0, 1) := by decide +kernel
theorem dX15_read_92 : decode cX15_read 92 = .ok (.getfield 34, 3) := by decide +kernel
theorem dX15_read_95 : decode cX15_read 95 = .ok (.aload_n 0, 1) := by decide +kernel
theorem dX15_read_96 : decode cX15_read 96 = .ok (.getfield 40, 3) := by decide +kernel
theorem dX15_read_99 : decode cX15_read 99 = .ok (.aload_n 0, 1) := by decide +kernel
theorem dX15_read_100 : decode cX15_read 100 = .ok (.getfield 128, 3) := by decide +kernel
theorem dX15_read_103 : decode cX15_read 103 = .ok (.iconst 1, 1) := by decide +kernel
theorem dX15_read_104 : decode cX15_read 104 = .ok (.isub, 1) := by decide +kernel
theorem dX15_read_105 : decode cX15_read 105 = .ok (.iaload, 1) := by decide +kernel
theorem dX15_read_106 : decode cX15_read 106 = .ok (.iaload, 1) := by decide +kernel
theorem dX15_read_107 : decode cX15_read 107 = .ok (.bipush 30, 2) := by decide +kernel
theorem dX15_read_109 : decode cX15_read 109 = .ok (.if_icmp .ne 8, 3) := by decide +kernel
theorem dX15_read_112 : decode cX15_read 112 = .ok (.bipush 31, 2) := by decide +kernel
theorem dX15_read_114 : decode cX15_read 114 = .ok (.goto 5, 3) := by decide +kernel
theorem dX15_read_117 : decode cX15_read 117 = .ok (.bipush 33, 2) := by decide +kernel
theorem dX15_read_119 : decode cX15_read 119 = .ok (.if_icmp .ne 7, 3) := by decide +kernel
theorem dX15_read_122 : decode cX15_read 122 = .ok (.iconst 1, 1) := by decide +kernel
theorem dX15_read_123 : decode cX15_read 123 = .ok (.goto 4, 3) := by decide +kernel
theorem dX15_read_126 : decode cX15_read 126 = .ok (.iconst 0, 1) := by decide +kernel
theorem dX15_read_127 : decode cX15_read 127 = .ok (.istore_n 3, 1) := by decide +kernel
theorem dX15_read_128 : decode cX15_read 128 = .ok (.aload_n 0, 1) := by decide +kernel
theorem dX15_read_129 : decode cX15_read 129 = .ok (.getfield 92, 3) := by decide +kernel
theorem dX15_read_132 : decode cX15_read 132 = .ok (.bipush 34, 2) := by decide +kernel
theorem dX15_read_134 : decode cX15_read 134 = .ok (.if_icmp .eq 65, 3) := by decide +kernel
theorem dX15_read_137 : decode cX15_read 137 = .ok (.iload_n 2, 1) := by decide +kernel
theorem dX15_read_138 : decode cX15_read 138 = .ok (.ifCond .ne 16, 3) := by decide +kernel
theorem dX15_read_141 : decode cX15_read 141 = .ok (.aload_n 0, 1) := by decide +kernel
theorem dX15_read_142 : decode cX15_read 142 = .ok (.getfield 92, 3) := by decide +kernel
theorem dX15_read_145 : decode cX15_read 145 = .ok (.invokestatic 140, 3) := by decide +kernel
theorem dX15_read_148 : decode cX15_read 148 = .ok (.ifCond .eq 51, 3) := by decide +kernel
theorem dX15_read_151 : decode cX15_read 151 = .ok (.goto 44, 3) := by decide +kernel
theorem dX15_read_154 : decode cX15_read 154 = .ok (.iload_n 2, 1) := by decide +kernel
theorem dX15_read_155 : decode cX15_read 155 = .ok (.iconst 1, 1) := by decide +kernel
theorem dX15_read_156 : decode cX15_read 156 = .ok (.if_icmp .ne 20, 3) := by decide +kernel
theorem dX15_read_159 : decode cX15_read 159 = .ok (.aload_n 0, 1) := by decide +kernel
theorem dX15_read_160 : decode cX15_read 160 = .ok (.getfield 92, 3) := by decide +kernel
theorem dX15_read_163 : decode cX15_read 163 = .ok (.invokestatic 143, 3) := by decide +kernel
theorem dX15_read_166 : decode cX15_read 166 = .ok (.ifCond .ne 29, 3) := by decide +kernel
theorem dX15_read_169 : decode cX15_read 169 = .ok (.iload_n 3, 1) := by decide +kernel
theorem dX15_read_170 : decode cX15_read 170 = .ok (.ifCond .eq 29, 3) := by decide +kernel
theorem dX15_read_173 : decode cX15_read 173 = .ok (.goto 22, 3) := by decide +kernel
theorem dX15_read_176 : decode cX15_read 176 = .ok (.aload_n 0, 1) := by decide +kernel
theorem dX15_read_177 : decode cX15_read 177 = .ok (.getfield 92, 3) := by decide +kernel
theorem dX15_read_180 : decode cX15_read 180 = .ok (.iload_n 2, 1) := by decide +kernel
theorem dX15_read_181 : decode cX15_read 181 = .ok (.iconst 2, 1) := by decide +kernel
theorem dX15_read_182 : decode cX15_read 182 = .ok (.if_icmp .ne 8, 3) := by decide +kernel
theorem dX15_read_185 : decode cX15_read 185 = .ok (.bipush 32, 2) := by decide +kernel
theorem dX15_read_187 : decode cX15_read 187 = .ok (.goto 5, 3) := by decide +kernel
theorem dX15_read_190 : decode cX15_read 190 = .ok (.bipush 30, 2) := by decide +kernel
theorem dX15_read_192 : decode cX15_read 192 = .ok (.if_icmp .ne 7, 3) := by decide +kernel
theorem dX15_read_195 : decode cX15_read 195 = .ok (.iconst 1, 1) := by decide +kernel
theorem dX15_read_196 : decode cX15_read 196 = .ok (.goto 4, 3) := by decide +kernel
theorem dX15_read_199 : decode cX15_read 199 = .ok (.iconst 0, 1) := by decide +kernel
theorem dX15_read_200 : decode cX15_read 200 = .ok (.istore 4, 2) := by decide +kernel
theorem dX15_read_202 : decode cX15_read 202 = .ok (.aload_n 0, 1) := by decide +kernel
theorem dX15_read_203 : decode cX15_read 203 = .ok (.getfield 92, 3) := by decide +kernel
theorem dX15_read_206 : decode cX15_read 206 = .ok (.bipush 30, 2) := by decide +kernel
theorem dX15_read_208 : decode cX15_read 208 = .ok (.if_icmp .eq 12, 3) := by decide +kernel
theorem dX15_read_211 : decode cX15_read 211 = .ok (.aload_n 0, 1) := by decide +kernel
theorem dX15_read_212 : decode cX15_read 212 = .ok (.getfield 92, 3) := by decide +kernel
theorem dX15_read_215 : decode cX15_read 215 = .ok (.bipush 32, 2) := by decide +kernel
theorem dX15_read_217 : decode cX15_read 217 = .ok (.if_icmp .ne 7, 3) := by decide +kernel
theorem dX15_read_220 : decode cX15_read 220 = .ok (.iconst 1, 1) := by decide +kernel
theorem dX15_read_221 : decode cX15_read 221 = .ok (.goto 4, 3) := by decide +kernel
theorem dX15_read_224 : decode cX15_read 224 = .ok (.iconst 0, 1) := by decide +kernel
theorem dX15_read_225 : decode cX15_read 225 = .ok (.istore 5, 2) := by decide +kernel
theorem dX15_read_227 : decode cX15_read 227 = .ok (.iload 4, 2) := by decide +kernel
theorem dX15_read_229 : decode cX15_read 229 = .ok (.ifCond .eq 32, 3) := by decide +kernel
theorem dX15_read_232 : decode cX15_read 232 = .ok (.aload_n 0, 1) := by decide +kernel
theorem dX15_read_233 : decode cX15_read 233 = .ok (.getfield 92, 3) := by decide +kernel
theorem dX15_read_236 : decode cX15_read 236 = .ok (.bipush 8, 2) := by decide +kernel
theorem dX15_read_238 : decode cX15_read 238 = .ok (.if_icmp .eq 12, 3) := by decide +kernel
theorem dX15_read_241 : decode cX15_read 241 = .ok (.aload_n 0, 1) := by decide +kernel
theorem dX15_read_242 : decode cX15_read 242 = .ok (.getfield 92, 3) := by decide +kernel
theorem dX15_read_245 : decode cX15_read 245 = .ok (.bipush 9, 2) := by decide +kernel
theorem dX15_read_247 : decode cX15_read 247 = .ok (.if_icmp .ne 10, 3) := by decide +kernel
theorem dX15_read_250 : decode cX15_read 250 = .ok (.aload_n 0, 1) := by decide +kernel
theorem dX15_read_251 : decode cX15_read 251 = .ok (.invokevirtual 146, 3) := by decide +kernel
theorem dX15_read_254 : decode cX15_read 254 = .ok (.ifCond .ne 7, 3) := by decide +kernel
theorem dX15_read_257 : decode cX15_read 257 = .ok (.iconst 1, 1) := by decide +kernel
theorem dX15_read_258 : decode cX15_read 258 = .ok (.goto 4, 3) := by decide +kernel
theorem dX15_read_261 : decode cX15_read 261 = .ok (.iconst 0, 1) := by decide +kernel
theorem dX15_read_262 : decode cX15_read 262 = .ok (.istore 4, 2) := by decide +kernel
theorem dX15_read_264 : decode cX15_read 264 = .ok (.iload 4, 2) := by decide +kernel
theorem dX15_read_266 : decode cX15_read 266 = .ok (.ifCond .ne 15, 3) := by decide +kernel
theorem dX15_read_269 : decode cX15_read 269 = .ok (.aload_n 0, 1) := by decide +kernel
theorem dX15_read_270 : decode cX15_read 270 = .ok (.iconst 1, 1) := by decide +kernel
theorem dX15_read_271 : decode cX15_read 271 = .ok (.aload_n 0, 1) := by decide +kernel
theorem dX15_read_272 : decode cX15_read 272 = .ok (.getfield 80, 3) := by decide +kernel
theorem dX15_read_275 : decode cX15_read 275 = .ok (.invokevirtual 150, 3) := by decide +kernel
theorem dX15_read_278 : decode cX15_read 278 = .ok (.goto 67, 3) := by decide +kernel
theorem dX15_read_281 : decode cX15_read 281 = .ok (.aload_n 0, 1) := by decide +kernel
theorem dX15_read_282 : decode cX15_read 282 = .ok (.getfield 92, 3) := by decide +kernel
theorem dX15_read_285 : decode cX15_read 285 = .ok (.ifCond .ne 15, 3) := by decide +kernel
theorem dX15_read_288 : decode cX15_read 288 = .ok (.aload_n 0, 1) := by decide +kernel
theorem dX15_read_289 : decode cX15_read 289 = .ok (.iconst 2, 1) := by decide +kernel
theorem dX15_read_290 : decode cX15_read 290 = .ok (.aload_n 0, 1) := by decide +kernel
theorem dX15_read_291 : decode cX15_read 291 = .ok (.getfield 80, 3) := by decide +kernel
theorem dX15_read_294 : decode cX15_read 294 = .ok (.invokevirtual 150, 3) := by decide +kernel
theorem dX15_read_297 : decode cX15_read 297 = .ok (.goto 48, 3) := by decide +kernel
theorem dX15_read_300 : decode cX15_read 300 = .ok (.iload_n 3, 1) := by decide +kernel
theorem dX15_read_301 : decode cX15_read 301 = .ok (.ifCond .ne 21, 3) := by decide +kernel
theorem dX15_read_304 : decode cX15_read 304 = .ok (.iload_n 1, 1) := by decide +kernel
theorem dX15_read_305 : decode cX15_read 305 = .ok (.bipush 40, 2) := by decide +kernel
theorem dX15_read_307 : decode cX15_read 307 = .ok (.if_icmp .ne 15, 3) := by decide +kernel
theorem dX15_read_310 : decode cX15_read 310 = .ok (.aload_n 0, 1) := by decide +kernel
theorem dX15_read_311 : decode cX15_read 311 = .ok (.iconst 3, 1) := by decide +kernel
theorem dX15_read_312 : decode cX15_read 312 = .ok (.aload_n 0, 1) := by decide +kernel
theorem dX15_read_313 : decode cX15_read 313 = .ok (.getfield 80, 3) := by decide +kernel
theorem dX15_read_316 : decode cX15_read 316 = .ok (.invokevirtual 150, 3) := by decide +kernel
theorem dX15_read_319 : decode cX15_read 319 = .ok (.goto 26, 3) := by decide +kernel
theorem dX15_read_322 : decode cX15_read 322 = .ok (.iload 5, 2) := by decide +kernel
theorem dX15_read_324 : decode cX15_read 324 = .ok (.ifCond .eq 21, 3) := by decide +kernel
theorem dX15_read_327 : decode cX15_read 327 = .ok (.aload_n 0, 1) := by decide +kernel
theorem dX15_read_328 : decode cX15_read 328 = .ok (.getfield 128, 3) := by decide +kernel
theorem dX15_read_331 : decode cX15_read 331 = .ok (.bipush 8, 2) := by decide +kernel
