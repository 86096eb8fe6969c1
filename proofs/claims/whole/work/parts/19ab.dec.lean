theorem dX15_charAt_0 : decode cX15_charAt 0 = .ok (.iload_n 1, 1) := by decide +kernel
theorem dX15_charAt_1 : decode cX15_charAt 1 = .ok (.aload_n 0, 1) := by decide +kernel
theorem dX15_charAt_2 : decode cX15_charAt 2 = .ok (.getfield 65, 3) := by decide +kernel
theorem dX15_charAt_5 : decode cX15_charAt 5 = .ok (.if_icmp .ge 12, 3) := by decide +kernel
theorem dX15_charAt_8 : decode cX15_charAt 8 = .ok (.aload_n 0, 1) := by decide +kernel
theorem dX15_charAt_9 : decode cX15_charAt 9 = .ok (.getfield 7, 3) := by decide +kernel
theorem dX15_charAt_12 : decode cX15_charAt 12 = .ok (.iload_n 1, 1) := by decide +kernel
theorem dX15_charAt_13 : decode cX15_charAt 13 = .ok (.caload, 1) := by decide +kernel
theorem dX15_charAt_14 : decode cX15_charAt 14 = .ok (.goto 4, 3) := by decide +kernel
theorem dX15_charAt_17 : decode cX15_charAt 17 = .ok (.iconst 0, 1) := by decide +kernel
theorem dX15_charAt_18 : decode cX15_charAt 18 = .ok (.ireturn, 1) := by decide +kernel
theorem dX15_isDigit_0 : decode cX15_isDigit 0 = .ok (.iload_n 0, 1) := by decide +kernel
theorem dX15_isDigit_1 : decode cX15_isDigit 1 = .ok (.bipush 48, 2) := by decide +kernel
theorem dX15_isDigit_3 : decode cX15_isDigit 3 = .ok (.if_icmp .lt 13, 3) := by decide +kernel
theorem dX15_isDigit_6 : decode cX15_isDigit 6 = .ok (.iload_n 0, 1) := by decide +kernel
theorem dX15_isDigit_7 : decode cX15_isDigit 7 = .ok (.bipush 57, 2) := by decide +kernel
theorem dX15_isDigit_9 : decode cX15_isDigit 9 = .ok (.if_icmp .gt 7, 3) := by decide +kernel
theorem dX15_isDigit_12 : decode cX15_isDigit 12 = .ok (.iconst 1, 1) := by decide +kernel
theorem dX15_isDigit_13 : decode cX15_isDigit 13 = .ok (.goto 4, 3) := by decide +kernel
theorem dX15_isDigit_16 : decode cX15_isDigit 16 = .ok (.iconst 0, 1) := by decide +kernel
theorem dX15_isDigit_17 : decode cX15_isDigit 17 = .ok (.ireturn, 1) := by decide +kernel
theorem dX15_isPlain_0 : decode cX15_isPlain 0 = .ok (.iload_n 0, 1) := by decide +kernel
theorem dX15_isPlain_1 : decode cX15_isPlain 1 = .ok (.invokestatic 69, 3) := by decide +kernel
theorem dX15_isPlain_4 : decode cX15_isPlain 4 = .ok (.ifCond .ne 27, 3) := by decide +kernel
theorem dX15_isPlain_7 : decode cX15_isPlain 7 = .ok (.iload_n 0, 1) := by decide +kernel
theorem dX15_isPlain_8 : decode cX15_isPlain 8 = .ok (.bipush 97, 2) := by decide +kernel
theorem dX15_isPlain_10 : decode cX15_isPlain 10 = .ok (.if_icmp .lt 9, 3) := by decide +kernel
theorem dX15_isPlain_13 : decode cX15_isPlain 13 = .ok (.iload_n 0, 1) := by decide +kernel
theorem dX15_isPlain_14 : decode cX15_isPlain 14 = .ok (.bipush 122, 2) := by decide +kernel
theorem dX15_isPlain_16 : decode cX15_isPlain 16 = .ok (.if_icmp .le 15, 3) := by decide +kernel
theorem dX15_isPlain_19 : decode cX15_isPlain 19 = .ok (.iload_n 0, 1) := by decide +kernel
theorem dX15_isPlain_20 : decode cX15_isPlain 20 = .ok (.bipush 65, 2) := by decide +kernel
theorem dX15_isPlain_22 : decode cX15_isPlain 22 = .ok (.if_icmp .lt 13, 3) := by decide +kernel
theorem dX15_isPlain_25 : decode cX15_isPlain 25 = .ok (.iload_n 0, 1) := by decide +kernel
theorem dX15_isPlain_26 : decode cX15_isPlain 26 = .ok (.bipush 90, 2) := by decide +kernel
theorem dX15_isPlain_28 : decode cX15_isPlain 28 = .ok (.if_icmp .gt 7, 3) := by decide +kernel
theorem dX15_isPlain_31 : decode cX15_isPlain 31 = .ok (.iconst 1, 1) := by decide +kernel
theorem dX15_isPlain_32 : decode cX15_isPlain 32 = .ok (.goto 4, 3) := by decide +kernel
theorem dX15_isPlain_35 : decode cX15_isPlain 35 = .ok (.iconst 0, 1) := by decide +kernel
theorem dX15_isPlain_36 : decode cX15_isPlain 36 = .ok (.ireturn, 1) := by decide +kernel
theorem dX15_is_0 : decode cX15_is 0 = .ok (.lconst 0, 1) := by decide +kernel
theorem dX15_is_1 : decode cX15_is 1 = .ok (.lstore 5, 2) := by decide +kernel
theorem dX15_is_3 : decode cX15_is 3 = .ok (.iload_n 2, 1) := by decide +kernel
theorem dX15_is_4 : decode cX15_is 4 = .ok (.iconst 1, 1) := by decide +kernel
theorem dX15_is_5 : decode cX15_is 5 = .ok (.isub, 1) := by decide +kernel
theorem dX15_is_6 : decode cX15_is 6 = .ok (.istore 7, 2) := by decide +kernel
theorem dX15_is_8 : decode cX15_is 8 = .ok (.iload 7, 2) := by decide +kernel
theorem dX15_is_10 : decode cX15_is 10 = .ok (.iload_n 1, 1) := by decide +kernel
theorem dX15_is_11 : decode cX15_is 11 = .ok (.if_icmp .lt 25, 3) := by decide +kernel
theorem dX15_is_14 : decode cX15_is 14 = .ok (.lload 5, 2) := by decide +kernel
theorem dX15_is_16 : decode cX15_is 16 = .ok (.bipush 8, 2) := by decide +kernel
theorem dX15_is_18 : decode cX15_is 18 = .ok (.lshl, 1) := by decide +kernel
theorem dX15_is_19 : decode cX15_is 19 = .ok (.aload_n 0, 1) := by decide +kernel
theorem dX15_is_20 : decode cX15_is 20 = .ok (.getfield 7, 3) := by decide +kernel
theorem dX15_is_23 : decode cX15_is 23 = .ok (.iload 7, 2) := by decide +kernel
theorem dX15_is_25 : decode cX15_is 25 = .ok (.caload, 1) := by decide +kernel
theorem dX15_is_26 : decode cX15_is 26 = .ok (.i2l, 1) := by decide +kernel
theorem dX15_is_27 : decode cX15_is 27 = .ok (.lor, 1) := by decide +kernel
theorem dX15_is_28 : decode cX15_is 28 = .ok (.lstore 5, 2) := by decide +kernel
theorem dX15_is_30 : decode cX15_is 30 = .ok (.iinc 7 (-1), 3) := by decide +kernel
theorem dX15_is_33 : decode cX15_is 33 = .ok (.goto (-25), 3) := by decide +kernel
theorem dX15_is_36 : decode cX15_is 36 = .ok (.iload_n 2, 1) := by decide +kernel
theorem dX15_is_37 : decode cX15_is 37 = .ok (.iload_n 1, 1) := by decide +kernel
theorem dX15_is_38 : decode cX15_is 38 = .ok (.isub, 1) := by decide +kernel
theorem dX15_is_39 : decode cX15_is 39 = .ok (.bipush 8, 2) := by decide +kernel
theorem dX15_is_41 : decode cX15_is 41 = .ok (.if_icmp .ge 14, 3) := by decide +kernel
theorem dX15_is_44 : decode cX15_is 44 = .ok (.lload 5, 2) := by decide +kernel
theorem dX15_is_46 : decode cX15_is 46 = .ok (.lload_n 3, 1) := by decide +kernel
theorem dX15_is_47 : decode cX15_is 47 = .ok (.lcmp, 1) := by decide +kernel
theorem dX15_is_48 : decode cX15_is 48 = .ok (.ifCond .ne 7, 3) := by decide +kernel
theorem dX15_is_51 : decode cX15_is 51 = .ok (.iconst 1, 1) := by decide +kernel
theorem dX15_is_52 : decode cX15_is 52 = .ok (.goto 4, 3) := by decide +kernel
theorem dX15_is_55 : decode cX15_is 55 = .ok (.iconst 0, 1) := by decide +kernel
theorem dX15_is_56 : decode cX15_is 56 = .ok (.ireturn, 1) := by decide +kernel
theorem dX15_scan_0 : decode cX15_scan 0 = .ok (.aload_n 0, 1) := by decide +kernel
theorem dX15_scan_1 : decode cX15_scan 1 = .ok (.aload_n 0, 1) := by decide +kernel
theorem dX15_scan_2 : decode cX15_scan 2 = .ok (.getfield 73, 3) := by decide +kernel
theorem dX15_scan_5 : decode cX15_scan 5 = .ok (.invokevirtual 76, 3) := by decide +kernel
theorem dX15_scan_8 : decode cX15_scan 8 = .ok (.bipush 32, 2) := by decide +kernel
theorem dX15_scan_10 : decode cX15_scan 10 = .ok (.if_icmp .ne 16, 3) := by decide +kernel
theorem dX15_scan_13 : decode cX15_scan 13 = .ok (.aload_n 0, 1) := by decide +kernel
theorem dX15_scan_14 : decode cX15_scan 14 = .ok (.dup, 1) := by decide +kernel
theorem dX15_scan_15 : decode cX15_scan 15 = .ok (.getfield 73, 3) := by decide +kernel
theorem dX15_scan_18 : decode cX15_scan 18 = .ok (.iconst 1, 1) := by decide +kernel
theorem dX15_scan_19 : decode cX15_scan 19 = .ok (.iadd, 1) := by decide +kernel
theorem dX15_scan_20 : decode cX15_scan 20 = .ok (.putfield 73, 3) := by decide +kernel
theorem dX15_scan_23 : decode cX15_scan 23 = .ok (.goto (-23), 3) := by decide +kernel
theorem dX15_scan_26 : decode cX15_scan 26 = .ok (.aload_n 0, 1) := by decide +kernel
theorem dX15_scan_27 : decode cX15_scan 27 = .ok (.aload_n 0, 1) := by decide +kernel
theorem dX15_scan_28 : decode cX15_scan 28 = .ok (.getfield 73, 3) := by decide +kernel
theorem dX15_scan_31 : decode cX15_scan 31 = .ok (.putfield 80, 3) := by decide +kernel
theorem dX15_scan_34 : decode cX15_scan 34 = .ok (.aload_n 0, 1) := by decide +kernel
theorem dX15_scan_35 : decode cX15_scan 35 = .ok (.aload_n 0, 1) := by decide +kernel
theorem dX15_scan_36 : decode cX15_scan 36 = .ok (.getfield 73, 3) := by decide +kernel
theorem dX15_scan_39 : decode cX15_scan 39 = .ok (.invokevirtual 76, 3) := by decide +kernel
theorem dX15_scan_42 : decode cX15_scan 42 = .ok (.istore_n 1, 1) := by decide +kernel
theorem dX15_scan_43 : decode cX15_scan 43 = .ok (.iload_n 1, 1) := by decide +kernel
theorem dX15_scan_44 : decode cX15_scan 44 = .ok (.invokestatic 83, 3) := by decide +kernel
theorem dX15_scan_47 : decode cX15_scan 47 = .ok (.ifCond .eq 49, 3) := by decide +kernel
theorem dX15_scan_50 : decode cX15_scan 50 = .ok (.aload_n 0, 1) := by decide +kernel
theorem dX15_scan_51 : decode cX15_scan 51 = .ok (.aload_n 0, 1) := by decide +kernel
theorem dX15_scan_52 : decode cX15_scan 52 = .ok (.getfield 73, 3) := by decide +kernel
theorem dX15_scan_55 : decode cX15_scan 55 = .ok (.invokevirtual 76, 3) := by decide +kernel
theorem dX15_scan_58 : decode cX15_scan 58 = .ok (.invokestatic 83, 3) := by decide +kernel
theorem dX15_scan_61 : decode cX15_scan 61 = .ok (.ifCond .eq 16, 3) := by decide +kernel
theorem dX15_scan_64 : decode cX15_scan 64 = .ok (.aload_n 0, 1) := by decide +kernel
theorem dX15_scan_65 : decode cX15_scan 65 = .ok (.dup, 1) := by decide +kernel
theorem dX15_scan_66 : decode cX15_scan 66 = .ok (.getfield 73, 3) := by decide +kernel
theorem dX15_scan_69 : decode cX15_scan 69 = .ok (.iconst 1, 1) := by decide +kernel
theorem dX15_scan_70 : decode cX15_scan 70 = .ok (.iadd, 1) := by decide +kernel
theorem dX15_scan_71 : decode cX15_scan 71 = .ok (.putfield 73, 3) := by decide +kernel
theorem dX15_scan_74 : decode cX15_scan 74 = .ok (.goto (-24), 3) := by decide +kernel
theorem dX15_scan_77 : decode cX15_scan 77 = .ok (.iload_n 1, 1) := by decide +kernel
theorem dX15_scan_78 : decode cX15_scan 78 = .ok (.invokestatic 69, 3) := by decide +kernel
theorem dX15_scan_81 : decode cX15_scan 81 = .ok (.ifCond .eq 10, 3) := by decide +kernel
theorem dX15_scan_84 : decode cX15_scan 84 = .ok (.aload_n 0, 1) := by decide +kernel
theorem dX15_scan_85 : decode cX15_scan 85 = .ok (.invokevirtual 86, 3) := by decide +kernel
theorem dX15_scan_88 : decode cX15_scan 88 = .ok (.goto 7, 3) := by decide +kernel
theorem dX15_scan_91 : decode cX15_scan 91 = .ok (.aload_n 0, 1) := by decide +kernel
theorem dX15_scan_92 : decode cX15_scan 92 = .ok (.invokevirtual 89, 3) := by decide +kernel
theorem dX15_scan_95 : decode cX15_scan 95 = .ok (.return_, 1) := by decide +kernel
theorem dX15_scan_96 : decode cX15_scan 96 = .ok (.aload_n 0, 1) := by decide +kernel
theorem dX15_scan_97 : decode cX15_scan 97 = .ok (.aload_n 0, 1) := by decide +kernel
theorem dX15_scan_98 : decode cX15_scan 98 = .ok (.getfield 73, 3) := by decide +kernel
theorem dX15_scan_101 : decode cX15_scan 101 = .ok (.iconst 1, 1) := by decide +kernel
theorem dX15_scan_102 : decode cX15_scan 102 = .ok (.iadd, 1) := by decide +kernel
theorem dX15_scan_103 : decode cX15_scan 103 = .ok (.invokevirtual 76, 3) := by decide +kernel
theorem dX15_scan_106 : decode cX15_scan 106 = .ok (.istore_n 2, 1) := by decide +kernel
theorem dX15_scan_107 : decode cX15_scan 107 = .ok (.iload_n 1, 1) := by decide +kernel
theorem dX15_scan_108 : decode cX15_scan 108 = .ok (.bipush 124, 2) := by decide +kernel
theorem dX15_scan_110 : decode cX15_scan 110 = .ok (.if_icmp .ne 14, 3) := by decide +kernel
theorem dX15_scan_113 : decode cX15_scan 113 = .ok (.iload_n 2, 1) := by decide +kernel
theorem dX15_scan_114 : decode cX15_scan 114 = .ok (.bipush 124, 2) := by decide +kernel
theorem dX15_scan_116 : decode cX15_scan 116 = .ok (.if_icmp .ne 8, 3) := by decide +kernel
theorem dX15_scan_119 : decode cX15_scan 119 = .ok (.bipush 10, 2) := by decide +kernel
theorem dX15_scan_121 : decode cX15_scan 121 = .ok (.goto 123, 3) := by decide +kernel
theorem dX15_scan_124 : decode cX15_scan 124 = .ok (.iload_n 1, 1) := by decide +kernel
theorem dX15_scan_125 : decode cX15_scan 125 = .ok (.bipush 38, 2) := by decide +kernel
theorem dX15_scan_127 : decode cX15_scan 127 = .ok (.if_icmp .ne 14, 3) := by decide +kernel
theorem dX15_scan_130 : decode cX15_scan 130 = .ok (.iload_n 2, 1) := by decide +kernel
theorem dX15_scan_131 : decode cX15_scan 131 = .ok (.bipush 38, 2) := by decide +kernel
theorem dX15_scan_133 : decode cX15_scan 133 = .ok (.if_icmp .ne 8, 3) := by decide +kernel
theorem dX15_scan_136 : decode cX15_scan 136 = .ok (.bipush 11, 2) := by decide +kernel
theorem dX15_scan_138 : decode cX15_scan 138 = .ok (.goto 106, 3) := by decide +kernel
theorem dX15_scan_141 : decode cX15_scan 141 = .ok (.iload_n 1, 1) := by decide +kernel
theorem dX15_scan_142 : decode cX15_scan 142 = .ok (.bipush 61, 2) := by decide +kernel
theorem dX15_scan_144 : decode cX15_scan 144 = .ok (.if_icmp .ne 14, 3) := by decide +kernel
theorem dX15_scan_147 : decode cX15_scan 147 = .ok (.iload_n 2, 1) := by decide +kernel
theorem dX15_scan_148 : decode cX15_scan 148 = .ok (.bipush 61, 2) := by decide +kernel
theorem dX15_scan_150 : decode cX15_scan 150 = .ok (.if_icmp .ne 8, 3) := by decide +kernel
theorem dX15_scan_153 : decode cX15_scan 153 = .ok (.bipush 12, 2) := by decide +kernel
theorem dX15_scan_155 : decode cX15_scan 155 = .ok (.goto 89, 3) := by decide +kernel
theorem dX15_scan_158 : decode cX15_scan 158 = .ok (.iload_n 1, 1) := by decide +kernel
theorem dX15_scan_159 : decode cX15_scan 159 = .ok (.bipush 33, 2) := by decide +kernel
theorem dX15_scan_161 : decode cX15_scan 161 = .ok (.if_icmp .ne 14, 3) := by decide +kernel
theorem dX15_scan_164 : decode cX15_scan 164 = .ok (.iload_n 2, 1) := by decide +kernel
theorem dX15_scan_165 : decode cX15_scan 165 = .ok (.bipush 61, 2) := by decide +kernel
theorem dX15_scan_167 : decode cX15_scan 167 = .ok (.if_icmp .ne 8, 3) := by decide +kernel
theorem dX15_scan_170 : decode cX15_scan 170 = .ok (.bipush 13, 2) := by decide +kernel
theorem dX15_scan_172 : decode cX15_scan 172 = .ok (.goto 72, 3) := by decide +kernel
theorem dX15_scan_175 : decode cX15_scan 175 = .ok (.iload_n 1, 1) := by decide +kernel
theorem dX15_scan_176 : decode cX15_scan 176 = .ok (.bipush 60, 2) := by decide +kernel
theorem dX15_scan_178 : decode cX15_scan 178 = .ok (.if_icmp .ne 14, 3) := by decide +kernel
theorem dX15_scan_181 : decode cX15_scan 181 = .ok (.iload_n 2, 1) := by decide +kernel
theorem dX15_scan_182 : decode cX15_scan 182 = .ok (.bipush 61, 2) := by decide +kernel
theorem dX15_scan_184 : decode cX15_scan 184 = .ok (.if_icmp .ne 8, 3) := by decide +kernel
theorem dX15_scan_187 : decode cX15_scan 187 = .ok (.bipush 15, 2) := by decide +kernel
theorem dX15_scan_189 : decode cX15_scan 189 = .ok (.goto 55, 3) := by decide +kernel
theorem dX15_scan_192 : decode cX15_scan 192 = .ok (.iload_n 1, 1) := by decide +kernel
theorem dX15_scan_193 : decode cX15_scan 193 = .ok (.bipush 62, 2) := by decide +kernel
theorem dX15_scan_195 : decode cX15_scan 195 = .ok (.if_icmp .ne 14, 3) := by decide +kernel
theorem dX15_scan_198 : decode cX15_scan 198 = .ok (.iload_n 2, 1) := by decide +kernel
theorem dX15_scan_199 : decode cX15_scan 199 = .ok (.bipush 61, 2) := by decide +kernel
theorem dX15_scan_201 : decode cX15_scan 201 = .ok (.if_icmp .ne 8, 3) := by decide +kernel
theorem dX15_scan_204 : decode cX15_scan 204 = .ok (.bipush 17, 2) := by decide +kernel
theorem dX15_scan_206 : decode cX15_scan 206 = .ok (.goto 38, 3) := by decide +kernel
theorem dX15_scan_209 : decode cX15_scan 209 = .ok (.iload_n 1, 1) := by decide +kernel
theorem dX15_scan_210 : decode cX15_scan 210 = .ok (.bipush 60, 2) := by decide +kernel
theorem dX15_scan_212 : decode cX15_scan 212 = .ok (.if_icmp .ne 14, 3) := by decide +kernel
theorem dX15_scan_215 : decode cX15_scan 215 = .ok (.iload_n 2, 1) := by decide +kernel
theorem dX15_scan_216 : decode cX15_scan 216 = .ok (.bipush 60, 2) := by decide +kernel
theorem dX15_scan_218 : decode cX15_scan 218 = .ok (.if_icmp .ne 8, 3) := by decide +kernel
theorem dX15_scan_221 : decode cX15_scan 221 = .ok (.bipush 21, 2) := by decide +kernel
theorem dX15_scan_223 : decode cX15_scan 223 = .ok (.goto 21, 3) := by decide +kernel
theorem dX15_scan_226 : decode cX15_scan 226 = .ok (.iload_n 1, 1) := by decide +kernel
theorem dX15_scan_227 : decode cX15_scan 227 = .ok (.bipush 62, 2) := by decide +kernel
theorem dX15_scan_229 : decode cX15_scan 229 = .ok (.if_icmp .ne 14, 3) := by decide +kernel
theorem dX15_scan_232 : decode cX15_scan 232 = .ok (.iload_n 2, 1) := by decide +kernel
theorem dX15_scan_233 : decode cX15_scan 233 = .ok (.bipush 62, 2) := by decide +kernel
theorem dX15_scan_235 : decode cX15_scan 235 = .ok (.if_icmp .ne 8, 3) := by decide +kernel
theorem dX15_scan_238 : decode cX15_scan 238 = .ok (.bipush 22, 2) := by decide +kernel
theorem dX15_scan_240 : decode cX15_scan 240 = .ok (.goto 4, 3) := by decide +kernel
theorem dX15_scan_243 : decode cX15_scan 243 = .ok (.iconst 0, 1) := by decide +kernel
theorem dX15_scan_244 : decode cX15_scan 244 = .ok (.istore_n 3, 1) := by decide +kernel
theorem dX15_scan_245 : decode cX15_scan 245 = .ok (.iload_n 1, 1) := by decide +kernel
theorem dX15_scan_246 : decode cX15_scan 246 = .ok (.bipush 60, 2) := by decide +kernel
theorem dX15_scan_248 : decode cX15_scan 248 = .ok (.if_icmp .ne 8, 3) := by decide +kernel
theorem dX15_scan_251 : decode cX15_scan 251 = .ok (.bipush 14, 2) := by decide +kernel
theorem dX15_scan_253 : decode cX15_scan 253 = .ok (.goto 170, 3) := by decide +kernel
theorem dX15_scan_256 : decode cX15_scan 256 = .ok (.iload_n 1, 1) := by decide +kernel
theorem dX15_scan_257 : decode cX15_scan 257 = .ok (.bipush 62, 2) := by decide +kernel
theorem dX15_scan_259 : decode cX15_scan 259 = .ok (.if_icmp .ne 8, 3) := by decide +kernel
theorem dX15_scan_262 : decode cX15_scan 262 = .ok (.bipush 16, 2) := by decide +kernel
theorem dX15_scan_264 : decode cX15_scan 264 = .ok (.goto 159, 3) := by decide +kernel
theorem dX15_scan_267 : decode cX15_scan 267 = .ok (.iload_n 1, 1) := by decide +kernel
theorem dX15_scan_268 : decode cX15_scan 268 = .ok (.bipush 124, 2) := by decide +kernel
theorem dX15_scan_270 : decode cX15_scan 270 = .ok (.if_icmp .ne 8, 3) := by decide +kernel
theorem dX15_scan_273 : decode cX15_scan 273 = .ok (.bipush 18, 2) := by decide +kernel
theorem dX15_scan_275 : decode cX15_scan 275 = .ok (.goto 148, 3) := by decide +kernel
theorem dX15_scan_278 : decode cX15_scan 278 = .ok (.iload_n 1, 1) := by decide +kernel
theorem dX15_scan_279 : decode cX15_scan 279 = .ok (.bipush 94, 2) := by decide +kernel
theorem dX15_scan_281 : decode cX15_scan 281 = .ok (.if_icmp .ne 8, 3) := by decide +kernel
theorem dX15_scan_284 : decode cX15_scan 284 = .ok (.bipush 19, 2) := by decide +kernel
theorem dX15_scan_286 : decode cX15_scan 286 = .ok (.goto 137, 3) := by decide +kernel
theorem dX15_scan_289 : decode cX15_scan 289 = .ok (.iload_n 1, 1) := by decide +kernel
theorem dX15_scan_290 : decode cX15_scan 290 = .ok (.bipush 38, 2) := by decide +kernel
theorem dX15_scan_292 : decode cX15_scan 292 = .ok (.if_icmp .ne 8, 3) := by decide +kernel
theorem dX15_scan_295 : decode cX15_scan 295 = .ok (.bipush 20, 2) := by decide +kernel
theorem dX15_scan_297 : decode cX15_scan 297 = .ok (.goto 126, 3) := by decide +kernel
theorem dX15_scan_300 : decode cX15_scan 300 = .ok (.iload_n 1, 1) := by decide +kernel
theorem dX15_scan_301 : decode cX15_scan 301 = .ok (.bipush 43, 2) := by decide +kernel
theorem dX15_scan_303 : decode cX15_scan 303 = .ok (.if_icmp .ne 8, 3) := by decide +kernel
theorem dX15_scan_306 : decode cX15_scan 306 = .ok (.bipush 23, 2) := by decide +kernel
theorem dX15_scan_308 : decode cX15_scan 308 = .ok (.goto 115, 3) := by decide +kernel
theorem dX15_scan_311 : decode cX15_scan 311 = .ok (.iload_n 1, 1) := by decide +kernel
theorem dX15_scan_312 : decode cX15_scan 312 = .ok (.bipush 45, 2) := by decide +kernel
theorem dX15_scan_314 : decode cX15_scan 314 = .ok (.if_icmp .ne 8, 3) := by decide +kernel
theorem dX15_scan_317 : decode cX15_scan 317 = .ok (.bipush 24, 2) := by decide +kernel
theorem dX15_scan_319 : decode cX15_scan 319 = .ok (.goto 104, 3) := by decide +kernel
theorem dX15_scan_322 : decode cX15_scan 322 = .ok (.iload_n 1, 1) := by decide +kernel
theorem dX15_scan_323 : decode cX15_scan 323 = .ok (.bipush 42, 2) := by decide +kernel
theorem dX15_scan_325 : decode cX15_scan 325 = .ok (.if_icmp .ne 8, 3) := by decide +kernel
theorem dX15_scan_328 : decode cX15_scan 328 = .ok (.bipush 25, 2) := by decide +kernel
theorem dX15_scan_330 : decode cX15_scan 330 = .ok (.goto 93, 3) := by decide +kernel
theorem dX15_scan_333 : decode cX15_scan 333 = .ok (.iload_n 1, 1) := by decide +kernel
theorem dX15_scan_334 : decode cX15_scan 334 = .ok (.bipush 47, 2) := by decide +kernel
theorem dX15_scan_336 : decode cX15_scan 336 = .ok (.if_icmp .ne 8, 3) := by decide +kernel
theorem dX15_scan_339 : decode cX15_scan 339 = .ok (.bipush 26, 2) := by decide +kernel
theorem dX15_scan_341 : decode cX15_scan 341 = .ok (.goto 82, 3) := by decide +kernel
theorem dX15_scan_344 : decode cX15_scan 344 = .ok (.iload_n 1, 1) := by decide +kernel
theorem dX15_scan_345 : decode cX15_scan 345 = .ok (.bipush 37, 2) := by decide +kernel
theorem dX15_scan_347 : decode cX15_scan 347 = .ok (.if_icmp .ne 8, 3) := by decide +kernel
theorem dX15_scan_350 : decode cX15_scan 350 = .ok (.bipush 27, 2) := by decide +kernel
theorem dX15_scan_352 : decode cX15_scan 352 = .ok (.goto 71, 3) := by decide +kernel
theorem dX15_scan_355 : decode cX15_scan 355 = .ok (.iload_n 1, 1) := by decide +kernel
theorem dX15_scan_356 : decode cX15_scan 356 = .ok (.bipush 33, 2) := by decide +kernel
theorem dX15_scan_358 : decode cX15_scan 358 = .ok (.if_icmp .ne 8, 3) := by decide +kernel
theorem dX15_scan_361 : decode cX15_scan 361 = .ok (.bipush 28, 2) := by decide +kernel
theorem dX15_scan_363 : decode cX15_scan 363 = .ok (.goto 60, 3) := by decide +kernel
theorem dX15_scan_366 : decode cX15_scan 366 = .ok (.iload_n 1, 1) := by decide +kernel
theorem dX15_scan_367 : decode cX15_scan 367 = .ok (.bipush 126, 2) := by decide +kernel
theorem dX15_scan_369 : decode cX15_scan 369 = .ok (.if_icmp .ne 8, 3) := by decide +kernel
theorem dX15_scan_372 : decode cX15_scan 372 = .ok (.bipush 29, 2) := by decide +kernel
theorem dX15_scan_374 : decode cX15_scan 374 = .ok (.goto 49, 3) := by decide +kernel
theorem dX15_scan_377 : decode cX15_scan 377 = .ok (.iload_n 1, 1) := by decide +kernel
theorem dX15_scan_378 : decode cX15_scan 378 = .ok (.bipush 40, 2) := by decide +kernel
theorem dX15_scan_380 : decode cX15_scan 380 = .ok (.if_icmp .ne 8, 3) := by decide +kernel
theorem dX15_scan_383 : decode cX15_scan 383 = .ok (.bipush 30, 2) := by decide +kernel
theorem dX15_scan_385 : decode cX15_scan 385 = .ok (.goto 38, 3) := by decide +kernel
theorem dX15_scan_388 : decode cX15_scan 388 = .ok (.iload_n 1, 1) := by decide +kernel
theorem dX15_scan_389 : decode cX15_scan 389 = .ok (.bipush 41, 2) := by decide +kernel
theorem dX15_scan_391 : decode cX15_scan 391 = .ok (.if_icmp .ne 8, 3) := by decide +kernel
theorem dX15_scan_394 : decode cX15_scan 394 = .ok (.bipush 31, 2) := by decide +kernel
theorem dX15_scan_396 : decode cX15_scan 396 = .ok (.goto 27, 3) := by decide +kernel
theorem dX15_scan_399 : decode cX15_scan 399 = .ok (.iload_n 1, 1) := by decide +kernel
theorem dX15_scan_400 : decode cX15_scan 400 = .ok (.bipush 91, 2) := by decide +kernel
theorem dX15_scan_402 : decode cX15_scan 402 = .ok (.if_icmp .ne 8, 3) := by decide +kernel
theorem dX15_scan_405 : decode cX15_scan 405 = .ok (.bipush 32, 2) := by decide +kernel
theorem dX15_scan_407 : decode cX15_scan 407 = .ok (.goto 16, 3) := by decide +kernel
theorem dX15_scan_410 : decode cX15_scan 410 = .ok (.iload_n 1, 1) := by decide +kernel
theorem dX15_scan_411 : decode cX15_scan 411 = .ok (.bipush 93, 2) := by decide +kernel
theorem dX15_scan_413 : decode cX15_scan 413 = .ok (.if_icmp .ne 8, 3) := by decide +kernel
theorem dX15_scan_416 : decode cX15_scan 416 = .ok (.bipush 33, 2) := by decide +kernel
theorem dX15_scan_418 : decode cX15_scan 418 = .ok (.goto 5, 3) := by decide +kernel
theorem dX15_scan_421 : decode cX15_scan 421 = .ok (.bipush 34, 2) := by decide +kernel
theorem dX15_scan_423 : decode cX15_scan 423 = .ok (.istore 4, 2) := by decide +kernel
theorem dX15_scan_425 : decode cX15_scan 425 = .ok (.aload_n 0, 1) := by decide +kernel
theorem dX15_scan_426 : decode cX15_scan 426 = .ok (.iload_n 3, 1) := by decide +kernel
theorem dX15_scan_427 : decode cX15_scan 427 = .ok (.ifCond .le 7, 3) := by decide +kernel
theorem dX15_scan_430 : decode cX15_scan 430 = .ok (.iload_n 3, 1) := by decide +kernel
theorem dX15_scan_431 : decode cX15_scan 431 = .ok (.goto 5, 3) := by decide +kernel
theorem dX15_scan_434 : decode cX15_scan 434 = .ok (.iload 4, 2) := by decide +kernel
theorem dX15_scan_436 : decode cX15_scan 436 = .ok (.putfield 92, 3) := by decide +kernel
theorem dX15_scan_439 : decode cX15_scan 439 = .ok (.aload_n 0, 1) := by decide +kernel
theorem dX15_scan_440 : decode cX15_scan 440 = .ok (.dup, 1) := by decide +kernel
theorem dX15_scan_441 : decode cX15_scan 441 = .ok (.getfield 73, 3) := by decide +kernel
theorem dX15_scan_444 : decode cX15_scan 444 = .ok (.iload_n 3, 1) := by decide +kernel
theorem dX15_scan_445 : decode cX15_scan 445 = .ok (.ifCond .le 7, 3) := by decide +kernel
theorem dX15_scan_448 : decode cX15_scan 448 = .ok (.iconst 2, 1) := by decide +kernel
theorem dX15_scan_449 : decode cX15_scan 449 = .ok (.goto 4, 3) := by decide +kernel
theorem dX15_scan_452 : decode cX15_scan 452 = .ok (.iconst 1, 1) := by decide +kernel
theorem dX15_scan_453 : decode cX15_scan 453 = .ok (.iadd, 1) := by decide +kernel
theorem dX15_scan_454 : decode cX15_scan 454 = .ok (.putfield 73, 3) := by decide +kernel
theorem dX15_scan_457 : decode cX15_scan 457 = .ok (.return_, 1) := by decide +kernel
theorem dX15_scanNumber_0 : decode cX15_scanNumber 0 = .ok (.aload_n 0, 1) := by decide +kernel
theorem dX15_scanNumber_1 : decode cX15_scanNumber 1 = .ok (.getfield 73, 3) := by decide +kernel
theorem dX15_scanNumber_4 : decode cX15_scanNumber 4 = .ok (.aload_n 0, 1) := by decide +kernel
theorem dX15_scanNumber_5 : decode cX15_scanNumber 5 = .ok (.getfield 80, 3) := by decide +kernel
theorem dX15_scanNumber_8 : decode cX15_scanNumber 8 = .ok (.isub, 1) := by decide +kernel
theorem dX15_scanNumber_9 : decode cX15_scanNumber 9 = .ok (.iconst 2, 1) := by decide +kernel
theorem dX15_scanNumber_10 : decode cX15_scanNumber 10 = .ok (.if_icmp .le 37, 3) := by decide +kernel
theorem dX15_scanNumber_13 : decode cX15_scanNumber 13 = .ok (.aload_n 0, 1) := by decide +kernel
theorem dX15_scanNumber_14 : decode cX15_scanNumber 14 = .ok (.getfield 7, 3) := by decide +kernel
theorem dX15_scanNumber_17 : decode cX15_scanNumber 17 = .ok (.aload_n 0, 1) := by decide +kernel
theorem dX15_scanNumber_18 : decode cX15_scanNumber 18 = .ok (.getfield 80, 3) := by decide +kernel
theorem dX15_scanNumber_21 : decode cX15_scanNumber 21 = .ok (.caload, 1) := by decide +kernel
theorem dX15_scanNumber_22 : decode cX15_scanNumber 22 = .ok (.bipush 48, 2) := by decide +kernel
theorem dX15_scanNumber_24 : decode cX15_scanNumber 24 = .ok (.if_icmp .ne 23, 3) := by decide +kernel
theorem dX15_scanNumber_27 : decode cX15_scanNumber 27 = .ok (.aload_n 0, 1) := by decide +kernel
theorem dX15_scanNumber_28 : decode cX15_scanNumber 28 = .ok (.getfield 7, 3) := by decide +kernel
theorem dX15_scanNumber_31 : decode cX15_scanNumber 31 = .ok (.aload_n 0, 1) := by decide +kernel
theorem dX15_scanNumber_32 : decode cX15_scanNumber 32 = .ok (.getfield 80, 3) := by decide +kernel
theorem dX15_scanNumber_35 : decode cX15_scanNumber 35 = .ok (.iconst 1, 1) := by decide +kernel
theorem dX15_scanNumber_36 : decode cX15_scanNumber 36 = .ok (.iadd, 1) := by decide +kernel
theorem dX15_scanNumber_37 : decode cX15_scanNumber 37 = .ok (.caload, 1) := by decide +kernel
theorem dX15_scanNumber_38 : decode cX15_scanNumber 38 = .ok (.bipush 120, 2) := by decide +kernel
theorem dX15_scanNumber_40 : decode cX15_scanNumber 40 = .ok (.if_icmp .ne 7, 3) := by decide +kernel
theorem dX15_scanNumber_43 : decode cX15_scanNumber 43 = .ok (.iconst 1, 1) := by decide +kernel
theorem dX15_scanNumber_44 : decode cX15_scanNumber 44 = .ok (.goto 4, 3) := by decide +kernel
theorem dX15_scanNumber_47 : decode cX15_scanNumber 47 = .ok (.iconst 0, 1) := by decide +kernel
theorem dX15_scanNumber_48 : decode cX15_scanNumber 48 = .ok (.istore_n 1, 1) := by decide +kernel
theorem dX15_scanNumber_49 : decode cX15_scanNumber 49 = .ok (.aload_n 0, 1) := by decide +kernel
theorem dX15_scanNumber_50 : decode cX15_scanNumber 50 = .ok (.iconst 1, 1) := by decide +kernel
theorem dX15_scanNumber_51 : decode cX15_scanNumber 51 = .ok (.putfield 92, 3) := by decide +kernel
theorem dX15_scanNumber_54 : decode cX15_scanNumber 54 = .ok (.aload_n 0, 1) := by decide +kernel
theorem dX15_scanNumber_55 : decode cX15_scanNumber 55 = .ok (.lconst 0, 1) := by decide +kernel
theorem dX15_scanNumber_56 : decode cX15_scanNumber 56 = .ok (.putfield 95, 3) := by decide +kernel
theorem dX15_scanNumber_59 : decode cX15_scanNumber 59 = .ok (.iload_n 1, 1) := by decide +kernel
theorem dX15_scanNumber_60 : decode cX15_scanNumber 60 = .ok (.ifCond .eq 12, 3) := by decide +kernel
theorem dX15_scanNumber_63 : decode cX15_scanNumber 63 = .ok (.aload_n 0, 1) := by decide +kernel
theorem dX15_scanNumber_64 : decode cX15_scanNumber 64 = .ok (.getfield 80, 3) := by decide +kernel
theorem dX15_scanNumber_67 : decode cX15_scanNumber 67 = .ok (.iconst 2, 1) := by decide +kernel
theorem dX15_scanNumber_68 : decode cX15_scanNumber 68 = .ok (.iadd, 1) := by decide +kernel
theorem dX15_scanNumber_69 : decode cX15_scanNumber 69 = .ok (.goto 7, 3) := by decide +kernel
theorem dX15_scanNumber_72 : decode cX15_scanNumber 72 = .ok (.aload_n 0, 1) := by decide +kernel
theorem dX15_scanNumber_73 : decode cX15_scanNumber 73 = .ok (.getfield 80, 3) := by decide +kernel
theorem dX15_scanNumber_76 : decode cX15_scanNumber 76 = .ok (.istore_n 2, 1) := by decide +kernel
theorem dX15_scanNumber_77 : decode cX15_scanNumber 77 = .ok (.iload_n 2, 1) := by decide +kernel
theorem dX15_scanNumber_78 : decode cX15_scanNumber 78 = .ok (.aload_n 0, 1) := by decide +kernel
theorem dX15_scanNumber_79 : decode cX15_scanNumber 79 = .ok (.getfield 73, 3) := by decide +kernel
theorem dX15_scanNumber_82 : decode cX15_scanNumber 82 = .ok (.if_icmp .ge 131, 3) := by decide +kernel
theorem dX15_scanNumber_85 : decode cX15_scanNumber 85 = .ok (.aload_n 0, 1) := by decide +kernel
theorem dX15_scanNumber_86 : decode cX15_scanNumber 86 = .ok (.getfield 7, 3) := by decide +kernel
theorem dX15_scanNumber_89 : decode cX15_scanNumber 89 = .ok (.iload_n 2, 1) := by decide +kernel
theorem dX15_scanNumber_90 : decode cX15_scanNumber 90 = .ok (.caload, 1) := by decide +kernel
theorem dX15_scanNumber_91 : decode cX15_scanNumber 91 = .ok (.istore_n 3, 1) := by decide +kernel
theorem dX15_scanNumber_92 : decode cX15_scanNumber 92 = .ok (.iload_n 3, 1) := by decide +kernel
theorem dX15_scanNumber_93 : decode cX15_scanNumber 93 = .ok (.invokestatic 69, 3) := by decide +kernel
theorem dX15_scanNumber_96 : decode cX15_scanNumber 96 = .ok (.ifCond .eq 10, 3) := by decide +kernel
theorem dX15_scanNumber_99 : decode cX15_scanNumber 99 = .ok (.iload_n 3, 1) := by decide +kernel
