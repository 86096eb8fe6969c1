theorem dX13_charAt_0 : decode cX13_charAt 0 = .ok (.iload_n 1, 1) := by decide +kernel
theorem dX13_charAt_1 : decode cX13_charAt 1 = .ok (.aload_n 0, 1) := by decide +kernel
theorem dX13_charAt_2 : decode cX13_charAt 2 = .ok (.getfield 347, 3) := by decide +kernel
theorem dX13_charAt_5 : decode cX13_charAt 5 = .ok (.if_icmp .ge 12, 3) := by decide +kernel
theorem dX13_charAt_8 : decode cX13_charAt 8 = .ok (.aload_n 0, 1) := by decide +kernel
theorem dX13_charAt_9 : decode cX13_charAt 9 = .ok (.getfield 324, 3) := by decide +kernel
theorem dX13_charAt_12 : decode cX13_charAt 12 = .ok (.iload_n 1, 1) := by decide +kernel
theorem dX13_charAt_13 : decode cX13_charAt 13 = .ok (.caload, 1) := by decide +kernel
theorem dX13_charAt_14 : decode cX13_charAt 14 = .ok (.goto 5, 3) := by decide +kernel
theorem dX13_charAt_17 : decode cX13_charAt 17 = .ok (.bipush 10, 2) := by decide +kernel
theorem dX13_charAt_19 : decode cX13_charAt 19 = .ok (.ireturn, 1) := by decide +kernel
theorem dX13_isDigit_0 : decode cX13_isDigit 0 = .ok (.iload_n 0, 1) := by decide +kernel
theorem dX13_isDigit_1 : decode cX13_isDigit 1 = .ok (.bipush 48, 2) := by decide +kernel
theorem dX13_isDigit_3 : decode cX13_isDigit 3 = .ok (.if_icmp .lt 13, 3) := by decide +kernel
theorem dX13_isDigit_6 : decode cX13_isDigit 6 = .ok (.iload_n 0, 1) := by decide +kernel
theorem dX13_isDigit_7 : decode cX13_isDigit 7 = .ok (.bipush 57, 2) := by decide +kernel
theorem dX13_isDigit_9 : decode cX13_isDigit 9 = .ok (.if_icmp .gt 7, 3) := by decide +kernel
theorem dX13_isDigit_12 : decode cX13_isDigit 12 = .ok (.iconst 1, 1) := by decide +kernel
theorem dX13_isDigit_13 : decode cX13_isDigit 13 = .ok (.goto 4, 3) := by decide +kernel
theorem dX13_isDigit_16 : decode cX13_isDigit 16 = .ok (.iconst 0, 1) := by decide +kernel
theorem dX13_isDigit_17 : decode cX13_isDigit 17 = .ok (.ireturn, 1) := by decide +kernel
theorem dX13_isLetter_0 : decode cX13_isLetter 0 = .ok (.iload_n 0, 1) := by decide +kernel
theorem dX13_isLetter_1 : decode cX13_isLetter 1 = .ok (.bipush 97, 2) := by decide +kernel
theorem dX13_isLetter_3 : decode cX13_isLetter 3 = .ok (.if_icmp .lt 9, 3) := by decide +kernel
theorem dX13_isLetter_6 : decode cX13_isLetter 6 = .ok (.iload_n 0, 1) := by decide +kernel
theorem dX13_isLetter_7 : decode cX13_isLetter 7 = .ok (.bipush 122, 2) := by decide +kernel
theorem dX13_isLetter_9 : decode cX13_isLetter 9 = .ok (.if_icmp .le 15, 3) := by decide +kernel
theorem dX13_isLetter_12 : decode cX13_isLetter 12 = .ok (.iload_n 0, 1) := by decide +kernel
theorem dX13_isLetter_13 : decode cX13_isLetter 13 = .ok (.bipush 65, 2) := by decide +kernel
theorem dX13_isLetter_15 : decode cX13_isLetter 15 = .ok (.if_icmp .lt 13, 3) := by decide +kernel
theorem dX13_isLetter_18 : decode cX13_isLetter 18 = .ok (.iload_n 0, 1) := by decide +kernel
theorem dX13_isLetter_19 : decode cX13_isLetter 19 = .ok (.bipush 90, 2) := by decide +kernel
theorem dX13_isLetter_21 : decode cX13_isLetter 21 = .ok (.if_icmp .gt 7, 3) := by decide +kernel
theorem dX13_isLetter_24 : decode cX13_isLetter 24 = .ok (.iconst 1, 1) := by decide +kernel
theorem dX13_isLetter_25 : decode cX13_isLetter 25 = .ok (.goto 4, 3) := by decide +kernel
theorem dX13_isLetter_28 : decode cX13_isLetter 28 = .ok (.iconst 0, 1) := by decide +kernel
theorem dX13_isLetter_29 : decode cX13_isLetter 29 = .ok (.ireturn, 1) := by decide +kernel
theorem dX13_isPlain_0 : decode cX13_isPlain 0 = .ok (.iload_n 0, 1) := by decide +kernel
theorem dX13_isPlain_1 : decode cX13_isPlain 1 = .ok (.invokestatic 351, 3) := by decide +kernel
theorem dX13_isPlain_4 : decode cX13_isPlain 4 = .ok (.ifCond .ne 28, 3) := by decide +kernel
theorem dX13_isPlain_7 : decode cX13_isPlain 7 = .ok (.iload_n 0, 1) := by decide +kernel
theorem dX13_isPlain_8 : decode cX13_isPlain 8 = .ok (.invokestatic 355, 3) := by decide +kernel
theorem dX13_isPlain_11 : decode cX13_isPlain 11 = .ok (.ifCond .ne 21, 3) := by decide +kernel
theorem dX13_isPlain_14 : decode cX13_isPlain 14 = .ok (.iload_n 0, 1) := by decide +kernel
theorem dX13_isPlain_15 : decode cX13_isPlain 15 = .ok (.bipush 95, 2) := by decide +kernel
theorem dX13_isPlain_17 : decode cX13_isPlain 17 = .ok (.if_icmp .eq 15, 3) := by decide +kernel
theorem dX13_isPlain_20 : decode cX13_isPlain 20 = .ok (.iload_n 0, 1) := by decide +kernel
theorem dX13_isPlain_21 : decode cX13_isPlain 21 = .ok (.bipush 46, 2) := by decide +kernel
theorem dX13_isPlain_23 : decode cX13_isPlain 23 = .ok (.if_icmp .eq 9, 3) := by decide +kernel
theorem dX13_isPlain_26 : decode cX13_isPlain 26 = .ok (.iload_n 0, 1) := by decide +kernel
theorem dX13_isPlain_27 : decode cX13_isPlain 27 = .ok (.bipush 36, 2) := by decide +kernel
theorem dX13_isPlain_29 : decode cX13_isPlain 29 = .ok (.if_icmp .ne 7, 3) := by decide +kernel
theorem dX13_isPlain_32 : decode cX13_isPlain 32 = .ok (.iconst 1, 1) := by decide +kernel
theorem dX13_isPlain_33 : decode cX13_isPlain 33 = .ok (.goto 4, 3) := by decide +kernel
theorem dX13_isPlain_36 : decode cX13_isPlain 36 = .ok (.iconst 0, 1) := by decide +kernel
theorem dX13_isPlain_37 : decode cX13_isPlain 37 = .ok (.ireturn, 1) := by decide +kernel
theorem dX13_plain_0 : decode cX13_plain 0 = .ok (.iload_n 1, 1) := by decide +kernel
theorem dX13_plain_1 : decode cX13_plain 1 = .ok (.istore_n 2, 1) := by decide +kernel
theorem dX13_plain_2 : decode cX13_plain 2 = .ok (.aload_n 0, 1) := by decide +kernel
theorem dX13_plain_3 : decode cX13_plain 3 = .ok (.iload_n 2, 1) := by decide +kernel
theorem dX13_plain_4 : decode cX13_plain 4 = .ok (.invokevirtual 358, 3) := by decide +kernel
theorem dX13_plain_7 : decode cX13_plain 7 = .ok (.invokestatic 362, 3) := by decide +kernel
theorem dX13_plain_10 : decode cX13_plain 10 = .ok (.ifCond .eq 9, 3) := by decide +kernel
theorem dX13_plain_13 : decode cX13_plain 13 = .ok (.iinc 2 1, 3) := by decide +kernel
theorem dX13_plain_16 : decode cX13_plain 16 = .ok (.goto (-14), 3) := by decide +kernel
theorem dX13_plain_19 : decode cX13_plain 19 = .ok (.iload_n 2, 1) := by decide +kernel
theorem dX13_plain_20 : decode cX13_plain 20 = .ok (.ireturn, 1) := by decide +kernel
theorem dX13_bad_0 : decode cX13_bad 0 = .ok (.aload_n 0, 1) := by decide +kernel
theorem dX13_bad_1 : decode cX13_bad 1 = .ok (.iconst 5, 1) := by decide +kernel
theorem dX13_bad_2 : decode cX13_bad 2 = .ok (.putfield 365, 3) := by decide +kernel
theorem dX13_bad_5 : decode cX13_bad 5 = .ok (.aload_n 0, 1) := by decide +kernel
theorem dX13_bad_6 : decode cX13_bad 6 = .ok (.aload_n 0, 1) := by decide +kernel
theorem dX13_bad_7 : decode cX13_bad 7 = .ok (.getfield 368, 3) := by decide +kernel
theorem dX13_bad_10 : decode cX13_bad 10 = .ok (.putfield 371, 3) := by decide +kernel
theorem dX13_bad_13 : decode cX13_bad 13 = .ok (.return_, 1) := by decide +kernel
theorem dX13_scan_0 : decode cX13_scan 0 = .ok (.aload_n 0, 1) := by decide +kernel
theorem dX13_scan_1 : decode cX13_scan 1 = .ok (.aload_n 0, 1) := by decide +kernel
theorem dX13_scan_2 : decode cX13_scan 2 = .ok (.getfield 374, 3) := by decide +kernel
theorem dX13_scan_5 : decode cX13_scan 5 = .ok (.invokevirtual 358, 3) := by decide +kernel
theorem dX13_scan_8 : decode cX13_scan 8 = .ok (.bipush 9, 2) := by decide +kernel
theorem dX13_scan_10 : decode cX13_scan 10 = .ok (.if_icmp .eq 16, 3) := by decide +kernel
theorem dX13_scan_13 : decode cX13_scan 13 = .ok (.aload_n 0, 1) := by decide +kernel
theorem dX13_scan_14 : decode cX13_scan 14 = .ok (.aload_n 0, 1) := by decide +kernel
theorem dX13_scan_15 : decode cX13_scan 15 = .ok (.getfield 374, 3) := by decide +kernel
theorem dX13_scan_18 : decode cX13_scan 18 = .ok (.invokevirtual 358, 3) := by decide +kernel
theorem dX13_scan_21 : decode cX13_scan 21 = .ok (.bipush 32, 2) := by decide +kernel
theorem dX13_scan_23 : decode cX13_scan 23 = .ok (.if_icmp .ne 16, 3) := by decide +kernel
theorem dX13_scan_26 : decode cX13_scan 26 = .ok (.aload_n 0, 1) := by decide +kernel
theorem dX13_scan_27 : decode cX13_scan 27 = .ok (.dup, 1) := by decide +kernel
theorem dX13_scan_28 : decode cX13_scan 28 = .ok (.getfield 374, 3) := by decide +kernel
theorem dX13_scan_31 : decode cX13_scan 31 = .ok (.iconst 1, 1) := by decide +kernel
theorem dX13_scan_32 : decode cX13_scan 32 = .ok (.iadd, 1) := by decide +kernel
theorem dX13_scan_33 : decode cX13_scan 33 = .ok (.putfield 374, 3) := by decide +kernel
theorem dX13_scan_36 : decode cX13_scan 36 = .ok (.goto (-36), 3) := by decide +kernel
theorem dX13_scan_39 : decode cX13_scan 39 = .ok (.aload_n 0, 1) := by decide +kernel
theorem dX13_scan_40 : decode cX13_scan 40 = .ok (.aload_n 0, 1) := by decide +kernel
theorem dX13_scan_41 : decode cX13_scan 41 = .ok (.getfield 374, 3) := by decide +kernel
theorem dX13_scan_44 : decode cX13_scan 44 = .ok (.putfield 368, 3) := by decide +kernel
theorem dX13_scan_47 : decode cX13_scan 47 = .ok (.aload_n 0, 1) := by decide +kernel
theorem dX13_scan_48 : decode cX13_scan 48 = .ok (.aload_n 0, 1) := by decide +kernel
theorem dX13_scan_49 : decode cX13_scan 49 = .ok (.getfield 374, 3) := by decide +kernel
theorem dX13_scan_52 : decode cX13_scan 52 = .ok (.invokevirtual 358, 3) := by decide +kernel
theorem dX13_scan_55 : decode cX13_scan 55 = .ok (.istore_n 1, 1) := by decide +kernel
theorem dX13_scan_56 : decode cX13_scan 56 = .ok (.aload_n 0, 1) := by decide +kernel
theorem dX13_scan_57 : decode cX13_scan 57 = .ok (.aload_n 0, 1) := by decide +kernel
theorem dX13_scan_58 : decode cX13_scan 58 = .ok (.getfield 374, 3) := by decide +kernel
theorem dX13_scan_61 : decode cX13_scan 61 = .ok (.iconst 1, 1) := by decide +kernel
theorem dX13_scan_62 : decode cX13_scan 62 = .ok (.iadd, 1) := by decide +kernel
theorem dX13_scan_63 : decode cX13_scan 63 = .ok (.putfield 371, 3) := by decide +kernel
theorem dX13_scan_66 : decode cX13_scan 66 = .ok (.iload_n 1, 1) := by decide +kernel
theorem dX13_scan_67 : decode cX13_scan 67 = .ok (.bipush 10, 2) := by decide +kernel
theorem dX13_scan_69 : decode cX13_scan 69 = .ok (.if_icmp .eq 9, 3) := by decide +kernel
theorem dX13_scan_72 : decode cX13_scan 72 = .ok (.iload_n 1, 1) := by decide +kernel
theorem dX13_scan_73 : decode cX13_scan 73 = .ok (.bipush 35, 2) := by decide +kernel
theorem dX13_scan_75 : decode cX13_scan 75 = .ok (.if_icmp .ne 19, 3) := by decide +kernel
theorem dX13_scan_78 : decode cX13_scan 78 = .ok (.aload_n 0, 1) := by decide +kernel
theorem dX13_scan_79 : decode cX13_scan 79 = .ok (.iconst 0, 1) := by decide +kernel
theorem dX13_scan_80 : decode cX13_scan 80 = .ok (.putfield 365, 3) := by decide +kernel
theorem dX13_scan_83 : decode cX13_scan 83 = .ok (.aload_n 0, 1) := by decide +kernel
theorem dX13_scan_84 : decode cX13_scan 84 = .ok (.aload_n 0, 1) := by decide +kernel
theorem dX13_scan_85 : decode cX13_scan 85 = .ok (.getfield 374, 3) := by decide +kernel
theorem dX13_scan_88 : decode cX13_scan 88 = .ok (.putfield 371, 3) := by decide +kernel
theorem dX13_scan_91 : decode cX13_scan 91 = .ok (.goto 257, 3) := by decide +kernel
theorem dX13_scan_94 : decode cX13_scan 94 = .ok (.iload_n 1, 1) := by decide +kernel
theorem dX13_scan_95 : decode cX13_scan 95 = .ok (.invokestatic 351, 3) := by decide +kernel
theorem dX13_scan_98 : decode cX13_scan 98 = .ok (.ifCond .eq 22, 3) := by decide +kernel
theorem dX13_scan_101 : decode cX13_scan 101 = .ok (.aload_n 0, 1) := by decide +kernel
theorem dX13_scan_102 : decode cX13_scan 102 = .ok (.aload_n 0, 1) := by decide +kernel
theorem dX13_scan_103 : decode cX13_scan 103 = .ok (.aload_n 0, 1) := by decide +kernel
theorem dX13_scan_104 : decode cX13_scan 104 = .ok (.getfield 374, 3) := by decide +kernel
theorem dX13_scan_107 : decode cX13_scan 107 = .ok (.invokevirtual 377, 3) := by decide +kernel
theorem dX13_scan_110 : decode cX13_scan 110 = .ok (.putfield 371, 3) := by decide +kernel
theorem dX13_scan_113 : decode cX13_scan 113 = .ok (.aload_n 0, 1) := by decide +kernel
theorem dX13_scan_114 : decode cX13_scan 114 = .ok (.invokevirtual 380, 3) := by decide +kernel
theorem dX13_scan_117 : decode cX13_scan 117 = .ok (.goto 231, 3) := by decide +kernel
theorem dX13_scan_120 : decode cX13_scan 120 = .ok (.iload_n 1, 1) := by decide +kernel
theorem dX13_scan_121 : decode cX13_scan 121 = .ok (.invokestatic 362, 3) := by decide +kernel
theorem dX13_scan_124 : decode cX13_scan 124 = .ok (.ifCond .eq 41, 3) := by decide +kernel
theorem dX13_scan_127 : decode cX13_scan 127 = .ok (.aload_n 0, 1) := by decide +kernel
theorem dX13_scan_128 : decode cX13_scan 128 = .ok (.aload_n 0, 1) := by decide +kernel
theorem dX13_scan_129 : decode cX13_scan 129 = .ok (.aload_n 0, 1) := by decide +kernel
theorem dX13_scan_130 : decode cX13_scan 130 = .ok (.getfield 374, 3) := by decide +kernel
theorem dX13_scan_133 : decode cX13_scan 133 = .ok (.invokevirtual 377, 3) := by decide +kernel
theorem dX13_scan_136 : decode cX13_scan 136 = .ok (.putfield 371, 3) := by decide +kernel
theorem dX13_scan_139 : decode cX13_scan 139 = .ok (.aload_n 0, 1) := by decide +kernel
theorem dX13_scan_140 : decode cX13_scan 140 = .ok (.iconst 1, 1) := by decide +kernel
theorem dX13_scan_141 : decode cX13_scan 141 = .ok (.putfield 365, 3) := by decide +kernel
theorem dX13_scan_144 : decode cX13_scan 144 = .ok (.aload_n 0, 1) := by decide +kernel
theorem dX13_scan_145 : decode cX13_scan 145 = .ok (.getfield 371, 3) := by decide +kernel
theorem dX13_scan_148 : decode cX13_scan 148 = .ok (.aload_n 0, 1) := by decide +kernel
theorem dX13_scan_149 : decode cX13_scan 149 = .ok (.getfield 368, 3) := by decide +kernel
theorem dX13_scan_152 : decode cX13_scan 152 = .ok (.isub, 1) := by decide +kernel
theorem dX13_scan_153 : decode cX13_scan 153 = .ok (.bipush 31, 2) := by decide +kernel
theorem dX13_scan_155 : decode cX13_scan 155 = .ok (.if_icmp .le 193, 3) := by decide +kernel
theorem dX13_scan_158 : decode cX13_scan 158 = .ok (.aload_n 0, 1) := by decide +kernel
theorem dX13_scan_159 : decode cX13_scan 159 = .ok (.invokevirtual 383, 3) := by decide +kernel
theorem dX13_scan_162 : decode cX13_scan 162 = .ok (.goto 186, 3) := by decide +kernel
theorem dX13_scan_165 : decode cX13_scan 165 = .ok (.iload_n 1, 1) := by decide +kernel
theorem dX13_scan_166 : decode cX13_scan 166 = .ok (.bipush 39, 2) := by decide +kernel
theorem dX13_scan_168 : decode cX13_scan 168 = .ok (.if_icmp .ne 10, 3) := by decide +kernel
theorem dX13_scan_171 : decode cX13_scan 171 = .ok (.aload_n 0, 1) := by decide +kernel
theorem dX13_scan_172 : decode cX13_scan 172 = .ok (.invokevirtual 386, 3) := by decide +kernel
theorem dX13_scan_175 : decode cX13_scan 175 = .ok (.goto 173, 3) := by decide +kernel
theorem dX13_scan_178 : decode cX13_scan 178 = .ok (.iload_n 1, 1) := by decide +kernel
theorem dX13_scan_179 : decode cX13_scan 179 = .ok (.bipush 34, 2) := by decide +kernel
theorem dX13_scan_181 : decode cX13_scan 181 = .ok (.if_icmp .ne 10, 3) := by decide +kernel
theorem dX13_scan_184 : decode cX13_scan 184 = .ok (.aload_n 0, 1) := by decide +kernel
theorem dX13_scan_185 : decode cX13_scan 185 = .ok (.invokevirtual 389, 3) := by decide +kernel
theorem dX13_scan_188 : decode cX13_scan 188 = .ok (.goto 160, 3) := by decide +kernel
theorem dX13_scan_191 : decode cX13_scan 191 = .ok (.iload_n 1, 1) := by decide +kernel
theorem dX13_scan_192 : decode cX13_scan 192 = .ok (.bipush 60, 2) := by decide +kernel
theorem dX13_scan_194 : decode cX13_scan 194 = .ok (.if_icmp .eq 9, 3) := by decide +kernel
theorem dX13_scan_197 : decode cX13_scan 197 = .ok (.iload_n 1, 1) := by decide +kernel
theorem dX13_scan_198 : decode cX13_scan 198 = .ok (.bipush 62, 2) := by decide +kernel
theorem dX13_scan_200 : decode cX13_scan 200 = .ok (.if_icmp .ne 51, 3) := by decide +kernel
theorem dX13_scan_203 : decode cX13_scan 203 = .ok (.aload_n 0, 1) := by decide +kernel
theorem dX13_scan_204 : decode cX13_scan 204 = .ok (.iload_n 1, 1) := by decide +kernel
theorem dX13_scan_205 : decode cX13_scan 205 = .ok (.bipush 60, 2) := by decide +kernel
theorem dX13_scan_207 : decode cX13_scan 207 = .ok (.if_icmp .ne 8, 3) := by decide +kernel
theorem dX13_scan_210 : decode cX13_scan 210 = .ok (.bipush 6, 2) := by decide +kernel
theorem dX13_scan_212 : decode cX13_scan 212 = .ok (.goto 5, 3) := by decide +kernel
theorem dX13_scan_215 : decode cX13_scan 215 = .ok (.bipush 7, 2) := by decide +kernel
theorem dX13_scan_217 : decode cX13_scan 217 = .ok (.putfield 365, 3) := by decide +kernel
theorem dX13_scan_220 : decode cX13_scan 220 = .ok (.aload_n 0, 1) := by decide +kernel
theorem dX13_scan_221 : decode cX13_scan 221 = .ok (.aload_n 0, 1) := by decide +kernel
theorem dX13_scan_222 : decode cX13_scan 222 = .ok (.getfield 374, 3) := by decide +kernel
theorem dX13_scan_225 : decode cX13_scan 225 = .ok (.iconst 2, 1) := by decide +kernel
theorem dX13_scan_226 : decode cX13_scan 226 = .ok (.iadd, 1) := by decide +kernel
theorem dX13_scan_227 : decode cX13_scan 227 = .ok (.putfield 371, 3) := by decide +kernel
theorem dX13_scan_230 : decode cX13_scan 230 = .ok (.aload_n 0, 1) := by decide +kernel
theorem dX13_scan_231 : decode cX13_scan 231 = .ok (.aload_n 0, 1) := by decide +kernel
theorem dX13_scan_232 : decode cX13_scan 232 = .ok (.getfield 374, 3) := by decide +kernel
theorem dX13_scan_235 : decode cX13_scan 235 = .ok (.iconst 1, 1) := by decide +kernel
theorem dX13_scan_236 : decode cX13_scan 236 = .ok (.iadd, 1) := by decide +kernel
theorem dX13_scan_237 : decode cX13_scan 237 = .ok (.invokevirtual 358, 3) := by decide +kernel
theorem dX13_scan_240 : decode cX13_scan 240 = .ok (.iload_n 1, 1) := by decide +kernel
theorem dX13_scan_241 : decode cX13_scan 241 = .ok (.if_icmp .eq 107, 3) := by decide +kernel
theorem dX13_scan_244 : decode cX13_scan 244 = .ok (.aload_n 0, 1) := by decide +kernel
theorem dX13_scan_245 : decode cX13_scan 245 = .ok (.invokevirtual 383, 3) := by decide +kernel
theorem dX13_scan_248 : decode cX13_scan 248 = .ok (.goto 100, 3) := by decide +kernel
theorem dX13_scan_251 : decode cX13_scan 251 = .ok (.iload_n 1, 1) := by decide +kernel
theorem dX13_scan_252 : decode cX13_scan 252 = .ok (.bipush 58, 2) := by decide +kernel
theorem dX13_scan_254 : decode cX13_scan 254 = .ok (.if_icmp .eq 75, 3) := by decide +kernel
theorem dX13_scan_257 : decode cX13_scan 257 = .ok (.iload_n 1, 1) := by decide +kernel
theorem dX13_scan_258 : decode cX13_scan 258 = .ok (.bipush 44, 2) := by decide +kernel
theorem dX13_scan_260 : decode cX13_scan 260 = .ok (.if_icmp .eq 69, 3) := by decide +kernel
theorem dX13_scan_263 : decode cX13_scan 263 = .ok (.iload_n 1, 1) := by decide +kernel
theorem dX13_scan_264 : decode cX13_scan 264 = .ok (.bipush 40, 2) := by decide +kernel
theorem dX13_scan_266 : decode cX13_scan 266 = .ok (.if_icmp .eq 63, 3) := by decide +kernel
theorem dX13_scan_269 : decode cX13_scan 269 = .ok (.iload_n 1, 1) := by decide +kernel
theorem dX13_scan_270 : decode cX13_scan 270 = .ok (.bipush 41, 2) := by decide +kernel
theorem dX13_scan_272 : decode cX13_scan 272 = .ok (.if_icmp .eq 57, 3) := by decide +kernel
theorem dX13_scan_275 : decode cX13_scan 275 = .ok (.iload_n 1, 1) := by decide +kernel
theorem dX13_scan_276 : decode cX13_scan 276 = .ok (.bipush 43, 2) := by decide +kernel
theorem dX13_scan_278 : decode cX13_scan 278 = .ok (.if_icmp .eq 51, 3) := by decide +kernel
theorem dX13_scan_281 : decode cX13_scan 281 = .ok (.iload_n 1, 1) := by decide +kernel
theorem dX13_scan_282 : decode cX13_scan 282 = .ok (.bipush 45, 2) := by decide +kernel
theorem dX13_scan_284 : decode cX13_scan 284 = .ok (.if_icmp .eq 45, 3) := by decide +kernel
theorem dX13_scan_287 : decode cX13_scan 287 = .ok (.iload_n 1, 1) := by decide +kernel
theorem dX13_scan_288 : decode cX13_scan 288 = .ok (.bipush 42, 2) := by decide +kernel
theorem dX13_scan_290 : decode cX13_scan 290 = .ok (.if_icmp .eq 39, 3) := by decide +kernel
theorem dX13_scan_293 : decode cX13_scan 293 = .ok (.iload_n 1, 1) := by decide +kernel
theorem dX13_scan_294 : decode cX13_scan 294 = .ok (.bipush 47, 2) := by decide +kernel
theorem dX13_scan_296 : decode cX13_scan 296 = .ok (.if_icmp .eq 33, 3) := by decide +kernel
theorem dX13_scan_299 : decode cX13_scan 299 = .ok (.iload_n 1, 1) := by decide +kernel
theorem dX13_scan_300 : decode cX13_scan 300 = .ok (.bipush 37, 2) := by decide +kernel
theorem dX13_scan_302 : decode cX13_scan 302 = .ok (.if_icmp .eq 27, 3) := by decide +kernel
theorem dX13_scan_305 : decode cX13_scan 305 = .ok (.iload_n 1, 1) := by decide +kernel
theorem dX13_scan_306 : decode cX13_scan 306 = .ok (.bipush 38, 2) := by decide +kernel
theorem dX13_scan_308 : decode cX13_scan 308 = .ok (.if_icmp .eq 21, 3) := by decide +kernel
theorem dX13_scan_311 : decode cX13_scan 311 = .ok (.iload_n 1, 1) := by decide +kernel
theorem dX13_scan_312 : decode cX13_scan 312 = .ok (.bipush 124, 2) := by decide +kernel
theorem dX13_scan_314 : decode cX13_scan 314 = .ok (.if_icmp .eq 15, 3) := by decide +kernel
theorem dX13_scan_317 : decode cX13_scan 317 = .ok (.iload_n 1, 1) := by decide +kernel
theorem dX13_scan_318 : decode cX13_scan 318 = .ok (.bipush 94, 2) := by decide +kernel
theorem dX13_scan_320 : decode cX13_scan 320 = .ok (.if_icmp .eq 9, 3) := by decide +kernel
theorem dX13_scan_323 : decode cX13_scan 323 = .ok (.iload_n 1, 1) := by decide +kernel
theorem dX13_scan_324 : decode cX13_scan 324 = .ok (.bipush 126, 2) := by decide +kernel
theorem dX13_scan_326 : decode cX13_scan 326 = .ok (.if_icmp .ne 7, 3) := by decide +kernel
theorem dX13_scan_329 : decode cX13_scan 329 = .ok (.iconst 1, 1) := by decide +kernel
theorem dX13_scan_330 : decode cX13_scan 330 = .ok (.goto 4, 3) := by decide +kernel
theorem dX13_scan_333 : decode cX13_scan 333 = .ok (.iconst 0, 1) := by decide +kernel
theorem dX13_scan_334 : decode cX13_scan 334 = .ok (.istore_n 2, 1) := by decide +kernel
theorem dX13_scan_335 : decode cX13_scan 335 = .ok (.aload_n 0, 1) := by decide +kernel
theorem dX13_scan_336 : decode cX13_scan 336 = .ok (.iload_n 1, 1) := by decide +kernel
theorem dX13_scan_337 : decode cX13_scan 337 = .ok (.putfield 365, 3) := by decide +kernel
theorem dX13_scan_340 : decode cX13_scan 340 = .ok (.iload_n 2, 1) := by decide +kernel
theorem dX13_scan_341 : decode cX13_scan 341 = .ok (.ifCond .ne 7, 3) := by decide +kernel
theorem dX13_scan_344 : decode cX13_scan 344 = .ok (.aload_n 0, 1) := by decide +kernel
theorem dX13_scan_345 : decode cX13_scan 345 = .ok (.invokevirtual 383, 3) := by decide +kernel
theorem dX13_scan_348 : decode cX13_scan 348 = .ok (.aload_n 0, 1) := by decide +kernel
theorem dX13_scan_349 : decode cX13_scan 349 = .ok (.aload_n 0, 1) := by decide +kernel
theorem dX13_scan_350 : decode cX13_scan 350 = .ok (.getfield 371, 3) := by decide +kernel
theorem dX13_scan_353 : decode cX13_scan 353 = .ok (.putfield 374, 3) := by decide +kernel
theorem dX13_scan_356 : decode cX13_scan 356 = .ok (.return_, 1) := by decide +kernel
theorem dX13_worth_0 : decode cX13_worth 0 = .ok (.iload_n 0, 1) := by decide +kernel
theorem dX13_worth_1 : decode cX13_worth 1 = .ok (.invokestatic 351, 3) := by decide +kernel
theorem dX13_worth_4 : decode cX13_worth 4 = .ok (.ifCond .eq 10, 3) := by decide +kernel
theorem dX13_worth_7 : decode cX13_worth 7 = .ok (.iload_n 0, 1) := by decide +kernel
theorem dX13_worth_8 : decode cX13_worth 8 = .ok (.bipush 48, 2) := by decide +kernel
theorem dX13_worth_10 : decode cX13_worth 10 = .ok (.isub, 1) := by decide +kernel
theorem dX13_worth_11 : decode cX13_worth 11 = .ok (.goto 49, 3) := by decide +kernel
theorem dX13_worth_14 : decode cX13_worth 14 = .ok (.iload_n 0, 1) := by decide +kernel
theorem dX13_worth_15 : decode cX13_worth 15 = .ok (.bipush 97, 2) := by decide +kernel
theorem dX13_worth_17 : decode cX13_worth 17 = .ok (.if_icmp .lt 19, 3) := by decide +kernel
theorem dX13_worth_20 : decode cX13_worth 20 = .ok (.iload_n 0, 1) := by decide +kernel
theorem dX13_worth_21 : decode cX13_worth 21 = .ok (.bipush 102, 2) := by decide +kernel
theorem dX13_worth_23 : decode cX13_worth 23 = .ok (.if_icmp .gt 13, 3) := by decide +kernel
theorem dX13_worth_26 : decode cX13_worth 26 = .ok (.iload_n 0, 1) := by decide +kernel
theorem dX13_worth_27 : decode cX13_worth 27 = .ok (.bipush 97, 2) := by decide +kernel
theorem dX13_worth_29 : decode cX13_worth 29 = .ok (.isub, 1) := by decide +kernel
theorem dX13_worth_30 : decode cX13_worth 30 = .ok (.bipush 10, 2) := by decide +kernel
theorem dX13_worth_32 : decode cX13_worth 32 = .ok (.iadd, 1) := by decide +kernel
theorem dX13_worth_33 : decode cX13_worth 33 = .ok (.goto 27, 3) := by decide +kernel
theorem dX13_worth_36 : decode cX13_worth 36 = .ok (.iload_n 0, 1) := by decide +kernel
theorem dX13_worth_37 : decode cX13_worth 37 = .ok (.bipush 65, 2) := by decide +kernel
theorem dX13_worth_39 : decode cX13_worth 39 = .ok (.if_icmp .lt 19, 3) := by decide +kernel
theorem dX13_worth_42 : decode cX13_worth 42 = .ok (.iload_n 0, 1) := by decide +kernel
theorem dX13_worth_43 : decode cX13_worth 43 = .ok (.bipush 70, 2) := by decide +kernel
theorem dX13_worth_45 : decode cX13_worth 45 = .ok (.if_icmp .gt 13, 3) := by decide +kernel
theorem dX13_worth_48 : decode cX13_worth 48 = .ok (.iload_n 0, 1) := by decide +kernel
theorem dX13_worth_49 : decode cX13_worth 49 = .ok (.bipush 65, 2) := by decide +kernel
theorem dX13_worth_51 : decode cX13_worth 51 = .ok (.isub, 1) := by decide +kernel
theorem dX13_worth_52 : decode cX13_worth 52 = .ok (.bipush 10, 2) := by decide +kernel
theorem dX13_worth_54 : decode cX13_worth 54 = .ok (.iadd, 1) := by decide +kernel
theorem dX13_worth_55 : decode cX13_worth 55 = .ok (.goto 5, 3) := by decide +kernel
theorem dX13_worth_58 : decode cX13_worth 58 = .ok (.bipush 99, 2) := by decide +kernel
theorem dX13_worth_60 : decode cX13_worth 60 = .ok (.ireturn, 1) := by decide +kernel
theorem dX13_numeral_0 : decode cX13_numeral 0 = .ok (.iload_n 1, 1) := by decide +kernel
theorem dX13_numeral_1 : decode cX13_numeral 1 = .ok (.iload_n 2, 1) := by decide +kernel
theorem dX13_numeral_2 : decode cX13_numeral 2 = .ok (.if_icmp .ge 7, 3) := by decide +kernel
theorem dX13_numeral_5 : decode cX13_numeral 5 = .ok (.lconst 0, 1) := by decide +kernel
theorem dX13_numeral_6 : decode cX13_numeral 6 = .ok (.goto 6, 3) := by decide +kernel
theorem dX13_numeral_9 : decode cX13_numeral 9 = .ok (.ldc2_w 392, 3) := by decide +kernel
theorem dX13_numeral_12 : decode cX13_numeral 12 = .ok (.lstore 4, 2) := by decide +kernel
theorem dX13_numeral_14 : decode cX13_numeral 14 = .ok (.iload_n 1, 1) := by decide +kernel
theorem dX13_numeral_15 : decode cX13_numeral 15 = .ok (.istore 6, 2) := by decide +kernel
theorem dX13_numeral_17 : decode cX13_numeral 17 = .ok (.iload 6, 2) := by decide +kernel
theorem dX13_numeral_19 : decode cX13_numeral 19 = .ok (.iload_n 2, 1) := by decide +kernel
theorem dX13_numeral_20 : decode cX13_numeral 20 = .ok (.if_icmp .ge 70, 3) := by decide +kernel
theorem dX13_numeral_23 : decode cX13_numeral 23 = .ok (.lload 4, 2) := by decide +kernel
theorem dX13_numeral_25 : decode cX13_numeral 25 = .ok (.lconst 0, 1) := by decide +kernel
theorem dX13_numeral_26 : decode cX13_numeral 26 = .ok (.lcmp, 1) := by decide +kernel
theorem dX13_numeral_27 : decode cX13_numeral 27 = .ok (.ifCond .lt 63, 3) := by decide +kernel
theorem dX13_numeral_30 : decode cX13_numeral 30 = .ok (.aload_n 0, 1) := by decide +kernel
theorem dX13_numeral_31 : decode cX13_numeral 31 = .ok (.getfield 324, 3) := by decide +kernel
theorem dX13_numeral_34 : decode cX13_numeral 34 = .ok (.iload 6, 2) := by decide +kernel
theorem dX13_numeral_36 : decode cX13_numeral 36 = .ok (.caload, 1) := by decide +kernel
theorem dX13_numeral_37 : decode cX13_numeral 37 = .ok (.invokestatic 394, 3) := by decide +kernel
theorem dX13_numeral_40 : decode cX13_numeral 40 = .ok (.istore 7, 2) := by decide +kernel
theorem dX13_numeral_42 : decode cX13_numeral 42 = .ok (.iload 7, 2) := by decide +kernel
theorem dX13_numeral_44 : decode cX13_numeral 44 = .ok (.iload_n 3, 1) := by decide +kernel
theorem dX13_numeral_45 : decode cX13_numeral 45 = .ok (.if_icmp .ge 15, 3) := by decide +kernel
theorem dX13_numeral_48 : decode cX13_numeral 48 = .ok (.lload 4, 2) := by decide +kernel
theorem dX13_numeral_50 : decode cX13_numeral 50 = .ok (.iload_n 3, 1) := by decide +kernel
theorem dX13_numeral_51 : decode cX13_numeral 51 = .ok (.i2l, 1) := by decide +kernel
theorem dX13_numeral_52 : decode cX13_numeral 52 = .ok (.lmul, 1) := by decide +kernel
theorem dX13_numeral_53 : decode cX13_numeral 53 = .ok (.iload 7, 2) := by decide +kernel
theorem dX13_numeral_55 : decode cX13_numeral 55 = .ok (.i2l, 1) := by decide +kernel
theorem dX13_numeral_56 : decode cX13_numeral 56 = .ok (.ladd, 1) := by decide +kernel
theorem dX13_numeral_57 : decode cX13_numeral 57 = .ok (.goto 6, 3) := by decide +kernel
theorem dX13_numeral_60 : decode cX13_numeral 60 = .ok (.ldc2_w 392, 3) := by decide +kernel
theorem dX13_numeral_63 : decode cX13_numeral 63 = .ok (.lstore 4, 2) := by decide +kernel
theorem dX13_numeral_65 : decode cX13_numeral 65 = .ok (.lload 4, 2) := by decide +kernel
theorem dX13_numeral_67 : decode cX13_numeral 67 = .ok (.ldc2_w 397, 3) := by decide +kernel
theorem dX13_numeral_70 : decode cX13_numeral 70 = .ok (.lcmp, 1) := by decide +kernel
theorem dX13_numeral_71 : decode cX13_numeral 71 = .ok (.ifCond .le 9, 3) := by decide +kernel
theorem dX13_numeral_74 : decode cX13_numeral 74 = .ok (.ldc2_w 392, 3) := by decide +kernel
theorem dX13_numeral_77 : decode cX13_numeral 77 = .ok (.goto 5, 3) := by decide +kernel
theorem dX13_numeral_80 : decode cX13_numeral 80 = .ok (.lload 4, 2) := by decide +kernel
theorem dX13_numeral_82 : decode cX13_numeral 82 = .ok (.lstore 4, 2) := by decide +kernel
theorem dX13_numeral_84 : decode cX13_numeral 84 = .ok (.iinc 6 1, 3) := by decide +kernel
theorem dX13_numeral_87 : decode cX13_numeral 87 = .ok (.goto (-70), 3) := by decide +kernel
theorem dX13_numeral_90 : decode cX13_numeral 90 = .ok (.lload 4, 2) := by decide +kernel
theorem dX13_numeral_92 : decode cX13_numeral 92 = .ok (.lreturn, 1) := by decide +kernel
theorem dX13_digits_0 : decode cX13_digits 0 = .ok (.aload_n 0, 1) := by decide +kernel
theorem dX13_digits_1 : decode cX13_digits 1 = .ok (.getfield 371, 3) := by decide +kernel
theorem dX13_digits_4 : decode cX13_digits 4 = .ok (.aload_n 0, 1) := by decide +kernel
theorem dX13_digits_5 : decode cX13_digits 5 = .ok (.getfield 368, 3) := by decide +kernel
theorem dX13_digits_8 : decode cX13_digits 8 = .ok (.isub, 1) := by decide +kernel
theorem dX13_digits_9 : decode cX13_digits 9 = .ok (.iconst 1, 1) := by decide +kernel
theorem dX13_digits_10 : decode cX13_digits 10 = .ok (.if_icmp .le 17, 3) := by decide +kernel
theorem dX13_digits_13 : decode cX13_digits 13 = .ok (.aload_n 0, 1) := by decide +kernel
theorem dX13_digits_14 : decode cX13_digits 14 = .ok (.getfield 324, 3) := by decide +kernel
theorem dX13_digits_17 : decode cX13_digits 17 = .ok (.aload_n 0, 1) := by decide +kernel
theorem dX13_digits_18 : decode cX13_digits 18 = .ok (.getfield 368, 3) := by decide +kernel
theorem dX13_digits_21 : decode cX13_digits 21 = .ok (.iconst 1, 1) := by decide +kernel
theorem dX13_digits_22 : decode cX13_digits 22 = .ok (.iadd, 1) := by decide +kernel
theorem dX13_digits_23 : decode cX13_digits 23 = .ok (.caload, 1) := by decide +kernel
theorem dX13_digits_24 : decode cX13_digits 24 = .ok (.goto 4, 3) := by decide +kernel
theorem dX13_digits_27 : decode cX13_digits 27 = .ok (.iconst 0, 1) := by decide +kernel
theorem dX13_digits_28 : decode cX13_digits 28 = .ok (.istore_n 1, 1) := by decide +kernel
theorem dX13_digits_29 : decode cX13_digits 29 = .ok (.aload_n 0, 1) := by decide +kernel
theorem dX13_digits_30 : decode cX13_digits 30 = .ok (.getfield 371, 3) := by decide +kernel
theorem dX13_digits_33 : decode cX13_digits 33 = .ok (.aload_n 0, 1) := by decide +kernel
theorem dX13_digits_34 : decode cX13_digits 34 = .ok (.getfield 368, 3) := by decide +kernel
theorem dX13_digits_37 : decode cX13_digits 37 = .ok (.isub, 1) := by decide +kernel
theorem dX13_digits_38 : decode cX13_digits 38 = .ok (.iconst 2, 1) := by decide +kernel
theorem dX13_digits_39 : decode cX13_digits 39 = .ok (.if_icmp .ne 19, 3) := by decide +kernel
theorem dX13_digits_42 : decode cX13_digits 42 = .ok (.iload_n 1, 1) := by decide +kernel
theorem dX13_digits_43 : decode cX13_digits 43 = .ok (.bipush 102, 2) := by decide +kernel
theorem dX13_digits_45 : decode cX13_digits 45 = .ok (.if_icmp .eq 9, 3) := by decide +kernel
theorem dX13_digits_48 : decode cX13_digits 48 = .ok (.iload_n 1, 1) := by decide +kernel
theorem dX13_digits_49 : decode cX13_digits 49 = .ok (.bipush 98, 2) := by decide +kernel
theorem dX13_digits_51 : decode cX13_digits 51 = .ok (.if_icmp .ne 7, 3) := by decide +kernel
theorem dX13_digits_54 : decode cX13_digits 54 = .ok (.iconst 1, 1) := by decide +kernel
theorem dX13_digits_55 : decode cX13_digits 55 = .ok (.goto 4, 3) := by decide +kernel
theorem dX13_digits_58 : decode cX13_digits 58 = .ok (.iconst 0, 1) := by decide +kernel
theorem dX13_digits_59 : decode cX13_digits 59 = .ok (.istore_n 2, 1) := by decide +kernel
theorem dX13_digits_60 : decode cX13_digits 60 = .ok (.iload_n 2, 1) := by decide +kernel
theorem dX13_digits_61 : decode cX13_digits 61 = .ok (.ifCond .eq 25, 3) := by decide +kernel
theorem dX13_digits_64 : decode cX13_digits 64 = .ok (.aload_n 0, 1) := by decide +kernel
theorem dX13_digits_65 : decode cX13_digits 65 = .ok (.iconst 3, 1) := by decide +kernel
theorem dX13_digits_66 : decode cX13_digits 66 = .ok (.putfield 365, 3) := by decide +kernel
theorem dX13_digits_69 : decode cX13_digits 69 = .ok (.aload_n 0, 1) := by decide +kernel
theorem dX13_digits_70 : decode cX13_digits 70 = .ok (.aload_n 0, 1) := by decide +kernel
theorem dX13_digits_71 : decode cX13_digits 71 = .ok (.getfield 324, 3) := by decide +kernel
theorem dX13_digits_74 : decode cX13_digits 74 = .ok (.aload_n 0, 1) := by decide +kernel
theorem dX13_digits_75 : decode cX13_digits 75 = .ok (.getfield 368, 3) := by decide +kernel
theorem dX13_digits_78 : decode cX13_digits 78 = .ok (.caload, 1) := by decide +kernel
theorem dX13_digits_79 : decode cX13_digits 79 = .ok (.bipush 48, 2) := by decide +kernel
theorem dX13_digits_81 : decode cX13_digits 81 = .ok (.isub, 1) := by decide +kernel
theorem dX13_digits_82 : decode cX13_digits 82 = .ok (.putfield 399, 3) := by decide +kernel
theorem dX13_digits_85 : decode cX13_digits 85 = .ok (.return_, 1) := by decide +kernel
theorem dX13_digits_86 : decode cX13_digits 86 = .ok (.aload_n 0, 1) := by decide +kernel
theorem dX13_digits_87 : decode cX13_digits 87 = .ok (.getfield 324, 3) := by decide +kernel
theorem dX13_digits_90 : decode cX13_digits 90 = .ok (.aload_n 0, 1) := by decide +kernel
theorem dX13_digits_91 : decode cX13_digits 91 = .ok (.getfield 368, 3) := by decide +kernel
theorem dX13_digits_94 : decode cX13_digits 94 = .ok (.caload, 1) := by decide +kernel
theorem dX13_digits_95 : decode cX13_digits 95 = .ok (.bipush 48, 2) := by decide +kernel
theorem dX13_digits_97 : decode cX13_digits 97 = .ok (.if_icmp .ne 7, 3) := by decide +kernel
theorem dX13_digits_100 : decode cX13_digits 100 = .ok (.iconst 1, 1) := by decide +kernel
theorem dX13_digits_101 : decode cX13_digits 101 = .ok (.goto 4, 3) := by decide +kernel
theorem dX13_digits_104 : decode cX13_digits 104 = .ok (.iconst 0, 1) := by decide +kernel
theorem dX13_digits_105 : decode cX13_digits 105 = .ok (.istore_n 3, 1) := by decide +kernel
theorem dX13_digits_106 : decode cX13_digits 106 = .ok (.iload_n 3, 1) := by decide +kernel
theorem dX13_digits_107 : decode cX13_digits 107 = .ok (.ifCond .eq 28, 3) := by decide +kernel
theorem dX13_digits_110 : decode cX13_digits 110 = .ok (.iload_n 1, 1) := by decide +kernel
theorem dX13_digits_111 : decode cX13_digits 111 = .ok (.bipush 120, 2) := by decide +kernel
theorem dX13_digits_113 : decode cX13_digits 113 = .ok (.if_icmp .ne 22, 3) := by decide +kernel
theorem dX13_digits_116 : decode cX13_digits 116 = .ok (.aload_n 0, 1) := by decide +kernel
theorem dX13_digits_117 : decode cX13_digits 117 = .ok (.aload_n 0, 1) := by decide +kernel
theorem dX13_digits_118 : decode cX13_digits 118 = .ok (.getfield 368, 3) := by decide +kernel
theorem dX13_digits_121 : decode cX13_digits 121 = .ok (.iconst 2, 1) := by decide +kernel
theorem dX13_digits_122 : decode cX13_digits 122 = .ok (.iadd, 1) := by decide +kernel
theorem dX13_digits_123 : decode cX13_digits 123 = .ok (.aload_n 0, 1) := by decide +kernel
theorem dX13_digits_124 : decode cX13_digits 124 = .ok (.getfield 371, 3) := by decide +kernel
theorem dX13_digits_127 : decode cX13_digits 127 = .ok (.bipush 16, 2) := by decide +kernel
theorem dX13_digits_129 : decode cX13_digits 129 = .ok (.invokevirtual 402, 3) := by decide +kernel
theorem dX13_digits_132 : decode cX13_digits 132 = .ok (.goto 45, 3) := by decide +kernel
theorem dX13_digits_135 : decode cX13_digits 135 = .ok (.iload_n 3, 1) := by decide +kernel
theorem dX13_digits_136 : decode cX13_digits 136 = .ok (.ifCond .eq 27, 3) := by decide +kernel
theorem dX13_digits_139 : decode cX13_digits 139 = .ok (.iload_n 1, 1) := by decide +kernel
theorem dX13_digits_140 : decode cX13_digits 140 = .ok (.bipush 98, 2) := by decide +kernel
theorem dX13_digits_142 : decode cX13_digits 142 = .ok (.if_icmp .ne 21, 3) := by decide +kernel
theorem dX13_digits_145 : decode cX13_digits 145 = .ok (.aload_n 0, 1) := by decide +kernel
theorem dX13_digits_146 : decode cX13_digits 146 = .ok (.aload_n 0, 1) := by decide +kernel
theorem dX13_digits_147 : decode cX13_digits 147 = .ok (.getfield 368, 3) := by decide +kernel
theorem dX13_digits_150 : decode cX13_digits 150 = .ok (.iconst 2, 1) := by decide +kernel
theorem dX13_digits_151 : decode cX13_digits 151 = .ok (.iadd, 1) := by decide +kernel
theorem dX13_digits_152 : decode cX13_digits 152 = .ok (.aload_n 0, 1) := by decide +kernel
theorem dX13_digits_153 : decode cX13_digits 153 = .ok (.getfield 371, 3) := by decide +kernel
theorem dX13_digits_156 : decode cX13_digits 156 = .ok (.iconst 2, 1) := by decide +kernel
theorem dX13_digits_157 : decode cX13_digits 157 = .ok (.invokevirtual 402, 3) := by decide +kernel
theorem dX13_digits_160 : decode cX13_digits 160 = .ok (.goto 17, 3) := by decide +kernel
theorem dX13_digits_163 : decode cX13_digits 163 = .ok (.aload_n 0, 1) := by decide +kernel
theorem dX13_digits_164 : decode cX13_digits 164 = .ok (.aload_n 0, 1) := by decide +kernel
theorem dX13_digits_165 : decode cX13_digits 165 = .ok (.getfield 368, 3) := by decide +kernel
theorem dX13_digits_168 : decode cX13_digits 168 = .ok (.aload_n 0, 1) := by decide +kernel
theorem dX13_digits_169 : decode cX13_digits 169 = .ok (.getfield 371, 3) := by decide +kernel
theorem dX13_digits_172 : decode cX13_digits 172 = .ok (.bipush 10, 2) := by decide +kernel
theorem dX13_digits_174 : decode cX13_digits 174 = .ok (.invokevirtual 402, 3) := by decide +kernel
theorem dX13_digits_177 : decode cX13_digits 177 = .ok (.lstore 4, 2) := by decide +kernel
theorem dX13_digits_179 : decode cX13_digits 179 = .ok (.aload_n 0, 1) := by decide +kernel
theorem dX13_digits_180 : decode cX13_digits 180 = .ok (.iconst 2, 1) := by decide +kernel
theorem dX13_digits_181 : decode cX13_digits 181 = .ok (.putfield 365, 3) := by decide +kernel
theorem dX13_digits_184 : decode cX13_digits 184 = .ok (.aload_n 0, 1) := by decide +kernel
theorem dX13_digits_185 : decode cX13_digits 185 = .ok (.lload 4, 2) := by decide +kernel
theorem dX13_digits_187 : decode cX13_digits 187 = .ok (.l2i, 1) := by decide +kernel
theorem dX13_digits_188 : decode cX13_digits 188 = .ok (.putfield 399, 3) := by decide +kernel
theorem dX13_digits_191 : decode cX13_digits 191 = .ok (.lload 4, 2) := by decide +kernel
theorem dX13_digits_193 : decode cX13_digits 193 = .ok (.lconst 0, 1) := by decide +kernel
theorem dX13_digits_194 : decode cX13_digits 194 = .ok (.lcmp, 1) := by decide +kernel
theorem dX13_digits_195 : decode cX13_digits 195 = .ok (.ifCond .ge 7, 3) := by decide +kernel
theorem dX13_digits_198 : decode cX13_digits 198 = .ok (.aload_n 0, 1) := by decide +kernel
theorem dX13_digits_199 : decode cX13_digits 199 = .ok (.invokevirtual 383, 3) := by decide +kernel
theorem dX13_digits_202 : decode cX13_digits 202 = .ok (.return_, 1) := by decide +kernel
theorem dX13_shown_0 : decode cX13_shown 0 = .ok (.aload_n 0, 1) := by decide +kernel
theorem dX13_shown_1 : decode cX13_shown 1 = .ok (.iload_n 1, 1) := by decide +kernel
theorem dX13_shown_2 : decode cX13_shown 2 = .ok (.invokevirtual 358, 3) := by decide +kernel
theorem dX13_shown_5 : decode cX13_shown 5 = .ok (.istore_n 3, 1) := by decide +kernel
theorem dX13_shown_6 : decode cX13_shown 6 = .ok (.aload_n 0, 1) := by decide +kernel
theorem dX13_shown_7 : decode cX13_shown 7 = .ok (.iload_n 1, 1) := by decide +kernel
theorem dX13_shown_8 : decode cX13_shown 8 = .ok (.iconst 1, 1) := by decide +kernel
theorem dX13_shown_9 : decode cX13_shown 9 = .ok (.iadd, 1) := by decide +kernel
theorem dX13_shown_10 : decode cX13_shown 10 = .ok (.putfield 371, 3) := by decide +kernel
theorem dX13_shown_13 : decode cX13_shown 13 = .ok (.iload_n 3, 1) := by decide +kernel
theorem dX13_shown_14 : decode cX13_shown 14 = .ok (.iload_n 2, 1) := by decide +kernel
theorem dX13_shown_15 : decode cX13_shown 15 = .ok (.if_icmp .eq 21, 3) := by decide +kernel
theorem dX13_shown_18 : decode cX13_shown 18 = .ok (.iload_n 3, 1) := by decide +kernel
theorem dX13_shown_19 : decode cX13_shown 19 = .ok (.bipush 9, 2) := by decide +kernel
theorem dX13_shown_21 : decode cX13_shown 21 = .ok (.if_icmp .eq 17, 3) := by decide +kernel
theorem dX13_shown_24 : decode cX13_shown 24 = .ok (.iload_n 3, 1) := by decide +kernel
theorem dX13_shown_25 : decode cX13_shown 25 = .ok (.bipush 32, 2) := by decide +kernel
theorem dX13_shown_27 : decode cX13_shown 27 = .ok (.if_icmp .lt 9, 3) := by decide +kernel
theorem dX13_shown_30 : decode cX13_shown 30 = .ok (.iload_n 3, 1) := by decide +kernel
theorem dX13_shown_31 : decode cX13_shown 31 = .ok (.bipush 126, 2) := by decide +kernel
theorem dX13_shown_33 : decode cX13_shown 33 = .ok (.if_icmp .le 5, 3) := by decide +kernel
theorem dX13_shown_36 : decode cX13_shown 36 = .ok (.iconst (-1), 1) := by decide +kernel
theorem dX13_shown_37 : decode cX13_shown 37 = .ok (.ireturn, 1) := by decide +kernel
theorem dX13_shown_38 : decode cX13_shown 38 = .ok (.iload_n 3, 1) := by decide +kernel
theorem dX13_shown_39 : decode cX13_shown 39 = .ok (.bipush 92, 2) := by decide +kernel
theorem dX13_shown_41 : decode cX13_shown 41 = .ok (.if_icmp .eq 5, 3) := by decide +kernel
theorem dX13_shown_44 : decode cX13_shown 44 = .ok (.iload_n 3, 1) := by decide +kernel
theorem dX13_shown_45 : decode cX13_shown 45 = .ok (.ireturn, 1) := by decide +kernel
theorem dX13_shown_46 : decode cX13_shown 46 = .ok (.aload_n 0, 1) := by decide +kernel
theorem dX13_shown_47 : decode cX13_shown 47 = .ok (.iload_n 1, 1) := by decide +kernel
theorem dX13_shown_48 : decode cX13_shown 48 = .ok (.iconst 1, 1) := by decide +kernel
theorem dX13_shown_49 : decode cX13_shown 49 = .ok (.iadd, 1) := by decide +kernel
theorem dX13_shown_50 : decode cX13_shown 50 = .ok (.invokevirtual 358, 3) := by decide +kernel
theorem dX13_shown_53 : decode cX13_shown 53 = .ok (.istore 4, 2) := by decide +kernel
theorem dX13_shown_55 : decode cX13_shown 55 = .ok (.aload_n 0, 1) := by decide +kernel
theorem dX13_shown_56 : decode cX13_shown 56 = .ok (.iload_n 1, 1) := by decide +kernel
theorem dX13_shown_57 : decode cX13_shown 57 = .ok (.iconst 2, 1) := by decide +kernel
theorem dX13_shown_58 : decode cX13_shown 58 = .ok (.iadd, 1) := by decide +kernel
theorem dX13_shown_59 : decode cX13_shown 59 = .ok (.putfield 371, 3) := by decide +kernel
theorem dX13_shown_62 : decode cX13_shown 62 = .ok (.iload 4, 2) := by decide +kernel
theorem dX13_shown_64 : decode cX13_shown 64 = .ok (.bipush 110, 2) := by decide +kernel
theorem dX13_shown_66 : decode cX13_shown 66 = .ok (.if_icmp .ne 8, 3) := by decide +kernel
theorem dX13_shown_69 : decode cX13_shown 69 = .ok (.bipush 10, 2) := by decide +kernel
theorem dX13_shown_71 : decode cX13_shown 71 = .ok (.goto 53, 3) := by decide +kernel
theorem dX13_shown_74 : decode cX13_shown 74 = .ok (.iload 4, 2) := by decide +kernel
theorem dX13_shown_76 : decode cX13_shown 76 = .ok (.bipush 116, 2) := by decide +kernel
theorem dX13_shown_78 : decode cX13_shown 78 = .ok (.if_icmp .ne 8, 3) := by decide +kernel
theorem dX13_shown_81 : decode cX13_shown 81 = .ok (.bipush 9, 2) := by decide +kernel
theorem dX13_shown_83 : decode cX13_shown 83 = .ok (.goto 41, 3) := by decide +kernel
theorem dX13_shown_86 : decode cX13_shown 86 = .ok (.iload 4, 2) := by decide +kernel
theorem dX13_shown_88 : decode cX13_shown 88 = .ok (.bipush 48, 2) := by decide +kernel
theorem dX13_shown_90 : decode cX13_shown 90 = .ok (.if_icmp .ne 7, 3) := by decide +kernel
theorem dX13_shown_93 : decode cX13_shown 93 = .ok (.iconst 0, 1) := by decide +kernel
theorem dX13_shown_94 : decode cX13_shown 94 = .ok (.goto 30, 3) := by decide +kernel
theorem dX13_shown_97 : decode cX13_shown 97 = .ok (.iload 4, 2) := by decide +kernel
theorem dX13_shown_99 : decode cX13_shown 99 = .ok (.bipush 92, 2) := by decide +kernel
theorem dX13_shown_101 : decode cX13_shown 101 = .ok (.if_icmp .eq 17, 3) := by decide +kernel
theorem dX13_shown_104 : decode cX13_shown 104 = .ok (.iload 4, 2) := by decide +kernel
theorem dX13_shown_106 : decode cX13_shown 106 = .ok (.bipush 39, 2) := by decide +kernel
theorem dX13_shown_108 : decode cX13_shown 108 = .ok (.if_icmp .eq 10, 3) := by decide +kernel
theorem dX13_shown_111 : decode cX13_shown 111 = .ok (.iload 4, 2) := by decide +kernel
theorem dX13_shown_113 : decode cX13_shown 113 = .ok (.bipush 34, 2) := by decide +kernel
theorem dX13_shown_115 : decode cX13_shown 115 = .ok (.if_icmp .ne 8, 3) := by decide +kernel
theorem dX13_shown_118 : decode cX13_shown 118 = .ok (.iload 4, 2) := by decide +kernel
theorem dX13_shown_120 : decode cX13_shown 120 = .ok (.goto 4, 3) := by decide +kernel
theorem dX13_shown_123 : decode cX13_shown 123 = .ok (.iconst (-1), 1) := by decide +kernel
theorem dX13_shown_124 : decode cX13_shown 124 = .ok (.ireturn, 1) := by decide +kernel
theorem dX13_character_0 : decode cX13_character 0 = .ok (.aload_n 0, 1) := by decide +kernel
theorem dX13_character_1 : decode cX13_character 1 = .ok (.aload_n 0, 1) := by decide +kernel
theorem dX13_character_2 : decode cX13_character 2 = .ok (.aload_n 0, 1) := by decide +kernel
theorem dX13_character_3 : decode cX13_character 3 = .ok (.getfield 374, 3) := by decide +kernel
theorem dX13_character_6 : decode cX13_character 6 = .ok (.iconst 1, 1) := by decide +kernel
theorem dX13_character_7 : decode cX13_character 7 = .ok (.iadd, 1) := by decide +kernel
theorem dX13_character_8 : decode cX13_character 8 = .ok (.bipush 39, 2) := by decide +kernel
theorem dX13_character_10 : decode cX13_character 10 = .ok (.invokevirtual 406, 3) := by decide +kernel
theorem dX13_character_13 : decode cX13_character 13 = .ok (.putfield 399, 3) := by decide +kernel
theorem dX13_character_16 : decode cX13_character 16 = .ok (.aload_n 0, 1) := by decide +kernel
theorem dX13_character_17 : decode cX13_character 17 = .ok (.iconst 2, 1) := by decide +kernel
theorem dX13_character_18 : decode cX13_character 18 = .ok (.putfield 365, 3) := by decide +kernel
theorem dX13_character_21 : decode cX13_character 21 = .ok (.aload_n 0, 1) := by decide +kernel
theorem dX13_character_22 : decode cX13_character 22 = .ok (.getfield 399, 3) := by decide +kernel
theorem dX13_character_25 : decode cX13_character 25 = .ok (.ifCond .lt 20, 3) := by decide +kernel
theorem dX13_character_28 : decode cX13_character 28 = .ok (.aload_n 0, 1) := by decide +kernel
theorem dX13_character_29 : decode cX13_character 29 = .ok (.aload_n 0, 1) := by decide +kernel
theorem dX13_character_30 : decode cX13_character 30 = .ok (.getfield 371, 3) := by decide +kernel
theorem dX13_character_33 : decode cX13_character 33 = .ok (.invokevirtual 358, 3) := by decide +kernel
theorem dX13_character_36 : decode cX13_character 36 = .ok (.bipush 39, 2) := by decide +kernel
theorem dX13_character_38 : decode cX13_character 38 = .ok (.if_icmp .ne 7, 3) := by decide +kernel
theorem dX13_character_41 : decode cX13_character 41 = .ok (.iconst 1, 1) := by decide +kernel
theorem dX13_character_42 : decode cX13_character 42 = .ok (.goto 4, 3) := by decide +kernel
theorem dX13_character_45 : decode cX13_character 45 = .ok (.iconst 0, 1) := by decide +kernel
theorem dX13_character_46 : decode cX13_character 46 = .ok (.istore_n 1, 1) := by decide +kernel
theorem dX13_character_47 : decode cX13_character 47 = .ok (.aload_n 0, 1) := by decide +kernel
theorem dX13_character_48 : decode cX13_character 48 = .ok (.dup, 1) := by decide +kernel
theorem dX13_character_49 : decode cX13_character 49 = .ok (.getfield 371, 3) := by decide +kernel
theorem dX13_character_52 : decode cX13_character 52 = .ok (.iconst 1, 1) := by decide +kernel
theorem dX13_character_53 : decode cX13_character 53 = .ok (.iadd, 1) := by decide +kernel
theorem dX13_character_54 : decode cX13_character 54 = .ok (.putfield 371, 3) := by decide +kernel
theorem dX13_character_57 : decode cX13_character 57 = .ok (.iload_n 1, 1) := by decide +kernel
theorem dX13_character_58 : decode cX13_character 58 = .ok (.ifCond .eq 17, 3) := by decide +kernel
theorem dX13_character_61 : decode cX13_character 61 = .ok (.aload_n 0, 1) := by decide +kernel
theorem dX13_character_62 : decode cX13_character 62 = .ok (.aload_n 0, 1) := by decide +kernel
theorem dX13_character_63 : decode cX13_character 63 = .ok (.getfield 371, 3) := by decide +kernel
theorem dX13_character_66 : decode cX13_character 66 = .ok (.invokevirtual 358, 3) := by decide +kernel
theorem dX13_character_69 : decode cX13_character 69 = .ok (.invokestatic 362, 3) := by decide +kernel
theorem dX13_character_72 : decode cX13_character 72 = .ok (.ifCond .eq 7, 3) := by decide +kernel
theorem dX13_character_75 : decode cX13_character 75 = .ok (.aload_n 0, 1) := by decide +kernel
theorem dX13_character_76 : decode cX13_character 76 = .ok (.invokevirtual 383, 3) := by decide +kernel
theorem dX13_character_79 : decode cX13_character 79 = .ok (.return_, 1) := by decide +kernel
theorem dX13_quote_0 : decode cX13_quote 0 = .ok (.aload_n 0, 1) := by decide +kernel
theorem dX13_quote_1 : decode cX13_quote 1 = .ok (.iconst 4, 1) := by decide +kernel
theorem dX13_quote_2 : decode cX13_quote 2 = .ok (.putfield 365, 3) := by decide +kernel
theorem dX13_quote_5 : decode cX13_quote 5 = .ok (.aload_n 0, 1) := by decide +kernel
theorem dX13_quote_6 : decode cX13_quote 6 = .ok (.getfield 374, 3) := by decide +kernel
theorem dX13_quote_9 : decode cX13_quote 9 = .ok (.iconst 1, 1) := by decide +kernel
theorem dX13_quote_10 : decode cX13_quote 10 = .ok (.iadd, 1) := by decide +kernel
theorem dX13_quote_11 : decode cX13_quote 11 = .ok (.istore_n 1, 1) := by decide +kernel
theorem dX13_quote_12 : decode cX13_quote 12 = .ok (.iconst 0, 1) := by decide +kernel
theorem dX13_quote_13 : decode cX13_quote 13 = .ok (.istore_n 2, 1) := by decide +kernel
theorem dX13_quote_14 : decode cX13_quote 14 = .ok (.iload_n 2, 1) := by decide +kernel
theorem dX13_quote_15 : decode cX13_quote 15 = .ok (.ifCond .lt 29, 3) := by decide +kernel
theorem dX13_quote_18 : decode cX13_quote 18 = .ok (.aload_n 0, 1) := by decide +kernel
theorem dX13_quote_19 : decode cX13_quote 19 = .ok (.iload_n 1, 1) := by decide +kernel
theorem dX13_quote_20 : decode cX13_quote 20 = .ok (.invokevirtual 358, 3) := by decide +kernel
theorem dX13_quote_23 : decode cX13_quote 23 = .ok (.bipush 34, 2) := by decide +kernel
theorem dX13_quote_25 : decode cX13_quote 25 = .ok (.if_icmp .eq 19, 3) := by decide +kernel
theorem dX13_quote_28 : decode cX13_quote 28 = .ok (.aload_n 0, 1) := by decide +kernel
theorem dX13_quote_29 : decode cX13_quote 29 = .ok (.iload_n 1, 1) := by decide +kernel
theorem dX13_quote_30 : decode cX13_quote 30 = .ok (.bipush 34, 2) := by decide +kernel
theorem dX13_quote_32 : decode cX13_quote 32 = .ok (.invokevirtual 406, 3) := by decide +kernel
theorem dX13_quote_35 : decode cX13_quote 35 = .ok (.istore_n 2, 1) := by decide +kernel
theorem dX13_quote_36 : decode cX13_quote 36 = .ok (.aload_n 0, 1) := by decide +kernel
theorem dX13_quote_37 : decode cX13_quote 37 = .ok (.getfield 371, 3) := by decide +kernel
theorem dX13_quote_40 : decode cX13_quote 40 = .ok (.istore_n 1, 1) := by decide +kernel
theorem dX13_quote_41 : decode cX13_quote 41 = .ok (.goto (-27), 3) := by decide +kernel
theorem dX13_quote_44 : decode cX13_quote 44 = .ok (.aload_n 0, 1) := by decide +kernel
theorem dX13_quote_45 : decode cX13_quote 45 = .ok (.iload_n 1, 1) := by decide +kernel
theorem dX13_quote_46 : decode cX13_quote 46 = .ok (.iconst 1, 1) := by decide +kernel
theorem dX13_quote_47 : decode cX13_quote 47 = .ok (.iadd, 1) := by decide +kernel
theorem dX13_quote_48 : decode cX13_quote 48 = .ok (.putfield 371, 3) := by decide +kernel
theorem dX13_quote_51 : decode cX13_quote 51 = .ok (.iload_n 2, 1) := by decide +kernel
theorem dX13_quote_52 : decode cX13_quote 52 = .ok (.ifCond .ge 7, 3) := by decide +kernel
theorem dX13_quote_55 : decode cX13_quote 55 = .ok (.aload_n 0, 1) := by decide +kernel
theorem dX13_quote_56 : decode cX13_quote 56 = .ok (.invokevirtual 383, 3) := by decide +kernel
theorem dX13_quote_59 : decode cX13_quote 59 = .ok (.return_, 1) := by decide +kernel
theorem dX13_blame_0 : decode cX13_blame 0 = .ok (.aload_n 0, 1) := by decide +kernel
theorem dX13_blame_1 : decode cX13_blame 1 = .ok (.getfield 410, 3) := by decide +kernel
theorem dX13_blame_4 : decode cX13_blame 4 = .ok (.ifCond .ne 16, 3) := by decide +kernel
theorem dX13_blame_7 : decode cX13_blame 7 = .ok (.aload_n 0, 1) := by decide +kernel
theorem dX13_blame_8 : decode cX13_blame 8 = .ok (.iload_n 1, 1) := by decide +kernel
theorem dX13_blame_9 : decode cX13_blame 9 = .ok (.bipush 16, 2) := by decide +kernel
theorem dX13_blame_11 : decode cX13_blame 11 = .ok (.aload_n 0, 1) := by decide +kernel
theorem dX13_blame_12 : decode cX13_blame 12 = .ok (.getfield 413, 3) := by decide +kernel
theorem dX13_blame_15 : decode cX13_blame 15 = .ok (.imul, 1) := by decide +kernel
theorem dX13_blame_16 : decode cX13_blame 16 = .ok (.iadd, 1) := by decide +kernel
theorem dX13_blame_17 : decode cX13_blame 17 = .ok (.putfield 410, 3) := by decide +kernel
theorem dX13_blame_20 : decode cX13_blame 20 = .ok (.return_, 1) := by decide +kernel
theorem dX13_needs_0 : decode cX13_needs 0 = .ok (.aload_n 0, 1) := by decide +kernel
theorem dX13_needs_1 : decode cX13_needs 1 = .ok (.invokevirtual 416, 3) := by decide +kernel
theorem dX13_needs_4 : decode cX13_needs 4 = .ok (.aload_n 0, 1) := by decide +kernel
theorem dX13_needs_5 : decode cX13_needs 5 = .ok (.getfield 365, 3) := by decide +kernel
theorem dX13_needs_8 : decode cX13_needs 8 = .ok (.iload_n 1, 1) := by decide +kernel
theorem dX13_needs_9 : decode cX13_needs 9 = .ok (.if_icmp .eq 8, 3) := by decide +kernel
theorem dX13_needs_12 : decode cX13_needs 12 = .ok (.aload_n 0, 1) := by decide +kernel
theorem dX13_needs_13 : decode cX13_needs 13 = .ok (.iconst 1, 1) := by decide +kernel
theorem dX13_needs_14 : decode cX13_needs 14 = .ok (.invokevirtual 419, 3) := by decide +kernel
theorem dX13_needs_17 : decode cX13_needs 17 = .ok (.aload_n 0, 1) := by decide +kernel
theorem dX13_needs_18 : decode cX13_needs 18 = .ok (.getfield 365, 3) := by decide +kernel
theorem dX13_needs_21 : decode cX13_needs 21 = .ok (.iload_n 1, 1) := by decide +kernel
theorem dX13_needs_22 : decode cX13_needs 22 = .ok (.if_icmp .ne 7, 3) := by decide +kernel
theorem dX13_needs_25 : decode cX13_needs 25 = .ok (.iconst 1, 1) := by decide +kernel
theorem dX13_needs_26 : decode cX13_needs 26 = .ok (.goto 4, 3) := by decide +kernel
theorem dX13_needs_29 : decode cX13_needs 29 = .ok (.iconst 0, 1) := by decide +kernel
theorem dX13_needs_30 : decode cX13_needs 30 = .ok (.ireturn, 1) := by decide +kernel
theorem dX13_packed_0 : decode cX13_packed 0 = .ok (.iload_n 2, 1) := by decide +kernel
theorem dX13_packed_1 : decode cX13_packed 1 = .ok (.iload_n 1, 1) := by decide +kernel
theorem dX13_packed_2 : decode cX13_packed 2 = .ok (.isub, 1) := by decide +kernel
theorem dX13_packed_3 : decode cX13_packed 3 = .ok (.bipush 10, 2) := by decide +kernel
theorem dX13_packed_5 : decode cX13_packed 5 = .ok (.if_icmp .le 5, 3) := by decide +kernel
theorem dX13_packed_8 : decode cX13_packed 8 = .ok (.lconst 0, 1) := by decide +kernel
theorem dX13_packed_9 : decode cX13_packed 9 = .ok (.lreturn, 1) := by decide +kernel
theorem dX13_packed_10 : decode cX13_packed 10 = .ok (.lconst 0, 1) := by decide +kernel
theorem dX13_packed_11 : decode cX13_packed 11 = .ok (.lstore_n 3, 1) := by decide +kernel
theorem dX13_packed_12 : decode cX13_packed 12 = .ok (.iload_n 2, 1) := by decide +kernel
theorem dX13_packed_13 : decode cX13_packed 13 = .ok (.iconst 1, 1) := by decide +kernel
theorem dX13_packed_14 : decode cX13_packed 14 = .ok (.isub, 1) := by decide +kernel
theorem dX13_packed_15 : decode cX13_packed 15 = .ok (.istore 5, 2) := by decide +kernel
theorem dX13_packed_17 : decode cX13_packed 17 = .ok (.iload 5, 2) := by decide +kernel
theorem dX13_packed_19 : decode cX13_packed 19 = .ok (.iload_n 1, 1) := by decide +kernel
theorem dX13_packed_20 : decode cX13_packed 20 = .ok (.if_icmp .lt 91, 3) := by decide +kernel
theorem dX13_packed_23 : decode cX13_packed 23 = .ok (.aload_n 0, 1) := by decide +kernel
theorem dX13_packed_24 : decode cX13_packed 24 = .ok (.getfield 324, 3) := by decide +kernel
theorem dX13_packed_27 : decode cX13_packed 27 = .ok (.iload 5, 2) := by decide +kernel
theorem dX13_packed_29 : decode cX13_packed 29 = .ok (.caload, 1) := by decide +kernel
theorem dX13_packed_30 : decode cX13_packed 30 = .ok (.istore 6, 2) := by decide +kernel
theorem dX13_packed_32 : decode cX13_packed 32 = .ok (.iload 6, 2) := by decide +kernel
theorem dX13_packed_34 : decode cX13_packed 34 = .ok (.bipush 65, 2) := by decide +kernel
theorem dX13_packed_36 : decode cX13_packed 36 = .ok (.if_icmp .lt 10, 3) := by decide +kernel
theorem dX13_packed_39 : decode cX13_packed 39 = .ok (.iload 6, 2) := by decide +kernel
theorem dX13_packed_41 : decode cX13_packed 41 = .ok (.bipush 90, 2) := by decide +kernel
theorem dX13_packed_43 : decode cX13_packed 43 = .ok (.if_icmp .le 17, 3) := by decide +kernel
theorem dX13_packed_46 : decode cX13_packed 46 = .ok (.iload 6, 2) := by decide +kernel
theorem dX13_packed_48 : decode cX13_packed 48 = .ok (.bipush 95, 2) := by decide +kernel
theorem dX13_packed_50 : decode cX13_packed 50 = .ok (.if_icmp .eq 10, 3) := by decide +kernel
theorem dX13_packed_53 : decode cX13_packed 53 = .ok (.iload 6, 2) := by decide +kernel
theorem dX13_packed_55 : decode cX13_packed 55 = .ok (.bipush 36, 2) := by decide +kernel
theorem dX13_packed_57 : decode cX13_packed 57 = .ok (.if_icmp .ne 5, 3) := by decide +kernel
theorem dX13_packed_60 : decode cX13_packed 60 = .ok (.lconst 0, 1) := by decide +kernel
theorem dX13_packed_61 : decode cX13_packed 61 = .ok (.lreturn, 1) := by decide +kernel
theorem dX13_packed_62 : decode cX13_packed 62 = .ok (.lload_n 3, 1) := by decide +kernel
theorem dX13_packed_63 : decode cX13_packed 63 = .ok (.bipush 6, 2) := by decide +kernel
theorem dX13_packed_65 : decode cX13_packed 65 = .ok (.lshl, 1) := by decide +kernel
theorem dX13_packed_66 : decode cX13_packed 66 = .ok (.iload 6, 2) := by decide +kernel
theorem dX13_packed_68 : decode cX13_packed 68 = .ok (.bipush 46, 2) := by decide +kernel
theorem dX13_packed_70 : decode cX13_packed 70 = .ok (.if_icmp .ne 8, 3) := by decide +kernel
theorem dX13_packed_73 : decode cX13_packed 73 = .ok (.bipush 37, 2) := by decide +kernel
theorem dX13_packed_75 : decode cX13_packed 75 = .ok (.goto 27, 3) := by decide +kernel
theorem dX13_packed_78 : decode cX13_packed 78 = .ok (.iload 6, 2) := by decide +kernel
theorem dX13_packed_80 : decode cX13_packed 80 = .ok (.invokestatic 351, 3) := by decide +kernel
theorem dX13_packed_83 : decode cX13_packed 83 = .ok (.ifCond .eq 14, 3) := by decide +kernel
theorem dX13_packed_86 : decode cX13_packed 86 = .ok (.bipush 27, 2) := by decide +kernel
theorem dX13_packed_88 : decode cX13_packed 88 = .ok (.iload 6, 2) := by decide +kernel
theorem dX13_packed_90 : decode cX13_packed 90 = .ok (.iadd, 1) := by decide +kernel
theorem dX13_packed_91 : decode cX13_packed 91 = .ok (.bipush 48, 2) := by decide +kernel
theorem dX13_packed_93 : decode cX13_packed 93 = .ok (.isub, 1) := by decide +kernel
theorem dX13_packed_94 : decode cX13_packed 94 = .ok (.goto 8, 3) := by decide +kernel
theorem dX13_packed_97 : decode cX13_packed 97 = .ok (.iload 6, 2) := by decide +kernel
theorem dX13_packed_99 : decode cX13_packed 99 = .ok (.bipush 96, 2) := by decide +kernel
theorem dX13_packed_101 : decode cX13_packed 101 = .ok (.isub, 1) := by decide +kernel
theorem dX13_packed_102 : decode cX13_packed 102 = .ok (.i2l, 1) := by decide +kernel
theorem dX13_packed_103 : decode cX13_packed 103 = .ok (.lor, 1) := by decide +kernel
theorem dX13_packed_104 : decode cX13_packed 104 = .ok (.lstore_n 3, 1) := by decide +kernel
theorem dX13_packed_105 : decode cX13_packed 105 = .ok (.iinc 5 (-1), 3) := by decide +kernel
theorem dX13_packed_108 : decode cX13_packed 108 = .ok (.goto (-91), 3) := by decide +kernel
theorem dX13_packed_111 : decode cX13_packed 111 = .ok (.lload_n 3, 1) := by decide +kernel
theorem dX13_packed_112 : decode cX13_packed 112 = .ok (.lreturn, 1) := by decide +kernel
theorem dX13_register_0 : decode cX13_register 0 = .ok (.aload_n 0, 1) := by decide +kernel
theorem dX13_register_1 : decode cX13_register 1 = .ok (.iload_n 1, 1) := by decide +kernel
theorem dX13_register_2 : decode cX13_register 2 = .ok (.iload_n 2, 1) := by decide +kernel
theorem dX13_register_3 : decode cX13_register 3 = .ok (.invokevirtual 423, 3) := by decide +kernel
theorem dX13_register_6 : decode cX13_register 6 = .ok (.lstore_n 3, 1) := by decide +kernel
theorem dX13_register_7 : decode cX13_register 7 = .ok (.lload_n 3, 1) := by decide +kernel
theorem dX13_register_8 : decode cX13_register 8 = .ok (.ldc2_w 427, 3) := by decide +kernel
theorem dX13_register_11 : decode cX13_register 11 = .ok (.lcmp, 1) := by decide +kernel
theorem dX13_register_12 : decode cX13_register 12 = .ok (.ifCond .ne 5, 3) := by decide +kernel
theorem dX13_register_15 : decode cX13_register 15 = .ok (.iconst 0, 1) := by decide +kernel
theorem dX13_register_16 : decode cX13_register 16 = .ok (.ireturn, 1) := by decide +kernel
theorem dX13_register_17 : decode cX13_register 17 = .ok (.lload_n 3, 1) := by decide +kernel
theorem dX13_register_18 : decode cX13_register 18 = .ok (.ldc2_w 429, 3) := by decide +kernel
theorem dX13_register_21 : decode cX13_register 21 = .ok (.lcmp, 1) := by decide +kernel
theorem dX13_register_22 : decode cX13_register 22 = .ok (.ifCond .ne 5, 3) := by decide +kernel
theorem dX13_register_25 : decode cX13_register 25 = .ok (.iconst 1, 1) := by decide +kernel
theorem dX13_register_26 : decode cX13_register 26 = .ok (.ireturn, 1) := by decide +kernel
theorem dX13_register_27 : decode cX13_register 27 = .ok (.lload_n 3, 1) := by decide +kernel
theorem dX13_register_28 : decode cX13_register 28 = .ok (.ldc2_w 431, 3) := by decide +kernel
theorem dX13_register_31 : decode cX13_register 31 = .ok (.lcmp, 1) := by decide +kernel
theorem dX13_register_32 : decode cX13_register 32 = .ok (.ifCond .ne 5, 3) := by decide +kernel
theorem dX13_register_35 : decode cX13_register 35 = .ok (.iconst 2, 1) := by decide +kernel
theorem dX13_register_36 : decode cX13_register 36 = .ok (.ireturn, 1) := by decide +kernel
theorem dX13_register_37 : decode cX13_register 37 = .ok (.lload_n 3, 1) := by decide +kernel
theorem dX13_register_38 : decode cX13_register 38 = .ok (.ldc2_w 433, 3) := by decide +kernel
theorem dX13_register_41 : decode cX13_register 41 = .ok (.lcmp, 1) := by decide +kernel
theorem dX13_register_42 : decode cX13_register 42 = .ok (.ifCond .ne 5, 3) := by decide +kernel
theorem dX13_register_45 : decode cX13_register 45 = .ok (.iconst 3, 1) := by decide +kernel
theorem dX13_register_46 : decode cX13_register 46 = .ok (.ireturn, 1) := by decide +kernel
theorem dX13_register_47 : decode cX13_register 47 = .ok (.lload_n 3, 1) := by decide +kernel
theorem dX13_register_48 : decode cX13_register 48 = .ok (.ldc2_w 435, 3) := by decide +kernel
theorem dX13_register_51 : decode cX13_register 51 = .ok (.lcmp, 1) := by decide +kernel
theorem dX13_register_52 : decode cX13_register 52 = .ok (.ifCond .ne 5, 3) := by decide +kernel
theorem dX13_register_55 : decode cX13_register 55 = .ok (.iconst 4, 1) := by decide +kernel
theorem dX13_register_56 : decode cX13_register 56 = .ok (.ireturn, 1) := by decide +kernel
theorem dX13_register_57 : decode cX13_register 57 = .ok (.lload_n 3, 1) := by decide +kernel
theorem dX13_register_58 : decode cX13_register 58 = .ok (.ldc2_w 437, 3) := by decide +kernel
theorem dX13_register_61 : decode cX13_register 61 = .ok (.lcmp, 1) := by decide +kernel
theorem dX13_register_62 : decode cX13_register 62 = .ok (.ifCond .ne 6, 3) := by decide +kernel
theorem dX13_register_65 : decode cX13_register 65 = .ok (.bipush 8, 2) := by decide +kernel
theorem dX13_register_67 : decode cX13_register 67 = .ok (.ireturn, 1) := by decide +kernel
theorem dX13_register_68 : decode cX13_register 68 = .ok (.iload_n 2, 1) := by decide +kernel
theorem dX13_register_69 : decode cX13_register 69 = .ok (.iload_n 1, 1) := by decide +kernel
theorem dX13_register_70 : decode cX13_register 70 = .ok (.isub, 1) := by decide +kernel
theorem dX13_register_71 : decode cX13_register 71 = .ok (.iconst 2, 1) := by decide +kernel
theorem dX13_register_72 : decode cX13_register 72 = .ok (.if_icmp .lt 24, 3) := by decide +kernel
theorem dX13_register_75 : decode cX13_register 75 = .ok (.iload_n 2, 1) := by decide +kernel
theorem dX13_register_76 : decode cX13_register 76 = .ok (.iload_n 1, 1) := by decide +kernel
theorem dX13_register_77 : decode cX13_register 77 = .ok (.isub, 1) := by decide +kernel
theorem dX13_register_78 : decode cX13_register 78 = .ok (.iconst 3, 1) := by decide +kernel
theorem dX13_register_79 : decode cX13_register 79 = .ok (.if_icmp .gt 17, 3) := by decide +kernel
theorem dX13_register_82 : decode cX13_register 82 = .ok (.aload_n 0, 1) := by decide +kernel
theorem dX13_register_83 : decode cX13_register 83 = .ok (.getfield 324, 3) := by decide +kernel
theorem dX13_register_86 : decode cX13_register 86 = .ok (.iload_n 1, 1) := by decide +kernel
theorem dX13_register_87 : decode cX13_register 87 = .ok (.iconst 1, 1) := by decide +kernel
theorem dX13_register_88 : decode cX13_register 88 = .ok (.iadd, 1) := by decide +kernel
theorem dX13_register_89 : decode cX13_register 89 = .ok (.caload, 1) := by decide +kernel
theorem dX13_register_90 : decode cX13_register 90 = .ok (.invokestatic 351, 3) := by decide +kernel
theorem dX13_register_93 : decode cX13_register 93 = .ok (.ifCond .ne 5, 3) := by decide +kernel
theorem dX13_register_96 : decode cX13_register 96 = .ok (.iconst (-1), 1) := by decide +kernel
theorem dX13_register_97 : decode cX13_register 97 = .ok (.ireturn, 1) := by decide +kernel
theorem dX13_register_98 : decode cX13_register 98 = .ok (.aload_n 0, 1) := by decide +kernel
theorem dX13_register_99 : decode cX13_register 99 = .ok (.getfield 324, 3) := by decide +kernel
theorem dX13_register_102 : decode cX13_register 102 = .ok (.iload_n 1, 1) := by decide +kernel
theorem dX13_register_103 : decode cX13_register 103 = .ok (.iconst 1, 1) := by decide +kernel
theorem dX13_register_104 : decode cX13_register 104 = .ok (.iadd, 1) := by decide +kernel
theorem dX13_register_105 : decode cX13_register 105 = .ok (.caload, 1) := by decide +kernel
theorem dX13_register_106 : decode cX13_register 106 = .ok (.bipush 48, 2) := by decide +kernel
theorem dX13_register_108 : decode cX13_register 108 = .ok (.isub, 1) := by decide +kernel
theorem dX13_register_109 : decode cX13_register 109 = .ok (.istore 5, 2) := by decide +kernel
theorem dX13_register_111 : decode cX13_register 111 = .ok (.iload_n 2, 1) := by decide +kernel
theorem dX13_register_112 : decode cX13_register 112 = .ok (.iload_n 1, 1) := by decide +kernel
theorem dX13_register_113 : decode cX13_register 113 = .ok (.isub, 1) := by decide +kernel
theorem dX13_register_114 : decode cX13_register 114 = .ok (.iconst 3, 1) := by decide +kernel
theorem dX13_register_115 : decode cX13_register 115 = .ok (.if_icmp .ne 46, 3) := by decide +kernel
theorem dX13_register_118 : decode cX13_register 118 = .ok (.iload 5, 2) := by decide +kernel
theorem dX13_register_120 : decode cX13_register 120 = .ok (.ifCond .eq 17, 3) := by decide +kernel
theorem dX13_register_123 : decode cX13_register 123 = .ok (.aload_n 0, 1) := by decide +kernel
theorem dX13_register_124 : decode cX13_register 124 = .ok (.getfield 324, 3) := by decide +kernel
theorem dX13_register_127 : decode cX13_register 127 = .ok (.iload_n 1, 1) := by decide +kernel
theorem dX13_register_128 : decode cX13_register 128 = .ok (.iconst 2, 1) := by decide +kernel
theorem dX13_register_129 : decode cX13_register 129 = .ok (.iadd, 1) := by decide +kernel
theorem dX13_register_130 : decode cX13_register 130 = .ok (.caload, 1) := by decide +kernel
theorem dX13_register_131 : decode cX13_register 131 = .ok (.invokestatic 351, 3) := by decide +kernel
theorem dX13_register_134 : decode cX13_register 134 = .ok (.ifCond .ne 8, 3) := by decide +kernel
theorem dX13_register_137 : decode cX13_register 137 = .ok (.bipush 99, 2) := by decide +kernel
theorem dX13_register_139 : decode cX13_register 139 = .ok (.goto 20, 3) := by decide +kernel
theorem dX13_register_142 : decode cX13_register 142 = .ok (.bipush 10, 2) := by decide +kernel
theorem dX13_register_144 : decode cX13_register 144 = .ok (.iload 5, 2) := by decide +kernel
theorem dX13_register_146 : decode cX13_register 146 = .ok (.imul, 1) := by decide +kernel
theorem dX13_register_147 : decode cX13_register 147 = .ok (.aload_n 0, 1) := by decide +kernel
theorem dX13_register_148 : decode cX13_register 148 = .ok (.getfield 324, 3) := by decide +kernel
theorem dX13_register_151 : decode cX13_register 151 = .ok (.iload_n 1, 1) := by decide +kernel
theorem dX13_register_152 : decode cX13_register 152 = .ok (.iconst 2, 1) := by decide +kernel
theorem dX13_register_153 : decode cX13_register 153 = .ok (.iadd, 1) := by decide +kernel
theorem dX13_register_154 : decode cX13_register 154 = .ok (.caload, 1) := by decide +kernel
theorem dX13_register_155 : decode cX13_register 155 = .ok (.iadd, 1) := by decide +kernel
theorem dX13_register_156 : decode cX13_register 156 = .ok (.bipush 48, 2) := by decide +kernel
theorem dX13_register_158 : decode cX13_register 158 = .ok (.isub, 1) := by decide +kernel
theorem dX13_register_159 : decode cX13_register 159 = .ok (.istore 5, 2) := by decide +kernel
theorem dX13_register_161 : decode cX13_register 161 = .ok (.aload_n 0, 1) := by decide +kernel
theorem dX13_register_162 : decode cX13_register 162 = .ok (.getfield 324, 3) := by decide +kernel
theorem dX13_register_165 : decode cX13_register 165 = .ok (.iload_n 1, 1) := by decide +kernel
theorem dX13_register_166 : decode cX13_register 166 = .ok (.caload, 1) := by decide +kernel
theorem dX13_register_167 : decode cX13_register 167 = .ok (.istore 6, 2) := by decide +kernel
theorem dX13_register_169 : decode cX13_register 169 = .ok (.iload 6, 2) := by decide +kernel
theorem dX13_register_171 : decode cX13_register 171 = .ok (.bipush 120, 2) := by decide +kernel
theorem dX13_register_173 : decode cX13_register 173 = .ok (.if_icmp .ne 17, 3) := by decide +kernel
theorem dX13_register_176 : decode cX13_register 176 = .ok (.iload 5, 2) := by decide +kernel
theorem dX13_register_178 : decode cX13_register 178 = .ok (.bipush 32, 2) := by decide +kernel
theorem dX13_register_180 : decode cX13_register 180 = .ok (.if_icmp .ge 8, 3) := by decide +kernel
theorem dX13_register_183 : decode cX13_register 183 = .ok (.iload 5, 2) := by decide +kernel
theorem dX13_register_185 : decode cX13_register 185 = .ok (.goto 4, 3) := by decide +kernel
theorem dX13_register_188 : decode cX13_register 188 = .ok (.iconst (-1), 1) := by decide +kernel
theorem dX13_register_189 : decode cX13_register 189 = .ok (.ireturn, 1) := by decide +kernel
theorem dX13_register_190 : decode cX13_register 190 = .ok (.iload 6, 2) := by decide +kernel
theorem dX13_register_192 : decode cX13_register 192 = .ok (.bipush 97, 2) := by decide +kernel
theorem dX13_register_194 : decode cX13_register 194 = .ok (.if_icmp .ne 20, 3) := by decide +kernel
theorem dX13_register_197 : decode cX13_register 197 = .ok (.iload 5, 2) := by decide +kernel
theorem dX13_register_199 : decode cX13_register 199 = .ok (.bipush 8, 2) := by decide +kernel
theorem dX13_register_201 : decode cX13_register 201 = .ok (.if_icmp .ge 11, 3) := by decide +kernel
theorem dX13_register_204 : decode cX13_register 204 = .ok (.bipush 10, 2) := by decide +kernel
theorem dX13_register_206 : decode cX13_register 206 = .ok (.iload 5, 2) := by decide +kernel
theorem dX13_register_208 : decode cX13_register 208 = .ok (.iadd, 1) := by decide +kernel
theorem dX13_register_209 : decode cX13_register 209 = .ok (.goto 4, 3) := by decide +kernel
theorem dX13_register_212 : decode cX13_register 212 = .ok (.iconst (-1), 1) := by decide +kernel
theorem dX13_register_213 : decode cX13_register 213 = .ok (.ireturn, 1) := by decide +kernel
theorem dX13_register_214 : decode cX13_register 214 = .ok (.iload 6, 2) := by decide +kernel
theorem dX13_register_216 : decode cX13_register 216 = .ok (.bipush 116, 2) := by decide +kernel
theorem dX13_register_218 : decode cX13_register 218 = .ok (.if_icmp .ne 33, 3) := by decide +kernel
theorem dX13_register_221 : decode cX13_register 221 = .ok (.iload 5, 2) := by decide +kernel
theorem dX13_register_223 : decode cX13_register 223 = .ok (.iconst 3, 1) := by decide +kernel
theorem dX13_register_224 : decode cX13_register 224 = .ok (.if_icmp .ge 10, 3) := by decide +kernel
theorem dX13_register_227 : decode cX13_register 227 = .ok (.iconst 5, 1) := by decide +kernel
theorem dX13_register_228 : decode cX13_register 228 = .ok (.iload 5, 2) := by decide +kernel
theorem dX13_register_230 : decode cX13_register 230 = .ok (.iadd, 1) := by decide +kernel
theorem dX13_register_231 : decode cX13_register 231 = .ok (.goto 19, 3) := by decide +kernel
theorem dX13_register_234 : decode cX13_register 234 = .ok (.iload 5, 2) := by decide +kernel
theorem dX13_register_236 : decode cX13_register 236 = .ok (.bipush 7, 2) := by decide +kernel
theorem dX13_register_238 : decode cX13_register 238 = .ok (.if_icmp .ge 11, 3) := by decide +kernel
theorem dX13_register_241 : decode cX13_register 241 = .ok (.bipush 25, 2) := by decide +kernel
theorem dX13_register_243 : decode cX13_register 243 = .ok (.iload 5, 2) := by decide +kernel
theorem dX13_register_245 : decode cX13_register 245 = .ok (.iadd, 1) := by decide +kernel
theorem dX13_register_246 : decode cX13_register 246 = .ok (.goto 4, 3) := by decide +kernel
theorem dX13_register_249 : decode cX13_register 249 = .ok (.iconst (-1), 1) := by decide +kernel
theorem dX13_register_250 : decode cX13_register 250 = .ok (.ireturn, 1) := by decide +kernel
theorem dX13_register_251 : decode cX13_register 251 = .ok (.iload 6, 2) := by decide +kernel
theorem dX13_register_253 : decode cX13_register 253 = .ok (.bipush 115, 2) := by decide +kernel
theorem dX13_register_255 : decode cX13_register 255 = .ok (.if_icmp .eq 7, 3) := by decide +kernel
theorem dX13_register_258 : decode cX13_register 258 = .ok (.iconst (-1), 1) := by decide +kernel
theorem dX13_register_259 : decode cX13_register 259 = .ok (.goto 33, 3) := by decide +kernel
theorem dX13_register_262 : decode cX13_register 262 = .ok (.iload 5, 2) := by decide +kernel
theorem dX13_register_264 : decode cX13_register 264 = .ok (.iconst 2, 1) := by decide +kernel
theorem dX13_register_265 : decode cX13_register 265 = .ok (.if_icmp .ge 11, 3) := by decide +kernel
theorem dX13_register_268 : decode cX13_register 268 = .ok (.bipush 8, 2) := by decide +kernel
theorem dX13_register_270 : decode cX13_register 270 = .ok (.iload 5, 2) := by decide +kernel
theorem dX13_register_272 : decode cX13_register 272 = .ok (.iadd, 1) := by decide +kernel
theorem dX13_register_273 : decode cX13_register 273 = .ok (.goto 19, 3) := by decide +kernel
theorem dX13_register_276 : decode cX13_register 276 = .ok (.iload 5, 2) := by decide +kernel
theorem dX13_register_278 : decode cX13_register 278 = .ok (.bipush 12, 2) := by decide +kernel
theorem dX13_register_280 : decode cX13_register 280 = .ok (.if_icmp .ge 11, 3) := by decide +kernel
theorem dX13_register_283 : decode cX13_register 283 = .ok (.bipush 16, 2) := by decide +kernel
theorem dX13_register_285 : decode cX13_register 285 = .ok (.iload 5, 2) := by decide +kernel
theorem dX13_register_287 : decode cX13_register 287 = .ok (.iadd, 1) := by decide +kernel
theorem dX13_register_288 : decode cX13_register 288 = .ok (.goto 4, 3) := by decide +kernel
theorem dX13_register_291 : decode cX13_register 291 = .ok (.iconst (-1), 1) := by decide +kernel
theorem dX13_register_292 : decode cX13_register 292 = .ok (.ireturn, 1) := by decide +kernel
theorem dX13_isAlike_0 : decode cX13_isAlike 0 = .ok (.iload_n 1, 1) := by decide +kernel
theorem dX13_isAlike_1 : decode cX13_isAlike 1 = .ok (.istore 4, 2) := by decide +kernel
theorem dX13_isAlike_3 : decode cX13_isAlike 3 = .ok (.iload 4, 2) := by decide +kernel
theorem dX13_isAlike_5 : decode cX13_isAlike 5 = .ok (.iload_n 2, 1) := by decide +kernel
theorem dX13_isAlike_6 : decode cX13_isAlike 6 = .ok (.if_icmp .ge 31, 3) := by decide +kernel
theorem dX13_isAlike_9 : decode cX13_isAlike 9 = .ok (.aload_n 0, 1) := by decide +kernel
theorem dX13_isAlike_10 : decode cX13_isAlike 10 = .ok (.iload_n 3, 1) := by decide +kernel
theorem dX13_isAlike_11 : decode cX13_isAlike 11 = .ok (.iload 4, 2) := by decide +kernel
theorem dX13_isAlike_13 : decode cX13_isAlike 13 = .ok (.iadd, 1) := by decide +kernel
theorem dX13_isAlike_14 : decode cX13_isAlike 14 = .ok (.iload_n 1, 1) := by decide +kernel
theorem dX13_isAlike_15 : decode cX13_isAlike 15 = .ok (.isub, 1) := by decide +kernel
theorem dX13_isAlike_16 : decode cX13_isAlike 16 = .ok (.invokevirtual 358, 3) := by decide +kernel
theorem dX13_isAlike_19 : decode cX13_isAlike 19 = .ok (.aload_n 0, 1) := by decide +kernel
theorem dX13_isAlike_20 : decode cX13_isAlike 20 = .ok (.getfield 324, 3) := by decide +kernel
theorem dX13_isAlike_23 : decode cX13_isAlike 23 = .ok (.iload 4, 2) := by decide +kernel
theorem dX13_isAlike_25 : decode cX13_isAlike 25 = .ok (.caload, 1) := by decide +kernel
theorem dX13_isAlike_26 : decode cX13_isAlike 26 = .ok (.if_icmp .eq 5, 3) := by decide +kernel
theorem dX13_isAlike_29 : decode cX13_isAlike 29 = .ok (.iconst 0, 1) := by decide +kernel
theorem dX13_isAlike_30 : decode cX13_isAlike 30 = .ok (.ireturn, 1) := by decide +kernel
theorem dX13_isAlike_31 : decode cX13_isAlike 31 = .ok (.iinc 4 1, 3) := by decide +kernel
theorem dX13_isAlike_34 : decode cX13_isAlike 34 = .ok (.goto (-31), 3) := by decide +kernel
theorem dX13_isAlike_37 : decode cX13_isAlike 37 = .ok (.aload_n 0, 1) := by decide +kernel
theorem dX13_isAlike_38 : decode cX13_isAlike 38 = .ok (.iload_n 3, 1) := by decide +kernel
theorem dX13_isAlike_39 : decode cX13_isAlike 39 = .ok (.iload_n 2, 1) := by decide +kernel
theorem dX13_isAlike_40 : decode cX13_isAlike 40 = .ok (.iadd, 1) := by decide +kernel
theorem dX13_isAlike_41 : decode cX13_isAlike 41 = .ok (.iload_n 1, 1) := by decide +kernel
theorem dX13_isAlike_42 : decode cX13_isAlike 42 = .ok (.isub, 1) := by decide +kernel
theorem dX13_isAlike_43 : decode cX13_isAlike 43 = .ok (.invokevirtual 358, 3) := by decide +kernel
theorem dX13_isAlike_46 : decode cX13_isAlike 46 = .ok (.invokestatic 362, 3) := by decide +kernel
theorem dX13_isAlike_49 : decode cX13_isAlike 49 = .ok (.ifCond .ne 7, 3) := by decide +kernel
theorem dX13_isAlike_52 : decode cX13_isAlike 52 = .ok (.iconst 1, 1) := by decide +kernel
theorem dX13_isAlike_53 : decode cX13_isAlike 53 = .ok (.goto 4, 3) := by decide +kernel
theorem dX13_isAlike_56 : decode cX13_isAlike 56 = .ok (.iconst 0, 1) := by decide +kernel
theorem dX13_isAlike_57 : decode cX13_isAlike 57 = .ok (.ireturn, 1) := by decide +kernel
theorem dX13_find_0 : decode cX13_find 0 = .ok (.iconst 0, 1) := by decide +kernel
theorem dX13_find_1 : decode cX13_find 1 = .ok (.istore_n 3, 1) := by decide +kernel
theorem dX13_find_2 : decode cX13_find 2 = .ok (.iload_n 3, 1) := by decide +kernel
theorem dX13_find_3 : decode cX13_find 3 = .ok (.aload_n 0, 1) := by decide +kernel
theorem dX13_find_4 : decode cX13_find 4 = .ok (.getfield 439, 3) := by decide +kernel
theorem dX13_find_7 : decode cX13_find 7 = .ok (.if_icmp .ge 43, 3) := by decide +kernel
theorem dX13_find_10 : decode cX13_find 10 = .ok (.aload_n 0, 1) := by decide +kernel
theorem dX13_find_11 : decode cX13_find 11 = .ok (.getfield 337, 3) := by decide +kernel
theorem dX13_find_14 : decode cX13_find 14 = .ok (.iload_n 3, 1) := by decide +kernel
theorem dX13_find_15 : decode cX13_find 15 = .ok (.iaload, 1) := by decide +kernel
theorem dX13_find_16 : decode cX13_find 16 = .ok (.bipush 17, 2) := by decide +kernel
theorem dX13_find_18 : decode cX13_find 18 = .ok (.ishr, 1) := by decide +kernel
theorem dX13_find_19 : decode cX13_find 19 = .ok (.iconst 3, 1) := by decide +kernel
theorem dX13_find_20 : decode cX13_find 20 = .ok (.if_icmp .ge 24, 3) := by decide +kernel
theorem dX13_find_23 : decode cX13_find 23 = .ok (.aload_n 0, 1) := by decide +kernel
theorem dX13_find_24 : decode cX13_find 24 = .ok (.iload_n 1, 1) := by decide +kernel
