theorem dX13_charAt_0 : decode cX13_charAt 0 = .ok (.iload_n 1, 1) := by decide +kernel
theorem dX13_charAt_1 : decode cX13_charAt 1 = .ok (.aload_n 0, 1) := by decide +kernel
theorem dX13_charAt_2 : decode cX13_charAt 2 = .ok (.getfield 347, 3) := by decide +kernel
theorem dX13_charAt_5 : decode cX13_charAt 5 = .ok (.if_icmp .ge 12, 3) := by decide +kernel
theorem dX13_charAt_8 : decode cX13_charAt 8 = .ok (.aload_n 0, 1) := by decide +kernel
theorem dX13_charAt_9 : decode cX13_charAt 9 = .ok (.getfield 324, 3) := by decide +kernel
theorem dX13_charAt_12 : decode cX13_charAt 12 = .ok (.iload_n 1, 1) := by decide +kernel
theorem dX13_charAt_13 : decode cX13_charAt 13 = .ok (.caload, 1) := by decide +kernel
theorem dX13_charAt_14 : decode cX13_charAt 14 = .ok (.goto 5, 3) := by decide +kernel
theorem dX13_charAt_17 : decode cX13_charAt 17 = .ok (.bipush 10, 2) := by decide +kernel
theorem dX13_charAt_19 : decode cX13_charAt 19 = .ok (.ireturn, 1) := by decide +kernel
theorem dX13_isDigit_0 : decode cX13_isDigit 0 = .ok (.iload_n 0, 1) := by decide +kernel
theorem dX13_isDigit_1 : decode cX13_isDigit 1 = .ok (.bipush 48, 2) := by decide +kernel
theorem dX13_isDigit_3 : decode cX13_isDigit 3 = .ok (.if_icmp .lt 13, 3) := by decide +kernel
theorem dX13_isDigit_6 : decode cX13_isDigit 6 = .ok (.iload_n 0, 1) := by decide +kernel
theorem dX13_isDigit_7 : decode cX13_isDigit 7 = .ok (.bipush 57, 2) := by decide +kernel
theorem dX13_isDigit_9 : decode cX13_isDigit 9 = .ok (.if_icmp .gt 7, 3) := by decide +kernel
theorem dX13_isDigit_12 : decode cX13_isDigit 12 = .ok (.iconst 1, 1) := by decide +kernel
theorem dX13_isDigit_13 : decode cX13_isDigit 13 = .ok (.goto 4, 3) := by decide +kernel
theorem dX13_isDigit_16 : decode cX13_isDigit 16 = .ok (.iconst 0, 1) := by decide +kernel
theorem dX13_isDigit_17 : decode cX13_isDigit 17 = .ok (.ireturn, 1) := by decide +kernel
theorem dX13_isLetter_0 : decode cX13_isLetter 0 = .ok (.iload_n 0, 1) := by decide +kernel
theorem dX13_isLetter_1 : decode cX13_isLetter 1 = .ok (.bipush 97, 2) := by decide +kernel
theorem dX13_isLetter_3 : decode cX13_isLetter 3 = .ok (.if_icmp .lt 9, 3) := by decide +kernel
theorem dX13_isLetter_6 : decode cX13_isLetter 6 = .ok (.iload_n 0, 1) := by decide +kernel
theorem dX13_isLetter_7 : decode cX13_isLetter 7 = .ok (.bipush 122, 2) := by decide +kernel
theorem dX13_isLetter_9 : decode cX13_isLetter 9 = .ok (.if_icmp .le 15, 3) := by decide +kernel
theorem dX13_isLetter_12 : decode cX13_isLetter 12 = .ok (.iload_n 0, 1) := by decide +kernel
theorem dX13_isLetter_13 : decode cX13_isLetter 13 = .ok (.bipush 65, 2) := by decide +kernel
theorem dX13_isLetter_15 : decode cX13_isLetter 15 = .ok (.if_icmp .lt 13, 3) := by decide +kernel
theorem dX13_isLetter_18 : decode cX13_isLetter 18 = .ok (.iload_n 0, 1) := by decide +kernel
theorem dX13_isLetter_19 : decode cX13_isLetter 19 = .ok (.bipush 90, 2) := by decide +kernel
theorem dX13_isLetter_21 : decode cX13_isLetter 21 = .ok (.if_icmp .gt 7, 3) := by decide +kernel
theorem dX13_isLetter_24 : decode cX13_isLetter 24 = .ok (.iconst 1, 1) := by decide +kernel
theorem dX13_isLetter_25 : decode cX13_isLetter 25 = .ok (.goto 4, 3) := by decide +kernel
theorem dX13_isLetter_28 : decode cX13_isLetter 28 = .ok (.iconst 0, 1) := by decide +kernel
theorem dX13_isLetter_29 : decode cX13_isLetter 29 = .ok (.ireturn, 1) := by decide +kernel
theorem dX13_isPlain_0 : decode cX13_isPlain 0 = .ok (.iload_n 0, 1) := by decide +kernel
theorem dX13_isPlain_1 : decode cX13_isPlain 1 = .ok (.invokestatic 351, 3) := by decide +kernel
theorem dX13_isPlain_4 : decode cX13_isPlain 4 = .ok (.ifCond .ne 28, 3) := by decide +kernel
theorem dX13_isPlain_7 : decode cX13_isPlain 7 = .ok (.iload_n 0, 1) := by decide +kernel
theorem dX13_isPlain_8 : decode cX13_isPlain 8 = .ok (.invokestatic 355, 3) := by decide +kernel
theorem dX13_isPlain_11 : decode cX13_isPlain 11 = .ok (.ifCond .ne 21, 3) := by decide +kernel
theorem dX13_isPlain_14 : decode cX13_isPlain 14 = .ok (.iload_n 0, 1) := by decide +kernel
theorem dX13_isPlain_15 : decode cX13_isPlain 15 = .ok (.bipush 95, 2) := by decide +kernel
theorem dX13_isPlain_17 : decode cX13_isPlain 17 = .ok (.if_icmp .eq 15, 3) := by decide +kernel
theorem dX13_isPlain_20 : decode cX13_isPlain 20 = .ok (.iload_n 0, 1) := by decide +kernel
theorem dX13_isPlain_21 : decode cX13_isPlain 21 = .ok (.bipush 46, 2) := by decide +kernel
theorem dX13_isPlain_23 : decode cX13_isPlain 23 = .ok (.if_icmp .eq 9, 3) := by decide +kernel
theorem dX13_isPlain_26 : decode cX13_isPlain 26 = .ok (.iload_n 0, 1) := by decide +kernel
theorem dX13_isPlain_27 : decode cX13_isPlain 27 = .ok (.bipush 36, 2) := by decide +kernel
theorem dX13_isPlain_29 : decode cX13_isPlain 29 = .ok (.if_icmp .ne 7, 3) := by decide +kernel
theorem dX13_isPlain_32 : decode cX13_isPlain 32 = .ok (.iconst 1, 1) := by decide +kernel
theorem dX13_isPlain_33 : decode cX13_isPlain 33 = .ok (.goto 4, 3) := by decide +kernel
theorem dX13_isPlain_36 : decode cX13_isPlain 36 = .ok (.iconst 0, 1) := by decide +kernel
theorem dX13_isPlain_37 : decode cX13_isPlain 37 = .ok (.ireturn, 1) := by decide +kernel
theorem dX13_plain_0 : decode cX13_plain 0 = .ok (.iload_n 1, 1) := by decide +kernel
theorem dX13_plain_1 : decode cX13_plain 1 = .ok (.istore_n 2, 1) := by decide +kernel
theorem dX13_plain_2 : decode cX13_plain 2 = .ok (.aload_n 0, 1) := by decide +kernel
theorem dX13_plain_3 : decode cX13_plain 3 = .ok (.iload_n 2, 1) := by decide +kernel
theorem dX13_plain_4 : decode cX13_plain 4 = .ok (.invokevirtual 358, 3) := by decide +kernel
theorem dX13_plain_7 : decode cX13_plain 7 = .ok (.invokestatic 362, 3) := by decide +kernel
theorem dX13_plain_10 : decode cX13_plain 10 = .ok (.ifCond .eq 9, 3) := by decide +kernel
theorem dX13_plain_13 : decode cX13_plain 13 = .ok (.iinc 2 1, 3) := by decide +kernel
theorem dX13_plain_16 : decode cX13_plain 16 = .ok (.goto (-14), 3) := by decide +kernel
theorem dX13_plain_19 : decode cX13_plain 19 = .ok (.iload_n 2, 1) := by decide +kernel
theorem dX13_plain_20 : decode cX13_plain 20 = .ok (.ireturn, 1) := by decide +kernel
theorem dX13_bad_0 : decode cX13_bad 0 = .ok (.aload_n 0, 1) := by decide +kernel
theorem dX13_bad_1 : decode cX13_bad 1 = .ok (.iconst 5, 1) := by decide +kernel
theorem dX13_bad_2 : decode cX13_bad 2 = .ok (.putfield 365, 3) := by decide +kernel
theorem dX13_bad_5 : decode cX13_bad 5 = .ok (.aload_n 0, 1) := by decide +kernel
theorem dX13_bad_6 : decode cX13_bad 6 = .ok (.aload_n 0, 1) := by decide +kernel
theorem dX13_bad_7 : decode cX13_bad 7 = .ok (.getfield 368, 3) := by decide +kernel
theorem dX13_bad_10 : decode cX13_bad 10 = .ok (.putfield 371, 3) := by decide +kernel
theorem dX13_bad_13 : decode cX13_bad 13 = .ok (.return_, 1) := by decide +kernel
theorem dX13_scan_0 : decode cX13_scan 0 = .ok (.aload_n 0, 1) := by decide +kernel
theorem dX13_scan_1 : decode cX13_scan 1 = .ok (.aload_n 0, 1) := by decide +kernel
theorem dX13_scan_2 : decode cX13_scan 2 = .ok (.getfield 374, 3) := by decide +kernel
theorem dX13_scan_5 : decode cX13_scan 5 = .ok (.invokevirtual 358, 3) := by decide +kernel
theorem dX13_scan_8 : decode cX13_scan 8 = .ok (.bipush 9, 2) := by decide +kernel
theorem dX13_scan_10 : decode cX13_scan 10 = .ok (.if_icmp .eq 16, 3) := by decide +kernel
theorem dX13_scan_13 : decode cX13_scan 13 = .ok (.aload_n 0, 1) := by decide +kernel
theorem dX13_scan_14 : decode cX13_scan 14 = .ok (.aload_n 0, 1) := by decide +kernel
theorem dX13_scan_15 : decode cX13_scan 15 = .ok (.getfield 374, 3) := by decide +kernel
theorem dX13_scan_18 : decode cX13_scan 18 = .ok (.invokevirtual 358, 3) := by decide +kernel
theorem dX13_scan_21 : decode cX13_scan 21 = .ok (.bipush 32, 2) := by decide +kernel
theorem dX13_scan_23 : decode cX13_scan 23 = .ok (.if_icmp .ne 16, 3) := by decide +kernel
theorem dX13_scan_26 : decode cX13_scan 26 = .ok (.aload_n 0, 1) := by decide +kernel
theorem dX13_scan_27 : decode cX13_scan 27 = .ok (.dup, 1) := by decide +kernel
theorem dX13_scan_28 : decode cX13_scan 28 = .ok (.getfield 374, 3) := by decide +kernel
theorem dX13_scan_31 : decode cX13_scan 31 = .ok (.iconst 1, 1) := by decide +kernel
theorem dX13_scan_32 : decode cX13_scan 32 = .ok (.iadd, 1) := by decide +kernel
theorem dX13_scan_33 : decode cX13_scan 33 = .ok (.putfield 374, 3) := by decide +kernel
theorem dX13_scan_36 : decode cX13_scan 36 = .ok (.goto (-36), 3) := by decide +kernel
theorem dX13_scan_39 : decode cX13_scan 39 = .ok (.aload_n 0, 1) := by decide +kernel
theorem dX13_scan_40 : decode cX13_scan 40 = .ok (.aload_n 0, 1) := by decide +kernel
theorem dX13_scan_41 : decode cX13_scan 41 = .ok (.getfield 374, 3) := by decide +kernel
theorem dX13_scan_44 : decode cX13_scan 44 = .ok (.putfield 368, 3) := by decide +kernel
theorem dX13_scan_47 : decode cX13_scan 47 = .ok (.aload_n 0, 1) := by decide +kernel
theorem dX13_scan_48 : decode cX13_scan 48 = .ok (.aload_n 0, 1) := by decide +kernel
theorem dX13_scan_49 : decode cX13_scan 49 = .ok (.getfield 374, 3) := by decide +kernel
theorem dX13_scan_52 : decode cX13_scan 52 = .ok (.invokevirtual 358, 3) := by decide +kernel
theorem dX13_scan_55 : decode cX13_scan 55 = .ok (.istore_n 1, 1) := by decide +kernel
theorem dX13_scan_56 : decode cX13_scan 56 = .ok (.aload_n 0, 1) := by decide +kernel
theorem dX13_scan_57 : decode cX13_scan 57 = .ok (.aload_n 0, 1) := by decide +kernel
theorem dX13_scan_58 : decode cX13_scan 58 = .ok (.getfield 374, 3) := by decide +kernel
theorem dX13_scan_61 : decode cX13_scan 61 = .ok (.iconst 1, 1) := by decide +kernel
theorem dX13_scan_62 : decode cX13_scan 62 = .ok (.iadd, 1) := by decide +kernel
theorem dX13_scan_63 : decode cX13_scan 63 = .ok (.putfield 371, 3) := by decide +kernel
theorem dX13_scan_66 : decode cX13_scan 66 = .ok (.iload_n 1, 1) := by decide +kernel
theorem dX13_scan_67 : decode cX13_scan 67 = .ok (.bipush 10, 2) := by decide +kernel
theorem dX13_scan_69 : decode cX13_scan 69 = .ok (.if_icmp .eq 9, 3) := by decide +kernel
theorem dX13_scan_72 : decode cX13_scan 72 = .ok (.iload_n 1, 1) := by decide +kernel
theorem dX13_scan_73 : decode cX13_scan 73 = .ok (.bipush 35, 2) := by decide +kernel
theorem dX13_scan_75 : decode cX13_scan 75 = .ok (.if_icmp .ne 19, 3) := by decide +kernel
theorem dX13_scan_78 : decode cX13_scan 78 = .ok (.aload_n 0, 1) := by decide +kernel
theorem dX13_scan_79 : decode cX13_scan 79 = .ok (.iconst 0, 1) := by decide +kernel
theorem dX13_scan_80 : decode cX13_scan 80 = .ok (.putfield 365, 3) := by decide +kernel
theorem dX13_scan_83 : decode cX13_scan 83 = .ok (.aload_n 0, 1) := by decide +kernel
theorem dX13_scan_84 : decode cX13_scan 84 = .ok (.aload_n 0, 1) := by decide +kernel
theorem dX13_scan_85 : decode cX13_scan 85 = .ok (.getfield 374, 3) := by decide +kernel
theorem dX13_scan_88 : decode cX13_scan 88 = .ok (.putfield 371, 3) := by decide +kernel
theorem dX13_scan_91 : decode cX13_scan 91 = .ok (.goto 257, 3) := by decide +kernel
theorem dX13_scan_94 : decode cX13_scan 94 = .ok (.iload_n 1, 1) := by decide +kernel
theorem dX13_scan_95 : decode cX13_scan 95 = .ok (.invokestatic 351, 3) := by decide +kernel
theorem dX13_scan_98 : decode cX13_scan 98 = .ok (.ifCond .eq 22, 3) := by decide +kernel
theorem dX13_scan_101 : decode cX13_scan 101 = .ok (.aload_n 0, 1) := by decide +kernel
theorem dX13_scan_102 : decode cX13_scan 102 = .ok (.aload_n 0, 1) := by decide +kernel
theorem dX13_scan_103 : decode cX13_scan 103 = .ok (.aload_n 0, 1) := by decide +kernel
theorem dX13_scan_104 : decode cX13_scan 104 = .ok (.getfield 374, 3) := by decide +kernel
theorem dX13_scan_107 : decode cX13_scan 107 = .ok (.invokevirtual 377, 3) := by decide +kernel
theorem dX13_scan_110 : decode cX13_scan 110 = .ok (.putfield 371, 3) := by decide +kernel
theorem dX13_scan_113 : decode cX13_scan 113 = .ok (.aload_n 0, 1) := by decide +kernel
theorem dX13_scan_114 : decode cX13_scan 114 = .ok (.invokevirtual 380, 3) := by decide +kernel
theorem dX13_scan_117 : decode cX13_scan 117 = .ok (.goto 231, 3) := by decide +kernel
theorem dX13_scan_120 : decode cX13_scan 120 = .ok (.iload_n 1, 1) := by decide +kernel
theorem dX13_scan_121 : decode cX13_scan 121 = .ok (.invokestatic 362, 3) := by decide +kernel
theorem dX13_scan_124 : decode cX13_scan 124 = .ok (.ifCond .eq 41, 3) := by decide +kernel
theorem dX13_scan_127 : decode cX13_scan 127 = .ok (.aload_n 0, 1) := by decide +kernel
theorem dX13_scan_128 : decode cX13_scan 128 = .ok (.aload_n 0, 1) := by decide +kernel
theorem dX13_scan_129 : decode cX13_scan 129 = .ok (.aload_n 0, 1) := by decide +kernel
theorem dX13_scan_130 : decode cX13_scan 130 = .ok (.getfield 374, 3) := by decide +kernel
theorem dX13_scan_133 : decode cX13_scan 133 = .ok (.invokevirtual 377, 3) := by decide +kernel
theorem dX13_scan_136 : decode cX13_scan 136 = .ok (.putfield 371, 3) := by decide +kernel
theorem dX13_scan_139 : decode cX13_scan 139 = .ok (.aload_n 0, 1) := by decide +kernel
theorem dX13_scan_140 : decode cX13_scan 140 = .ok (.iconst 1, 1) := by decide +kernel
theorem dX13_scan_141 : decode cX13_scan 141 = .ok (.putfield 365, 3) := by decide +kernel
theorem dX13_scan_144 : decode cX13_scan 144 = .ok (.aload_n 0, 1) := by decide +kernel
theorem dX13_scan_145 : decode cX13_scan 145 = .ok (.getfield 371, 3) := by decide +kernel
theorem dX13_scan_148 : decode cX13_scan 148 = .ok (.aload_n 0, 1) := by decide +kernel
theorem dX13_scan_149 : decode cX13_scan 149 = .ok (.getfield 368, 3) := by decide +kernel
theorem dX13_scan_152 : decode cX13_scan 152 = .ok (.isub, 1) := by decide +kernel
theorem dX13_scan_153 : decode cX13_scan 153 = .ok (.bipush 31, 2) := by decide +kernel
theorem dX13_scan_155 : decode cX13_scan 155 = .ok (.if_icmp .le 193, 3) := by decide +kernel
theorem dX13_scan_158 : decode cX13_scan 158 = .ok (.aload_n 0, 1) := by decide +kernel
theorem dX13_scan_159 : decode cX13_scan 159 = .ok (.invokevirtual 383, 3) := by decide +kernel
theorem dX13_scan_162 : decode cX13_scan 162 = .ok (.goto 186, 3) := by decide +kernel
theorem dX13_scan_165 : decode cX13_scan 165 = .ok (.iload_n 1, 1) := by decide +kernel
theorem dX13_scan_166 : decode cX13_scan 166 = .ok (.bipush 39, 2) := by decide +kernel
theorem dX13_scan_168 : decode cX13_scan 168 = .ok (.if_icmp .ne 10, 3) := by decide +kernel
theorem dX13_scan_171 : decode cX13_scan 171 = .ok (.aload_n 0, 1) := by decide +kernel
theorem dX13_scan_172 : decode cX13_scan 172 = .ok (.invokevirtual 386, 3) := by decide +kernel
theorem dX13_scan_175 : decode cX13_scan 175 = .ok (.goto 173, 3) := by decide +kernel
theorem dX13_scan_178 : decode cX13_scan 178 = .ok (.iload_n 1, 1) := by decide +kernel
theorem dX13_scan_179 : decode cX13_scan 179 = .ok (.bipush 34, 2) := by decide +kernel
theorem dX13_scan_181 : decode cX13_scan 181 = .ok (.if_icmp .ne 10, 3) := by decide +kernel
theorem dX13_scan_184 : decode cX13_scan 184 = .ok (.aload_n 0, 1) := by decide +kernel
theorem dX13_scan_185 : decode cX13_scan 185 = .ok (.invokevirtual 389, 3) := by decide +kernel
theorem dX13_scan_188 : decode cX13_scan 188 = .ok (.goto 160, 3) := by decide +kernel
theorem dX13_scan_191 : decode cX13_scan 191 = .ok (.iload_n 1, 1) := by decide +kernel
theorem dX13_scan_192 : decode cX13_scan 192 = .ok (.bipush 60, 2) := by decide +kernel
theorem dX13_scan_194 : decode cX13_scan 194 = .ok (.if_icmp .eq 9, 3) := by decide +kernel
theorem dX13_scan_197 : decode cX13_scan 197 = .ok (.iload_n 1, 1) := by decide +kernel
theorem dX13_scan_198 : decode cX13_scan 198 = .ok (.bipush 62, 2) := by decide +kernel
theorem dX13_scan_200 : decode cX13_scan 200 = .ok (.if_icmp .ne 51, 3) := by decide +kernel
theorem dX13_scan_203 : decode cX13_scan 203 = .ok (.aload_n 0, 1) := by decide +kernel
theorem dX13_scan_204 : decode cX13_scan 204 = .ok (.iload_n 1, 1) := by decide +kernel
theorem dX13_scan_205 : decode cX13_scan 205 = .ok (.bipush 60, 2) := by decide +kernel
theorem dX13_scan_207 : decode cX13_scan 207 = .ok (.if_icmp .ne 8, 3) := by decide +kernel
theorem dX13_scan_210 : decode cX13_scan 210 = .ok (.bipush 6, 2) := by decide +kernel
theorem dX13_scan_212 : decode cX13_scan 212 = .ok (.goto 5, 3) := by decide +kernel
theorem dX13_scan_215 : decode cX13_scan 215 = .ok (.bipush 7, 2) := by decide +kernel
theorem dX13_scan_217 : decode cX13_scan 217 = .ok (.putfield 365, 3) := by decide +kernel
theorem dX13_scan_220 : decode cX13_scan 220 = .ok (.aload_n 0, 1) := by decide +kernel
theorem dX13_scan_221 : decode cX13_scan 221 = .ok (.aload_n 0, 1) := by decide +kernel
theorem dX13_scan_222 : decode cX13_scan 222 = .ok (.getfield 374, 3) := by decide +kernel
theorem dX13_scan_225 : decode cX13_scan 225 = .ok (.iconst 2, 1) := by decide +kernel
theorem dX13_scan_226 : decode cX13_scan 226 = .ok (.iadd, 1) := by decide +kernel
theorem dX13_scan_227 : decode cX13_scan 227 = .ok (.putfield 371, 3) := by decide +kernel
theorem dX13_scan_230 : decode cX13_scan 230 = .ok (.aload_n 0, 1) := by decide +kernel
theorem dX13_scan_231 : decode cX13_scan 231 = .ok (.aload_n 0, 1) := by decide +kernel
theorem dX13_scan_232 : decode cX13_scan 232 = .ok (.getfield 374, 3) := by decide +kernel
theorem dX13_scan_235 : decode cX13_scan 235 = .ok (.iconst 1, 1) := by decide +kernel
theorem dX13_scan_236 : decode cX13_scan 236 = .ok (.iadd, 1) := by decide +kernel
theorem dX13_scan_237 : decode cX13_scan 237 = .ok (.invokevirtual 358, 3) := by decide +kernel
theorem dX13_scan_240 : decode cX13_scan 240 = .ok (.iload_n 1, 1) := by decide +kernel
theorem dX13_scan_241 : decode cX13_scan 241 = .ok (.if_icmp .eq 107, 3) := by decide +kernel
theorem dX13_scan_244 : decode cX13_scan 244 = .ok (.aload_n 0, 1) := by decide +kernel
theorem dX13_scan_245 : decode cX13_scan 245 = .ok (.invokevirtual 383, 3) := by decide +kernel
theorem dX13_scan_248 : decode cX13_scan 248 = .ok (.goto 100, 3) := by decide +kernel
theorem dX13_scan_251 : decode cX13_scan 251 = .ok (.iload_n 1, 1) := by decide +kernel
theorem dX13_scan_252 : decode cX13_scan 252 = .ok (.bipush 58, 2) := by decide +kernel
theorem dX13_scan_254 : decode cX13_scan 254 = .ok (.if_icmp .eq 75, 3) := by decide +kernel
theorem dX13_scan_257 : decode cX13_scan 257 = .ok (.iload_n 1, 1) := by decide +kernel
theorem dX13_scan_258 : decode cX13_scan 258 = .ok (.bipush 44, 2) := by decide +kernel
theorem dX13_scan_260 : decode cX13_scan 260 = .ok (.if_icmp .eq 69, 3) := by decide +kernel
theorem dX13_scan_263 : decode cX13_scan 263 = .ok (.iload_n 1, 1) := by decide +kernel
theorem dX13_scan_264 : decode cX13_scan 264 = .ok (.bipush 40, 2) := by decide +kernel
theorem dX13_scan_266 : decode cX13_scan 266 = .ok (.if_icmp .eq 63, 3) := by decide +kernel
theorem dX13_scan_269 : decode cX13_scan 269 = .ok (.iload_n 1, 1) := by decide +kernel
theorem dX13_scan_270 : decode cX13_scan 270 = .ok (.bipush 41, 2) := by decide +kernel
theorem dX13_scan_272 : decode cX13_scan 272 = .ok (.if_icmp .eq 57, 3) := by decide +kernel
theorem dX13_scan_275 : decode cX13_scan 275 = .ok (.iload_n 1, 1) := by decide +kernel
theorem dX13_scan_276 : decode cX13_scan 276 = .ok (.bipush 43, 2) := by decide +kernel
theorem dX13_scan_278 : decode cX13_scan 278 = .ok (.if_icmp .eq 51, 3) := by decide +kernel
theorem dX13_scan_281 : decode cX13_scan 281 = .ok (.iload_n 1, 1) := by decide +kernel
theorem dX13_scan_282 : decode cX13_scan 282 = .ok (.bipush 45, 2) := by decide +kernel
theorem dX13_scan_284 : decode cX13_scan 284 = .ok (.if_icmp .eq 45, 3) := by decide +kernel
theorem dX13_scan_287 : decode cX13_scan 287 = .ok (.iload_n 1, 1) := by decide +kernel
theorem dX13_scan_288 : decode cX13_scan 288 = .ok (.bipush 42, 2) := by decide +kernel
theorem dX13_scan_290 : decode cX13_scan 290 = .ok (.if_icmp .eq 39, 3) := by decide +kernel
theorem dX13_scan_293 : decode cX13_scan 293 = .ok (.iload_n 1, 1) := by decide +kernel
theorem dX13_scan_294 : decode cX13_scan 294 = .ok (.bipush 47, 2) := by decide +kernel
theorem dX13_scan_296 : decode cX13_scan 296 = .ok (.if_icmp .eq 33, 3) := by decide +kernel
theorem dX13_scan_299 : decode cX13_scan 299 = .ok (.iload_n 1, 1) := by decide +kernel
theorem dX13_scan_300 : decode cX13_scan 300 = .ok (.bipush 37, 2) := by decide +kernel
theorem dX13_scan_302 : decode cX13_scan 302 = .ok (.if_icmp .eq 27, 3) := by decide +kernel
theorem dX13_scan_305 : decode cX13_scan 305 = .ok (.iload_n 1, 1) := by decide +kernel
theorem dX13_scan_306 : decode cX13_scan 306 = .ok (.bipush 38, 2) := by decide +kernel
theorem dX13_scan_308 : decode cX13_scan 308 = .ok (.if_icmp .eq 21, 3) := by decide +kernel
theorem dX13_scan_311 : decode cX13_scan 311 = .ok (.iload_n 1, 1) := by decide +kernel
theorem dX13_scan_312 : decode cX13_scan 312 = .ok (.bipush 124, 2) := by decide +kernel
theorem dX13_scan_314 : decode cX13_scan 314 = .ok (.if_icmp .eq 15, 3) := by decide +kernel
theorem dX13_scan_317 : decode cX13_scan 317 = .ok (.iload_n 1, 1) := by decide +kernel
theorem dX13_scan_318 : decode cX13_scan 318 = .ok (.bipush 94, 2) := by decide +kernel
theorem dX13_scan_320 : decode cX13_scan 320 = .ok (.if_icmp .eq 9, 3) := by decide +kernel
theorem dX13_scan_323 : decode cX13_scan 323 = .ok (.iload_n 1, 1) := by decide +kernel
theorem dX13_scan_324 : decode cX13_scan 324 = .ok (.bipush 126, 2) := by decide +kernel
theorem dX13_scan_326 : decode cX13_scan 326 = .ok (.if_icmp .ne 7, 3) := by decide +kernel
theorem dX13_scan_329 : decode cX13_scan 329 = .ok (.iconst 1, 1) := by decide +kernel
theorem dX13_scan_330 : decode cX13_scan 330 = .ok (.goto 4, 3) := by decide +kernel
theorem dX13_scan_333 : decode cX13_scan 333 = .ok (.iconst 0, 1) := by decide +kernel
theorem dX13_scan_334 : decode cX13_scan 334 = .ok (.istore_n 2, 1) := by decide +kernel
theorem dX13_scan_335 : decode cX13_scan 335 = .ok (.aload_n 0, 1) := by decide +kernel
theorem dX13_scan_336 : decode cX13_scan 336 = .ok (.iload_n 1, 1) := by decide +kernel
theorem dX13_scan_337 : decode cX13_scan 337 = .ok (.putfield 365, 3) := by decide +kernel
theorem dX13_scan_340 : decode cX13_scan 340 = .ok (.iload_n 2, 1) := by decide +kernel
theorem dX13_scan_341 : decode cX13_scan 341 = .ok (.ifCond .ne 7, 3) := by decide +kernel
theorem dX13_scan_344 : decode cX13_scan 344 = .ok (.aload_n 0, 1) := by decide +kernel
theorem dX13_scan_345 : decode cX13_scan 345 = .ok (.invokevirtual 383, 3) := by decide +kernel
theorem dX13_scan_348 : decode cX13_scan 348 = .ok (.aload_n 0, 1) := by decide +kernel
theorem dX13_scan_349 : decode cX13_scan 349 = .ok (.aload_n 0, 1) := by decide +kernel
theorem dX13_scan_350 : decode cX13_scan 350 = .ok (.getfield 371, 3) := by decide +kernel
theorem dX13_scan_353 : decode cX13_scan 353 = .ok (.putfield 374, 3) := by decide +kernel
theorem dX13_scan_356 : decode cX13_scan 356 = .ok (.return_, 1) := by decide +kernel
theorem dX13_worth_0 : decode cX13_worth 0 = .ok (.iload_n 0, 1) := by decide +kernel
theorem dX13_worth_1 : decode cX13_worth 1 = .ok (.invokestatic 351, 3) := by decide +kernel
theorem dX13_worth_4 : decode cX13_worth 4 = .ok (.ifCond .eq 10, 3) := by decide +kernel
theorem dX13_worth_7 : decode cX13_worth 7 = .ok (.iload_n 0, 1) := by decide +kernel
theorem dX13_worth_8 : decode cX13_worth 8 = .ok (.bipush 48, 2) := by decide +kernel
theorem dX13_worth_10 : decode cX13_worth 10 = .ok (.isub, 1) := by decide +kernel
theorem dX13_worth_11 : decode cX13_worth 11 = .ok (.goto 49, 3) := by decide +kernel
theorem dX13_worth_14 : decode cX13_worth 14 = .ok (.iload_n 0, 1) := by decide +kernel
theorem dX13_worth_15 : decode cX13_worth 15 = .ok (.bipush 97, 2) := by decide +kernel
theorem dX13_worth_17 : decode cX13_worth 17 = .ok (.if_icmp .lt 19, 3) := by decide +kernel
theorem dX13_worth_20 : decode cX13_worth 20 = .ok (.iload_n 0, 1) := by decide +kernel
theorem dX13_worth_21 : decode cX13_worth 21 = .ok (.bipush 102, 2) := by decide +kernel
theorem dX13_worth_23 : decode cX13_worth 23 = .ok (.if_icmp .gt 13, 3) := by decide +kernel
theorem dX13_worth_26 : decode cX13_worth 26 = .ok (.iload_n 0, 1) := by decide +kernel
theorem dX13_worth_27 : decode cX13_worth 27 = .ok (.bipush 97, 2) := by decide +kernel
theorem dX13_worth_29 : decode cX13_worth 29 = .ok (.isub, 1) := by decide +kernel
theorem dX13_worth_30 : decode cX13_worth 30 = .ok (.bipush 10, 2) := by decide +kernel
theorem dX13_worth_32 : decode cX13_worth 32 = .ok (.iadd, 1) := by decide +kernel
theorem dX13_worth_33 : decode cX13_worth 33 = .ok (.goto 27, 3) := by decide +kernel
theorem dX13_worth_36 : decode cX13_worth 36 = .ok (.iload_n 0, 1) := by decide +kernel
theorem dX13_worth_37 : decode cX13_worth 37 = .ok (.bipush 65, 2) := by decide +kernel
theorem dX13_worth_39 : decode cX13_worth 39 = .ok (.if_icmp .lt 19, 3) := by decide +kernel
theorem dX13_worth_42 : decode cX13_worth 42 = .ok (.iload_n 0, 1) := by decide +kernel
theorem dX13_worth_43 : decode cX13_worth 43 = .ok (.bipush 70, 2) := by decide +kernel
theorem dX13_worth_45 : decode cX13_worth 45 = .ok (.if_icmp .gt 13, 3) := by decide +kernel
theorem dX13_worth_48 : decode cX13_worth 48 = .ok (.iload_n 0, 1) := by decide +kernel
theorem dX13_worth_49 : decode cX13_worth 49 = .ok (.bipush 65, 2) := by decide +kernel
theorem dX13_worth_51 : decode cX13_worth 51 = .ok (.isub, 1) := by decide +kernel
theorem dX13_worth_52 : decode cX13_worth 52 = .ok (.bipush 10, 2) := by decide +kernel
theorem dX13_worth_54 : decode cX13_worth 54 = .ok (.iadd, 1) := by decide +kernel
theorem dX13_worth_55 : decode cX13_worth 55 = .ok (.goto 5, 3) := by decide +kernel
theorem dX13_worth_58 : decode cX13_worth 58 = .ok (.bipush 99, 2) := by decide +kernel
theorem dX13_worth_60 : decode cX13_worth 60 = .ok (.ireturn, 1) := by decide +kernel
theorem dX13_numeral_0 : decode cX13_numeral 0 = .ok (.iload_n 1, 1) := by decide +kernel
theorem dX13_numeral_1 : decode cX13_numeral 1 = .ok (.iload_n 2, 1) := by decide +kernel
theorem dX13_numeral_2 : decode cX13_numeral 2 = .ok (.if_icmp .ge 7, 3) := by decide +kernel
theorem dX13_numeral_5 : decode cX13_numeral 5 = .ok (.lconst 0, 1) := by decide +kernel
theorem dX13_numeral_6 : decode cX13_numeral 6 = .ok (.goto 6, 3) := by decide +kernel
theorem dX13_numeral_9 : decode cX13_numeral 9 = .ok (.ldc2_w 392, 3) := by decide +kernel
theorem dX13_numeral_12 : decode cX13_numeral 12 = .ok (.lstore 4, 2) := by decide +kernel
theorem dX13_numeral_14 : decode cX13_numeral 14 = .ok (.iload_n 1, 1) := by decide +kernel
theorem dX13_numeral_15 : decode cX13_numeral 15 = .ok (.istore 6, 2) := by decide +kernel
theorem dX13_numeral_17 : decode cX13_numeral 17 = .ok (.iload 6, 2) := by decide +kernel
theorem dX13_numeral_19 : decode cX13_numeral 19 = .ok (.iload_n 2, 1) := by decide +kernel
theorem dX13_numeral_20 : decode cX13_numeral 20 = .ok (.if_icmp .ge 70, 3) := by decide +kernel
theorem dX13_numeral_23 : decode cX13_numeral 23 = .ok (.lload 4, 2) := by decide +kernel
theorem dX13_numeral_25 : decode cX13_numeral 25 = .ok (.lconst 0, 1) := by decide +kernel
theorem dX13_numeral_26 : decode cX13_numeral 26 = .ok (.lcmp, 1) := by decide +kernel
theorem dX13_numeral_27 : decode cX13_numeral 27 = .ok (.ifCond .lt 63, 3) := by decide +kernel
theorem dX13_numeral_30 : decode cX13_numeral 30 = .ok (.aload_n 0, 1) := by decide +kernel
theorem dX13_numeral_31 : decode cX13_numeral 31 = .ok (.getfield 324, 3) := by decide +kernel
theorem dX13_numeral_34 : decode cX13_numeral 34 = .ok (.iload 6, 2) := by decide +kernel
theorem dX13_numeral_36 : decode cX13_numeral 36 = .ok (.caload, 1) := by decide +kernel
theorem dX13_numeral_37 : decode cX13_numeral 37 = .ok (.invokestatic 394, 3) := by decide +kernel
theorem dX13_numeral_40 : decode cX13_numeral 40 = .ok (.istore 7, 2) := by decide +kernel
theorem dX13_numeral_42 : decode cX13_numeral 42 = .ok (.iload 7, 2) := by decide +kernel
theorem dX13_numeral_44 : decode cX13_numeral 44 = .ok (.iload_n 3, 1) := by decide +kernel
theorem dX13_numeral_45 : decode cX13_numeral 45 = .ok (.if_icmp .ge 15, 3) := by decide +kernel
theorem dX13_numeral_48 : decode cX13_numeral 48 = .ok (.lload 4, 2) := by decide +kernel
theorem dX13_numeral_50 : decode cX13_numeral 50 = .ok (.iload_n 3, 1) := by decide +kernel
theorem dX13_numeral_51 : decode cX13_numeral 51 = .ok (.i2l, 1) := by decide +kernel
theorem dX13_numeral_52 : decode cX13_numeral 52 = .ok (.lmul, 1) := by decide +kernel
theorem dX13_numeral_53 : decode cX13_numeral 53 = .ok (.iload 7, 2) := by decide +kernel
theorem dX13_numeral_55 : decode cX13_numeral 55 = .ok (.i2l, 1) := by decide +kernel
theorem dX13_numeral_56 : decode cX13_numeral 56 = .ok (.ladd, 1) := by decide +kernel
theorem dX13_numeral_57 : decode cX13_numeral 57 = .ok (.goto 6, 3) := by decide +kernel
theorem dX13_numeral_60 : decode cX13_numeral 60 = .ok (.ldc2_w 392, 3) := by decide +kernel
theorem dX13_numeral_63 : decode cX13_numeral 63 = .ok (.lstore 4, 2) := by decide +kernel
theorem dX13_numeral_65 : decode cX13_numeral 65 = .ok (.lload 4, 2) := by decide +kernel
theorem dX13_numeral_67 : decode cX13_numeral 67 = .ok (.ldc2_w 397, 3) := by decide +kernel
theorem dX13_numeral_70 : decode cX13_numeral 70 = .ok (.lcmp, 1) := by decide +kernel
theorem dX13_numeral_71 : decode cX13_numeral 71 = .ok (.ifCond .le 9, 3) := by decide +kernel
theorem dX13_numeral_74 : decode cX13_numeral 74 = .ok (.ldc2_w 392, 3) := by decide +kernel
theorem dX13_numeral_77 : decode cX13_numeral 77 = .ok (.goto 5, 3) := by decide +kernel
theorem dX13_numeral_80 : decode cX13_numeral 80 = .ok (.lload 4, 2) := by decide +kernel
theorem dX13_numeral_82 : decode cX13_numeral 82 = .ok (.lstore 4, 2) := by decide +kernel
theorem dX13_numeral_84 : decode cX13_numeral 84 = .ok (.iinc 6 1, 3) := by decide +kernel
theorem dX13_numeral_87 : decode cX13_numeral 87 = .ok (.goto (-70), 3) := by decide +kernel
theorem dX13_numeral_90 : decode cX13_numeral 90 = .ok (.lload 4, 2) := by decide +kernel
theorem dX13_numeral_92 : decode cX13_numeral 92 = .ok (.lreturn, 1) := by decide +kernel
theorem dX13_digits_0 : decode cX13_digits 0 = .ok (.aload_n 0, 1) := by decide +kernel
theorem dX13_digits_1 : decode cX13_digits 1 = .ok (.getfield 371, 3) := by decide +kernel
theorem dX13_digits_4 : decode cX13_digits 4 = .ok (.aload_n 0, 1) := by decide +kernel
theorem dX13_digits_5 : decode cX13_digits 5 = .ok (.getfield 368, 3) := by decide +kernel
theorem dX13_digits_8 : decode cX13_digits 8 = .ok (.isub, 1) := by decide +kernel
theorem dX13_digits_9 : decode cX13_digits 9 = .ok (.iconst 1, 1) := by decide +kernel
theorem dX13_digits_10 : decode cX13_digits 10 = .ok (.if_icmp .le 17, 3) := by decide +kernel
theorem dX13_digits_13 : decode cX13_digits 13 = .ok (.aload_n 0, 1) := by decide +kernel
theorem dX13_digits_14 : decode cX13_digits 14 = .ok (.getfield 324, 3) := by decide +kernel
theorem dX13_digits_17 : decode cX13_digits 17 = .ok (.aload_n 0, 1) := by decide +kernel
theorem dX13_digits_18 : decode cX13_digits 18 = .ok (.getfield 368, 3) := by decide +kernel
theorem dX13_digits_21 : decode cX13_digits 21 = .ok (.iconst 1, 1) := by decide +kernel
theorem dX13_digits_22 : decode cX13_digits 22 = .ok (.iadd, 1) := by decide +kernel
theorem dX13_digits_23 : decode cX13_digits 23 = .ok (.caload, 1) := by decide +kernel
theorem dX13_digits_24 : decode cX13_digits 24 = .ok (.goto 4, 3) := by decide +kernel
