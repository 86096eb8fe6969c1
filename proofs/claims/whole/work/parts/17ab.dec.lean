theorem dX2_blame_0 : decode cX2_blame 0 = .ok (.aload_n 0, 1) := by decide +kernel
theorem dX2_blame_1 : decode cX2_blame 1 = .ok (.getfield 64, 3) := by decide +kernel
theorem dX2_blame_4 : decode cX2_blame 4 = .ok (.ifCond .ne 16, 3) := by decide +kernel
theorem dX2_blame_7 : decode cX2_blame 7 = .ok (.aload_n 0, 1) := by decide +kernel
theorem dX2_blame_8 : decode cX2_blame 8 = .ok (.iload_n 1, 1) := by decide +kernel
theorem dX2_blame_9 : decode cX2_blame 9 = .ok (.bipush 8, 2) := by decide +kernel
theorem dX2_blame_11 : decode cX2_blame 11 = .ok (.aload_n 0, 1) := by decide +kernel
theorem dX2_blame_12 : decode cX2_blame 12 = .ok (.getfield 90, 3) := by decide +kernel
theorem dX2_blame_15 : decode cX2_blame 15 = .ok (.imul, 1) := by decide +kernel
theorem dX2_blame_16 : decode cX2_blame 16 = .ok (.iadd, 1) := by decide +kernel
theorem dX2_blame_17 : decode cX2_blame 17 = .ok (.putfield 64, 3) := by decide +kernel
theorem dX2_blame_20 : decode cX2_blame 20 = .ok (.return_, 1) := by decide +kernel
theorem dX2_isLetter_0 : decode cX2_isLetter 0 = .ok (.iload_n 0, 1) := by decide +kernel
theorem dX2_isLetter_1 : decode cX2_isLetter 1 = .ok (.bipush 97, 2) := by decide +kernel
theorem dX2_isLetter_3 : decode cX2_isLetter 3 = .ok (.if_icmp .lt 9, 3) := by decide +kernel
theorem dX2_isLetter_6 : decode cX2_isLetter 6 = .ok (.iload_n 0, 1) := by decide +kernel
theorem dX2_isLetter_7 : decode cX2_isLetter 7 = .ok (.bipush 122, 2) := by decide +kernel
theorem dX2_isLetter_9 : decode cX2_isLetter 9 = .ok (.if_icmp .le 15, 3) := by decide +kernel
theorem dX2_isLetter_12 : decode cX2_isLetter 12 = .ok (.iload_n 0, 1) := by decide +kernel
theorem dX2_isLetter_13 : decode cX2_isLetter 13 = .ok (.bipush 65, 2) := by decide +kernel
theorem dX2_isLetter_15 : decode cX2_isLetter 15 = .ok (.if_icmp .lt 13, 3) := by decide +kernel
theorem dX2_isLetter_18 : decode cX2_isLetter 18 = .ok (.iload_n 0, 1) := by decide +kernel
theorem dX2_isLetter_19 : decode cX2_isLetter 19 = .ok (.bipush 90, 2) := by decide +kernel
theorem dX2_isLetter_21 : decode cX2_isLetter 21 = .ok (.if_icmp .gt 7, 3) := by decide +kernel
theorem dX2_isLetter_24 : decode cX2_isLetter 24 = .ok (.iconst 1, 1) := by decide +kernel
theorem dX2_isLetter_25 : decode cX2_isLetter 25 = .ok (.goto 4, 3) := by decide +kernel
theorem dX2_isLetter_28 : decode cX2_isLetter 28 = .ok (.iconst 0, 1) := by decide +kernel
theorem dX2_isLetter_29 : decode cX2_isLetter 29 = .ok (.ireturn, 1) := by decide +kernel
theorem dX2_isDigit_0 : decode cX2_isDigit 0 = .ok (.iload_n 0, 1) := by decide +kernel
theorem dX2_isDigit_1 : decode cX2_isDigit 1 = .ok (.bipush 48, 2) := by decide +kernel
theorem dX2_isDigit_3 : decode cX2_isDigit 3 = .ok (.if_icmp .lt 13, 3) := by decide +kernel
theorem dX2_isDigit_6 : decode cX2_isDigit 6 = .ok (.iload_n 0, 1) := by decide +kernel
theorem dX2_isDigit_7 : decode cX2_isDigit 7 = .ok (.bipush 57, 2) := by decide +kernel
theorem dX2_isDigit_9 : decode cX2_isDigit 9 = .ok (.if_icmp .gt 7, 3) := by decide +kernel
theorem dX2_isDigit_12 : decode cX2_isDigit 12 = .ok (.iconst 1, 1) := by decide +kernel
theorem dX2_isDigit_13 : decode cX2_isDigit 13 = .ok (.goto 4, 3) := by decide +kernel
theorem dX2_isDigit_16 : decode cX2_isDigit 16 = .ok (.iconst 0, 1) := by decide +kernel
theorem dX2_isDigit_17 : decode cX2_isDigit 17 = .ok (.ireturn, 1) := by decide +kernel
theorem dX2_next_0 : decode cX2_next 0 = .ok (.aload_n 0, 1) := by decide +kernel
theorem dX2_next_1 : decode cX2_next 1 = .ok (.getfield 49, 3) := by decide +kernel
theorem dX2_next_4 : decode cX2_next 4 = .ok (.aload_n 0, 1) := by decide +kernel
theorem dX2_next_5 : decode cX2_next 5 = .ok (.getfield 45, 3) := by decide +kernel
theorem dX2_next_8 : decode cX2_next 8 = .ok (.if_icmp .ge 30, 3) := by decide +kernel
theorem dX2_next_11 : decode cX2_next 11 = .ok (.aload_n 0, 1) := by decide +kernel
theorem dX2_next_12 : decode cX2_next 12 = .ok (.getfield 35, 3) := by decide +kernel
theorem dX2_next_15 : decode cX2_next 15 = .ok (.aload_n 0, 1) := by decide +kernel
theorem dX2_next_16 : decode cX2_next 16 = .ok (.getfield 49, 3) := by decide +kernel
theorem dX2_next_19 : decode cX2_next 19 = .ok (.baload, 1) := by decide +kernel
theorem dX2_next_20 : decode cX2_next 20 = .ok (.bipush 32, 2) := by decide +kernel
theorem dX2_next_22 : decode cX2_next 22 = .ok (.if_icmp .ne 16, 3) := by decide +kernel
theorem dX2_next_25 : decode cX2_next 25 = .ok (.aload_n 0, 1) := by decide +kernel
theorem dX2_next_26 : decode cX2_next 26 = .ok (.dup, 1) := by decide +kernel
theorem dX2_next_27 : decode cX2_next 27 = .ok (.getfield 49, 3) := by decide +kernel
theorem dX2_next_30 : decode cX2_next 30 = .ok (.iconst 1, 1) := by decide +kernel
theorem dX2_next_31 : decode cX2_next 31 = .ok (.iadd, 1) := by decide +kernel
theorem dX2_next_32 : decode cX2_next 32 = .ok (.putfield 49, 3) := by decide +kernel
theorem dX2_next_35 : decode cX2_next 35 = .ok (.goto (-35), 3) := by decide +kernel
theorem dX2_next_38 : decode cX2_next 38 = .ok (.aload_n 0, 1) := by decide +kernel
theorem dX2_next_39 : decode cX2_next 39 = .ok (.aload_n 0, 1) := by decide +kernel
theorem dX2_next_40 : decode cX2_next 40 = .ok (.getfield 49, 3) := by decide +kernel
theorem dX2_next_43 : decode cX2_next 43 = .ok (.putfield 90, 3) := by decide +kernel
theorem dX2_next_46 : decode cX2_next 46 = .ok (.aload_n 0, 1) := by decide +kernel
theorem dX2_next_47 : decode cX2_next 47 = .ok (.getfield 49, 3) := by decide +kernel
theorem dX2_next_50 : decode cX2_next 50 = .ok (.aload_n 0, 1) := by decide +kernel
theorem dX2_next_51 : decode cX2_next 51 = .ok (.getfield 45, 3) := by decide +kernel
theorem dX2_next_54 : decode cX2_next 54 = .ok (.if_icmp .lt 9, 3) := by decide +kernel
theorem dX2_next_57 : decode cX2_next 57 = .ok (.aload_n 0, 1) := by decide +kernel
theorem dX2_next_58 : decode cX2_next 58 = .ok (.iconst 0, 1) := by decide +kernel
theorem dX2_next_59 : decode cX2_next 59 = .ok (.putfield 77, 3) := by decide +kernel
theorem dX2_next_62 : decode cX2_next 62 = .ok (.return_, 1) := by decide +kernel
theorem dX2_next_63 : decode cX2_next 63 = .ok (.aload_n 0, 1) := by decide +kernel
theorem dX2_next_64 : decode cX2_next 64 = .ok (.getfield 35, 3) := by decide +kernel
theorem dX2_next_67 : decode cX2_next 67 = .ok (.aload_n 0, 1) := by decide +kernel
theorem dX2_next_68 : decode cX2_next 68 = .ok (.getfield 49, 3) := by decide +kernel
theorem dX2_next_71 : decode cX2_next 71 = .ok (.baload, 1) := by decide +kernel
theorem dX2_next_72 : decode cX2_next 72 = .ok (.istore_n 1, 1) := by decide +kernel
theorem dX2_next_73 : decode cX2_next 73 = .ok (.iload_n 1, 1) := by decide +kernel
theorem dX2_next_74 : decode cX2_next 74 = .ok (.invokestatic 93, 3) := by decide +kernel
theorem dX2_next_77 : decode cX2_next 77 = .ok (.ifCond .ne 10, 3) := by decide +kernel
theorem dX2_next_80 : decode cX2_next 80 = .ok (.iload_n 1, 1) := by decide +kernel
theorem dX2_next_81 : decode cX2_next 81 = .ok (.invokestatic 97, 3) := by decide +kernel
theorem dX2_next_84 : decode cX2_next 84 = .ok (.ifCond .eq 86, 3) := by decide +kernel
theorem dX2_next_87 : decode cX2_next 87 = .ok (.aload_n 0, 1) := by decide +kernel
theorem dX2_next_88 : decode cX2_next 88 = .ok (.getfield 49, 3) := by decide +kernel
theorem dX2_next_91 : decode cX2_next 91 = .ok (.aload_n 0, 1) := by decide +kernel
theorem dX2_next_92 : decode cX2_next 92 = .ok (.getfield 45, 3) := by decide +kernel
theorem dX2_next_95 : decode cX2_next 95 = .ok (.if_icmp .ge 46, 3) := by decide +kernel
theorem dX2_next_98 : decode cX2_next 98 = .ok (.aload_n 0, 1) := by decide +kernel
theorem dX2_next_99 : decode cX2_next 99 = .ok (.getfield 35, 3) := by decide +kernel
theorem dX2_next_102 : decode cX2_next 102 = .ok (.aload_n 0, 1) := by decide +kernel
theorem dX2_next_103 : decode cX2_next 103 = .ok (.getfield 49, 3) := by decide +kernel
theorem dX2_next_106 : decode cX2_next 106 = .ok (.baload, 1) := by decide +kernel
theorem dX2_next_107 : decode cX2_next 107 = .ok (.invokestatic 93, 3) := by decide +kernel
theorem dX2_next_110 : decode cX2_next 110 = .ok (.ifCond .ne 18, 3) := by decide +kernel
theorem dX2_next_113 : decode cX2_next 113 = .ok (.aload_n 0, 1) := by decide +kernel
theorem dX2_next_114 : decode cX2_next 114 = .ok (.getfield 35, 3) := by decide +kernel
theorem dX2_next_117 : decode cX2_next 117 = .ok (.aload_n 0, 1) := by decide +kernel
theorem dX2_next_118 : decode cX2_next 118 = .ok (.getfield 49, 3) := by decide +kernel
theorem dX2_next_121 : decode cX2_next 121 = .ok (.baload, 1) := by decide +kernel
theorem dX2_next_122 : decode cX2_next 122 = .ok (.invokestatic 97, 3) := by decide +kernel
theorem dX2_next_125 : decode cX2_next 125 = .ok (.ifCond .eq 16, 3) := by decide +kernel
theorem dX2_next_128 : decode cX2_next 128 = .ok (.aload_n 0, 1) := by decide +kernel
theorem dX2_next_129 : decode cX2_next 129 = .ok (.dup, 1) := by decide +kernel
theorem dX2_next_130 : decode cX2_next 130 = .ok (.getfield 49, 3) := by decide +kernel
theorem dX2_next_133 : decode cX2_next 133 = .ok (.iconst 1, 1) := by decide +kernel
theorem dX2_next_134 : decode cX2_next 134 = .ok (.iadd, 1) := by decide +kernel
theorem dX2_next_135 : decode cX2_next 135 = .ok (.putfield 49, 3) := by decide +kernel
theorem dX2_next_138 : decode cX2_next 138 = .ok (.goto (-51), 3) := by decide +kernel
theorem dX2_next_141 : decode cX2_next 141 = .ok (.aload_n 0, 1) := by decide +kernel
theorem dX2_next_142 : decode cX2_next 142 = .ok (.iload_n 1, 1) := by decide +kernel
theorem dX2_next_143 : decode cX2_next 143 = .ok (.invokestatic 93, 3) := by decide +kernel
theorem dX2_next_146 : decode cX2_next 146 = .ok (.ifCond .eq 7, 3) := by decide +kernel
theorem dX2_next_149 : decode cX2_next 149 = .ok (.iconst 2, 1) := by decide +kernel
theorem dX2_next_150 : decode cX2_next 150 = .ok (.goto 4, 3) := by decide +kernel
theorem dX2_next_153 : decode cX2_next 153 = .ok (.iconst 1, 1) := by decide +kernel
theorem dX2_next_154 : decode cX2_next 154 = .ok (.putfield 77, 3) := by decide +kernel
theorem dX2_next_157 : decode cX2_next 157 = .ok (.aload_n 0, 1) := by decide +kernel
theorem dX2_next_158 : decode cX2_next 158 = .ok (.getfield 77, 3) := by decide +kernel
theorem dX2_next_161 : decode cX2_next 161 = .ok (.iconst 1, 1) := by decide +kernel
theorem dX2_next_162 : decode cX2_next 162 = .ok (.if_icmp .ne 7, 3) := by decide +kernel
theorem dX2_next_165 : decode cX2_next 165 = .ok (.aload_n 0, 1) := by decide +kernel
theorem dX2_next_166 : decode cX2_next 166 = .ok (.invokevirtual 100, 3) := by decide +kernel
theorem dX2_next_169 : decode cX2_next 169 = .ok (.return_, 1) := by decide +kernel
theorem dX2_next_170 : decode cX2_next 170 = .ok (.aload_n 0, 1) := by decide +kernel
theorem dX2_next_171 : decode cX2_next 171 = .ok (.getfield 49, 3) := by decide +kernel
theorem dX2_next_174 : decode cX2_next 174 = .ok (.iconst 1, 1) := by decide +kernel
theorem dX2_next_175 : decode cX2_next 175 = .ok (.iadd, 1) := by decide +kernel
theorem dX2_next_176 : decode cX2_next 176 = .ok (.aload_n 0, 1) := by decide +kernel
theorem dX2_next_177 : decode cX2_next 177 = .ok (.getfield 45, 3) := by decide +kernel
theorem dX2_next_180 : decode cX2_next 180 = .ok (.if_icmp .ge 17, 3) := by decide +kernel
theorem dX2_next_183 : decode cX2_next 183 = .ok (.aload_n 0, 1) := by decide +kernel
theorem dX2_next_184 : decode cX2_next 184 = .ok (.getfield 35, 3) := by decide +kernel
theorem dX2_next_187 : decode cX2_next 187 = .ok (.aload_n 0, 1) := by decide +kernel
theorem dX2_next_188 : decode cX2_next 188 = .ok (.getfield 49, 3) := by decide +kernel
theorem dX2_next_191 : decode cX2_next 191 = .ok (.iconst 1, 1) := by decide +kernel
theorem dX2_next_192 : decode cX2_next 192 = .ok (.iadd, 1) := by decide +kernel
theorem dX2_next_193 : decode cX2_next 193 = .ok (.baload, 1) := by decide +kernel
theorem dX2_next_194 : decode cX2_next 194 = .ok (.goto 4, 3) := by decide +kernel
theorem dX2_next_197 : decode cX2_next 197 = .ok (.iconst 0, 1) := by decide +kernel
theorem dX2_next_198 : decode cX2_next 198 = .ok (.istore_n 2, 1) := by decide +kernel
theorem dX2_next_199 : decode cX2_next 199 = .ok (.iload_n 1, 1) := by decide +kernel
theorem dX2_next_200 : decode cX2_next 200 = .ok (.iload_n 2, 1) := by decide +kernel
theorem dX2_next_201 : decode cX2_next 201 = .ok (.invokestatic 103, 3) := by decide +kernel
theorem dX2_next_204 : decode cX2_next 204 = .ok (.istore_n 3, 1) := by decide +kernel
theorem dX2_next_205 : decode cX2_next 205 = .ok (.aload_n 0, 1) := by decide +kernel
theorem dX2_next_206 : decode cX2_next 206 = .ok (.iload_n 3, 1) := by decide +kernel
theorem dX2_next_207 : decode cX2_next 207 = .ok (.ifCond .eq 8, 3) := by decide +kernel
theorem dX2_next_210 : decode cX2_next 210 = .ok (.iload_n 3, 1) := by decide +kernel
theorem dX2_next_211 : decode cX2_next 211 = .ok (.i2l, 1) := by decide +kernel
theorem dX2_next_212 : decode cX2_next 212 = .ok (.goto 8, 3) := by decide +kernel
theorem dX2_next_215 : decode cX2_next 215 = .ok (.iload_n 1, 1) := by decide +kernel
theorem dX2_next_216 : decode cX2_next 216 = .ok (.invokestatic 106, 3) := by decide +kernel
theorem dX2_next_219 : decode cX2_next 219 = .ok (.i2l, 1) := by decide +kernel
theorem dX2_next_220 : decode cX2_next 220 = .ok (.putfield 110, 3) := by decide +kernel
theorem dX2_next_223 : decode cX2_next 223 = .ok (.aload_n 0, 1) := by decide +kernel
theorem dX2_next_224 : decode cX2_next 224 = .ok (.aload_n 0, 1) := by decide +kernel
theorem dX2_next_225 : decode cX2_next 225 = .ok (.getfield 110, 3) := by decide +kernel
theorem dX2_next_228 : decode cX2_next 228 = .ok (.lconst 0, 1) := by decide +kernel
theorem dX2_next_229 : decode cX2_next 229 = .ok (.lcmp, 1) := by decide +kernel
theorem dX2_next_230 : decode cX2_next 230 = .ok (.ifCond .eq 7, 3) := by decide +kernel
theorem dX2_next_233 : decode cX2_next 233 = .ok (.iconst 3, 1) := by decide +kernel
theorem dX2_next_234 : decode cX2_next 234 = .ok (.goto 4, 3) := by decide +kernel
theorem dX2_next_237 : decode cX2_next 237 = .ok (.iconst 4, 1) := by decide +kernel
theorem dX2_next_238 : decode cX2_next 238 = .ok (.putfield 77, 3) := by decide +kernel
theorem dX2_next_241 : decode cX2_next 241 = .ok (.aload_n 0, 1) := by decide +kernel
theorem dX2_next_242 : decode cX2_next 242 = .ok (.dup, 1) := by decide +kernel
theorem dX2_next_243 : decode cX2_next 243 = .ok (.getfield 49, 3) := by decide +kernel
theorem dX2_next_246 : decode cX2_next 246 = .ok (.iload_n 3, 1) := by decide +kernel
theorem dX2_next_247 : decode cX2_next 247 = .ok (.ifCond .eq 7, 3) := by decide +kernel
theorem dX2_next_250 : decode cX2_next 250 = .ok (.iconst 2, 1) := by decide +kernel
theorem dX2_next_251 : decode cX2_next 251 = .ok (.goto 4, 3) := by decide +kernel
theorem dX2_next_254 : decode cX2_next 254 = .ok (.iconst 1, 1) := by decide +kernel
theorem dX2_next_255 : decode cX2_next 255 = .ok (.iadd, 1) := by decide +kernel
theorem dX2_next_256 : decode cX2_next 256 = .ok (.putfield 49, 3) := by decide +kernel
theorem dX2_next_259 : decode cX2_next 259 = .ok (.return_, 1) := by decide +kernel
theorem dX2_readNumber_0 : decode cX2_readNumber 0 = .ok (.aload_n 0, 1) := by decide +kernel
theorem dX2_readNumber_1 : decode cX2_readNumber 1 = .ok (.getfield 49, 3) := by decide +kernel
theorem dX2_readNumber_4 : decode cX2_readNumber 4 = .ok (.aload_n 0, 1) := by decide +kernel
theorem dX2_readNumber_5 : decode cX2_readNumber 5 = .ok (.getfield 90, 3) := by decide +kernel
theorem dX2_readNumber_8 : decode cX2_readNumber 8 = .ok (.isub, 1) := by decide +kernel
theorem dX2_readNumber_9 : decode cX2_readNumber 9 = .ok (.iconst 2, 1) := by decide +kernel
theorem dX2_readNumber_10 : decode cX2_readNumber 10 = .ok (.if_icmp .le 37, 3) := by decide +kernel
theorem dX2_readNumber_13 : decode cX2_readNumber 13 = .ok (.aload_n 0, 1) := by decide +kernel
theorem dX2_readNumber_14 : decode cX2_readNumber 14 = .ok (.getfield 35, 3) := by decide +kernel
theorem dX2_readNumber_17 : decode cX2_readNumber 17 = .ok (.aload_n 0, 1) := by decide +kernel
theorem dX2_readNumber_18 : decode cX2_readNumber 18 = .ok (.getfield 90, 3) := by decide +kernel
theorem dX2_readNumber_21 : decode cX2_readNumber 21 = .ok (.baload, 1) := by decide +kernel
theorem dX2_readNumber_22 : decode cX2_readNumber 22 = .ok (.bipush 48, 2) := by decide +kernel
theorem dX2_readNumber_24 : decode cX2_readNumber 24 = .ok (.if_icmp .ne 23, 3) := by decide +kernel
theorem dX2_readNumber_27 : decode cX2_readNumber 27 = .ok (.aload_n 0, 1) := by decide +kernel
theorem dX2_readNumber_28 : decode cX2_readNumber 28 = .ok (.getfield 35, 3) := by decide +kernel
theorem dX2_readNumber_31 : decode cX2_readNumber 31 = .ok (.aload_n 0, 1) := by decide +kernel
theorem dX2_readNumber_32 : decode cX2_readNumber 32 = .ok (.getfield 90, 3) := by decide +kernel
theorem dX2_readNumber_35 : decode cX2_readNumber 35 = .ok (.iconst 1, 1) := by decide +kernel
theorem dX2_readNumber_36 : decode cX2_readNumber 36 = .ok (.iadd, 1) := by decide +kernel
theorem dX2_readNumber_37 : decode cX2_readNumber 37 = .ok (.baload, 1) := by decide +kernel
theorem dX2_readNumber_38 : decode cX2_readNumber 38 = .ok (.bipush 120, 2) := by decide +kernel
theorem dX2_readNumber_40 : decode cX2_readNumber 40 = .ok (.if_icmp .ne 7, 3) := by decide +kernel
theorem dX2_readNumber_43 : decode cX2_readNumber 43 = .ok (.iconst 1, 1) := by decide +kernel
theorem dX2_readNumber_44 : decode cX2_readNumber 44 = .ok (.goto 4, 3) := by decide +kernel
theorem dX2_readNumber_47 : decode cX2_readNumber 47 = .ok (.iconst 0, 1) := by decide +kernel
theorem dX2_readNumber_48 : decode cX2_readNumber 48 = .ok (.istore_n 1, 1) := by decide +kernel
theorem dX2_readNumber_49 : decode cX2_readNumber 49 = .ok (.aload_n 0, 1) := by decide +kernel
theorem dX2_readNumber_50 : decode cX2_readNumber 50 = .ok (.lconst 0, 1) := by decide +kernel
theorem dX2_readNumber_51 : decode cX2_readNumber 51 = .ok (.putfield 110, 3) := by decide +kernel
theorem dX2_readNumber_54 : decode cX2_readNumber 54 = .ok (.iload_n 1, 1) := by decide +kernel
theorem dX2_readNumber_55 : decode cX2_readNumber 55 = .ok (.ifCond .eq 12, 3) := by decide +kernel
theorem dX2_readNumber_58 : decode cX2_readNumber 58 = .ok (.aload_n 0, 1) := by decide +kernel
theorem dX2_readNumber_59 : decode cX2_readNumber 59 = .ok (.getfield 90, 3) := by decide +kernel
theorem dX2_readNumber_62 : decode cX2_readNumber 62 = .ok (.iconst 2, 1) := by decide +kernel
theorem dX2_readNumber_63 : decode cX2_readNumber 63 = .ok (.iadd, 1) := by decide +kernel
theorem dX2_readNumber_64 : decode cX2_readNumber 64 = .ok (.goto 7, 3) := by decide +kernel
theorem dX2_readNumber_67 : decode cX2_readNumber 67 = .ok (.aload_n 0, 1) := by decide +kernel
theorem dX2_readNumber_68 : decode cX2_readNumber 68 = .ok (.getfield 90, 3) := by decide +kernel
theorem dX2_readNumber_71 : decode cX2_readNumber 71 = .ok (.istore_n 2, 1) := by decide +kernel
theorem dX2_readNumber_72 : decode cX2_readNumber 72 = .ok (.iload_n 2, 1) := by decide +kernel
theorem dX2_readNumber_73 : decode cX2_readNumber 73 = .ok (.aload_n 0, 1) := by decide +kernel
theorem dX2_readNumber_74 : decode cX2_readNumber 74 = .ok (.getfield 49, 3) := by decide +kernel
theorem dX2_readNumber_77 : decode cX2_readNumber 77 = .ok (.if_icmp .ge 106, 3) := by decide +kernel
theorem dX2_readNumber_80 : decode cX2_readNumber 80 = .ok (.aload_n 0, 1) := by decide +kernel
theorem dX2_readNumber_81 : decode cX2_readNumber 81 = .ok (.getfield 35, 3) := by decide +kernel
theorem dX2_readNumber_84 : decode cX2_readNumber 84 = .ok (.iload_n 2, 1) := by decide +kernel
theorem dX2_readNumber_85 : decode cX2_readNumber 85 = .ok (.baload, 1) := by decide +kernel
theorem dX2_readNumber_86 : decode cX2_readNumber 86 = .ok (.istore_n 3, 1) := by decide +kernel
theorem dX2_readNumber_87 : decode cX2_readNumber 87 = .ok (.iload_n 3, 1) := by decide +kernel
theorem dX2_readNumber_88 : decode cX2_readNumber 88 = .ok (.invokestatic 97, 3) := by decide +kernel
theorem dX2_readNumber_91 : decode cX2_readNumber 91 = .ok (.ifCond .eq 10, 3) := by decide +kernel
theorem dX2_readNumber_94 : decode cX2_readNumber 94 = .ok (.iload_n 3, 1) := by decide +kernel
theorem dX2_readNumber_95 : decode cX2_readNumber 95 = .ok (.bipush 48, 2) := by decide +kernel
theorem dX2_readNumber_97 : decode cX2_readNumber 97 = .ok (.isub, 1) := by decide +kernel
theorem dX2_readNumber_98 : decode cX2_readNumber 98 = .ok (.goto 30, 3) := by decide +kernel
theorem dX2_readNumber_101 : decode cX2_readNumber 101 = .ok (.iload_n 1, 1) := by decide +kernel
theorem dX2_readNumber_102 : decode cX2_readNumber 102 = .ok (.ifCond .eq 25, 3) := by decide +kernel
theorem dX2_readNumber_105 : decode cX2_readNumber 105 = .ok (.iload_n 3, 1) := by decide +kernel
theorem dX2_readNumber_106 : decode cX2_readNumber 106 = .ok (.bipush 97, 2) := by decide +kernel
theorem dX2_readNumber_108 : decode cX2_readNumber 108 = .ok (.if_icmp .lt 19, 3) := by decide +kernel
theorem dX2_readNumber_111 : decode cX2_readNumber 111 = .ok (.iload_n 3, 1) := by decide +kernel
theorem dX2_readNumber_112 : decode cX2_readNumber 112 = .ok (.bipush 102, 2) := by decide +kernel
theorem dX2_readNumber_114 : decode cX2_readNumber 114 = .ok (.if_icmp .gt 13, 3) := by decide +kernel
theorem dX2_readNumber_117 : decode cX2_readNumber 117 = .ok (.iload_n 3, 1) := by decide +kernel
theorem dX2_readNumber_118 : decode cX2_readNumber 118 = .ok (.bipush 97, 2) := by decide +kernel
theorem dX2_readNumber_120 : decode cX2_readNumber 120 = .ok (.isub, 1) := by decide +kernel
theorem dX2_readNumber_121 : decode cX2_readNumber 121 = .ok (.bipush 10, 2) := by decide +kernel
theorem dX2_readNumber_123 : decode cX2_readNumber 123 = .ok (.iadd, 1) := by decide +kernel
theorem dX2_readNumber_124 : decode cX2_readNumber 124 = .ok (.goto 4, 3) := by decide +kernel
theorem dX2_readNumber_127 : decode cX2_readNumber 127 = .ok (.iconst (-1), 1) := by decide +kernel
theorem dX2_readNumber_128 : decode cX2_readNumber 128 = .ok (.istore 4, 2) := by decide +kernel
theorem dX2_readNumber_130 : decode cX2_readNumber 130 = .ok (.aload_n 0, 1) := by decide +kernel
theorem dX2_readNumber_131 : decode cX2_readNumber 131 = .ok (.aload_n 0, 1) := by decide +kernel
theorem dX2_readNumber_132 : decode cX2_readNumber 132 = .ok (.getfield 110, 3) := by decide +kernel
theorem dX2_readNumber_135 : decode cX2_readNumber 135 = .ok (.iload_n 1, 1) := by decide +kernel
theorem dX2_readNumber_136 : decode cX2_readNumber 136 = .ok (.ifCond .eq 8, 3) := by decide +kernel
theorem dX2_readNumber_139 : decode cX2_readNumber 139 = .ok (.bipush 16, 2) := by decide +kernel
theorem dX2_readNumber_141 : decode cX2_readNumber 141 = .ok (.goto 5, 3) := by decide +kernel
theorem dX2_readNumber_144 : decode cX2_readNumber 144 = .ok (.bipush 10, 2) := by decide +kernel
theorem dX2_readNumber_146 : decode cX2_readNumber 146 = .ok (.i2l, 1) := by decide +kernel
theorem dX2_readNumber_147 : decode cX2_readNumber 147 = .ok (.lmul, 1) := by decide +kernel
theorem dX2_readNumber_148 : decode cX2_readNumber 148 = .ok (.iload 4, 2) := by decide +kernel
theorem dX2_readNumber_150 : decode cX2_readNumber 150 = .ok (.i2l, 1) := by decide +kernel
theorem dX2_readNumber_151 : decode cX2_readNumber 151 = .ok (.ladd, 1) := by decide +kernel
theorem dX2_readNumber_152 : decode cX2_readNumber 152 = .ok (.putfield 110, 3) := by decide +kernel
theorem dX2_readNumber_155 : decode cX2_readNumber 155 = .ok (.iload 4, 2) := by decide +kernel
theorem dX2_readNumber_157 : decode cX2_readNumber 157 = .ok (.ifCond .lt 14, 3) := by decide +kernel
theorem dX2_readNumber_160 : decode cX2_readNumber 160 = .ok (.aload_n 0, 1) := by decide +kernel
theorem dX2_readNumber_161 : decode cX2_readNumber 161 = .ok (.getfield 110, 3) := by decide +kernel
theorem dX2_readNumber_164 : decode cX2_readNumber 164 = .ok (.ldc2_w 114, 3) := by decide +kernel
theorem dX2_readNumber_167 : decode cX2_readNumber 167 = .ok (.lcmp, 1) := by decide +kernel
theorem dX2_readNumber_168 : decode cX2_readNumber 168 = .ok (.ifCond .le 9, 3) := by decide +kernel
theorem dX2_readNumber_171 : decode cX2_readNumber 171 = .ok (.aload_n 0, 1) := by decide +kernel
theorem dX2_readNumber_172 : decode cX2_readNumber 172 = .ok (.iconst 4, 1) := by decide +kernel
theorem dX2_readNumber_173 : decode cX2_readNumber 173 = .ok (.putfield 77, 3) := by decide +kernel
theorem dX2_readNumber_176 : decode cX2_readNumber 176 = .ok (.return_, 1) := by decide +kernel
theorem dX2_readNumber_177 : decode cX2_readNumber 177 = .ok (.iinc 2 1, 3) := by decide +kernel
theorem dX2_readNumber_180 : decode cX2_readNumber 180 = .ok (.goto (-108), 3) := by decide +kernel
theorem dX2_readNumber_183 : decode cX2_readNumber 183 = .ok (.return_, 1) := by decide +kernel
theorem dX2_pair_0 : decode cX2_pair 0 = .ok (.iload_n 1, 1) := by decide +kernel
theorem dX2_pair_1 : decode cX2_pair 1 = .ok (.bipush 61, 2) := by decide +kernel
theorem dX2_pair_3 : decode cX2_pair 3 = .ok (.if_icmp .ne 47, 3) := by decide +kernel
theorem dX2_pair_6 : decode cX2_pair 6 = .ok (.iload_n 0, 1) := by decide +kernel
theorem dX2_pair_7 : decode cX2_pair 7 = .ok (.bipush 61, 2) := by decide +kernel
theorem dX2_pair_9 : decode cX2_pair 9 = .ok (.if_icmp .ne 7, 3) := by decide +kernel
theorem dX2_pair_12 : decode cX2_pair 12 = .ok (.iconst 3, 1) := by decide +kernel
theorem dX2_pair_13 : decode cX2_pair 13 = .ok (.goto 36, 3) := by decide +kernel
theorem dX2_pair_16 : decode cX2_pair 16 = .ok (.iload_n 0, 1) := by decide +kernel
theorem dX2_pair_17 : decode cX2_pair 17 = .ok (.bipush 33, 2) := by decide +kernel
theorem dX2_pair_19 : decode cX2_pair 19 = .ok (.if_icmp .ne 7, 3) := by decide +kernel
theorem dX2_pair_22 : decode cX2_pair 22 = .ok (.iconst 4, 1) := by decide +kernel
theorem dX2_pair_23 : decode cX2_pair 23 = .ok (.goto 26, 3) := by decide +kernel
theorem dX2_pair_26 : decode cX2_pair 26 = .ok (.iload_n 0, 1) := by decide +kernel
theorem dX2_pair_27 : decode cX2_pair 27 = .ok (.bipush 60, 2) := by decide +kernel
theorem dX2_pair_29 : decode cX2_pair 29 = .ok (.if_icmp .ne 8, 3) := by decide +kernel
theorem dX2_pair_32 : decode cX2_pair 32 = .ok (.bipush 6, 2) := by decide +kernel
theorem dX2_pair_34 : decode cX2_pair 34 = .ok (.goto 15, 3) := by decide +kernel
theorem dX2_pair_37 : decode cX2_pair 37 = .ok (.iload_n 0, 1) := by decide +kernel
theorem dX2_pair_38 : decode cX2_pair 38 = .ok (.bipush 62, 2) := by decide +kernel
theorem dX2_pair_40 : decode cX2_pair 40 = .ok (.if_icmp .ne 8, 3) := by decide +kernel
theorem dX2_pair_43 : decode cX2_pair 43 = .ok (.bipush 8, 2) := by decide +kernel
theorem dX2_pair_45 : decode cX2_pair 45 = .ok (.goto 4, 3) := by decide +kernel
theorem dX2_pair_48 : decode cX2_pair 48 = .ok (.iconst 0, 1) := by decide +kernel
theorem dX2_pair_49 : decode cX2_pair 49 = .ok (.ireturn, 1) := by decide +kernel
theorem dX2_pair_50 : decode cX2_pair 50 = .ok (.iload_n 0, 1) := by decide +kernel
theorem dX2_pair_51 : decode cX2_pair 51 = .ok (.iload_n 1, 1) := by decide +kernel
theorem dX2_pair_52 : decode cX2_pair 52 = .ok (.if_icmp .eq 5, 3) := by decide +kernel
theorem dX2_pair_55 : decode cX2_pair 55 = .ok (.iconst 0, 1) := by decide +kernel
theorem dX2_pair_56 : decode cX2_pair 56 = .ok (.ireturn, 1) := by decide +kernel
theorem dX2_pair_57 : decode cX2_pair 57 = .ok (.iload_n 0, 1) := by decide +kernel
theorem dX2_pair_58 : decode cX2_pair 58 = .ok (.bipush 124, 2) := by decide +kernel
theorem dX2_pair_60 : decode cX2_pair 60 = .ok (.if_icmp .ne 7, 3) := by decide +kernel
theorem dX2_pair_63 : decode cX2_pair 63 = .ok (.iconst 1, 1) := by decide +kernel
theorem dX2_pair_64 : decode cX2_pair 64 = .ok (.goto 36, 3) := by decide +kernel
theorem dX2_pair_67 : decode cX2_pair 67 = .ok (.iload_n 0, 1) := by decide +kernel
theorem dX2_pair_68 : decode cX2_pair 68 = .ok (.bipush 38, 2) := by decide +kernel
theorem dX2_pair_70 : decode cX2_pair 70 = .ok (.if_icmp .ne 7, 3) := by decide +kernel
theorem dX2_pair_73 : decode cX2_pair 73 = .ok (.iconst 2, 1) := by decide +kernel
theorem dX2_pair_74 : decode cX2_pair 74 = .ok (.goto 26, 3) := by decide +kernel
theorem dX2_pair_77 : decode cX2_pair 77 = .ok (.iload_n 0, 1) := by decide +kernel
theorem dX2_pair_78 : decode cX2_pair 78 = .ok (.bipush 60, 2) := by decide +kernel
theorem dX2_pair_80 : decode cX2_pair 80 = .ok (.if_icmp .ne 8, 3) := by decide +kernel
theorem dX2_pair_83 : decode cX2_pair 83 = .ok (.bipush 12, 2) := by decide +kernel
theorem dX2_pair_85 : decode cX2_pair 85 = .ok (.goto 15, 3) := by decide +kernel
theorem dX2_pair_88 : decode cX2_pair 88 = .ok (.iload_n 0, 1) := by decide +kernel
theorem dX2_pair_89 : decode cX2_pair 89 = .ok (.bipush 62, 2) := by decide +kernel
theorem dX2_pair_91 : decode cX2_pair 91 = .ok (.if_icmp .ne 8, 3) := by decide +kernel
theorem dX2_pair_94 : decode cX2_pair 94 = .ok (.bipush 13, 2) := by decide +kernel
theorem dX2_pair_96 : decode cX2_pair 96 = .ok (.goto 4, 3) := by decide +kernel
theorem dX2_pair_99 : decode cX2_pair 99 = .ok (.iconst 0, 1) := by decide +kernel
theorem dX2_pair_100 : decode cX2_pair 100 = .ok (.ireturn, 1) := by decide +kernel
theorem dX2_alone_0 : decode cX2_alone 0 = .ok (.iload_n 0, 1) := by decide +kernel
theorem dX2_alone_1 : decode cX2_alone 1 = .ok (.lookupswitch 186 #[(33, 168), (37, 165), (38, 150), (40, 174), (41, 177), (42, 159), (43, 153), (45, 156), (47, 162), (60, 139), (62, 141), (91, 180), (93, 183), (94, 147), (124, 144), (126, 171)], 139) := by decide +kernel
theorem dX2_alone_140 : decode cX2_alone 140 = .ok (.iconst 5, 1) := by decide +kernel
theorem dX2_alone_141 : decode cX2_alone 141 = .ok (.ireturn, 1) := by decide +kernel
theorem dX2_alone_142 : decode cX2_alone 142 = .ok (.bipush 7, 2) := by decide +kernel
theorem dX2_alone_144 : decode cX2_alone 144 = .ok (.ireturn, 1) := by decide +kernel
theorem dX2_alone_145 : decode cX2_alone 145 = .ok (.bipush 9, 2) := by decide +kernel
theorem dX2_alone_147 : decode cX2_alone 147 = .ok (.ireturn, 1) := by decide +kernel
theorem dX2_alone_148 : decode cX2_alone 148 = .ok (.bipush 10, 2) := by decide +kernel
theorem dX2_alone_150 : decode cX2_alone 150 = .ok (.ireturn, 1) := by decide +kernel
theorem dX2_alone_151 : decode cX2_alone 151 = .ok (.bipush 11, 2) := by decide +kernel
theorem dX2_alone_153 : decode cX2_alone 153 = .ok (.ireturn, 1) := by decide +kernel
theorem dX2_alone_154 : decode cX2_alone 154 = .ok (.bipush 14, 2) := by decide +kernel
theorem dX2_alone_156 : decode cX2_alone 156 = .ok (.ireturn, 1) := by decide +kernel
theorem dX2_alone_157 : decode cX2_alone 157 = .ok (.bipush 15, 2) := by decide +kernel
theorem dX2_alone_159 : decode cX2_alone 159 = .ok (.ireturn, 1) := by decide +kernel
theorem dX2_alone_160 : decode cX2_alone 160 = .ok (.bipush 16, 2) := by decide +kernel
theorem dX2_alone_162 : decode cX2_alone 162 = .ok (.ireturn, 1) := by decide +kernel
theorem dX2_alone_163 : decode cX2_alone 163 = .ok (.bipush 17, 2) := by decide +kernel
theorem dX2_alone_165 : decode cX2_alone 165 = .ok (.ireturn, 1) := by decide +kernel
theorem dX2_alone_166 : decode cX2_alone 166 = .ok (.bipush 18, 2) := by decide +kernel
theorem dX2_alone_168 : decode cX2_alone 168 = .ok (.ireturn, 1) := by decide +kernel
theorem dX2_alone_169 : decode cX2_alone 169 = .ok (.bipush 19, 2) := by decide +kernel
theorem dX2_alone_171 : decode cX2_alone 171 = .ok (.ireturn, 1) := by decide +kernel
theorem dX2_alone_172 : decode cX2_alone 172 = .ok (.bipush 21, 2) := by decide +kernel
theorem dX2_alone_174 : decode cX2_alone 174 = .ok (.ireturn, 1) := by decide +kernel
theorem dX2_alone_175 : decode cX2_alone 175 = .ok (.bipush 22, 2) := by decide +kernel
theorem dX2_alone_177 : decode cX2_alone 177 = .ok (.ireturn, 1) := by decide +kernel
theorem dX2_alone_178 : decode cX2_alone 178 = .ok (.bipush 28, 2) := by decide +kernel
theorem dX2_alone_180 : decode cX2_alone 180 = .ok (.ireturn, 1) := by decide +kernel
theorem dX2_alone_181 : decode cX2_alone 181 = .ok (.bipush 25, 2) := by decide +kernel
theorem dX2_alone_183 : decode cX2_alone 183 = .ok (.ireturn, 1) := by decide +kernel
theorem dX2_alone_184 : decode cX2_alone 184 = .ok (.bipush 29, 2) := by decide +kernel
theorem dX2_alone_186 : decode cX2_alone 186 = .ok (.ireturn, 1) := by decide +kernel
theorem dX2_alone_187 : decode cX2_alone 187 = .ok (.iconst 0, 1) := by decide +kernel
theorem dX2_alone_188 : decode cX2_alone 188 = .ok (.ireturn, 1) := by decide +kernel
theorem dX2_part_0 : decode cX2_part 0 = .ok (.aload_n 0, 1) := by decide +kernel
theorem dX2_part_1 : decode cX2_part 1 = .ok (.dup, 1) := by decide +kernel
theorem dX2_part_2 : decode cX2_part 2 = .ok (.getfield 61, 3) := by decide +kernel
theorem dX2_part_5 : decode cX2_part 5 = .ok (.iconst 1, 1) := by decide +kernel
theorem dX2_part_6 : decode cX2_part 6 = .ok (.iadd, 1) := by decide +kernel
theorem dX2_part_7 : decode cX2_part 7 = .ok (.putfield 61, 3) := by decide +kernel
theorem dX2_part_10 : decode cX2_part 10 = .ok (.aload_n 0, 1) := by decide +kernel
theorem dX2_part_11 : decode cX2_part 11 = .ok (.getfield 61, 3) := by decide +kernel
theorem dX2_part_14 : decode cX2_part 14 = .ok (.bipush 40, 2) := by decide +kernel
theorem dX2_part_16 : decode cX2_part 16 = .ok (.if_icmp .le 8, 3) := by decide +kernel
theorem dX2_part_19 : decode cX2_part 19 = .ok (.aload_n 0, 1) := by decide +kernel
theorem dX2_part_20 : decode cX2_part 20 = .ok (.iconst 3, 1) := by decide +kernel
theorem dX2_part_21 : decode cX2_part 21 = .ok (.invokevirtual 84, 3) := by decide +kernel
theorem dX2_part_24 : decode cX2_part 24 = .ok (.return_, 1) := by decide +kernel
theorem dX2_waiting_0 : decode cX2_waiting 0 = .ok (.iconst 0, 1) := by decide +kernel
theorem dX2_waiting_1 : decode cX2_waiting 1 = .ok (.istore_n 3, 1) := by decide +kernel
theorem dX2_waiting_2 : decode cX2_waiting 2 = .ok (.iconst 0, 1) := by decide +kernel
theorem dX2_waiting_3 : decode cX2_waiting 3 = .ok (.istore 4, 2) := by decide +kernel
theorem dX2_waiting_5 : decode cX2_waiting 5 = .ok (.iload 4, 2) := by decide +kernel
theorem dX2_waiting_7 : decode cX2_waiting 7 = .ok (.aload_n 0, 1) := by decide +kernel
theorem dX2_waiting_8 : decode cX2_waiting 8 = .ok (.getfield 55, 3) := by decide +kernel
theorem dX2_waiting_11 : decode cX2_waiting 11 = .ok (.if_icmp .ge 34, 3) := by decide +kernel
theorem dX2_waiting_14 : decode cX2_waiting 14 = .ok (.aload_n 0, 1) := by decide +kernel
theorem dX2_waiting_15 : decode cX2_waiting 15 = .ok (.getfield 20, 3) := by decide +kernel
theorem dX2_waiting_18 : decode cX2_waiting 18 = .ok (.iload 4, 2) := by decide +kernel
theorem dX2_waiting_20 : decode cX2_waiting 20 = .ok (.iaload, 1) := by decide +kernel
theorem dX2_waiting_21 : decode cX2_waiting 21 = .ok (.iload_n 1, 1) := by decide +kernel
theorem dX2_waiting_22 : decode cX2_waiting 22 = .ok (.if_icmp .lt 17, 3) := by decide +kernel
theorem dX2_waiting_25 : decode cX2_waiting 25 = .ok (.aload_n 0, 1) := by decide +kernel
theorem dX2_waiting_26 : decode cX2_waiting 26 = .ok (.getfield 20, 3) := by decide +kernel
theorem dX2_waiting_29 : decode cX2_waiting 29 = .ok (.iload 4, 2) := by decide +kernel
theorem dX2_waiting_31 : decode cX2_waiting 31 = .ok (.iaload, 1) := by decide +kernel
theorem dX2_waiting_32 : decode cX2_waiting 32 = .ok (.iload_n 2, 1) := by decide +kernel
theorem dX2_waiting_33 : decode cX2_waiting 33 = .ok (.if_icmp .gt 6, 3) := by decide +kernel
theorem dX2_waiting_36 : decode cX2_waiting 36 = .ok (.iinc 3 1, 3) := by decide +kernel
theorem dX2_waiting_39 : decode cX2_waiting 39 = .ok (.iinc 4 1, 3) := by decide +kernel
theorem dX2_waiting_42 : decode cX2_waiting 42 = .ok (.goto (-37), 3) := by decide +kernel
theorem dX2_waiting_45 : decode cX2_waiting 45 = .ok (.iload_n 3, 1) := by decide +kernel
theorem dX2_waiting_46 : decode cX2_waiting 46 = .ok (.ireturn, 1) := by decide +kernel
theorem dX2_opens_0 : decode cX2_opens 0 = .ok (.aload_n 0, 1) := by decide +kernel
theorem dX2_opens_1 : decode cX2_opens 1 = .ok (.invokevirtual 148, 3) := by decide +kernel
theorem dX2_opens_4 : decode cX2_opens 4 = .ok (.aload_n 0, 1) := by decide +kernel
theorem dX2_opens_5 : decode cX2_opens 5 = .ok (.bipush 22, 2) := by decide +kernel
theorem dX2_opens_7 : decode cX2_opens 7 = .ok (.bipush 27, 2) := by decide +kernel
theorem dX2_opens_9 : decode cX2_opens 9 = .ok (.invokevirtual 151, 3) := by decide +kernel
theorem dX2_opens_12 : decode cX2_opens 12 = .ok (.bipush 8, 2) := by decide +kernel
theorem dX2_opens_14 : decode cX2_opens 14 = .ok (.if_icmp .lt 8, 3) := by decide +kernel
theorem dX2_opens_17 : decode cX2_opens 17 = .ok (.aload_n 0, 1) := by decide +kernel
theorem dX2_opens_18 : decode cX2_opens 18 = .ok (.iconst 4, 1) := by decide +kernel
theorem dX2_opens_19 : decode cX2_opens 19 = .ok (.invokevirtual 84, 3) := by decide +kernel
theorem dX2_opens_22 : decode cX2_opens 22 = .ok (.aload_n 0, 1) := by decide +kernel
theorem dX2_opens_23 : decode cX2_opens 23 = .ok (.iload_n 1, 1) := by decide +kernel
theorem dX2_opens_24 : decode cX2_opens 24 = .ok (.iload_n 2, 1) := by decide +kernel
theorem dX2_opens_25 : decode cX2_opens 25 = .ok (.invokevirtual 154, 3) := by decide +kernel
theorem dX2_opens_28 : decode cX2_opens 28 = .ok (.return_, 1) := by decide +kernel
theorem dX2_push_0 : decode cX2_push 0 = .ok (.aload_n 0, 1) := by decide +kernel
theorem dX2_push_1 : decode cX2_push 1 = .ok (.getfield 64, 3) := by decide +kernel
theorem dX2_push_4 : decode cX2_push 4 = .ok (.ifCond .ne 45, 3) := by decide +kernel
theorem dX2_push_7 : decode cX2_push 7 = .ok (.aload_n 0, 1) := by decide +kernel
theorem dX2_push_8 : decode cX2_push 8 = .ok (.getfield 55, 3) := by decide +kernel
theorem dX2_push_11 : decode cX2_push 11 = .ok (.aload_n 0, 1) := by decide +kernel
theorem dX2_push_12 : decode cX2_push 12 = .ok (.getfield 20, 3) := by decide +kernel
theorem dX2_push_15 : decode cX2_push 15 = .ok (.arraylength, 1) := by decide +kernel
theorem dX2_push_16 : decode cX2_push 16 = .ok (.if_icmp .ge 33, 3) := by decide +kernel
theorem dX2_push_19 : decode cX2_push 19 = .ok (.aload_n 0, 1) := by decide +kernel
theorem dX2_push_20 : decode cX2_push 20 = .ok (.getfield 20, 3) := by decide +kernel
theorem dX2_push_23 : decode cX2_push 23 = .ok (.aload_n 0, 1) := by decide +kernel
theorem dX2_push_24 : decode cX2_push 24 = .ok (.getfield 55, 3) := by decide +kernel
theorem dX2_push_27 : decode cX2_push 27 = .ok (.iload_n 1, 1) := by decide +kernel
theorem dX2_push_28 : decode cX2_push 28 = .ok (.iastore, 1) := by decide +kernel
theorem dX2_push_29 : decode cX2_push 29 = .ok (.aload_n 0, 1) := by decide +kernel
theorem dX2_push_30 : decode cX2_push 30 = .ok (.getfield 23, 3) := by decide +kernel
theorem dX2_push_33 : decode cX2_push 33 = .ok (.aload_n 0, 1) := by decide +kernel
theorem dX2_push_34 : decode cX2_push 34 = .ok (.getfield 55, 3) := by decide +kernel
theorem dX2_push_37 : decode cX2_push 37 = .ok (.iload_n 2, 1) := by decide +kernel
theorem dX2_push_38 : decode cX2_push 38 = .ok (.iastore, 1) := by decide +kernel
theorem dX2_push_39 : decode cX2_push 39 = .ok (.aload_n 0, 1) := by decide +kernel
theorem dX2_push_40 : decode cX2_push 40 = .ok (.dup, 1) := by decide +kernel
theorem dX2_push_41 : decode cX2_push 41 = .ok (.getfield 55, 3) := by decide +kernel
theorem dX2_push_44 : decode cX2_push 44 = .ok (.iconst 1, 1) := by decide +kernel
theorem dX2_push_45 : decode cX2_push 45 = .ok (.iadd, 1) := by decide +kernel
theorem dX2_push_46 : decode cX2_push 46 = .ok (.putfield 55, 3) := by decide +kernel
theorem dX2_push_49 : decode cX2_push 49 = .ok (.return_, 1) := by decide +kernel
theorem dX2_emit_0 : decode cX2_emit 0 = .ok (.aload_n 0, 1) := by decide +kernel
theorem dX2_emit_1 : decode cX2_emit 1 = .ok (.getfield 64, 3) := by decide +kernel
theorem dX2_emit_4 : decode cX2_emit 4 = .ok (.ifCond .ne 45, 3) := by decide +kernel
theorem dX2_emit_7 : decode cX2_emit 7 = .ok (.aload_n 0, 1) := by decide +kernel
theorem dX2_emit_8 : decode cX2_emit 8 = .ok (.getfield 52, 3) := by decide +kernel
theorem dX2_emit_11 : decode cX2_emit 11 = .ok (.aload_n 0, 1) := by decide +kernel
theorem dX2_emit_12 : decode cX2_emit 12 = .ok (.getfield 9, 3) := by decide +kernel
theorem dX2_emit_15 : decode cX2_emit 15 = .ok (.arraylength, 1) := by decide +kernel
theorem dX2_emit_16 : decode cX2_emit 16 = .ok (.if_icmp .ge 33, 3) := by decide +kernel
theorem dX2_emit_19 : decode cX2_emit 19 = .ok (.aload_n 0, 1) := by decide +kernel
theorem dX2_emit_20 : decode cX2_emit 20 = .ok (.getfield 9, 3) := by decide +kernel
theorem dX2_emit_23 : decode cX2_emit 23 = .ok (.aload_n 0, 1) := by decide +kernel
theorem dX2_emit_24 : decode cX2_emit 24 = .ok (.getfield 52, 3) := by decide +kernel
theorem dX2_emit_27 : decode cX2_emit 27 = .ok (.iload_n 1, 1) := by decide +kernel
theorem dX2_emit_28 : decode cX2_emit 28 = .ok (.iastore, 1) := by decide +kernel
theorem dX2_emit_29 : decode cX2_emit 29 = .ok (.aload_n 0, 1) := by decide +kernel
theorem dX2_emit_30 : decode cX2_emit 30 = .ok (.getfield 13, 3) := by decide +kernel
theorem dX2_emit_33 : decode cX2_emit 33 = .ok (.aload_n 0, 1) := by decide +kernel
theorem dX2_emit_34 : decode cX2_emit 34 = .ok (.getfield 52, 3) := by decide +kernel
theorem dX2_emit_37 : decode cX2_emit 37 = .ok (.lload_n 2, 1) := by decide +kernel
theorem dX2_emit_38 : decode cX2_emit 38 = .ok (.lastore, 1) := by decide +kernel
theorem dX2_emit_39 : decode cX2_emit 39 = .ok (.aload_n 0, 1) := by decide +kernel
theorem dX2_emit_40 : decode cX2_emit 40 = .ok (.dup, 1) := by decide +kernel
theorem dX2_emit_41 : decode cX2_emit 41 = .ok (.getfield 52, 3) := by decide +kernel
theorem dX2_emit_44 : decode cX2_emit 44 = .ok (.iconst 1, 1) := by decide +kernel
theorem dX2_emit_45 : decode cX2_emit 45 = .ok (.iadd, 1) := by decide +kernel
theorem dX2_emit_46 : decode cX2_emit 46 = .ok (.putfield 52, 3) := by decide +kernel
theorem dX2_emit_49 : decode cX2_emit 49 = .ok (.return_, 1) := by decide +kernel
theorem dX2_worth_0 : decode cX2_worth 0 = .ok (.aload_n 0, 1) := by decide +kernel
theorem dX2_worth_1 : decode cX2_worth 1 = .ok (.aload_n 1, 1) := by decide +kernel
theorem dX2_worth_2 : decode cX2_worth 2 = .ok (.iload_n 2, 1) := by decide +kernel
theorem dX2_worth_3 : decode cX2_worth 3 = .ok (.iconst 0, 1) := by decide +kernel
theorem dX2_worth_4 : decode cX2_worth 4 = .ok (.aload_n 0, 1) := by decide +kernel
theorem dX2_worth_5 : decode cX2_worth 5 = .ok (.getfield 52, 3) := by decide +kernel
theorem dX2_worth_8 : decode cX2_worth 8 = .ok (.invokevirtual 195, 3) := by decide +kernel
theorem dX2_worth_11 : decode cX2_worth 11 = .ok (.lstore_n 3, 1) := by decide +kernel
theorem dX2_worth_12 : decode cX2_worth 12 = .ok (.aload_n 0, 1) := by decide +kernel
theorem dX2_worth_13 : decode cX2_worth 13 = .ok (.getfield 199, 3) := by decide +kernel
theorem dX2_worth_16 : decode cX2_worth 16 = .ok (.ifCond .eq 7, 3) := by decide +kernel
theorem dX2_worth_19 : decode cX2_worth 19 = .ok (.lconst 0, 1) := by decide +kernel
theorem dX2_worth_20 : decode cX2_worth 20 = .ok (.goto 4, 3) := by decide +kernel
theorem dX2_worth_23 : decode cX2_worth 23 = .ok (.lload_n 3, 1) := by decide +kernel
theorem dX2_worth_24 : decode cX2_worth 24 = .ok (.lreturn, 1) := by decide +kernel
theorem dX2_remember_0 : decode cX2_remember 0 = .ok (.iconst 0, 1) := by decide +kernel
theorem dX2_remember_1 : decode cX2_remember 1 = .ok (.istore_n 3, 1) := by decide +kernel
theorem dX2_remember_2 : decode cX2_remember 2 = .ok (.iload_n 3, 1) := by decide +kernel
theorem dX2_remember_3 : decode cX2_remember 3 = .ok (.aload_n 0, 1) := by decide +kernel
theorem dX2_remember_4 : decode cX2_remember 4 = .ok (.getfield 58, 3) := by decide +kernel
theorem dX2_remember_7 : decode cX2_remember 7 = .ok (.if_icmp .ge 48, 3) := by decide +kernel
theorem dX2_remember_10 : decode cX2_remember 10 = .ok (.aload_n 0, 1) := by decide +kernel
theorem dX2_remember_11 : decode cX2_remember 11 = .ok (.aload_n 1, 1) := by decide +kernel
theorem dX2_remember_12 : decode cX2_remember 12 = .ok (.iload_n 2, 1) := by decide +kernel
theorem dX2_remember_13 : decode cX2_remember 13 = .ok (.aload_n 0, 1) := by decide +kernel
theorem dX2_remember_14 : decode cX2_remember 14 = .ok (.getfield 26, 3) := by decide +kernel
theorem dX2_remember_17 : decode cX2_remember 17 = .ok (.iload_n 3, 1) := by decide +kernel
theorem dX2_remember_18 : decode cX2_remember 18 = .ok (.iaload, 1) := by decide +kernel
theorem dX2_remember_19 : decode cX2_remember 19 = .ok (.aload_n 0, 1) := by decide +kernel
theorem dX2_remember_20 : decode cX2_remember 20 = .ok (.getfield 29, 3) := by decide +kernel
theorem dX2_remember_23 : decode cX2_remember 23 = .ok (.iload_n 3, 1) := by decide +kernel
theorem dX2_remember_24 : decode cX2_remember 24 = .ok (.iaload, 1) := by decide +kernel
theorem dX2_remember_25 : decode cX2_remember 25 = .ok (.invokevirtual 195, 3) := by decide +kernel
theorem dX2_remember_28 : decode cX2_remember 28 = .ok (.lstore 4, 2) := by decide +kernel
theorem dX2_remember_30 : decode cX2_remember 30 = .ok (.aload_n 0, 1) := by decide +kernel
theorem dX2_remember_31 : decode cX2_remember 31 = .ok (.getfield 32, 3) := by decide +kernel
theorem dX2_remember_34 : decode cX2_remember 34 = .ok (.iload_n 3, 1) := by decide +kernel
theorem dX2_remember_35 : decode cX2_remember 35 = .ok (.aload_n 0, 1) := by decide +kernel
theorem dX2_remember_36 : decode cX2_remember 36 = .ok (.getfield 199, 3) := by decide +kernel
theorem dX2_remember_39 : decode cX2_remember 39 = .ok (.ifCond .eq 7, 3) := by decide +kernel
theorem dX2_remember_42 : decode cX2_remember 42 = .ok (.lconst 0, 1) := by decide +kernel
theorem dX2_remember_43 : decode cX2_remember 43 = .ok (.goto 5, 3) := by decide +kernel
theorem dX2_remember_46 : decode cX2_remember 46 = .ok (.lload 4, 2) := by decide +kernel
theorem dX2_remember_48 : decode cX2_remember 48 = .ok (.lastore, 1) := by decide +kernel
theorem dX2_remember_49 : decode cX2_remember 49 = .ok (.iinc 3 1, 3) := by decide +kernel
theorem dX2_remember_52 : decode cX2_remember 52 = .ok (.goto (-50), 3) := by decide +kernel
theorem dX2_remember_55 : decode cX2_remember 55 = .ok (.return_, 1) := by decide +kernel
theorem dX2_evaluate_0 : decode cX2_evaluate 0 = .ok (.aload_n 0, 1) := by decide +kernel
theorem dX2_evaluate_1 : decode cX2_evaluate 1 = .ok (.iconst 0, 1) := by decide +kernel
theorem dX2_evaluate_2 : decode cX2_evaluate 2 = .ok (.putfield 199, 3) := by decide +kernel
theorem dX2_evaluate_5 : decode cX2_evaluate 5 = .ok (.aload_n 0, 1) := by decide +kernel
theorem dX2_evaluate_6 : decode cX2_evaluate 6 = .ok (.iconst 0, 1) := by decide +kernel
theorem dX2_evaluate_7 : decode cX2_evaluate 7 = .ok (.putfield 55, 3) := by decide +kernel
theorem dX2_evaluate_10 : decode cX2_evaluate 10 = .ok (.iload_n 3, 1) := by decide +kernel
theorem dX2_evaluate_11 : decode cX2_evaluate 11 = .ok (.istore 5, 2) := by decide +kernel
theorem dX2_evaluate_13 : decode cX2_evaluate 13 = .ok (.iload 5, 2) := by decide +kernel
theorem dX2_evaluate_15 : decode cX2_evaluate 15 = .ok (.iload 4, 2) := by decide +kernel
theorem dX2_evaluate_17 : decode cX2_evaluate 17 = .ok (.if_icmp .ge 338, 3) := by decide +kernel
theorem dX2_evaluate_20 : decode cX2_evaluate 20 = .ok (.aload_n 0, 1) := by decide +kernel
theorem dX2_evaluate_21 : decode cX2_evaluate 21 = .ok (.getfield 199, 3) := by decide +kernel
theorem dX2_evaluate_24 : decode cX2_evaluate 24 = .ok (.ifCond .ne 331, 3) := by decide +kernel
theorem dX2_evaluate_27 : decode cX2_evaluate 27 = .ok (.aload_n 0, 1) := by decide +kernel
theorem dX2_evaluate_28 : decode cX2_evaluate 28 = .ok (.getfield 9, 3) := by decide +kernel
theorem dX2_evaluate_31 : decode cX2_evaluate 31 = .ok (.iload 5, 2) := by decide +kernel
theorem dX2_evaluate_33 : decode cX2_evaluate 33 = .ok (.iaload, 1) := by decide +kernel
theorem dX2_evaluate_34 : decode cX2_evaluate 34 = .ok (.istore 6, 2) := by decide +kernel
theorem dX2_evaluate_36 : decode cX2_evaluate 36 = .ok (.iload 6, 2) := by decide +kernel
theorem dX2_evaluate_38 : decode cX2_evaluate 38 = .ok (.bipush 30, 2) := by decide +kernel
theorem dX2_evaluate_40 : decode cX2_evaluate 40 = .ok (.if_icmp .lt 31, 3) := by decide +kernel
theorem dX2_evaluate_43 : decode cX2_evaluate 43 = .ok (.iload 6, 2) := by decide +kernel
theorem dX2_evaluate_45 : decode cX2_evaluate 45 = .ok (.bipush 33, 2) := by decide +kernel
theorem dX2_evaluate_47 : decode cX2_evaluate 47 = .ok (.if_icmp .gt 24, 3) := by decide +kernel
theorem dX2_evaluate_50 : decode cX2_evaluate 50 = .ok (.aload_n 0, 1) := by decide +kernel
theorem dX2_evaluate_51 : decode cX2_evaluate 51 = .ok (.aload_n 1, 1) := by decide +kernel
theorem dX2_evaluate_52 : decode cX2_evaluate 52 = .ok (.iload_n 2, 1) := by decide +kernel
theorem dX2_evaluate_53 : decode cX2_evaluate 53 = .ok (.iload 6, 2) := by decide +kernel
theorem dX2_evaluate_55 : decode cX2_evaluate 55 = .ok (.aload_n 0, 1) := by decide +kernel
theorem dX2_evaluate_56 : decode cX2_evaluate 56 = .ok (.getfield 13, 3) := by decide +kernel
theorem dX2_evaluate_59 : decode cX2_evaluate 59 = .ok (.iload 5, 2) := by decide +kernel
theorem dX2_evaluate_61 : decode cX2_evaluate 61 = .ok (.laload, 1) := by decide +kernel
theorem dX2_evaluate_62 : decode cX2_evaluate 62 = .ok (.invokestatic 203, 3) := by decide +kernel
theorem dX2_evaluate_65 : decode cX2_evaluate 65 = .ok (.invokevirtual 207, 3) := by decide +kernel
theorem dX2_evaluate_68 : decode cX2_evaluate 68 = .ok (.goto 281, 3) := by decide +kernel
theorem dX2_evaluate_71 : decode cX2_evaluate 71 = .ok (.iload 6, 2) := by decide +kernel
theorem dX2_evaluate_73 : decode cX2_evaluate 73 = .ok (.bipush 23, 2) := by decide +kernel
theorem dX2_evaluate_75 : decode cX2_evaluate 75 = .ok (.if_icmp .ne 43, 3) := by decide +kernel
theorem dX2_evaluate_78 : decode cX2_evaluate 78 = .ok (.aload_n 0, 1) := by decide +kernel
theorem dX2_evaluate_79 : decode cX2_evaluate 79 = .ok (.getfield 13, 3) := by decide +kernel
theorem dX2_evaluate_82 : decode cX2_evaluate 82 = .ok (.iload 5, 2) := by decide +kernel
theorem dX2_evaluate_84 : decode cX2_evaluate 84 = .ok (.laload, 1) := by decide +kernel
theorem dX2_evaluate_85 : decode cX2_evaluate 85 = .ok (.l2i, 1) := by decide +kernel
theorem dX2_evaluate_86 : decode cX2_evaluate 86 = .ok (.istore 7, 2) := by decide +kernel
theorem dX2_evaluate_88 : decode cX2_evaluate 88 = .ok (.aload_n 0, 1) := by decide +kernel
theorem dX2_evaluate_89 : decode cX2_evaluate 89 = .ok (.aload_n 0, 1) := by decide +kernel
theorem dX2_evaluate_90 : decode cX2_evaluate 90 = .ok (.getfield 32, 3) := by decide +kernel
theorem dX2_evaluate_93 : decode cX2_evaluate 93 = .ok (.iload 7, 2) := by decide +kernel
theorem dX2_evaluate_95 : decode cX2_evaluate 95 = .ok (.laload, 1) := by decide +kernel
theorem dX2_evaluate_96 : decode cX2_evaluate 96 = .ok (.invokevirtual 207, 3) := by decide +kernel
theorem dX2_evaluate_99 : decode cX2_evaluate 99 = .ok (.iload 5, 2) := by decide +kernel
theorem dX2_evaluate_101 : decode cX2_evaluate 101 = .ok (.aload_n 0, 1) := by decide +kernel
theorem dX2_evaluate_102 : decode cX2_evaluate 102 = .ok (.getfield 29, 3) := by decide +kernel
theorem dX2_evaluate_105 : decode cX2_evaluate 105 = .ok (.iload 7, 2) := by decide +kernel
theorem dX2_evaluate_107 : decode cX2_evaluate 107 = .ok (.iaload, 1) := by decide +kernel
theorem dX2_evaluate_108 : decode cX2_evaluate 108 = .ok (.iconst 1, 1) := by decide +kernel
theorem dX2_evaluate_109 : decode cX2_evaluate 109 = .ok (.isub, 1) := by decide +kernel
theorem dX2_evaluate_110 : decode cX2_evaluate 110 = .ok (.invokestatic 211, 3) := by decide +kernel
theorem dX2_evaluate_113 : decode cX2_evaluate 113 = .ok (.istore 5, 2) := by decide +kernel
theorem dX2_evaluate_115 : decode cX2_evaluate 115 = .ok (.goto 234, 3) := by decide +kernel
theorem dX2_evaluate_118 : decode cX2_evaluate 118 = .ok (.aload_n 0, 1) := by decide +kernel
theorem dX2_evaluate_119 : decode cX2_evaluate 119 = .ok (.getfield 55, 3) := by decide +kernel
theorem dX2_evaluate_122 : decode cX2_evaluate 122 = .ok (.iconst 1, 1) := by decide +kernel
theorem dX2_evaluate_123 : decode cX2_evaluate 123 = .ok (.if_icmp .lt 18, 3) := by decide +kernel
theorem dX2_evaluate_126 : decode cX2_evaluate 126 = .ok (.iload 6, 2) := by decide +kernel
theorem dX2_evaluate_128 : decode cX2_evaluate 128 = .ok (.bipush 19, 2) := by decide +kernel
theorem dX2_evaluate_130 : decode cX2_evaluate 130 = .ok (.if_icmp .ge 19, 3) := by decide +kernel
theorem dX2_evaluate_133 : decode cX2_evaluate 133 = .ok (.aload_n 0, 1) := by decide +kernel
theorem dX2_evaluate_134 : decode cX2_evaluate 134 = .ok (.getfield 55, 3) := by decide +kernel
theorem dX2_evaluate_137 : decode cX2_evaluate 137 = .ok (.iconst 2, 1) := by decide +kernel
theorem dX2_evaluate_138 : decode cX2_evaluate 138 = .ok (.if_icmp .ge 11, 3) := by decide +kernel
theorem dX2_evaluate_141 : decode cX2_evaluate 141 = .ok (.aload_n 0, 1) := by decide +kernel
theorem dX2_evaluate_142 : decode cX2_evaluate 142 = .ok (.iconst 1, 1) := by decide +kernel
theorem dX2_evaluate_143 : decode cX2_evaluate 143 = .ok (.putfield 199, 3) := by decide +kernel
theorem dX2_evaluate_146 : decode cX2_evaluate 146 = .ok (.goto 203, 3) := by decide +kernel
theorem dX2_evaluate_149 : decode cX2_evaluate 149 = .ok (.iload 6, 2) := by decide +kernel
theorem dX2_evaluate_151 : decode cX2_evaluate 151 = .ok (.bipush 35, 2) := by decide +kernel
theorem dX2_evaluate_153 : decode cX2_evaluate 153 = .ok (.if_icmp .eq 10, 3) := by decide +kernel
theorem dX2_evaluate_156 : decode cX2_evaluate 156 = .ok (.iload 6, 2) := by decide +kernel
theorem dX2_evaluate_158 : decode cX2_evaluate 158 = .ok (.bipush 34, 2) := by decide +kernel
theorem dX2_evaluate_160 : decode cX2_evaluate 160 = .ok (.if_icmp .ne 95, 3) := by decide +kernel
theorem dX2_evaluate_163 : decode cX2_evaluate 163 = .ok (.aload_n 0, 1) := by decide +kernel
theorem dX2_evaluate_164 : decode cX2_evaluate 164 = .ok (.getfield 17, 3) := by decide +kernel
theorem dX2_evaluate_167 : decode cX2_evaluate 167 = .ok (.aload_n 0, 1) := by decide +kernel
theorem dX2_evaluate_168 : decode cX2_evaluate 168 = .ok (.getfield 55, 3) := by decide +kernel
theorem dX2_evaluate_171 : decode cX2_evaluate 171 = .ok (.iconst 1, 1) := by decide +kernel
theorem dX2_evaluate_172 : decode cX2_evaluate 172 = .ok (.isub, 1) := by decide +kernel
theorem dX2_evaluate_173 : decode cX2_evaluate 173 = .ok (.laload, 1) := by decide +kernel
theorem dX2_evaluate_174 : decode cX2_evaluate 174 = .ok (.lconst 0, 1) := by decide +kernel
theorem dX2_evaluate_175 : decode cX2_evaluate 175 = .ok (.lcmp, 1) := by decide +kernel
theorem dX2_evaluate_176 : decode cX2_evaluate 176 = .ok (.ifCond .eq 7, 3) := by decide +kernel
theorem dX2_evaluate_179 : decode cX2_evaluate 179 = .ok (.iconst 1, 1) := by decide +kernel
theorem dX2_evaluate_180 : decode cX2_evaluate 180 = .ok (.goto 4, 3) := by decide +kernel
theorem dX2_evaluate_183 : decode cX2_evaluate 183 = .ok (.iconst 0, 1) := by decide +kernel
theorem dX2_evaluate_184 : decode cX2_evaluate 184 = .ok (.iload 6, 2) := by decide +kernel
theorem dX2_evaluate_186 : decode cX2_evaluate 186 = .ok (.bipush 35, 2) := by decide +kernel
theorem dX2_evaluate_188 : decode cX2_evaluate 188 = .ok (.if_icmp .ne 7, 3) := by decide +kernel
theorem dX2_evaluate_191 : decode cX2_evaluate 191 = .ok (.iconst 1, 1) := by decide +kernel
theorem dX2_evaluate_192 : decode cX2_evaluate 192 = .ok (.goto 4, 3) := by decide +kernel
theorem dX2_evaluate_195 : decode cX2_evaluate 195 = .ok (.iconst 0, 1) := by decide +kernel
theorem dX2_evaluate_196 : decode cX2_evaluate 196 = .ok (.if_icmp .ne 46, 3) := by decide +kernel
theorem dX2_evaluate_199 : decode cX2_evaluate 199 = .ok (.aload_n 0, 1) := by decide +kernel
theorem dX2_evaluate_200 : decode cX2_evaluate 200 = .ok (.getfield 17, 3) := by decide +kernel
theorem dX2_evaluate_203 : decode cX2_evaluate 203 = .ok (.aload_n 0, 1) := by decide +kernel
theorem dX2_evaluate_204 : decode cX2_evaluate 204 = .ok (.getfield 55, 3) := by decide +kernel
theorem dX2_evaluate_207 : decode cX2_evaluate 207 = .ok (.iconst 1, 1) := by decide +kernel
theorem dX2_evaluate_208 : decode cX2_evaluate 208 = .ok (.isub, 1) := by decide +kernel
theorem dX2_evaluate_209 : decode cX2_evaluate 209 = .ok (.iload 6, 2) := by decide +kernel
theorem dX2_evaluate_211 : decode cX2_evaluate 211 = .ok (.bipush 35, 2) := by decide +kernel
theorem dX2_evaluate_213 : decode cX2_evaluate 213 = .ok (.if_icmp .ne 7, 3) := by decide +kernel
theorem dX2_evaluate_216 : decode cX2_evaluate 216 = .ok (.lconst 1, 1) := by decide +kernel
theorem dX2_evaluate_217 : decode cX2_evaluate 217 = .ok (.goto 4, 3) := by decide +kernel
theorem dX2_evaluate_220 : decode cX2_evaluate 220 = .ok (.lconst 0, 1) := by decide +kernel
theorem dX2_evaluate_221 : decode cX2_evaluate 221 = .ok (.lastore, 1) := by decide +kernel
theorem dX2_evaluate_222 : decode cX2_evaluate 222 = .ok (.iload 5, 2) := by decide +kernel
theorem dX2_evaluate_224 : decode cX2_evaluate 224 = .ok (.aload_n 0, 1) := by decide +kernel
theorem dX2_evaluate_225 : decode cX2_evaluate 225 = .ok (.getfield 13, 3) := by decide +kernel
theorem dX2_evaluate_228 : decode cX2_evaluate 228 = .ok (.iload 5, 2) := by decide +kernel
theorem dX2_evaluate_230 : decode cX2_evaluate 230 = .ok (.laload, 1) := by decide +kernel
theorem dX2_evaluate_231 : decode cX2_evaluate 231 = .ok (.l2i, 1) := by decide +kernel
theorem dX2_evaluate_232 : decode cX2_evaluate 232 = .ok (.iconst 1, 1) := by decide +kernel
theorem dX2_evaluate_233 : decode cX2_evaluate 233 = .ok (.isub, 1) := by decide +kernel
theorem dX2_evaluate_234 : decode cX2_evaluate 234 = .ok (.invokestatic 211, 3) := by decide +kernel
theorem dX2_evaluate_237 : decode cX2_evaluate 237 = .ok (.istore 5, 2) := by decide +kernel
theorem dX2_evaluate_239 : decode cX2_evaluate 239 = .ok (.goto 110, 3) := by decide +kernel
theorem dX2_evaluate_242 : decode cX2_evaluate 242 = .ok (.aload_n 0, 1) := by decide +kernel
theorem dX2_evaluate_243 : decode cX2_evaluate 243 = .ok (.dup, 1) := by decide +kernel
theorem dX2_evaluate_244 : decode cX2_evaluate 244 = .ok (.getfield 55, 3) := by decide +kernel
theorem dX2_evaluate_247 : decode cX2_evaluate 247 = .ok (.iconst 1, 1) := by decide +kernel
theorem dX2_evaluate_248 : decode cX2_evaluate 248 = .ok (.isub, 1) := by decide +kernel
theorem dX2_evaluate_249 : decode cX2_evaluate 249 = .ok (.putfield 55, 3) := by decide +kernel
theorem dX2_evaluate_252 : decode cX2_evaluate 252 = .ok (.goto 97, 3) := by decide +kernel
theorem dX2_evaluate_255 : decode cX2_evaluate 255 = .ok (.iload 6, 2) := by decide +kernel
theorem dX2_evaluate_257 : decode cX2_evaluate 257 = .ok (.bipush 19, 2) := by decide +kernel
theorem dX2_evaluate_259 : decode cX2_evaluate 259 = .ok (.if_icmp .ge 53, 3) := by decide +kernel
theorem dX2_evaluate_262 : decode cX2_evaluate 262 = .ok (.aload_n 0, 1) := by decide +kernel
theorem dX2_evaluate_263 : decode cX2_evaluate 263 = .ok (.dup, 1) := by decide +kernel
theorem dX2_evaluate_264 : decode cX2_evaluate 264 = .ok (.getfield 55, 3) := by decide +kernel
theorem dX2_evaluate_267 : decode cX2_evaluate 267 = .ok (.iconst 1, 1) := by decide +kernel
theorem dX2_evaluate_268 : decode cX2_evaluate 268 = .ok (.isub, 1) := by decide +kernel
theorem dX2_evaluate_269 : decode cX2_evaluate 269 = .ok (.putfield 55, 3) := by decide +kernel
theorem dX2_evaluate_272 : decode cX2_evaluate 272 = .ok (.aload_n 0, 1) := by decide +kernel
theorem dX2_evaluate_273 : decode cX2_evaluate 273 = .ok (.getfield 17, 3) := by decide +kernel
theorem dX2_evaluate_276 : decode cX2_evaluate 276 = .ok (.aload_n 0, 1) := by decide +kernel
theorem dX2_evaluate_277 : decode cX2_evaluate 277 = .ok (.getfield 55, 3) := by decide +kernel
theorem dX2_evaluate_280 : decode cX2_evaluate 280 = .ok (.iconst 1, 1) := by decide +kernel
theorem dX2_evaluate_281 : decode cX2_evaluate 281 = .ok (.isub, 1) := by decide +kernel
theorem dX2_evaluate_282 : decode cX2_evaluate 282 = .ok (.aload_n 0, 1) := by decide +kernel
theorem dX2_evaluate_283 : decode cX2_evaluate 283 = .ok (.iload 6, 2) := by decide +kernel
theorem dX2_evaluate_285 : decode cX2_evaluate 285 = .ok (.aload_n 0, 1) := by decide +kernel
theorem dX2_evaluate_286 : decode cX2_evaluate 286 = .ok (.getfield 17, 3) := by decide +kernel
theorem dX2_evaluate_289 : decode cX2_evaluate 289 = .ok (.aload_n 0, 1) := by decide +kernel
theorem dX2_evaluate_290 : decode cX2_evaluate 290 = .ok (.getfield 55, 3) := by decide +kernel
theorem dX2_evaluate_293 : decode cX2_evaluate 293 = .ok (.iconst 1, 1) := by decide +kernel
theorem dX2_evaluate_294 : decode cX2_evaluate 294 = .ok (.isub, 1) := by decide +kernel
theorem dX2_evaluate_295 : decode cX2_evaluate 295 = .ok (.laload, 1) := by decide +kernel
theorem dX2_evaluate_296 : decode cX2_evaluate 296 = .ok (.aload_n 0, 1) := by decide +kernel
theorem dX2_evaluate_297 : decode cX2_evaluate 297 = .ok (.getfield 17, 3) := by decide +kernel
theorem dX2_evaluate_300 : decode cX2_evaluate 300 = .ok (.aload_n 0, 1) := by decide +kernel
theorem dX2_evaluate_301 : decode cX2_evaluate 301 = .ok (.getfield 55, 3) := by decide +kernel
theorem dX2_evaluate_304 : decode cX2_evaluate 304 = .ok (.laload, 1) := by decide +kernel
theorem dX2_evaluate_305 : decode cX2_evaluate 305 = .ok (.invokevirtual 214, 3) := by decide +kernel
theorem dX2_evaluate_308 : decode cX2_evaluate 308 = .ok (.lastore, 1) := by decide +kernel
theorem dX2_evaluate_309 : decode cX2_evaluate 309 = .ok (.goto 40, 3) := by decide +kernel
theorem dX2_evaluate_312 : decode cX2_evaluate 312 = .ok (.aload_n 0, 1) := by decide +kernel
theorem dX2_evaluate_313 : decode cX2_evaluate 313 = .ok (.getfield 17, 3) := by decide +kernel
theorem dX2_evaluate_316 : decode cX2_evaluate 316 = .ok (.aload_n 0, 1) := by decide +kernel
theorem dX2_evaluate_317 : decode cX2_evaluate 317 = .ok (.getfield 55, 3) := by decide +kernel
theorem dX2_evaluate_320 : decode cX2_evaluate 320 = .ok (.iconst 1, 1) := by decide +kernel
theorem dX2_evaluate_321 : decode cX2_evaluate 321 = .ok (.isub, 1) := by decide +kernel
theorem dX2_evaluate_322 : decode cX2_evaluate 322 = .ok (.aload_n 0, 1) := by decide +kernel
theorem dX2_evaluate_323 : decode cX2_evaluate 323 = .ok (.aload_n 1, 1) := by decide +kernel
theorem dX2_evaluate_324 : decode cX2_evaluate 324 = .ok (.iload 6, 2) := by decide +kernel
theorem dX2_evaluate_326 : decode cX2_evaluate 326 = .ok (.aload_n 0, 1) := by decide +kernel
theorem dX2_evaluate_327 : decode cX2_evaluate 327 = .ok (.getfield 13, 3) := by decide +kernel
theorem dX2_evaluate_330 : decode cX2_evaluate 330 = .ok (.iload 5, 2) := by decide +kernel
theorem dX2_evaluate_332 : decode cX2_evaluate 332 = .ok (.laload, 1) := by decide +kernel
theorem dX2_evaluate_333 : decode cX2_evaluate 333 = .ok (.l2i, 1) := by decide +kernel
theorem dX2_evaluate_334 : decode cX2_evaluate 334 = .ok (.aload_n 0, 1) := by decide +kernel
theorem dX2_evaluate_335 : decode cX2_evaluate 335 = .ok (.getfield 17, 3) := by decide +kernel
theorem dX2_evaluate_338 : decode cX2_evaluate 338 = .ok (.aload_n 0, 1) := by decide +kernel
theorem dX2_evaluate_339 : decode cX2_evaluate 339 = .ok (.getfield 55, 3) := by decide +kernel
theorem dX2_evaluate_342 : decode cX2_evaluate 342 = .ok (.iconst 1, 1) := by decide +kernel
theorem dX2_evaluate_343 : decode cX2_evaluate 343 = .ok (.isub, 1) := by decide +kernel
theorem dX2_evaluate_344 : decode cX2_evaluate 344 = .ok (.laload, 1) := by decide +kernel
theorem dX2_evaluate_345 : decode cX2_evaluate 345 = .ok (.invokevirtual 218, 3) := by decide +kernel
theorem dX2_evaluate_348 : decode cX2_evaluate 348 = .ok (.lastore, 1) := by decide +kernel
theorem dX2_evaluate_349 : decode cX2_evaluate 349 = .ok (.iinc 5 1, 3) := by decide +kernel
theorem dX2_evaluate_352 : decode cX2_evaluate 352 = .ok (.goto (-339), 3) := by decide +kernel
theorem dX2_evaluate_355 : decode cX2_evaluate 355 = .ok (.aload_n 0, 1) := by decide +kernel
theorem dX2_evaluate_356 : decode cX2_evaluate 356 = .ok (.getfield 55, 3) := by decide +kernel
theorem dX2_evaluate_359 : decode cX2_evaluate 359 = .ok (.ifCond .le 12, 3) := by decide +kernel
theorem dX2_evaluate_362 : decode cX2_evaluate 362 = .ok (.aload_n 0, 1) := by decide +kernel
theorem dX2_evaluate_363 : decode cX2_evaluate 363 = .ok (.getfield 17, 3) := by decide +kernel
theorem dX2_evaluate_366 : decode cX2_evaluate 366 = .ok (.iconst 0, 1) := by decide +kernel
theorem dX2_evaluate_367 : decode cX2_evaluate 367 = .ok (.laload, 1) := by decide +kernel
theorem dX2_evaluate_368 : decode cX2_evaluate 368 = .ok (.goto 4, 3) := by decide +kernel
theorem dX2_evaluate_371 : decode cX2_evaluate 371 = .ok (.lconst 0, 1) := by decide +kernel
theorem dX2_evaluate_372 : decode cX2_evaluate 372 = .ok (.lreturn, 1) := by decide +kernel
theorem dX2_put_0 : decode cX2_put 0 = .ok (.aload_n 0, 1) := by decide +kernel
theorem dX2_put_1 : decode cX2_put 1 = .ok (.getfield 55, 3) := by decide +kernel
theorem dX2_put_4 : decode cX2_put 4 = .ok (.aload_n 0, 1) := by decide +kernel
theorem dX2_put_5 : decode cX2_put 5 = .ok (.getfield 17, 3) := by decide +kernel
theorem dX2_put_8 : decode cX2_put 8 = .ok (.arraylength, 1) := by decide +kernel
theorem dX2_put_9 : decode cX2_put 9 = .ok (.if_icmp .ge 23, 3) := by decide +kernel
theorem dX2_put_12 : decode cX2_put 12 = .ok (.aload_n 0, 1) := by decide +kernel
theorem dX2_put_13 : decode cX2_put 13 = .ok (.getfield 17, 3) := by decide +kernel
theorem dX2_put_16 : decode cX2_put 16 = .ok (.aload_n 0, 1) := by decide +kernel
theorem dX2_put_17 : decode cX2_put 17 = .ok (.getfield 55, 3) := by decide +kernel
theorem dX2_put_20 : decode cX2_put 20 = .ok (.lload_n 1, 1) := by decide +kernel
theorem dX2_put_21 : decode cX2_put 21 = .ok (.lastore, 1) := by decide +kernel
theorem dX2_put_22 : decode cX2_put 22 = .ok (.aload_n 0, 1) := by decide +kernel
theorem dX2_put_23 : decode cX2_put 23 = .ok (.dup, 1) := by decide +kernel
theorem dX2_put_24 : decode cX2_put 24 = .ok (.getfield 55, 3) := by decide +kernel
theorem dX2_put_27 : decode cX2_put 27 = .ok (.iconst 1, 1) := by decide +kernel
theorem dX2_put_28 : decode cX2_put 28 = .ok (.iadd, 1) := by decide +kernel
theorem dX2_put_29 : decode cX2_put 29 = .ok (.putfield 55, 3) := by decide +kernel
theorem dX2_put_32 : decode cX2_put 32 = .ok (.return_, 1) := by decide +kernel
theorem dX2_operand_0 : decode cX2_operand 0 = .ok (.iload_n 2, 1) := by decide +kernel
theorem dX2_operand_1 : decode cX2_operand 1 = .ok (.tableswitch 59 31 33 #[27, 50, 56], 27) := by decide +kernel
theorem dX2_operand_28 : decode cX2_operand 28 = .ok (.aload_n 0, 1) := by decide +kernel
theorem dX2_operand_29 : decode cX2_operand 29 = .ok (.getfield 221, 3) := by decide +kernel
theorem dX2_operand_32 : decode cX2_operand 32 = .ok (.ifCond .ge 7, 3) := by decide +kernel
theorem dX2_operand_35 : decode cX2_operand 35 = .ok (.lconst 0, 1) := by decide +kernel
theorem dX2_operand_36 : decode cX2_operand 36 = .ok (.goto 14, 3) := by decide +kernel
theorem dX2_operand_39 : decode cX2_operand 39 = .ok (.aload_n 0, 1) := by decide +kernel
theorem dX2_operand_40 : decode cX2_operand 40 = .ok (.aload_n 0, 1) := by decide +kernel
theorem dX2_operand_41 : decode cX2_operand 41 = .ok (.getfield 221, 3) := by decide +kernel
theorem dX2_operand_44 : decode cX2_operand 44 = .ok (.lload_n 3, 1) := by decide +kernel
theorem dX2_operand_45 : decode cX2_operand 45 = .ok (.l2i, 1) := by decide +kernel
theorem dX2_operand_46 : decode cX2_operand 46 = .ok (.invokevirtual 224, 3) := by decide +kernel
theorem dX2_operand_49 : decode cX2_operand 49 = .ok (.i2l, 1) := by decide +kernel
theorem dX2_operand_50 : decode cX2_operand 50 = .ok (.lreturn, 1) := by decide +kernel
theorem dX2_operand_51 : decode cX2_operand 51 = .ok (.aload_n 0, 1) := by decide +kernel
theorem dX2_operand_52 : decode cX2_operand 52 = .ok (.getfield 221, 3) := by decide +kernel
theorem dX2_operand_55 : decode cX2_operand 55 = .ok (.i2l, 1) := by decide +kernel
theorem dX2_operand_56 : decode cX2_operand 56 = .ok (.lreturn, 1) := by decide +kernel
theorem dX2_operand_57 : decode cX2_operand 57 = .ok (.iload_n 1, 1) := by decide +kernel
theorem dX2_operand_58 : decode cX2_operand 58 = .ok (.i2l, 1) := by decide +kernel
theorem dX2_operand_59 : decode cX2_operand 59 = .ok (.lreturn, 1) := by decide +kernel
theorem dX2_operand_60 : decode cX2_operand 60 = .ok (.lload_n 3, 1) := by decide +kernel
theorem dX2_operand_61 : decode cX2_operand 61 = .ok (.lreturn, 1) := by decide +kernel
theorem dX2_single_0 : decode cX2_single 0 = .ok (.iload_n 2, 1) := by decide +kernel
theorem dX2_single_1 : decode cX2_single 1 = .ok (.lookupswitch 106 #[(19, 51), (20, 64), (21, 68), (24, 88), (36, 75)], 51) := by decide +kernel
theorem dX2_single_52 : decode cX2_single 52 = .ok (.lload 4, 2) := by decide +kernel
theorem dX2_single_54 : decode cX2_single 54 = .ok (.lconst 0, 1) := by decide +kernel
theorem dX2_single_55 : decode cX2_single 55 = .ok (.lcmp, 1) := by decide +kernel
theorem dX2_single_56 : decode cX2_single 56 = .ok (.ifCond .ne 7, 3) := by decide +kernel
theorem dX2_single_59 : decode cX2_single 59 = .ok (.lconst 1, 1) := by decide +kernel
theorem dX2_single_60 : decode cX2_single 60 = .ok (.goto 4, 3) := by decide +kernel
theorem dX2_single_63 : decode cX2_single 63 = .ok (.lconst 0, 1) := by decide +kernel
theorem dX2_single_64 : decode cX2_single 64 = .ok (.lreturn, 1) := by decide +kernel
theorem dX2_single_65 : decode cX2_single 65 = .ok (.lload 4, 2) := by decide +kernel
theorem dX2_single_67 : decode cX2_single 67 = .ok (.lneg, 1) := by decide +kernel
theorem dX2_single_68 : decode cX2_single 68 = .ok (.lreturn, 1) := by decide +kernel
theorem dX2_single_69 : decode cX2_single 69 = .ok (.lload 4, 2) := by decide +kernel
theorem dX2_single_71 : decode cX2_single 71 = .ok (.ldc2_w 227, 3) := by decide +kernel
theorem dX2_single_74 : decode cX2_single 74 = .ok (.lxor, 1) := by decide +kernel
theorem dX2_single_75 : decode cX2_single 75 = .ok (.lreturn, 1) := by decide +kernel
theorem dX2_single_76 : decode cX2_single 76 = .ok (.lload 4, 2) := by decide +kernel
theorem dX2_single_78 : decode cX2_single 78 = .ok (.lconst 0, 1) := by decide +kernel
theorem dX2_single_79 : decode cX2_single 79 = .ok (.lcmp, 1) := by decide +kernel
theorem dX2_single_80 : decode cX2_single 80 = .ok (.ifCond .eq 7, 3) := by decide +kernel
theorem dX2_single_83 : decode cX2_single 83 = .ok (.lconst 1, 1) := by decide +kernel
theorem dX2_single_84 : decode cX2_single 84 = .ok (.goto 4, 3) := by decide +kernel
theorem dX2_single_87 : decode cX2_single 87 = .ok (.lconst 0, 1) := by decide +kernel
theorem dX2_single_88 : decode cX2_single 88 = .ok (.lreturn, 1) := by decide +kernel
theorem dX2_single_89 : decode cX2_single 89 = .ok (.lload 4, 2) := by decide +kernel
theorem dX2_single_91 : decode cX2_single 91 = .ok (.aload_n 0, 1) := by decide +kernel
theorem dX2_single_92 : decode cX2_single 92 = .ok (.getfield 32, 3) := by decide +kernel
theorem dX2_single_95 : decode cX2_single 95 = .ok (.iload_n 3, 1) := by decide +kernel
theorem dX2_single_96 : decode cX2_single 96 = .ok (.laload, 1) := by decide +kernel
theorem dX2_single_97 : decode cX2_single 97 = .ok (.lcmp, 1) := by decide +kernel
theorem dX2_single_98 : decode cX2_single 98 = .ok (.ifCond .eq 7, 3) := by decide +kernel
theorem dX2_single_101 : decode cX2_single 101 = .ok (.lconst 1, 1) := by decide +kernel
theorem dX2_single_102 : decode cX2_single 102 = .ok (.goto 4, 3) := by decide +kernel
theorem dX2_single_105 : decode cX2_single 105 = .ok (.lconst 0, 1) := by decide +kernel
theorem dX2_single_106 : decode cX2_single 106 = .ok (.lreturn, 1) := by decide +kernel
theorem dX2_single_107 : decode cX2_single 107 = .ok (.aload_n 0, 1) := by decide +kernel
theorem dX2_single_108 : decode cX2_single 108 = .ok (.aload_n 1, 1) := by decide +kernel
theorem dX2_single_109 : decode cX2_single 109 = .ok (.iload_n 2, 1) := by decide +kernel
theorem dX2_single_110 : decode cX2_single 110 = .ok (.lload 4, 2) := by decide +kernel
theorem dX2_single_112 : decode cX2_single 112 = .ok (.invokevirtual 229, 3) := by decide +kernel
theorem dX2_single_115 : decode cX2_single 115 = .ok (.lreturn, 1) := by decide +kernel
theorem dX2_inSpace_0 : decode cX2_inSpace 0 = .ok (.aload_n 1, 1) := by decide +kernel
theorem dX2_inSpace_1 : decode cX2_inSpace 1 = .ok (.getfield 221, 3) := by decide +kernel
theorem dX2_inSpace_4 : decode cX2_inSpace 4 = .ok (.istore 5, 2) := by decide +kernel
theorem dX2_inSpace_6 : decode cX2_inSpace 6 = .ok (.iload_n 2, 1) := by decide +kernel
theorem dX2_inSpace_7 : decode cX2_inSpace 7 = .ok (.bipush 25, 2) := by decide +kernel
theorem dX2_inSpace_9 : decode cX2_inSpace 9 = .ok (.if_icmp .ne 7, 3) := by decide +kernel
theorem dX2_inSpace_12 : decode cX2_inSpace 12 = .ok (.iconst 4, 1) := by decide +kernel
theorem dX2_inSpace_13 : decode cX2_inSpace 13 = .ok (.goto 14, 3) := by decide +kernel
theorem dX2_inSpace_16 : decode cX2_inSpace 16 = .ok (.iload_n 2, 1) := by decide +kernel
theorem dX2_inSpace_17 : decode cX2_inSpace 17 = .ok (.bipush 26, 2) := by decide +kernel
theorem dX2_inSpace_19 : decode cX2_inSpace 19 = .ok (.if_icmp .ne 7, 3) := by decide +kernel
theorem dX2_inSpace_22 : decode cX2_inSpace 22 = .ok (.iconst 2, 1) := by decide +kernel
theorem dX2_inSpace_23 : decode cX2_inSpace 23 = .ok (.goto 4, 3) := by decide +kernel
theorem dX2_inSpace_26 : decode cX2_inSpace 26 = .ok (.iconst 1, 1) := by decide +kernel
theorem dX2_inSpace_27 : decode cX2_inSpace 27 = .ok (.istore 6, 2) := by decide +kernel
theorem dX2_inSpace_29 : decode cX2_inSpace 29 = .ok (.iload 5, 2) := by decide +kernel
theorem dX2_inSpace_31 : decode cX2_inSpace 31 = .ok (.ifCond .lt 40, 3) := by decide +kernel
theorem dX2_inSpace_34 : decode cX2_inSpace 34 = .ok (.lload_n 3, 1) := by decide +kernel
theorem dX2_inSpace_35 : decode cX2_inSpace 35 = .ok (.lconst 0, 1) := by decide +kernel
theorem dX2_inSpace_36 : decode cX2_inSpace 36 = .ok (.lcmp, 1) := by decide +kernel
theorem dX2_inSpace_37 : decode cX2_inSpace 37 = .ok (.ifCond .lt 34, 3) := by decide +kernel
theorem dX2_inSpace_40 : decode cX2_inSpace 40 = .ok (.lload_n 3, 1) := by decide +kernel
theorem dX2_inSpace_41 : decode cX2_inSpace 41 = .ok (.ldc2_w 233, 3) := by decide +kernel
theorem dX2_inSpace_44 : decode cX2_inSpace 44 = .ok (.lcmp, 1) := by decide +kernel
theorem dX2_inSpace_45 : decode cX2_inSpace 45 = .ok (.ifCond .ge 26, 3) := by decide +kernel
theorem dX2_inSpace_48 : decode cX2_inSpace 48 = .ok (.lload_n 3, 1) := by decide +kernel
theorem dX2_inSpace_49 : decode cX2_inSpace 49 = .ok (.iload 6, 2) := by decide +kernel
theorem dX2_inSpace_51 : decode cX2_inSpace 51 = .ok (.i2l, 1) := by decide +kernel
theorem dX2_inSpace_52 : decode cX2_inSpace 52 = .ok (.lrem, 1) := by decide +kernel
theorem dX2_inSpace_53 : decode cX2_inSpace 53 = .ok (.lconst 0, 1) := by decide +kernel
theorem dX2_inSpace_54 : decode cX2_inSpace 54 = .ok (.lcmp, 1) := by decide +kernel
theorem dX2_inSpace_55 : decode cX2_inSpace 55 = .ok (.ifCond .ne 16, 3) := by decide +kernel
theorem dX2_inSpace_58 : decode cX2_inSpace 58 = .ok (.aload_n 1, 1) := by decide +kernel
theorem dX2_inSpace_59 : decode cX2_inSpace 59 = .ok (.iload 5, 2) := by decide +kernel
theorem dX2_inSpace_61 : decode cX2_inSpace 61 = .ok (.lload_n 3, 1) := by decide +kernel
theorem dX2_inSpace_62 : decode cX2_inSpace 62 = .ok (.l2i, 1) := by decide +kernel
theorem dX2_inSpace_63 : decode cX2_inSpace 63 = .ok (.bipush 7, 2) := by decide +kernel
theorem dX2_inSpace_65 : decode cX2_inSpace 65 = .ok (.invokevirtual 235, 3) := by decide +kernel
theorem dX2_inSpace_68 : decode cX2_inSpace 68 = .ok (.ifCond .ne 10, 3) := by decide +kernel
theorem dX2_inSpace_71 : decode cX2_inSpace 71 = .ok (.aload_n 0, 1) := by decide +kernel
theorem dX2_inSpace_72 : decode cX2_inSpace 72 = .ok (.iconst 1, 1) := by decide +kernel
theorem dX2_inSpace_73 : decode cX2_inSpace 73 = .ok (.putfield 199, 3) := by decide +kernel
theorem dX2_inSpace_76 : decode cX2_inSpace 76 = .ok (.lconst 0, 1) := by decide +kernel
theorem dX2_inSpace_77 : decode cX2_inSpace 77 = .ok (.lreturn, 1) := by decide +kernel
theorem dX2_inSpace_78 : decode cX2_inSpace 78 = .ok (.lload_n 3, 1) := by decide +kernel
theorem dX2_inSpace_79 : decode cX2_inSpace 79 = .ok (.l2i, 1) := by decide +kernel
theorem dX2_inSpace_80 : decode cX2_inSpace 80 = .ok (.istore 7, 2) := by decide +kernel
theorem dX2_inSpace_82 : decode cX2_inSpace 82 = .ok (.iload 6, 2) := by decide +kernel
theorem dX2_inSpace_84 : decode cX2_inSpace 84 = .ok (.iconst 4, 1) := by decide +kernel
theorem dX2_inSpace_85 : decode cX2_inSpace 85 = .ok (.if_icmp .ne 15, 3) := by decide +kernel
theorem dX2_inSpace_88 : decode cX2_inSpace 88 = .ok (.aload_n 1, 1) := by decide +kernel
theorem dX2_inSpace_89 : decode cX2_inSpace 89 = .ok (.iload 5, 2) := by decide +kernel
theorem dX2_inSpace_91 : decode cX2_inSpace 91 = .ok (.iload 7, 2) := by decide +kernel
theorem dX2_inSpace_93 : decode cX2_inSpace 93 = .ok (.invokevirtual 239, 3) := by decide +kernel
theorem dX2_inSpace_96 : decode cX2_inSpace 96 = .ok (.i2l, 1) := by decide +kernel
theorem dX2_inSpace_97 : decode cX2_inSpace 97 = .ok (.goto 31, 3) := by decide +kernel
theorem dX2_inSpace_100 : decode cX2_inSpace 100 = .ok (.iload 6, 2) := by decide +kernel
theorem dX2_inSpace_102 : decode cX2_inSpace 102 = .ok (.iconst 2, 1) := by decide +kernel
theorem dX2_inSpace_103 : decode cX2_inSpace 103 = .ok (.if_icmp .ne 16, 3) := by decide +kernel
theorem dX2_inSpace_106 : decode cX2_inSpace 106 = .ok (.aload_n 1, 1) := by decide +kernel
theorem dX2_inSpace_107 : decode cX2_inSpace 107 = .ok (.iload 5, 2) := by decide +kernel
theorem dX2_inSpace_109 : decode cX2_inSpace 109 = .ok (.iload 7, 2) := by decide +kernel
theorem dX2_inSpace_111 : decode cX2_inSpace 111 = .ok (.invokevirtual 242, 3) := by decide +kernel
theorem dX2_inSpace_114 : decode cX2_inSpace 114 = .ok (.i2s, 1) := by decide +kernel
theorem dX2_inSpace_115 : decode cX2_inSpace 115 = .ok (.i2l, 1) := by decide +kernel
theorem dX2_inSpace_116 : decode cX2_inSpace 116 = .ok (.goto 12, 3) := by decide +kernel
theorem dX2_inSpace_119 : decode cX2_inSpace 119 = .ok (.aload_n 1, 1) := by decide +kernel
theorem dX2_inSpace_120 : decode cX2_inSpace 120 = .ok (.iload 5, 2) := by decide +kernel
theorem dX2_inSpace_122 : decode cX2_inSpace 122 = .ok (.iload 7, 2) := by decide +kernel
theorem dX2_inSpace_124 : decode cX2_inSpace 124 = .ok (.invokevirtual 245, 3) := by decide +kernel
theorem dX2_inSpace_127 : decode cX2_inSpace 127 = .ok (.i2l, 1) := by decide +kernel
theorem dX2_inSpace_128 : decode cX2_inSpace 128 = .ok (.lreturn, 1) := by decide +kernel
theorem dX2_joined_0 : decode cX2_joined 0 = .ok (.iload_n 1, 1) := by decide +kernel
theorem dX2_joined_1 : decode cX2_joined 1 = .ok (.tableswitch 144 3 11 #[51, 64, 77, 90, 103, 116, 129, 134, 139], 51) := by decide +kernel
theorem dX2_joined_52 : decode cX2_joined 52 = .ok (.lload_n 2, 1) := by decide +kernel
theorem dX2_joined_53 : decode cX2_joined 53 = .ok (.lload 4, 2) := by decide +kernel
theorem dX2_joined_55 : decode cX2_joined 55 = .ok (.lcmp, 1) := by decide +kernel
theorem dX2_joined_56 : decode cX2_joined 56 = .ok (.ifCond .ne 7, 3) := by decide +kernel
theorem dX2_joined_59 : decode cX2_joined 59 = .ok (.lconst 1, 1) := by decide +kernel
theorem dX2_joined_60 : decode cX2_joined 60 = .ok (.goto 4, 3) := by decide +kernel
theorem dX2_joined_63 : decode cX2_joined 63 = .ok (.lconst 0, 1) := by decide +kernel
theorem dX2_joined_64 : decode cX2_joined 64 = .ok (.lreturn, 1) := by decide +kernel
theorem dX2_joined_65 : decode cX2_joined 65 = .ok (.lload_n 2, 1) := by decide +kernel
theorem dX2_joined_66 : decode cX2_joined 66 = .ok (.lload 4, 2) := by decide +kernel
theorem dX2_joined_68 : decode cX2_joined 68 = .ok (.lcmp, 1) := by decide +kernel
theorem dX2_joined_69 : decode cX2_joined 69 = .ok (.ifCond .eq 7, 3) := by decide +kernel
theorem dX2_joined_72 : decode cX2_joined 72 = .ok (.lconst 1, 1) := by decide +kernel
theorem dX2_joined_73 : decode cX2_joined 73 = .ok (.goto 4, 3) := by decide +kernel
theorem dX2_joined_76 : decode cX2_joined 76 = .ok (.lconst 0, 1) := by decide +kernel
theorem dX2_joined_77 : decode cX2_joined 77 = .ok (.lreturn, 1) := by decide +kernel
theorem dX2_joined_78 : decode cX2_joined 78 = .ok (.lload_n 2, 1) := by decide +kernel
theorem dX2_joined_79 : decode cX2_joined 79 = .ok (.lload 4, 2) := by decide +kernel
theorem dX2_joined_81 : decode cX2_joined 81 = .ok (.lcmp, 1) := by decide +kernel
theorem dX2_joined_82 : decode cX2_joined 82 = .ok (.ifCond .ge 7, 3) := by decide +kernel
