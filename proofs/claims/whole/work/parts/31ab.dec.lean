theorem dX2_blame_0 : decode cX2_blame 0 = .ok (.aload_n 0, 1) := by decide +kernel
theorem dX2_blame_1 : decode cX2_blame 1 = .ok (.getfield 64, 3) := by decide +kernel
theorem dX2_blame_4 : decode cX2_blame 4 = .ok (.ifCond .ne 16, 3) := by decide +kernel
theorem dX2_blame_7 : decode cX2_blame 7 = .ok (.aload_n 0, 1) := by decide +kernel
theorem dX2_blame_8 : decode cX2_blame 8 = .ok (.iload_n 1, 1) := by decide +kernel
theorem dX2_blame_9 : decode cX2_blame 9 = .ok (.bipush 8, 2) := by decide +kernel
theorem dX2_blame_11 : decode cX2_blame 11 = .ok (.aload_n 0, 1) := by decide +kernel
theorem dX2_blame_12 : decode cX2_blame 12 = .ok (.getfield 90, 3) := by decide +kernel
theorem dX2_blame_15 : decode cX2_blame 15 = .ok (.imul, 1) := by decide +kernel
theorem dX2_blame_16 : decode cX2_blame 16 = .ok (.iadd, 1) := by decide +kernel
theorem dX2_blame_17 : decode cX2_blame 17 = .ok (.putfield 64, 3) := by decide +kernel
theorem dX2_blame_20 : decode cX2_blame 20 = .ok (.return_, 1) := by decide +kernel
theorem dX2_isLetter_0 : decode cX2_isLetter 0 = .ok (.iload_n 0, 1) := by decide +kernel
theorem dX2_isLetter_1 : decode cX2_isLetter 1 = .ok (.bipush 97, 2) := by decide +kernel
theorem dX2_isLetter_3 : decode cX2_isLetter 3 = .ok (.if_icmp .lt 9, 3) := by decide +kernel
theorem dX2_isLetter_6 : decode cX2_isLetter 6 = .ok (.iload_n 0, 1) := by decide +kernel
theorem dX2_isLetter_7 : decode cX2_isLetter 7 = .ok (.bipush 122, 2) := by decide +kernel
theorem dX2_isLetter_9 : decode cX2_isLetter 9 = .ok (.if_icmp .le 15, 3) := by decide +kernel
theorem dX2_isLetter_12 : decode cX2_isLetter 12 = .ok (.iload_n 0, 1) := by decide +kernel
theorem dX2_isLetter_13 : decode cX2_isLetter 13 = .ok (.bipush 65, 2) := by decide +kernel
theorem dX2_isLetter_15 : decode cX2_isLetter 15 = .ok (.if_icmp .lt 13, 3) := by decide +kernel
theorem dX2_isLetter_18 : decode cX2_isLetter 18 = .ok (.iload_n 0, 1) := by decide +kernel
theorem dX2_isLetter_19 : decode cX2_isLetter 19 = .ok (.bipush 90, 2) := by decide +kernel
theorem dX2_isLetter_21 : decode cX2_isLetter 21 = .ok (.if_icmp .gt 7, 3) := by decide +kernel
theorem dX2_isLetter_24 : decode cX2_isLetter 24 = .ok (.iconst 1, 1) := by decide +kernel
theorem dX2_isLetter_25 : decode cX2_isLetter 25 = .ok (.goto 4, 3) := by decide +kernel
theorem dX2_isLetter_28 : decode cX2_isLetter 28 = .ok (.iconst 0, 1) := by decide +kernel
theorem dX2_isLetter_29 : decode cX2_isLetter 29 = .ok (.ireturn, 1) := by decide +kernel
theorem dX2_isDigit_0 : decode cX2_isDigit 0 = .ok (.iload_n 0, 1) := by decide +kernel
theorem dX2_isDigit_1 : decode cX2_isDigit 1 = .ok (.bipush 48, 2) := by decide +kernel
theorem dX2_isDigit_3 : decode cX2_isDigit 3 = .ok (.if_icmp .lt 13, 3) := by decide +kernel
theorem dX2_isDigit_6 : decode cX2_isDigit 6 = .ok (.iload_n 0, 1) := by decide +kernel
theorem dX2_isDigit_7 : decode cX2_isDigit 7 = .ok (.bipush 57, 2) := by decide +kernel
theorem dX2_isDigit_9 : decode cX2_isDigit 9 = .ok (.if_icmp .gt 7, 3) := by decide +kernel
theorem dX2_isDigit_12 : decode cX2_isDigit 12 = .ok (.iconst 1, 1) := by decide +kernel
theorem dX2_isDigit_13 : decode cX2_isDigit 13 = .ok (.goto 4, 3) := by decide +kernel
theorem dX2_isDigit_16 : decode cX2_isDigit 16 = .ok (.iconst 0, 1) := by decide +kernel
theorem dX2_isDigit_17 : decode cX2_isDigit 17 = .ok (.ireturn, 1) := by decide +kernel
theorem dX2_next_0 : decode cX2_next 0 = .ok (.aload_n 0, 1) := by decide +kernel
theorem dX2_next_1 : decode cX2_next 1 = .ok (.getfield 49, 3) := by decide +kernel
theorem dX2_next_4 : decode cX2_next 4 = .ok (.aload_n 0, 1) := by decide +kernel
theorem dX2_next_5 : decode cX2_next 5 = .ok (.getfield 45, 3) := by decide +kernel
theorem dX2_next_8 : decode cX2_next 8 = .ok (.if_icmp .ge 30, 3) := by decide +kernel
theorem dX2_next_11 : decode cX2_next 11 = .ok (.aload_n 0, 1) := by decide +kernel
theorem dX2_next_12 : decode cX2_next 12 = .ok (.getfield 35, 3) := by decide +kernel
theorem dX2_next_15 : decode cX2_next 15 = .ok (.aload_n 0, 1) := by decide +kernel
theorem dX2_next_16 : decode cX2_next 16 = .ok (.getfield 49, 3) := by decide +kernel
theorem dX2_next_19 : decode cX2_next 19 = .ok (.baload, 1) := by decide +kernel
theorem dX2_next_20 : decode cX2_next 20 = .ok (.bipush 32, 2) := by decide +kernel
theorem dX2_next_22 : decode cX2_next 22 = .ok (.if_icmp .ne 16, 3) := by decide +kernel
theorem dX2_next_25 : decode cX2_next 25 = .ok (.aload_n 0, 1) := by decide +kernel
theorem dX2_next_26 : decode cX2_next 26 = .ok (.dup, 1) := by decide +kernel
theorem dX2_next_27 : decode cX2_next 27 = .ok (.getfield 49, 3) := by decide +kernel
theorem dX2_next_30 : decode cX2_next 30 = .ok (.iconst 1, 1) := by decide +kernel
theorem dX2_next_31 : decode cX2_next 31 = .ok (.iadd, 1) := by decide +kernel
theorem dX2_next_32 : decode cX2_next 32 = .ok (.putfield 49, 3) := by decide +kernel
theorem dX2_next_35 : decode cX2_next 35 = .ok (.goto (-35), 3) := by decide +kernel
theorem dX2_next_38 : decode cX2_next 38 = .ok (.aload_n 0, 1) := by decide +kernel
theorem dX2_next_39 : decode cX2_next 39 = .ok (.aload_n 0, 1) := by decide +kernel
theorem dX2_next_40 : decode cX2_next 40 = .ok (.getfield 49, 3) := by decide +kernel
theorem dX2_next_43 : decode cX2_next 43 = .ok (.putfield 90, 3) := by decide +kernel
theorem dX2_next_46 : decode cX2_next 46 = .ok (.aload_n 0, 1) := by decide +kernel
theorem dX2_next_47 : decode cX2_next 47 = .ok (.getfield 49, 3) := by decide +kernel
theorem dX2_next_50 : decode cX2_next 50 = .ok (.aload_n 0, 1) := by decide +kernel
theorem dX2_next_51 : decode cX2_next 51 = .ok (.getfield 45, 3) := by decide +kernel
theorem dX2_next_54 : decode cX2_next 54 = .ok (.if_icmp .lt 9, 3) := by decide +kernel
theorem dX2_next_57 : decode cX2_next 57 = .ok (.aload_n 0, 1) := by decide +kernel
theorem dX2_next_58 : decode cX2_next 58 = .ok (.iconst 0, 1) := by decide +kernel
theorem dX2_next_59 : decode cX2_next 59 = .ok (.putfield 77, 3) := by decide +kernel
theorem dX2_next_62 : decode cX2_next 62 = .ok (.return_, 1) := by decide +kernel
theorem dX2_next_63 : decode cX2_next 63 = .ok (.aload_n 0, 1) := by decide +kernel
theorem dX2_next_64 : decode cX2_next 64 = .ok (.getfield 35, 3) := by decide +kernel
theorem dX2_next_67 : decode cX2_next 67 = .ok (.aload_n 0, 1) := by decide +kernel
theorem dX2_next_68 : decode cX2_next 68 = .ok (.getfield 49, 3) := by decide +kernel
theorem dX2_next_71 : decode cX2_next 71 = .ok (.baload, 1) := by decide +kernel
theorem dX2_next_72 : decode cX2_next 72 = .ok (.istore_n 1, 1) := by decide +kernel
theorem dX2_next_73 : decode cX2_next 73 = .ok (.iload_n 1, 1) := by decide +kernel
theorem dX2_next_74 : decode cX2_next 74 = .ok (.invokestatic 93, 3) := by decide +kernel
theorem dX2_next_77 : decode cX2_next 77 = .ok (.ifCond .ne 10, 3) := by decide +kernel
theorem dX2_next_80 : decode cX2_next 80 = .ok (.iload_n 1, 1) := by decide +kernel
theorem dX2_next_81 : decode cX2_next 81 = .ok (.invokestatic 97, 3) := by decide +kernel
theorem dX2_next_84 : decode cX2_next 84 = .ok (.ifCond .eq 86, 3) := by decide +kernel
theorem dX2_next_87 : decode cX2_next 87 = .ok (.aload_n 0, 1) := by decide +kernel
theorem dX2_next_88 : decode cX2_next 88 = .ok (.getfield 49, 3) := by decide +kernel
theorem dX2_next_91 : decode cX2_next 91 = .ok (.aload_n 0, 1) := by decide +kernel
theorem dX2_next_92 : decode cX2_next 92 = .ok (.getfield 45, 3) := by decide +kernel
theorem dX2_next_95 : decode cX2_next 95 = .ok (.if_icmp .ge 46, 3) := by decide +kernel
theorem dX2_next_98 : decode cX2_next 98 = .ok (.aload_n 0, 1) := by decide +kernel
theorem dX2_next_99 : decode cX2_next 99 = .ok (.getfield 35, 3) := by decide +kernel
theorem dX2_next_102 : decode cX2_next 102 = .ok (.aload_n 0, 1) := by decide +kernel
theorem dX2_next_103 : decode cX2_next 103 = .ok (.getfield 49, 3) := by decide +kernel
theorem dX2_next_106 : decode cX2_next 106 = .ok (.baload, 1) := by decide +kernel
theorem dX2_next_107 : decode cX2_next 107 = .ok (.invokestatic 93, 3) := by decide +kernel
theorem dX2_next_110 : decode cX2_next 110 = .ok (.ifCond .ne 18, 3) := by decide +kernel
theorem dX2_next_113 : decode cX2_next 113 = .ok (.aload_n 0, 1) := by decide +kernel
theorem dX2_next_114 : decode cX2_next 114 = .ok (.getfield 35, 3) := by decide +kernel
theorem dX2_next_117 : decode cX2_next 117 = .ok (.aload_n 0, 1) := by decide +kernel
theorem dX2_next_118 : decode cX2_next 118 = .ok (.getfield 49, 3) := by decide +kernel
theorem dX2_next_121 : decode cX2_next 121 = .ok (.baload, 1) := by decide +kernel
theorem dX2_next_122 : decode cX2_next 122 = .ok (.invokestatic 97, 3) := by decide +kernel
theorem dX2_next_125 : decode cX2_next 125 = .ok (.ifCond .eq 16, 3) := by decide +kernel
theorem dX2_next_128 : decode cX2_next 128 = .ok (.aload_n 0, 1) := by decide +kernel
theorem dX2_next_129 : decode cX2_next 129 = .ok (.dup, 1) := by decide +kernel
theorem dX2_next_130 : decode cX2_next 130 = .ok (.getfield 49, 3) := by decide +kernel
theorem dX2_next_133 : decode cX2_next 133 = .ok (.iconst 1, 1) := by decide +kernel
theorem dX2_next_134 : decode cX2_next 134 = .ok (.iadd, 1) := by decide +kernel
theorem dX2_next_135 : decode cX2_next 135 = .ok (.putfield 49, 3) := by decide +kernel
theorem dX2_next_138 : decode cX2_next 138 = .ok (.goto (-51), 3) := by decide +kernel
theorem dX2_next_141 : decode cX2_next 141 = .ok (.aload_n 0, 1) := by decide +kernel
theorem dX2_next_142 : decode cX2_next 142 = .ok (.iload_n 1, 1) := by decide +kernel
theorem dX2_next_143 : decode cX2_next 143 = .ok (.invokestatic 93, 3) := by decide +kernel
theorem dX2_next_146 : decode cX2_next 146 = .ok (.ifCond .eq 7, 3) := by decide +kernel
theorem dX2_next_149 : decode cX2_next 149 = .ok (.iconst 2, 1) := by decide +kernel
theorem dX2_next_150 : decode cX2_next 150 = .ok (.goto 4, 3) := by decide +kernel
theorem dX2_next_153 : decode cX2_next 153 = .ok (.iconst 1, 1) := by decide +kernel
theorem dX2_next_154 : decode cX2_next 154 = .ok (.putfield 77, 3) := by decide +kernel
theorem dX2_next_157 : decode cX2_next 157 = .ok (.aload_n 0, 1) := by decide +kernel
theorem dX2_next_158 : decode cX2_next 158 = .ok (.getfield 77, 3) := by decide +kernel
theorem dX2_next_161 : decode cX2_next 161 = .ok (.iconst 1, 1) := by decide +kernel
theorem dX2_next_162 : decode cX2_next 162 = .ok (.if_icmp .ne 7, 3) := by decide +kernel
theorem dX2_next_165 : decode cX2_next 165 = .ok (.aload_n 0, 1) := by decide +kernel
theorem dX2_next_166 : decode cX2_next 166 = .ok (.invokevirtual 100, 3) := by decide +kernel
theorem dX2_next_169 : decode cX2_next 169 = .ok (.return_, 1) := by decide +kernel
theorem dX2_next_170 : decode cX2_next 170 = .ok (.aload_n 0, 1) := by decide +kernel
theorem dX2_next_171 : decode cX2_next 171 = .ok (.getfield 49, 3) := by decide +kernel
theorem dX2_next_174 : decode cX2_next 174 = .ok (.iconst 1, 1) := by decide +kernel
theorem dX2_next_175 : decode cX2_next 175 = .ok (.iadd, 1) := by decide +kernel
theorem dX2_next_176 : decode cX2_next 176 = .ok (.aload_n 0, 1) := by decide +kernel
theorem dX2_next_177 : decode cX2_next 177 = .ok (.getfield 45, 3) := by decide +kernel
theorem dX2_next_180 : decode cX2_next 180 = .ok (.if_icmp .ge 17, 3) := by decide +kernel
theorem dX2_next_183 : decode cX2_next 183 = .ok (.aload_n 0, 1) := by decide +kernel
theorem dX2_next_184 : decode cX2_next 184 = .ok (.getfield 35, 3) := by decide +kernel
theorem dX2_next_187 : decode cX2_next 187 = .ok (.aload_n 0, 1) := by decide +kernel
theorem dX2_next_188 : decode cX2_next 188 = .ok (.getfield 49, 3) := by decide +kernel
theorem dX2_next_191 : decode cX2_next 191 = .ok (.iconst 1, 1) := by decide +kernel
theorem dX2_next_192 : decode cX2_next 192 = .ok (.iadd, 1) := by decide +kernel
theorem dX2_next_193 : decode cX2_next 193 = .ok (.baload, 1) := by decide +kernel
theorem dX2_next_194 : decode cX2_next 194 = .ok (.goto 4, 3) := by decide +kernel
theorem dX2_next_197 : decode cX2_next 197 = .ok (.iconst 0, 1) := by decide +kernel
theorem dX2_next_198 : decode cX2_next 198 = .ok (.istore_n 2, 1) := by decide +kernel
theorem dX2_next_199 : decode cX2_next 199 = .ok (.iload_n 1, 1) := by decide +kernel
theorem dX2_next_200 : decode cX2_next 200 = .ok (.iload_n 2, 1) := by decide +kernel
theorem dX2_next_201 : decode cX2_next 201 = .ok (.invokestatic 103, 3) := by decide +kernel
theorem dX2_next_204 : decode cX2_next 204 = .ok (.istore_n 3, 1) := by decide +kernel
theorem dX2_next_205 : decode cX2_next 205 = .ok (.aload_n 0, 1) := by decide +kernel
theorem dX2_next_206 : decode cX2_next 206 = .ok (.iload_n 3, 1) := by decide +kernel
theorem dX2_next_207 : decode cX2_next 207 = .ok (.ifCond .eq 8, 3) := by decide +kernel
theorem dX2_next_210 : decode cX2_next 210 = .ok (.iload_n 3, 1) := by decide +kernel
theorem dX2_next_211 : decode cX2_next 211 = .ok (.i2l, 1) := by decide +kernel
theorem dX2_next_212 : decode cX2_next 212 = .ok (.goto 8, 3) := by decide +kernel
theorem dX2_next_215 : decode cX2_next 215 = .ok (.iload_n 1, 1) := by decide +kernel
theorem dX2_next_216 : decode cX2_next 216 = .ok (.invokestatic 106, 3) := by decide +kernel
theorem dX2_next_219 : decode cX2_next 219 = .ok (.i2l, 1) := by decide +kernel
theorem dX2_next_220 : decode cX2_next 220 = .ok (.putfield 110, 3) := by decide +kernel
theorem dX2_next_223 : decode cX2_next 223 = .ok (.aload_n 0, 1) := by decide +kernel
theorem dX2_next_224 : decode cX2_next 224 = .ok (.aload_n 0, 1) := by decide +kernel
theorem dX2_next_225 : decode cX2_next 225 = .ok (.getfield 110, 3) := by decide +kernel
theorem dX2_next_228 : decode cX2_next 228 = .ok (.lconst 0, 1) := by decide +kernel
theorem dX2_next_229 : decode cX2_next 229 = .ok (.lcmp, 1) := by decide +kernel
theorem dX2_next_230 : decode cX2_next 230 = .ok (.ifCond .eq 7, 3) := by decide +kernel
theorem dX2_next_233 : decode cX2_next 233 = .ok (.iconst 3, 1) := by decide +kernel
theorem dX2_next_234 : decode cX2_next 234 = .ok (.goto 4, 3) := by decide +kernel
theorem dX2_next_237 : decode cX2_next 237 = .ok (.iconst 4, 1) := by decide +kernel
theorem dX2_next_238 : decode cX2_next 238 = .ok (.putfield 77, 3) := by decide +kernel
theorem dX2_next_241 : decode cX2_next 241 = .ok (.aload_n 0, 1) := by decide +kernel
theorem dX2_next_242 : decode cX2_next 242 = .ok (.dup, 1) := by decide +kernel
theorem dX2_next_243 : decode cX2_next 243 = .ok (.getfield 49, 3) := by decide +kernel
theorem dX2_next_246 : decode cX2_next 246 = .ok (.iload_n 3, 1) := by decide +kernel
theorem dX2_next_247 : decode cX2_next 247 = .ok (.ifCond .eq 7, 3) := by decide +kernel
theorem dX2_next_250 : decode cX2_next 250 = .ok (.iconst 2, 1) := by decide +kernel
theorem dX2_next_251 : decode cX2_next 251 = .ok (.goto 4, 3) := by decide +kernel
theorem dX2_next_254 : decode cX2_next 254 = .ok (.iconst 1, 1) := by decide +kernel
theorem dX2_next_255 : decode cX2_next 255 = .ok (.iadd, 1) := by decide +kernel
theorem dX2_next_256 : decode cX2_next 256 = .ok (.putfield 49, 3) := by decide +kernel
theorem dX2_next_259 : decode cX2_next 259 = .ok (.return_, 1) := by decide +kernel
theorem dX2_readNumber_0 : decode cX2_readNumber 0 = .ok (.aload_n 0, 1) := by decide +kernel
theorem dX2_readNumber_1 : decode cX2_readNumber 1 = .ok (.getfield 49, 3) := by decide +kernel
theorem dX2_readNumber_4 : decode cX2_readNumber 4 = .ok (.aload_n 0, 1) := by decide +kernel
theorem dX2_readNumber_5 : decode cX2_readNumber 5 = .ok (.getfield 90, 3) := by decide +kernel
theorem dX2_readNumber_8 : decode cX2_readNumber 8 = .ok (.isub, 1) := by decide +kernel
theorem dX2_readNumber_9 : decode cX2_readNumber 9 = .ok (.iconst 2, 1) := by decide +kernel
theorem dX2_readNumber_10 : decode cX2_readNumber 10 = .ok (.if_icmp .le 37, 3) := by decide +kernel
theorem dX2_readNumber_13 : decode cX2_readNumber 13 = .ok (.aload_n 0, 1) := by decide +kernel
theorem dX2_readNumber_14 : decode cX2_readNumber 14 = .ok (.getfield 35, 3) := by decide +kernel
theorem dX2_readNumber_17 : decode cX2_readNumber 17 = .ok (.aload_n 0, 1) := by decide +kernel
theorem dX2_readNumber_18 : decode cX2_readNumber 18 = .ok (.getfield 90, 3) := by decide +kernel
theorem dX2_readNumber_21 : decode cX2_readNumber 21 = .ok (.baload, 1) := by decide +kernel
theorem dX2_readNumber_22 : decode cX2_readNumber 22 = .ok (.bipush 48, 2) := by decide +kernel
theorem dX2_readNumber_24 : decode cX2_readNumber 24 = .ok (.if_icmp .ne 23, 3) := by decide +kernel
theorem dX2_readNumber_27 : decode cX2_readNumber 27 = .ok (.aload_n 0, 1) := by decide +kernel
theorem dX2_readNumber_28 : decode cX2_readNumber 28 = .ok (.getfield 35, 3) := by decide +kernel
theorem dX2_readNumber_31 : decode cX2_readNumber 31 = .ok (.aload_n 0, 1) := by decide +kernel
theorem dX2_readNumber_32 : decode cX2_readNumber 32 = .ok (.getfield 90, 3) := by decide +kernel
theorem dX2_readNumber_35 : decode cX2_readNumber 35 = .ok (.iconst 1, 1) := by decide +kernel
theorem dX2_readNumber_36 : decode cX2_readNumber 36 = .ok (.iadd, 1) := by decide +kernel
theorem dX2_readNumber_37 : decode cX2_readNumber 37 = .ok (.baload, 1) := by decide +kernel
theorem dX2_readNumber_38 : decode cX2_readNumber 38 = .ok (.bipush 120, 2) := by decide +kernel
theorem dX2_readNumber_40 : decode cX2_readNumber 40 = .ok (.if_icmp .ne 7, 3) := by decide +kernel
theorem dX2_readNumber_43 : decode cX2_readNumber 43 = .ok (.iconst 1, 1) := by decide +kernel
theorem dX2_readNumber_44 : decode cX2_readNumber 44 = .ok (.goto 4, 3) := by decide +kernel
theorem dX2_readNumber_47 : decode cX2_readNumber 47 = .ok (.iconst 0, 1) := by decide +kernel
theorem dX2_readNumber_48 : decode cX2_readNumber 48 = .ok (.istore_n 1, 1) := by decide +kernel
theorem dX2_readNumber_49 : decode cX2_readNumber 49 = .ok (.aload_n 0, 1) := by decide +kernel
theorem dX2_readNumber_50 : decode cX2_readNumber 50 = .ok (.lconst 0, 1) := by decide +kernel
theorem dX2_readNumber_51 : decode cX2_readNumber 51 = .ok (.putfield 110, 3) := by decide +kernel
theorem dX2_readNumber_54 : decode cX2_readNumber 54 = .ok (.iload_n 1, 1) := by decide +kernel
theorem dX2_readNumber_55 : decode cX2_readNumber 55 = .ok (.ifCond .eq 12, 3) := by decide +kernel
theorem dX2_readNumber_58 : decode cX2_readNumber 58 = .ok (.aload_n 0, 1) := by decide +kernel
theorem dX2_readNumber_59 : decode cX2_readNumber 59 = .ok (.getfield 90, 3) := by decide +kernel
theorem dX2_readNumber_62 : decode cX2_readNumber 62 = .ok (.iconst 2, 1) := by decide +kernel
theorem dX2_readNumber_63 : decode cX2_readNumber 63 = .ok (.iadd, 1) := by decide +kernel
theorem dX2_readNumber_64 : decode cX2_readNumber 64 = .ok (.goto 7, 3) := by decide +kernel
theorem dX2_readNumber_67 : decode cX2_readNumber 67 = .ok (.aload_n 0, 1) := by decide +kernel
theorem dX2_readNumber_68 : decode cX2_readNumber 68 = .ok (.getfield 90, 3) := by decide +kernel
theorem dX2_readNumber_71 : decode cX2_readNumber 71 = .ok (.istore_n 2, 1) := by decide +kernel
theorem dX2_readNumber_72 : decode cX2_readNumber 72 = .ok (.iload_n 2, 1) := by decide +kernel
theorem dX2_readNumber_73 : decode cX2_readNumber 73 = .ok (.aload_n 0, 1) := by decide +kernel
theorem dX2_readNumber_74 : decode cX2_readNumber 74 = .ok (.getfield 49, 3) := by decide +kernel
theorem dX2_readNumber_77 : decode cX2_readNumber 77 = .ok (.if_icmp .ge 106, 3) := by decide +kernel
theorem dX2_readNumber_80 : decode cX2_readNumber 80 = .ok (.aload_n 0, 1) := by decide +kernel
theorem dX2_readNumber_81 : decode cX2_readNumber 81 = .ok (.getfield 35, 3) := by decide +kernel
theorem dX2_readNumber_84 : decode cX2_readNumber 84 = .ok (.iload_n 2, 1) := by decide +kernel
theorem dX2_readNumber_85 : decode cX2_readNumber 85 = .ok (.baload, 1) := by decide +kernel
theorem dX2_readNumber_86 : decode cX2_readNumber 86 = .ok (.istore_n 3, 1) := by decide +kernel
theorem dX2_readNumber_87 : decode cX2_readNumber 87 = .ok (.iload_n 3, 1) := by decide +kernel
theorem dX2_readNumber_88 : decode cX2_readNumber 88 = .ok (.invokestatic 97, 3) := by decide +kernel
theorem dX2_readNumber_91 : decode cX2_readNumber 91 = .ok (.ifCond .eq 10, 3) := by decide +kernel
theorem dX2_readNumber_94 : decode cX2_readNumber 94 = .ok (.iload_n 3, 1) := by decide +kernel
theorem dX2_readNumber_95 : decode cX2_readNumber 95 = .ok (.bipush 48, 2) := by decide +kernel
theorem dX2_readNumber_97 : decode cX2_readNumber 97 = .ok (.isub, 1) := by decide +kernel
theorem dX2_readNumber_98 : decode cX2_readNumber 98 = .ok (.goto 30, 3) := by decide +kernel
theorem dX2_readNumber_101 : decode cX2_readNumber 101 = .ok (.iload_n 1, 1) := by decide +kernel
theorem dX2_readNumber_102 : decode cX2_readNumber 102 = .ok (.ifCond .eq 25, 3) := by decide +kernel
theorem dX2_readNumber_105 : decode cX2_readNumber 105 = .ok (.iload_n 3, 1) := by decide +kernel
theorem dX2_readNumber_106 : decode cX2_readNumber 106 = .ok (.bipush 97, 2) := by decide +kernel
theorem dX2_readNumber_108 : decode cX2_readNumber 108 = .ok (.if_icmp .lt 19, 3) := by decide +kernel
theorem dX2_readNumber_111 : decode cX2_readNumber 111 = .ok (.iload_n 3, 1) := by decide +kernel
theorem dX2_readNumber_112 : decode cX2_readNumber 112 = .ok (.bipush 102, 2) := by decide +kernel
theorem dX2_readNumber_114 : decode cX2_readNumber 114 = .ok (.if_icmp .gt 13, 3) := by decide +kernel
theorem dX2_readNumber_117 : decode cX2_readNumber 117 = .ok (.iload_n 3, 1) := by decide +kernel
theorem dX2_readNumber_118 : decode cX2_readNumber 118 = .ok (.bipush 97, 2) := by decide +kernel
theorem dX2_readNumber_120 : decode cX2_readNumber 120 = .ok (.isub, 1) := by decide +kernel
theorem dX2_readNumber_121 : decode cX2_readNumber 121 = .ok (.bipush 10, 2) := by decide +kernel
theorem dX2_readNumber_123 : decode cX2_readNumber 123 = .ok (.iadd, 1) := by decide +kernel
theorem dX2_readNumber_124 : decode cX2_readNumber 124 = .ok (.goto 4, 3) := by decide +kernel
theorem dX2_readNumber_127 : decode cX2_readNumber 127 = .ok (.iconst (-1), 1) := by decide +kernel
theorem dX2_readNumber_128 : decode cX2_readNumber 128 = .ok (.istore 4, 2) := by decide +kernel
theorem dX2_readNumber_130 : decode cX2_readNumber 130 = .ok (.aload_n 0, 1) := by decide +kernel
theorem dX2_readNumber_131 : decode cX2_readNumber 131 = .ok (.aload_n 0, 1) := by decide +kernel
theorem dX2_readNumber_132 : decode cX2_readNumber 132 = .ok (.getfield 110, 3) := by decide +kernel
theorem dX2_readNumber_135 : decode cX2_readNumber 135 = .ok (.iload_n 1, 1) := by decide +kernel
theorem dX2_readNumber_136 : decode cX2_readNumber 136 = .ok (.ifCond .eq 8, 3) := by decide +kernel
theorem dX2_readNumber_139 : decode cX2_readNumber 139 = .ok (.bipush 16, 2) := by decide +kernel
theorem dX2_readNumber_141 : decode cX2_readNumber 141 = .ok (.goto 5, 3) := by decide +kernel
theorem dX2_readNumber_144 : decode cX2_readNumber 144 = .ok (.bipush 10, 2) := by decide +kernel
theorem dX2_readNumber_146 : decode cX2_readNumber 146 = .ok (.i2l, 1) := by decide +kernel
theorem dX2_readNumber_147 : decode cX2_readNumber 147 = .ok (.lmul, 1) := by decide +kernel
theorem dX2_readNumber_148 : decode cX2_readNumber 148 = .ok (.iload 4, 2) := by decide +kernel
theorem dX2_readNumber_150 : decode cX2_readNumber 150 = .ok (.i2l, 1) := by decide +kernel
theorem dX2_readNumber_151 : decode cX2_readNumber 151 = .ok (.ladd, 1) := by decide +kernel
theorem dX2_readNumber_152 : decode cX2_readNumber 152 = .ok (.putfield 110, 3) := by decide +kernel
theorem dX2_readNumber_155 : decode cX2_readNumber 155 = .ok (.iload 4, 2) := by decide +kernel
theorem dX2_readNumber_157 : decode cX2_readNumber 157 = .ok (.ifCond .lt 14, 3) := by decide +kernel
theorem dX2_readNumber_160 : decode cX2_readNumber 160 = .ok (.aload_n 0, 1) := by decide +kernel
theorem dX2_readNumber_161 : decode cX2_readNumber 161 = .ok (.getfield 110, 3) := by decide +kernel
theorem dX2_readNumber_164 : decode cX2_readNumber 164 = .ok (.ldc2_w 114, 3) := by decide +kernel
theorem dX2_readNumber_167 : decode cX2_readNumber 167 = .ok (.lcmp, 1) := by decide +kernel
theorem dX2_readNumber_168 : decode cX2_readNumber 168 = .ok (.ifCond .le 9, 3) := by decide +kernel
theorem dX2_readNumber_171 : decode cX2_readNumber 171 = .ok (.aload_n 0, 1) := by decide +kernel
theorem dX2_readNumber_172 : decode cX2_readNumber 172 = .ok (.iconst 4, 1) := by decide +kernel
theorem dX2_readNumber_173 : decode cX2_readNumber 173 = .ok (.putfield 77, 3) := by decide +kernel
theorem dX2_readNumber_176 : decode cX2_readNumber 176 = .ok (.return_, 1) := by decide +kernel
theorem dX2_readNumber_177 : decode cX2_readNumber 177 = .ok (.iinc 2 1, 3) := by decide +kernel
theorem dX2_readNumber_180 : decode cX2_readNumber 180 = .ok (.goto (-108), 3) := by decide +kernel
theorem dX2_readNumber_183 : decode cX2_readNumber 183 = .ok (.return_, 1) := by decide +kernel
theorem dX2_pair_0 : decode cX2_pair 0 = .ok (.iload_n 1, 1) := by decide +kernel
theorem dX2_pair_1 : decode cX2_pair 1 = .ok (.bipush 61, 2) := by decide +kernel
theorem dX2_pair_3 : decode cX2_pair 3 = .ok (.if_icmp .ne 47, 3) := by decide +kernel
theorem dX2_pair_6 : decode cX2_pair 6 = .ok (.iload_n 0, 1) := by decide +kernel
theorem dX2_pair_7 : decode cX2_pair 7 = .ok (.bipush 61, 2) := by decide +kernel
theorem dX2_pair_9 : decode cX2_pair 9 = .ok (.if_icmp .ne 7, 3) := by decide +kernel
theorem dX2_pair_12 : decode cX2_pair 12 = .ok (.iconst 3, 1) := by decide +kernel
theorem dX2_pair_13 : decode cX2_pair 13 = .ok (.goto 36, 3) := by decide +kernel
theorem dX2_pair_16 : decode cX2_pair 16 = .ok (.iload_n 0, 1) := by decide +kernel
theorem dX2_pair_17 : decode cX2_pair 17 = .ok (.bipush 33, 2) := by decide +kernel
theorem dX2_pair_19 : decode cX2_pair 19 = .ok (.if_icmp .ne 7, 3) := by decide +kernel
theorem dX2_pair_22 : decode cX2_pair 22 = .ok (.iconst 4, 1) := by decide +kernel
theorem dX2_pair_23 : decode cX2_pair 23 = .ok (.goto 26, 3) := by decide +kernel
theorem dX2_pair_26 : decode cX2_pair 26 = .ok (.iload_n 0, 1) := by decide +kernel
theorem dX2_pair_27 : decode cX2_pair 27 = .ok (.bipush 60, 2) := by decide +kernel
theorem dX2_pair_29 : decode cX2_pair 29 = .ok (.if_icmp .ne 8, 3) := by decide +kernel
theorem dX2_pair_32 : decode cX2_pair 32 = .ok (.bipush 6, 2) := by decide +kernel
theorem dX2_pair_34 : decode cX2_pair 34 = .ok (.goto 15, 3) := by decide +kernel
theorem dX2_pair_37 : decode cX2_pair 37 = .ok (.iload_n 0, 1) := by decide +kernel
theorem dX2_pair_38 : decode cX2_pair 38 = .ok (.bipush 62, 2) := by decide +kernel
theorem dX2_pair_40 : decode cX2_pair 40 = .ok (.if_icmp .ne 8, 3) := by decide +kernel
theorem dX2_pair_43 : decode cX2_pair 43 = .ok (.bipush 8, 2) := by decide +kernel
theorem dX2_pair_45 : decode cX2_pair 45 = .ok (.goto 4, 3) := by decide +kernel
theorem dX2_pair_48 : decode cX2_pair 48 = .ok (.iconst 0, 1) := by decide +kernel
theorem dX2_pair_49 : decode cX2_pair 49 = .ok (.ireturn, 1) := by decide +kernel
theorem dX2_pair_50 : decode cX2_pair 50 = .ok (.iload_n 0, 1) := by decide +kernel
theorem dX2_pair_51 : decode cX2_pair 51 = .ok (.iload_n 1, 1) := by decide +kernel
theorem dX2_pair_52 : decode cX2_pair 52 = .ok (.if_icmp .eq 5, 3) := by decide +kernel
theorem dX2_pair_55 : decode cX2_pair 55 = .ok (.iconst 0, 1) := by decide +kernel
theorem dX2_pair_56 : decode cX2_pair 56 = .ok (.ireturn, 1) := by decide +kernel
theorem dX2_pair_57 : decode cX2_pair 57 = .ok (.iload_n 0, 1) := by decide +kernel
theorem dX2_pair_58 : decode cX2_pair 58 = .ok (.bipush 124, 2) := by decide +kernel
theorem dX2_pair_60 : decode cX2_pair 60 = .ok (.if_icmp .ne 7, 3) := by decide +kernel
theorem dX2_pair_63 : decode cX2_pair 63 = .ok (.iconst 1, 1) := by decide +kernel
theorem dX2_pair_64 : decode cX2_pair 64 = .ok (.goto 36, 3) := by decide +kernel
theorem dX2_pair_67 : decode cX2_pair 67 = .ok (.iload_n 0, 1) := by decide +kernel
theorem dX2_pair_68 : decode cX2_pair 68 = .ok (.bipush 38, 2) := by decide +kernel
theorem dX2_pair_70 : decode cX2_pair 70 = .ok (.if_icmp .ne 7, 3) := by decide +kernel
theorem dX2_pair_73 : decode cX2_pair 73 = .ok (.iconst 2, 1) := by decide +kernel
theorem dX2_pair_74 : decode cX2_pair 74 = .ok (.goto 26, 3) := by decide +kernel
theorem dX2_pair_77 : decode cX2_pair 77 = .ok (.iload_n 0, 1) := by decide +kernel
theorem dX2_pair_78 : decode cX2_pair 78 = .ok (.bipush 60, 2) := by decide +kernel
theorem dX2_pair_80 : decode cX2_pair 80 = .ok (.if_icmp .ne 8, 3) := by decide +kernel
theorem dX2_pair_83 : decode cX2_pair 83 = .ok (.bipush 12, 2) := by decide +kernel
theorem dX2_pair_85 : decode cX2_pair 85 = .ok (.goto 15, 3) := by decide +kernel
theorem dX2_pair_88 : decode cX2_pair 88 = .ok (.iload_n 0, 1) := by decide +kernel
theorem dX2_pair_89 : decode cX2_pair 89 = .ok (.bipush 62, 2) := by decide +kernel
theorem dX2_pair_91 : decode cX2_pair 91 = .ok (.if_icmp .ne 8, 3) := by decide +kernel
theorem dX2_pair_94 : decode cX2_pair 94 = .ok (.bipush 13, 2) := by decide +kernel
theorem dX2_pair_96 : decode cX2_pair 96 = .ok (.goto 4, 3) := by decide +kernel
theorem dX2_pair_99 : decode cX2_pair 99 = .ok (.iconst 0, 1) := by decide +kernel
theorem dX2_pair_100 : decode cX2_pair 100 = .ok (.ireturn, 1) := by decide +kernel
theorem dX2_alone_0 : decode cX2_alone 0 = .ok (.iload_n 0, 1) := by decide +kernel
theorem dX2_alone_1 : decode cX2_alone 1 = .ok (.lookupswitch 186 #[(33, 168), (37, 165), (38, 150), (40, 174), (41, 177), (42, 159), (43, 153), (45, 156), (47, 162), (60, 139), (62, 141), (91, 180), (93, 183), (94, 147), (124, 144), (126, 171)], 139) := by decide +kernel
theorem dX2_alone_140 : decode cX2_alone 140 = .ok (.iconst 5, 1) := by decide +kernel
theorem dX2_alone_141 : decode cX2_alone 141 = .ok (.ireturn, 1) := by decide +kernel
theorem dX2_alone_142 : decode cX2_alone 142 = .ok (.bipush 7, 2) := by decide +kernel
theorem dX2_alone_144 : decode cX2_alone 144 = .ok (.ireturn, 1) := by decide +kernel
theorem dX2_alone_145 : decode cX2_alone 145 = .ok (.bipush 9, 2) := by decide +kernel
theorem dX2_alone_147 : decode cX2_alone 147 = .ok (.ireturn, 1) := by decide +kernel
theorem dX2_alone_148 : decode cX2_alone 148 = .ok (.bipush 10, 2) := by decide +kernel
theorem dX2_alone_150 : decode cX2_alone 150 = .ok (.ireturn, 1) := by decide +kernel
theorem dX2_alone_151 : decode cX2_alone 151 = .ok (.bipush 11, 2) := by decide +kernel
theorem dX2_alone_153 : decode cX2_alone 153 = .ok (.ireturn, 1) := by decide +kernel
theorem dX2_alone_154 : decode cX2_alone 154 = .ok (.bipush 14, 2) := by decide +kernel
theorem dX2_alone_156 : decode cX2_alone 156 = .ok (.ireturn, 1) := by decide +kernel
theorem dX2_alone_157 : decode cX2_alone 157 = .ok (.bipush 15, 2) := by decide +kernel
theorem dX2_alone_159 : decode cX2_alone 159 = .ok (.ireturn, 1) := by decide +kernel
theorem dX2_alone_160 : decode cX2_alone 160 = .ok (.bipush 16, 2) := by decide +kernel
theorem dX2_alone_162 : decode cX2_alone 162 = .ok (.ireturn, 1) := by decide +kernel
theorem dX2_alone_163 : decode cX2_alone 163 = .ok (.bipush 17, 2) := by decide +kernel
theorem dX2_alone_165 : decode cX2_alone 165 = .ok (.ireturn, 1) := by decide +kernel
theorem dX2_alone_166 : decode cX2_alone 166 = .ok (.bipush 18, 2) := by decide +kernel
theorem dX2_alone_168 : decode cX2_alone 168 = .ok (.ireturn, 1) := by decide +kernel
theorem dX2_alone_169 : decode cX2_alone 169 = .ok (.bipush 19, 2) := by decide +kernel
