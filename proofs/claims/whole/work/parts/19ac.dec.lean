theorem dX15_scanNumber_100 : decode cX15_scanNumber 100 = .ok (.bipush 48, 2) := by decide +kernel
theorem dX15_scanNumber_102 : decode cX15_scanNumber 102 = .ok (.isub, 1) := by decide +kernel
theorem dX15_scanNumber_103 : decode cX15_scanNumber 103 = .ok (.goto 31, 3) := by decide +kernel
theorem dX15_scanNumber_106 : decode cX15_scanNumber 106 = .ok (.iload_n 1, 1) := by decide +kernel
theorem dX15_scanNumber_107 : decode cX15_scanNumber 107 = .ok (.ifCond .eq 25, 3) := by decide +kernel
theorem dX15_scanNumber_110 : decode cX15_scanNumber 110 = .ok (.iload_n 3, 1) := by decide +kernel
theorem dX15_scanNumber_111 : decode cX15_scanNumber 111 = .ok (.bipush 97, 2) := by decide +kernel
theorem dX15_scanNumber_113 : decode cX15_scanNumber 113 = .ok (.if_icmp .lt 19, 3) := by decide +kernel
theorem dX15_scanNumber_116 : decode cX15_scanNumber 116 = .ok (.iload_n 3, 1) := by decide +kernel
theorem dX15_scanNumber_117 : decode cX15_scanNumber 117 = .ok (.bipush 102, 2) := by decide +kernel
theorem dX15_scanNumber_119 : decode cX15_scanNumber 119 = .ok (.if_icmp .gt 13, 3) := by decide +kernel
theorem dX15_scanNumber_122 : decode cX15_scanNumber 122 = .ok (.iload_n 3, 1) := by decide +kernel
theorem dX15_scanNumber_123 : decode cX15_scanNumber 123 = .ok (.bipush 97, 2) := by decide +kernel
theorem dX15_scanNumber_125 : decode cX15_scanNumber 125 = .ok (.isub, 1) := by decide +kernel
theorem dX15_scanNumber_126 : decode cX15_scanNumber 126 = .ok (.bipush 10, 2) := by decide +kernel
theorem dX15_scanNumber_128 : decode cX15_scanNumber 128 = .ok (.iadd, 1) := by decide +kernel
theorem dX15_scanNumber_129 : decode cX15_scanNumber 129 = .ok (.goto 5, 3) := by decide +kernel
theorem dX15_scanNumber_132 : decode cX15_scanNumber 132 = .ok (.bipush 99, 2) := by decide +kernel
theorem dX15_scanNumber_134 : decode cX15_scanNumber 134 = .ok (.istore 4, 2) := by decide +kernel
theorem dX15_scanNumber_136 : decode cX15_scanNumber 136 = .ok (.aload_n 0, 1) := by decide +kernel
theorem dX15_scanNumber_137 : decode cX15_scanNumber 137 = .ok (.aload_n 0, 1) := by decide +kernel
theorem dX15_scanNumber_138 : decode cX15_scanNumber 138 = .ok (.getfield 95, 3) := by decide +kernel
theorem dX15_scanNumber_141 : decode cX15_scanNumber 141 = .ok (.iload_n 1, 1) := by decide +kernel
theorem dX15_scanNumber_142 : decode cX15_scanNumber 142 = .ok (.ifCond .eq 9, 3) := by decide +kernel
theorem dX15_scanNumber_145 : decode cX15_scanNumber 145 = .ok (.ldc2_w 99, 3) := by decide +kernel
theorem dX15_scanNumber_148 : decode cX15_scanNumber 148 = .ok (.goto 6, 3) := by decide +kernel
theorem dX15_scanNumber_151 : decode cX15_scanNumber 151 = .ok (.ldc2_w 101, 3) := by decide +kernel
theorem dX15_scanNumber_154 : decode cX15_scanNumber 154 = .ok (.lmul, 1) := by decide +kernel
theorem dX15_scanNumber_155 : decode cX15_scanNumber 155 = .ok (.iload 4, 2) := by decide +kernel
theorem dX15_scanNumber_157 : decode cX15_scanNumber 157 = .ok (.i2l, 1) := by decide +kernel
theorem dX15_scanNumber_158 : decode cX15_scanNumber 158 = .ok (.ladd, 1) := by decide +kernel
theorem dX15_scanNumber_159 : decode cX15_scanNumber 159 = .ok (.putfield 95, 3) := by decide +kernel
theorem dX15_scanNumber_162 : decode cX15_scanNumber 162 = .ok (.iload 4, 2) := by decide +kernel
theorem dX15_scanNumber_164 : decode cX15_scanNumber 164 = .ok (.bipush 99, 2) := by decide +kernel
theorem dX15_scanNumber_166 : decode cX15_scanNumber 166 = .ok (.if_icmp .eq 14, 3) := by decide +kernel
theorem dX15_scanNumber_169 : decode cX15_scanNumber 169 = .ok (.aload_n 0, 1) := by decide +kernel
theorem dX15_scanNumber_170 : decode cX15_scanNumber 170 = .ok (.getfield 95, 3) := by decide +kernel
theorem dX15_scanNumber_173 : decode cX15_scanNumber 173 = .ok (.ldc2_w 103, 3) := by decide +kernel
theorem dX15_scanNumber_176 : decode cX15_scanNumber 176 = .ok (.lcmp, 1) := by decide +kernel
theorem dX15_scanNumber_177 : decode cX15_scanNumber 177 = .ok (.ifCond .lt 9, 3) := by decide +kernel
theorem dX15_scanNumber_180 : decode cX15_scanNumber 180 = .ok (.aload_n 0, 1) := by decide +kernel
theorem dX15_scanNumber_181 : decode cX15_scanNumber 181 = .ok (.bipush 34, 2) := by decide +kernel
theorem dX15_scanNumber_183 : decode cX15_scanNumber 183 = .ok (.putfield 92, 3) := by decide +kernel
theorem dX15_scanNumber_186 : decode cX15_scanNumber 186 = .ok (.aload_n 0, 1) := by decide +kernel
theorem dX15_scanNumber_187 : decode cX15_scanNumber 187 = .ok (.aload_n 0, 1) := by decide +kernel
theorem dX15_scanNumber_188 : decode cX15_scanNumber 188 = .ok (.getfield 92, 3) := by decide +kernel
theorem dX15_scanNumber_191 : decode cX15_scanNumber 191 = .ok (.bipush 34, 2) := by decide +kernel
theorem dX15_scanNumber_193 : decode cX15_scanNumber 193 = .ok (.if_icmp .ne 7, 3) := by decide +kernel
theorem dX15_scanNumber_196 : decode cX15_scanNumber 196 = .ok (.lconst 0, 1) := by decide +kernel
theorem dX15_scanNumber_197 : decode cX15_scanNumber 197 = .ok (.goto 7, 3) := by decide +kernel
theorem dX15_scanNumber_200 : decode cX15_scanNumber 200 = .ok (.aload_n 0, 1) := by decide +kernel
theorem dX15_scanNumber_201 : decode cX15_scanNumber 201 = .ok (.getfield 95, 3) := by decide +kernel
theorem dX15_scanNumber_204 : decode cX15_scanNumber 204 = .ok (.putfield 95, 3) := by decide +kernel
theorem dX15_scanNumber_207 : decode cX15_scanNumber 207 = .ok (.iinc 2 1, 3) := by decide +kernel
theorem dX15_scanNumber_210 : decode cX15_scanNumber 210 = .ok (.goto (-133), 3) := by decide +kernel
theorem dX15_scanNumber_213 : decode cX15_scanNumber 213 = .ok (.return_, 1) := by decide +kernel
theorem dX15_scanWord_0 : decode cX15_scanWord 0 = .ok (.aload_n 0, 1) := by decide +kernel
theorem dX15_scanWord_1 : decode cX15_scanWord 1 = .ok (.getfield 73, 3) := by decide +kernel
theorem dX15_scanWord_4 : decode cX15_scanWord 4 = .ok (.aload_n 0, 1) := by decide +kernel
theorem dX15_scanWord_5 : decode cX15_scanWord 5 = .ok (.getfield 80, 3) := by decide +kernel
theorem dX15_scanWord_8 : decode cX15_scanWord 8 = .ok (.isub, 1) := by decide +kernel
theorem dX15_scanWord_9 : decode cX15_scanWord 9 = .ok (.istore_n 1, 1) := by decide +kernel
theorem dX15_scanWord_10 : decode cX15_scanWord 10 = .ok (.aload_n 0, 1) := by decide +kernel
theorem dX15_scanWord_11 : decode cX15_scanWord 11 = .ok (.getfield 7, 3) := by decide +kernel
theorem dX15_scanWord_14 : decode cX15_scanWord 14 = .ok (.aload_n 0, 1) := by decide +kernel
theorem dX15_scanWord_15 : decode cX15_scanWord 15 = .ok (.getfield 80, 3) := by decide +kernel
theorem dX15_scanWord_18 : decode cX15_scanWord 18 = .ok (.caload, 1) := by decide +kernel
theorem dX15_scanWord_19 : decode cX15_scanWord 19 = .ok (.bipush 120, 2) := by decide +kernel
theorem dX15_scanWord_21 : decode cX15_scanWord 21 = .ok (.if_icmp .ne 84, 3) := by decide +kernel
theorem dX15_scanWord_24 : decode cX15_scanWord 24 = .ok (.iload_n 1, 1) := by decide +kernel
theorem dX15_scanWord_25 : decode cX15_scanWord 25 = .ok (.iconst 2, 1) := by decide +kernel
theorem dX15_scanWord_26 : decode cX15_scanWord 26 = .ok (.if_icmp .ne 20, 3) := by decide +kernel
theorem dX15_scanWord_29 : decode cX15_scanWord 29 = .ok (.aload_n 0, 1) := by decide +kernel
theorem dX15_scanWord_30 : decode cX15_scanWord 30 = .ok (.getfield 7, 3) := by decide +kernel
theorem dX15_scanWord_33 : decode cX15_scanWord 33 = .ok (.aload_n 0, 1) := by decide +kernel
theorem dX15_scanWord_34 : decode cX15_scanWord 34 = .ok (.getfield 80, 3) := by decide +kernel
theorem dX15_scanWord_37 : decode cX15_scanWord 37 = .ok (.iconst 1, 1) := by decide +kernel
theorem dX15_scanWord_38 : decode cX15_scanWord 38 = .ok (.iadd, 1) := by decide +kernel
theorem dX15_scanWord_39 : decode cX15_scanWord 39 = .ok (.caload, 1) := by decide +kernel
theorem dX15_scanWord_40 : decode cX15_scanWord 40 = .ok (.invokestatic 69, 3) := by decide +kernel
theorem dX15_scanWord_43 : decode cX15_scanWord 43 = .ok (.ifCond .ne 58, 3) := by decide +kernel
theorem dX15_scanWord_46 : decode cX15_scanWord 46 = .ok (.iload_n 1, 1) := by decide +kernel
theorem dX15_scanWord_47 : decode cX15_scanWord 47 = .ok (.iconst 3, 1) := by decide +kernel
theorem dX15_scanWord_48 : decode cX15_scanWord 48 = .ok (.if_icmp .ne 57, 3) := by decide +kernel
theorem dX15_scanWord_51 : decode cX15_scanWord 51 = .ok (.aload_n 0, 1) := by decide +kernel
theorem dX15_scanWord_52 : decode cX15_scanWord 52 = .ok (.getfield 7, 3) := by decide +kernel
theorem dX15_scanWord_55 : decode cX15_scanWord 55 = .ok (.aload_n 0, 1) := by decide +kernel
theorem dX15_scanWord_56 : decode cX15_scanWord 56 = .ok (.getfield 80, 3) := by decide +kernel
theorem dX15_scanWord_59 : decode cX15_scanWord 59 = .ok (.iconst 1, 1) := by decide +kernel
theorem dX15_scanWord_60 : decode cX15_scanWord 60 = .ok (.iadd, 1) := by decide +kernel
theorem dX15_scanWord_61 : decode cX15_scanWord 61 = .ok (.caload, 1) := by decide +kernel
theorem dX15_scanWord_62 : decode cX15_scanWord 62 = .ok (.invokestatic 69, 3) := by decide +kernel
theorem dX15_scanWord_65 : decode cX15_scanWord 65 = .ok (.ifCond .eq 40, 3) := by decide +kernel
theorem dX15_scanWord_68 : decode cX15_scanWord 68 = .ok (.aload_n 0, 1) := by decide +kernel
theorem dX15_scanWord_69 : decode cX15_scanWord 69 = .ok (.getfield 7, 3) := by decide +kernel
theorem dX15_scanWord_72 : decode cX15_scanWord 72 = .ok (.aload_n 0, 1) := by decide +kernel
theorem dX15_scanWord_73 : decode cX15_scanWord 73 = .ok (.getfield 80, 3) := by decide +kernel
theorem dX15_scanWord_76 : decode cX15_scanWord 76 = .ok (.iconst 1, 1) := by decide +kernel
theorem dX15_scanWord_77 : decode cX15_scanWord 77 = .ok (.iadd, 1) := by decide +kernel
theorem dX15_scanWord_78 : decode cX15_scanWord 78 = .ok (.caload, 1) := by decide +kernel
theorem dX15_scanWord_79 : decode cX15_scanWord 79 = .ok (.bipush 48, 2) := by decide +kernel
theorem dX15_scanWord_81 : decode cX15_scanWord 81 = .ok (.if_icmp .le 24, 3) := by decide +kernel
theorem dX15_scanWord_84 : decode cX15_scanWord 84 = .ok (.aload_n 0, 1) := by decide +kernel
theorem dX15_scanWord_85 : decode cX15_scanWord 85 = .ok (.getfield 7, 3) := by decide +kernel
theorem dX15_scanWord_88 : decode cX15_scanWord 88 = .ok (.aload_n 0, 1) := by decide +kernel
theorem dX15_scanWord_89 : decode cX15_scanWord 89 = .ok (.getfield 80, 3) := by decide +kernel
theorem dX15_scanWord_92 : decode cX15_scanWord 92 = .ok (.iconst 2, 1) := by decide +kernel
theorem dX15_scanWord_93 : decode cX15_scanWord 93 = .ok (.iadd, 1) := by decide +kernel
theorem dX15_scanWord_94 : decode cX15_scanWord 94 = .ok (.caload, 1) := by decide +kernel
theorem dX15_scanWord_95 : decode cX15_scanWord 95 = .ok (.invokestatic 69, 3) := by decide +kernel
theorem dX15_scanWord_98 : decode cX15_scanWord 98 = .ok (.ifCond .eq 7, 3) := by decide +kernel
theorem dX15_scanWord_101 : decode cX15_scanWord 101 = .ok (.iconst 1, 1) := by decide +kernel
theorem dX15_scanWord_102 : decode cX15_scanWord 102 = .ok (.goto 4, 3) := by decide +kernel
theorem dX15_scanWord_105 : decode cX15_scanWord 105 = .ok (.iconst 0, 1) := by decide +kernel
theorem dX15_scanWord_106 : decode cX15_scanWord 106 = .ok (.istore_n 2, 1) := by decide +kernel
theorem dX15_scanWord_107 : decode cX15_scanWord 107 = .ok (.aload_n 0, 1) := by decide +kernel
theorem dX15_scanWord_108 : decode cX15_scanWord 108 = .ok (.iload_n 2, 1) := by decide +kernel
theorem dX15_scanWord_109 : decode cX15_scanWord 109 = .ok (.ifCond .eq 62, 3) := by decide +kernel
theorem dX15_scanWord_112 : decode cX15_scanWord 112 = .ok (.iload_n 1, 1) := by decide +kernel
theorem dX15_scanWord_113 : decode cX15_scanWord 113 = .ok (.iconst 2, 1) := by decide +kernel
theorem dX15_scanWord_114 : decode cX15_scanWord 114 = .ok (.if_icmp .ne 21, 3) := by decide +kernel
theorem dX15_scanWord_117 : decode cX15_scanWord 117 = .ok (.aload_n 0, 1) := by decide +kernel
theorem dX15_scanWord_118 : decode cX15_scanWord 118 = .ok (.getfield 7, 3) := by decide +kernel
theorem dX15_scanWord_121 : decode cX15_scanWord 121 = .ok (.aload_n 0, 1) := by decide +kernel
theorem dX15_scanWord_122 : decode cX15_scanWord 122 = .ok (.getfield 80, 3) := by decide +kernel
theorem dX15_scanWord_125 : decode cX15_scanWord 125 = .ok (.iconst 1, 1) := by decide +kernel
theorem dX15_scanWord_126 : decode cX15_scanWord 126 = .ok (.iadd, 1) := by decide +kernel
theorem dX15_scanWord_127 : decode cX15_scanWord 127 = .ok (.caload, 1) := by decide +kernel
theorem dX15_scanWord_128 : decode cX15_scanWord 128 = .ok (.bipush 48, 2) := by decide +kernel
theorem dX15_scanWord_130 : decode cX15_scanWord 130 = .ok (.isub, 1) := by decide +kernel
theorem dX15_scanWord_131 : decode cX15_scanWord 131 = .ok (.i2l, 1) := by decide +kernel
theorem dX15_scanWord_132 : decode cX15_scanWord 132 = .ok (.goto 40, 3) := by decide +kernel
theorem dX15_scanWord_135 : decode cX15_scanWord 135 = .ok (.bipush 10, 2) := by decide +kernel
theorem dX15_scanWord_137 : decode cX15_scanWord 137 = .ok (.aload_n 0, 1) := by decide +kernel
theorem dX15_scanWord_138 : decode cX15_scanWord 138 = .ok (.getfield 7, 3) := by decide +kernel
theorem dX15_scanWord_141 : decode cX15_scanWord 141 = .ok (.aload_n 0, 1) := by decide +kernel
theorem dX15_scanWord_142 : decode cX15_scanWord 142 = .ok (.getfield 80, 3) := by decide +kernel
theorem dX15_scanWord_145 : decode cX15_scanWord 145 = .ok (.iconst 1, 1) := by decide +kernel
theorem dX15_scanWord_146 : decode cX15_scanWord 146 = .ok (.iadd, 1) := by decide +kernel
theorem dX15_scanWord_147 : decode cX15_scanWord 147 = .ok (.caload, 1) := by decide +kernel
theorem dX15_scanWord_148 : decode cX15_scanWord 148 = .ok (.bipush 48, 2) := by decide +kernel
theorem dX15_scanWord_150 : decode cX15_scanWord 150 = .ok (.isub, 1) := by decide +kernel
theorem dX15_scanWord_151 : decode cX15_scanWord 151 = .ok (.imul, 1) := by decide +kernel
theorem dX15_scanWord_152 : decode cX15_scanWord 152 = .ok (.aload_n 0, 1) := by decide +kernel
theorem dX15_scanWord_153 : decode cX15_scanWord 153 = .ok (.getfield 7, 3) := by decide +kernel
theorem dX15_scanWord_156 : decode cX15_scanWord 156 = .ok (.aload_n 0, 1) := by decide +kernel
theorem dX15_scanWord_157 : decode cX15_scanWord 157 = .ok (.getfield 80, 3) := by decide +kernel
theorem dX15_scanWord_160 : decode cX15_scanWord 160 = .ok (.iconst 2, 1) := by decide +kernel
theorem dX15_scanWord_161 : decode cX15_scanWord 161 = .ok (.iadd, 1) := by decide +kernel
theorem dX15_scanWord_162 : decode cX15_scanWord 162 = .ok (.caload, 1) := by decide +kernel
theorem dX15_scanWord_163 : decode cX15_scanWord 163 = .ok (.iadd, 1) := by decide +kernel
theorem dX15_scanWord_164 : decode cX15_scanWord 164 = .ok (.bipush 48, 2) := by decide +kernel
theorem dX15_scanWord_166 : decode cX15_scanWord 166 = .ok (.isub, 1) := by decide +kernel
theorem dX15_scanWord_167 : decode cX15_scanWord 167 = .ok (.i2l, 1) := by decide +kernel
theorem dX15_scanWord_168 : decode cX15_scanWord 168 = .ok (.goto 4, 3) := by decide +kernel
theorem dX15_scanWord_171 : decode cX15_scanWord 171 = .ok (.lconst 0, 1) := by decide +kernel
theorem dX15_scanWord_172 : decode cX15_scanWord 172 = .ok (.putfield 95, 3) := by decide +kernel
theorem dX15_scanWord_175 : decode cX15_scanWord 175 = .ok (.aload_n 0, 1) := by decide +kernel
theorem dX15_scanWord_176 : decode cX15_scanWord 176 = .ok (.iload_n 2, 1) := by decide +kernel
theorem dX15_scanWord_177 : decode cX15_scanWord 177 = .ok (.ifCond .eq 18, 3) := by decide +kernel
theorem dX15_scanWord_180 : decode cX15_scanWord 180 = .ok (.aload_n 0, 1) := by decide +kernel
theorem dX15_scanWord_181 : decode cX15_scanWord 181 = .ok (.getfield 95, 3) := by decide +kernel
theorem dX15_scanWord_184 : decode cX15_scanWord 184 = .ok (.ldc2_w 105, 3) := by decide +kernel
theorem dX15_scanWord_187 : decode cX15_scanWord 187 = .ok (.lcmp, 1) := by decide +kernel
theorem dX15_scanWord_188 : decode cX15_scanWord 188 = .ok (.ifCond .ge 7, 3) := by decide +kernel
theorem dX15_scanWord_191 : decode cX15_scanWord 191 = .ok (.iconst 2, 1) := by decide +kernel
theorem dX15_scanWord_192 : decode cX15_scanWord 192 = .ok (.goto 162, 3) := by decide +kernel
theorem dX15_scanWord_195 : decode cX15_scanWord 195 = .ok (.aload_n 0, 1) := by decide +kernel
theorem dX15_scanWord_196 : decode cX15_scanWord 196 = .ok (.aload_n 0, 1) := by decide +kernel
theorem dX15_scanWord_197 : decode cX15_scanWord 197 = .ok (.getfield 80, 3) := by decide +kernel
theorem dX15_scanWord_200 : decode cX15_scanWord 200 = .ok (.aload_n 0, 1) := by decide +kernel
theorem dX15_scanWord_201 : decode cX15_scanWord 201 = .ok (.getfield 73, 3) := by decide +kernel
theorem dX15_scanWord_204 : decode cX15_scanWord 204 = .ok (.ldc2_w 107, 3) := by decide +kernel
theorem dX15_scanWord_207 : decode cX15_scanWord 207 = .ok (.invokevirtual 109, 3) := by decide +kernel
theorem dX15_scanWord_210 : decode cX15_scanWord 210 = .ok (.ifCond .eq 7, 3) := by decide +kernel
theorem dX15_scanWord_213 : decode cX15_scanWord 213 = .ok (.iconst 3, 1) := by decide +kernel
theorem dX15_scanWord_214 : decode cX15_scanWord 214 = .ok (.goto 140, 3) := by decide +kernel
theorem dX15_scanWord_217 : decode cX15_scanWord 217 = .ok (.aload_n 0, 1) := by decide +kernel
theorem dX15_scanWord_218 : decode cX15_scanWord 218 = .ok (.aload_n 0, 1) := by decide +kernel
theorem dX15_scanWord_219 : decode cX15_scanWord 219 = .ok (.getfield 80, 3) := by decide +kernel
theorem dX15_scanWord_222 : decode cX15_scanWord 222 = .ok (.aload_n 0, 1) := by decide +kernel
theorem dX15_scanWord_223 : decode cX15_scanWord 223 = .ok (.getfield 73, 3) := by decide +kernel
theorem dX15_scanWord_226 : decode cX15_scanWord 226 = .ok (.ldc2_w 113, 3) := by decide +kernel
theorem dX15_scanWord_229 : decode cX15_scanWord 229 = .ok (.invokevirtual 109, 3) := by decide +kernel
theorem dX15_scanWord_232 : decode cX15_scanWord 232 = .ok (.ifCond .eq 7, 3) := by decide +kernel
theorem dX15_scanWord_235 : decode cX15_scanWord 235 = .ok (.iconst 4, 1) := by decide +kernel
theorem dX15_scanWord_236 : decode cX15_scanWord 236 = .ok (.goto 118, 3) := by decide +kernel
theorem dX15_scanWord_239 : decode cX15_scanWord 239 = .ok (.aload_n 0, 1) := by decide +kernel
theorem dX15_scanWord_240 : decode cX15_scanWord 240 = .ok (.aload_n 0, 1) := by decide +kernel
theorem dX15_scanWord_241 : decode cX15_scanWord 241 = .ok (.getfield 80, 3) := by decide +kernel
theorem dX15_scanWord_244 : decode cX15_scanWord 244 = .ok (.aload_n 0, 1) := by decide +kernel
theorem dX15_scanWord_245 : decode cX15_scanWord 245 = .ok (.getfield 73, 3) := by decide +kernel
theorem dX15_scanWord_248 : decode cX15_scanWord 248 = .ok (.ldc2_w 115, 3) := by decide +kernel
theorem dX15_scanWord_251 : decode cX15_scanWord 251 = .ok (.invokevirtual 109, 3) := by decide +kernel
theorem dX15_scanWord_254 : decode cX15_scanWord 254 = .ok (.ifCond .eq 7, 3) := by decide +kernel
theorem dX15_scanWord_257 : decode cX15_scanWord 257 = .ok (.iconst 5, 1) := by decide +kernel
theorem dX15_scanWord_258 : decode cX15_scanWord 258 = .ok (.goto 96, 3) := by decide +kernel
theorem dX15_scanWord_261 : decode cX15_scanWord 261 = .ok (.aload_n 0, 1) := by decide +kernel
theorem dX15_scanWord_262 : decode cX15_scanWord 262 = .ok (.aload_n 0, 1) := by decide +kernel
theorem dX15_scanWord_263 : decode cX15_scanWord 263 = .ok (.getfield 80, 3) := by decide +kernel
theorem dX15_scanWord_266 : decode cX15_scanWord 266 = .ok (.aload_n 0, 1) := by decide +kernel
theorem dX15_scanWord_267 : decode cX15_scanWord 267 = .ok (.getfield 73, 3) := by decide +kernel
theorem dX15_scanWord_270 : decode cX15_scanWord 270 = .ok (.ldc2_w 117, 3) := by decide +kernel
theorem dX15_scanWord_273 : decode cX15_scanWord 273 = .ok (.invokevirtual 109, 3) := by decide +kernel
theorem dX15_scanWord_276 : decode cX15_scanWord 276 = .ok (.ifCond .eq 8, 3) := by decide +kernel
theorem dX15_scanWord_279 : decode cX15_scanWord 279 = .ok (.bipush 6, 2) := by decide +kernel
theorem dX15_scanWord_281 : decode cX15_scanWord 281 = .ok (.goto 73, 3) := by decide +kernel
theorem dX15_scanWord_284 : decode cX15_scanWord 284 = .ok (.aload_n 0, 1) := by decide +kernel
theorem dX15_scanWord_285 : decode cX15_scanWord 285 = .ok (.aload_n 0, 1) := by decide +kernel
theorem dX15_scanWord_286 : decode cX15_scanWord 286 = .ok (.getfield 80, 3) := by decide +kernel
theorem dX15_scanWord_289 : decode cX15_scanWord 289 = .ok (.aload_n 0, 1) := by decide +kernel
theorem dX15_scanWord_290 : decode cX15_scanWord 290 = .ok (.getfield 73, 3) := by decide +kernel
theorem dX15_scanWord_293 : decode cX15_scanWord 293 = .ok (.ldc2_w 119, 3) := by decide +kernel
theorem dX15_scanWord_296 : decode cX15_scanWord 296 = .ok (.invokevirtual 109, 3) := by decide +kernel
theorem dX15_scanWord_299 : decode cX15_scanWord 299 = .ok (.ifCond .eq 8, 3) := by decide +kernel
theorem dX15_scanWord_302 : decode cX15_scanWord 302 = .ok (.bipush 7, 2) := by decide +kernel
theorem dX15_scanWord_304 : decode cX15_scanWord 304 = .ok (.goto 50, 3) := by decide +kernel
theorem dX15_scanWord_307 : decode cX15_scanWord 307 = .ok (.aload_n 0, 1) := by decide +kernel
theorem dX15_scanWord_308 : decode cX15_scanWord 308 = .ok (.aload_n 0, 1) := by decide +kernel
theorem dX15_scanWord_309 : decode cX15_scanWord 309 = .ok (.getfield 80, 3) := by decide +kernel
theorem dX15_scanWord_312 : decode cX15_scanWord 312 = .ok (.aload_n 0, 1) := by decide +kernel
theorem dX15_scanWord_313 : decode cX15_scanWord 313 = .ok (.getfield 73, 3) := by decide +kernel
theorem dX15_scanWord_316 : decode cX15_scanWord 316 = .ok (.ldc2_w 121, 3) := by decide +kernel
theorem dX15_scanWord_319 : decode cX15_scanWord 319 = .ok (.invokevirtual 109, 3) := by decide +kernel
theorem dX15_scanWord_322 : decode cX15_scanWord 322 = .ok (.ifCond .eq 8, 3) := by decide +kernel
theorem dX15_scanWord_325 : decode cX15_scanWord 325 = .ok (.bipush 8, 2) := by decide +kernel
theorem dX15_scanWord_327 : decode cX15_scanWord 327 = .ok (.goto 27, 3) := by decide +kernel
theorem dX15_scanWord_330 : decode cX15_scanWord 330 = .ok (.aload_n 0, 1) := by decide +kernel
theorem dX15_scanWord_331 : decode cX15_scanWord 331 = .ok (.aload_n 0, 1) := by decide +kernel
theorem dX15_scanWord_332 : decode cX15_scanWord 332 = .ok (.getfield 80, 3) := by decide +kernel
theorem dX15_scanWord_335 : decode cX15_scanWord 335 = .ok (.aload_n 0, 1) := by decide +kernel
theorem dX15_scanWord_336 : decode cX15_scanWord 336 = .ok (.getfield 73, 3) := by decide +kernel
theorem dX15_scanWord_339 : decode cX15_scanWord 339 = .ok (.ldc2_w 123, 3) := by decide +kernel
theorem dX15_scanWord_342 : decode cX15_scanWord 342 = .ok (.invokevirtual 109, 3) := by decide +kernel
theorem dX15_scanWord_345 : decode cX15_scanWord 345 = .ok (.ifCond .eq 8, 3) := by decide +kernel
theorem dX15_scanWord_348 : decode cX15_scanWord 348 = .ok (.bipush 9, 2) := by decide +kernel
theorem dX15_scanWord_350 : decode cX15_scanWord 350 = .ok (.goto 4, 3) := by decide +kernel
theorem dX15_scanWord_353 : decode cX15_scanWord 353 = .ok (.iconst 0, 1) := by decide +kernel
theorem dX15_scanWord_354 : decode cX15_scanWord 354 = .ok (.putfield 92, 3) := by decide +kernel
theorem dX15_scanWord_357 : decode cX15_scanWord 357 = .ok (.return_, 1) := by decide +kernel
theorem dX15_meet_0 : decode cX15_meet 0 = .ok (.aload_n 0, 1) := by decide +kernel
theorem dX15_meet_1 : decode cX15_meet 1 = .ok (.getfield 125, 3) := by decide +kernel
theorem dX15_meet_4 : decode cX15_meet 4 = .ok (.ifCond .ne 13, 3) := by decide +kernel
theorem dX15_meet_7 : decode cX15_meet 7 = .ok (.aload_n 0, 1) := by decide +kernel
theorem dX15_meet_8 : decode cX15_meet 8 = .ok (.iload_n 1, 1) := by decide +kernel
theorem dX15_meet_9 : decode cX15_meet 9 = .ok (.bipush 8, 2) := by decide +kernel
theorem dX15_meet_11 : decode cX15_meet 11 = .ok (.iload_n 2, 1) := by decide +kernel
theorem dX15_meet_12 : decode cX15_meet 12 = .ok (.imul, 1) := by decide +kernel
theorem dX15_meet_13 : decode cX15_meet 13 = .ok (.iadd, 1) := by decide +kernel
theorem dX15_meet_14 : decode cX15_meet 14 = .ok (.putfield 125, 3) := by decide +kernel
theorem dX15_meet_17 : decode cX15_meet 17 = .ok (.return_, 1) := by decide +kernel
theorem dX15_begins_0 : decode cX15_begins 0 = .ok (.iload_n 0, 1) := by decide +kernel
theorem dX15_begins_1 : decode cX15_begins 1 = .ok (.bipush 10, 2) := by decide +kernel
theorem dX15_begins_3 : decode cX15_begins 3 = .ok (.if_icmp .lt 33, 3) := by decide +kernel
theorem dX15_begins_6 : decode cX15_begins 6 = .ok (.iload_n 0, 1) := by decide +kernel
theorem dX15_begins_7 : decode cX15_begins 7 = .ok (.bipush 24, 2) := by decide +kernel
theorem dX15_begins_9 : decode cX15_begins 9 = .ok (.if_icmp .eq 27, 3) := by decide +kernel
theorem dX15_begins_12 : decode cX15_begins 12 = .ok (.iload_n 0, 1) := by decide +kernel
theorem dX15_begins_13 : decode cX15_begins 13 = .ok (.bipush 28, 2) := by decide +kernel
theorem dX15_begins_15 : decode cX15_begins 15 = .ok (.if_icmp .eq 21, 3) := by decide +kernel
theorem dX15_begins_18 : decode cX15_begins 18 = .ok (.iload_n 0, 1) := by decide +kernel
theorem dX15_begins_19 : decode cX15_begins 19 = .ok (.bipush 29, 2) := by decide +kernel
theorem dX15_begins_21 : decode cX15_begins 21 = .ok (.if_icmp .eq 15, 3) := by decide +kernel
theorem dX15_begins_24 : decode cX15_begins 24 = .ok (.iload_n 0, 1) := by decide +kernel
theorem dX15_begins_25 : decode cX15_begins 25 = .ok (.bipush 30, 2) := by decide +kernel
theorem dX15_begins_27 : decode cX15_begins 27 = .ok (.if_icmp .eq 9, 3) := by decide +kernel
theorem dX15_begins_30 : decode cX15_begins 30 = .ok (.iload_n 0, 1) := by decide +kernel
theorem dX15_begins_31 : decode cX15_begins 31 = .ok (.bipush 32, 2) := by decide +kernel
theorem dX15_begins_33 : decode cX15_begins 33 = .ok (.if_icmp .ne 7, 3) := by decide +kernel
theorem dX15_begins_36 : decode cX15_begins 36 = .ok (.iconst 1, 1) := by decide +kernel
theorem dX15_begins_37 : decode cX15_begins 37 = .ok (.goto 4, 3) := by decide +kernel
theorem dX15_begins_40 : decode cX15_begins 40 = .ok (.iconst 0, 1) := by decide +kernel
theorem dX15_begins_41 : decode cX15_begins 41 = .ok (.ireturn, 1) := by decide +kernel
theorem dX15_isBetween_0 : decode cX15_isBetween 0 = .ok (.iload_n 0, 1) := by decide +kernel
theorem dX15_isBetween_1 : decode cX15_isBetween 1 = .ok (.bipush 10, 2) := by decide +kernel
theorem dX15_isBetween_3 : decode cX15_isBetween 3 = .ok (.if_icmp .lt 13, 3) := by decide +kernel
theorem dX15_isBetween_6 : decode cX15_isBetween 6 = .ok (.iload_n 0, 1) := by decide +kernel
theorem dX15_isBetween_7 : decode cX15_isBetween 7 = .ok (.bipush 27, 2) := by decide +kernel
theorem dX15_isBetween_9 : decode cX15_isBetween 9 = .ok (.if_icmp .gt 7, 3) := by decide +kernel
theorem dX15_isBetween_12 : decode cX15_isBetween 12 = .ok (.iconst 1, 1) := by decide +kernel
theorem dX15_isBetween_13 : decode cX15_isBetween 13 = .ok (.goto 4, 3) := by decide +kernel
theorem dX15_isBetween_16 : decode cX15_isBetween 16 = .ok (.iconst 0, 1) := by decide +kernel
theorem dX15_isBetween_17 : decode cX15_isBetween 17 = .ok (.ireturn, 1) := by decide +kernel
theorem dX15_remembers_0 : decode cX15_remembers 0 = .ok (.iconst 0, 1) := by decide +kernel
theorem dX15_remembers_1 : decode cX15_remembers 1 = .ok (.istore_n 1, 1) := by decide +kernel
theorem dX15_remembers_2 : decode cX15_remembers 2 = .ok (.iconst 0, 1) := by decide +kernel
theorem dX15_remembers_3 : decode cX15_remembers 3 = .ok (.istore_n 2, 1) := by decide +kernel
theorem dX15_remembers_4 : decode cX15_remembers 4 = .ok (.iload_n 2, 1) := by decide +kernel
theorem dX15_remembers_5 : decode cX15_remembers 5 = .ok (.aload_n 0, 1) := by decide +kernel
theorem dX15_remembers_6 : decode cX15_remembers 6 = .ok (.getfield 128, 3) := by decide +kernel
theorem dX15_remembers_9 : decode cX15_remembers 9 = .ok (.if_icmp .ge 64, 3) := by decide +kernel
theorem dX15_remembers_12 : decode cX15_remembers 12 = .ok (.iload_n 1, 1) := by decide +kernel
theorem dX15_remembers_13 : decode cX15_remembers 13 = .ok (.ifCond .ne 48, 3) := by decide +kernel
theorem dX15_remembers_16 : decode cX15_remembers 16 = .ok (.aload_n 0, 1) := by decide +kernel
theorem dX15_remembers_17 : decode cX15_remembers 17 = .ok (.getfield 40, 3) := by decide +kernel
theorem dX15_remembers_20 : decode cX15_remembers 20 = .ok (.iload_n 2, 1) := by decide +kernel
theorem dX15_remembers_21 : decode cX15_remembers 21 = .ok (.iaload, 1) := by decide +kernel
theorem dX15_remembers_22 : decode cX15_remembers 22 = .ok (.ifCond .le 43, 3) := by decide +kernel
theorem dX15_remembers_25 : decode cX15_remembers 25 = .ok (.aload_n 0, 1) := by decide +kernel
theorem dX15_remembers_26 : decode cX15_remembers 26 = .ok (.getfield 34, 3) := by decide +kernel
theorem dX15_remembers_29 : decode cX15_remembers 29 = .ok (.aload_n 0, 1) := by decide +kernel
theorem dX15_remembers_30 : decode cX15_remembers 30 = .ok (.getfield 40, 3) := by decide +kernel
theorem dX15_remembers_33 : decode cX15_remembers 33 = .ok (.iload_n 2, 1) := by decide +kernel
theorem dX15_remembers_34 : decode cX15_remembers 34 = .ok (.iaload, 1) := by decide +kernel
theorem dX15_remembers_35 : decode cX15_remembers 35 = .ok (.iconst 1, 1) := by decide +kernel
theorem dX15_remembers_36 : decode cX15_remembers 36 = .ok (.isub, 1) := by decide +kernel
theorem dX15_remembers_37 : decode cX15_remembers 37 = .ok (.iaload, 1) := by decide +kernel
theorem dX15_remembers_38 : decode cX15_remembers 38 = .ok (.bipush 8, 2) := by decide +kernel
theorem dX15_remembers_40 : decode cX15_remembers 40 = .ok (.if_icmp .eq 21, 3) := by decide +kernel
theorem dX15_remembers_43 : decode cX15_remembers 43 = .ok (.aload_n 0, 1) := by decide +kernel
theorem dX15_remembers_44 : decode cX15_remembers 44 = .ok (.getfield 34, 3) := by decide +kernel
theorem dX15_remembers_47 : decode cX15_remembers 47 = .ok (.aload_n 0, 1) := by decide +kernel
theorem dX15_remembers_48 : decode cX15_remembers 48 = .ok (.getfield 40, 3) := by decide +kernel
theorem dX15_remembers_51 : decode cX15_remembers 51 = .ok (.iload_n 2, 1) := by decide +kernel
theorem dX15_remembers_52 : decode cX15_remembers 52 = .ok (.iaload, 1) := by decide +kernel
theorem dX15_remembers_53 : decode cX15_remembers 53 = .ok (.iconst 1, 1) := by decide +kernel
theorem dX15_remembers_54 : decode cX15_remembers 54 = .ok (.isub, 1) := by decide +kernel
theorem dX15_remembers_55 : decode cX15_remembers 55 = .ok (.iaload, 1) := by decide +kernel
theorem dX15_remembers_56 : decode cX15_remembers 56 = .ok (.bipush 9, 2) := by decide +kernel
theorem dX15_remembers_58 : decode cX15_remembers 58 = .ok (.if_icmp .ne 7, 3) := by decide +kernel
theorem dX15_remembers_61 : decode cX15_remembers 61 = .ok (.iconst 1, 1) := by decide +kernel
theorem dX15_remembers_62 : decode cX15_remembers 62 = .ok (.goto 4, 3) := by decide +kernel
theorem dX15_remembers_65 : decode cX15_remembers 65 = .ok (.iconst 0, 1) := by decide +kernel
theorem dX15_remembers_66 : decode cX15_remembers 66 = .ok (.istore_n 1, 1) := by decide +kernel
theorem dX15_remembers_67 : decode cX15_remembers 67 = .ok (.iinc 2 1, 3) := by decide +kernel
theorem dX15_remembers_70 : decode cX15_remembers 70 = .ok (.goto (-66), 3) := by decide +kernel
theorem dX15_remembers_73 : decode cX15_remembers 73 = .ok (.iload_n 1, 1) := by decide +kernel
theorem dX15_remembers_74 : decode cX15_remembers 74 = .ok (.ireturn, 1) := by decide +kernel
theorem dX15_take_0 : decode cX15_take 0 = .ok (.aload_n 0, 1) := by decide +kernel
theorem dX15_take_1 : decode cX15_take 1 = .ok (.getfield 34, 3) := by decide +kernel
theorem dX15_take_4 : decode cX15_take 4 = .ok (.aload_n 0, 1) := by decide +kernel
theorem dX15_take_5 : decode cX15_take 5 = .ok (.getfield 131, 3) := by decide +kernel
theorem dX15_take_8 : decode cX15_take 8 = .ok (.aload_n 0, 1) := by decide +kernel
theorem dX15_take_9 : decode cX15_take 9 = .ok (.getfield 92, 3) := by decide +kernel
theorem dX15_take_12 : decode cX15_take 12 = .ok (.iastore, 1) := by decide +kernel
theorem dX15_take_13 : decode cX15_take 13 = .ok (.aload_n 0, 1) := by decide +kernel
theorem dX15_take_14 : decode cX15_take 14 = .ok (.getfield 43, 3) := by decide +kernel
theorem dX15_take_17 : decode cX15_take 17 = .ok (.aload_n 0, 1) := by decide +kernel
theorem dX15_take_18 : decode cX15_take 18 = .ok (.getfield 131, 3) := by decide +kernel
theorem dX15_take_21 : decode cX15_take 21 = .ok (.aload_n 0, 1) := by decide +kernel
theorem dX15_take_22 : decode cX15_take 22 = .ok (.getfield 95, 3) := by decide +kernel
theorem dX15_take_25 : decode cX15_take 25 = .ok (.lastore, 1) := by decide +kernel
theorem dX15_take_26 : decode cX15_take 26 = .ok (.aload_n 0, 1) := by decide +kernel
theorem dX15_take_27 : decode cX15_take 27 = .ok (.getfield 37, 3) := by decide +kernel
theorem dX15_take_30 : decode cX15_take 30 = .ok (.aload_n 0, 1) := by decide +kernel
theorem dX15_take_31 : decode cX15_take 31 = .ok (.getfield 131, 3) := by decide +kernel
theorem dX15_take_34 : decode cX15_take 34 = .ok (.iconst (-1), 1) := by decide +kernel
theorem dX15_take_35 : decode cX15_take 35 = .ok (.iastore, 1) := by decide +kernel
theorem dX15_take_36 : decode cX15_take 36 = .ok (.aload_n 0, 1) := by decide +kernel
theorem dX15_take_37 : decode cX15_take 37 = .ok (.dup, 1) := by decide +kernel
