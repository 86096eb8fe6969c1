theorem dX13_suffix_68 : decode cX13_suffix 68 = .ok (.getfield 371, 3) := by decide +kernel
theorem dX13_suffix_71 : decode cX13_suffix 71 = .ok (.iconst 2, 1) := by decide +kernel
theorem dX13_suffix_72 : decode cX13_suffix 72 = .ok (.isub, 1) := by decide +kernel
theorem dX13_suffix_73 : decode cX13_suffix 73 = .ok (.caload, 1) := by decide +kernel
theorem dX13_suffix_74 : decode cX13_suffix 74 = .ok (.bipush 114, 2) := by decide +kernel
theorem dX13_suffix_76 : decode cX13_suffix 76 = .ok (.if_icmp .ne 21, 3) := by decide +kernel
theorem dX13_suffix_79 : decode cX13_suffix 79 = .ok (.aload_n 0, 1) := by decide +kernel
theorem dX13_suffix_80 : decode cX13_suffix 80 = .ok (.getfield 324, 3) := by decide +kernel
theorem dX13_suffix_83 : decode cX13_suffix 83 = .ok (.aload_n 0, 1) := by decide +kernel
theorem dX13_suffix_84 : decode cX13_suffix 84 = .ok (.getfield 371, 3) := by decide +kernel
theorem dX13_suffix_87 : decode cX13_suffix 87 = .ok (.iconst 1, 1) := by decide +kernel
theorem dX13_suffix_88 : decode cX13_suffix 88 = .ok (.isub, 1) := by decide +kernel
theorem dX13_suffix_89 : decode cX13_suffix 89 = .ok (.caload, 1) := by decide +kernel
theorem dX13_suffix_90 : decode cX13_suffix 90 = .ok (.bipush 108, 2) := by decide +kernel
theorem dX13_suffix_92 : decode cX13_suffix 92 = .ok (.if_icmp .ne 5, 3) := by decide +kernel
theorem dX13_suffix_95 : decode cX13_suffix 95 = .ok (.iconst 5, 1) := by decide +kernel
theorem dX13_suffix_96 : decode cX13_suffix 96 = .ok (.ireturn, 1) := by decide +kernel
theorem dX13_suffix_97 : decode cX13_suffix 97 = .ok (.iload_n 1, 1) := by decide +kernel
theorem dX13_suffix_98 : decode cX13_suffix 98 = .ok (.iconst 3, 1) := by decide +kernel
theorem dX13_suffix_99 : decode cX13_suffix 99 = .ok (.if_icmp .le 39, 3) := by decide +kernel
theorem dX13_suffix_102 : decode cX13_suffix 102 = .ok (.aload_n 0, 1) := by decide +kernel
theorem dX13_suffix_103 : decode cX13_suffix 103 = .ok (.getfield 324, 3) := by decide +kernel
theorem dX13_suffix_106 : decode cX13_suffix 106 = .ok (.aload_n 0, 1) := by decide +kernel
theorem dX13_suffix_107 : decode cX13_suffix 107 = .ok (.getfield 371, 3) := by decide +kernel
theorem dX13_suffix_110 : decode cX13_suffix 110 = .ok (.iconst 2, 1) := by decide +kernel
theorem dX13_suffix_111 : decode cX13_suffix 111 = .ok (.isub, 1) := by decide +kernel
theorem dX13_suffix_112 : decode cX13_suffix 112 = .ok (.caload, 1) := by decide +kernel
theorem dX13_suffix_113 : decode cX13_suffix 113 = .ok (.bipush 97, 2) := by decide +kernel
theorem dX13_suffix_115 : decode cX13_suffix 115 = .ok (.if_icmp .ne 23, 3) := by decide +kernel
theorem dX13_suffix_118 : decode cX13_suffix 118 = .ok (.aload_n 0, 1) := by decide +kernel
theorem dX13_suffix_119 : decode cX13_suffix 119 = .ok (.getfield 324, 3) := by decide +kernel
theorem dX13_suffix_122 : decode cX13_suffix 122 = .ok (.aload_n 0, 1) := by decide +kernel
theorem dX13_suffix_123 : decode cX13_suffix 123 = .ok (.getfield 371, 3) := by decide +kernel
theorem dX13_suffix_126 : decode cX13_suffix 126 = .ok (.iconst 1, 1) := by decide +kernel
theorem dX13_suffix_127 : decode cX13_suffix 127 = .ok (.isub, 1) := by decide +kernel
theorem dX13_suffix_128 : decode cX13_suffix 128 = .ok (.caload, 1) := by decide +kernel
theorem dX13_suffix_129 : decode cX13_suffix 129 = .ok (.bipush 113, 2) := by decide +kernel
theorem dX13_suffix_131 : decode cX13_suffix 131 = .ok (.if_icmp .ne 7, 3) := by decide +kernel
theorem dX13_suffix_134 : decode cX13_suffix 134 = .ok (.iconst 1, 1) := by decide +kernel
theorem dX13_suffix_135 : decode cX13_suffix 135 = .ok (.goto 4, 3) := by decide +kernel
theorem dX13_suffix_138 : decode cX13_suffix 138 = .ok (.iconst 0, 1) := by decide +kernel
theorem dX13_suffix_139 : decode cX13_suffix 139 = .ok (.istore_n 2, 1) := by decide +kernel
theorem dX13_suffix_140 : decode cX13_suffix 140 = .ok (.iload_n 1, 1) := by decide +kernel
theorem dX13_suffix_141 : decode cX13_suffix 141 = .ok (.iconst 3, 1) := by decide +kernel
theorem dX13_suffix_142 : decode cX13_suffix 142 = .ok (.if_icmp .le 39, 3) := by decide +kernel
theorem dX13_suffix_145 : decode cX13_suffix 145 = .ok (.aload_n 0, 1) := by decide +kernel
theorem dX13_suffix_146 : decode cX13_suffix 146 = .ok (.getfield 324, 3) := by decide +kernel
theorem dX13_suffix_149 : decode cX13_suffix 149 = .ok (.aload_n 0, 1) := by decide +kernel
theorem dX13_suffix_150 : decode cX13_suffix 150 = .ok (.getfield 371, 3) := by decide +kernel
theorem dX13_suffix_153 : decode cX13_suffix 153 = .ok (.iconst 2, 1) := by decide +kernel
theorem dX13_suffix_154 : decode cX13_suffix 154 = .ok (.isub, 1) := by decide +kernel
theorem dX13_suffix_155 : decode cX13_suffix 155 = .ok (.caload, 1) := by decide +kernel
theorem dX13_suffix_156 : decode cX13_suffix 156 = .ok (.bipush 114, 2) := by decide +kernel
theorem dX13_suffix_158 : decode cX13_suffix 158 = .ok (.if_icmp .ne 23, 3) := by decide +kernel
theorem dX13_suffix_161 : decode cX13_suffix 161 = .ok (.aload_n 0, 1) := by decide +kernel
theorem dX13_suffix_162 : decode cX13_suffix 162 = .ok (.getfield 324, 3) := by decide +kernel
theorem dX13_suffix_165 : decode cX13_suffix 165 = .ok (.aload_n 0, 1) := by decide +kernel
theorem dX13_suffix_166 : decode cX13_suffix 166 = .ok (.getfield 371, 3) := by decide +kernel
theorem dX13_suffix_169 : decode cX13_suffix 169 = .ok (.iconst 1, 1) := by decide +kernel
theorem dX13_suffix_170 : decode cX13_suffix 170 = .ok (.isub, 1) := by decide +kernel
theorem dX13_suffix_171 : decode cX13_suffix 171 = .ok (.caload, 1) := by decide +kernel
theorem dX13_suffix_172 : decode cX13_suffix 172 = .ok (.bipush 108, 2) := by decide +kernel
theorem dX13_suffix_174 : decode cX13_suffix 174 = .ok (.if_icmp .ne 7, 3) := by decide +kernel
theorem dX13_suffix_177 : decode cX13_suffix 177 = .ok (.iconst 1, 1) := by decide +kernel
theorem dX13_suffix_178 : decode cX13_suffix 178 = .ok (.goto 4, 3) := by decide +kernel
theorem dX13_suffix_181 : decode cX13_suffix 181 = .ok (.iconst 0, 1) := by decide +kernel
theorem dX13_suffix_182 : decode cX13_suffix 182 = .ok (.istore_n 3, 1) := by decide +kernel
theorem dX13_suffix_183 : decode cX13_suffix 183 = .ok (.iload_n 2, 1) := by decide +kernel
theorem dX13_suffix_184 : decode cX13_suffix 184 = .ok (.ifCond .ne 7, 3) := by decide +kernel
theorem dX13_suffix_187 : decode cX13_suffix 187 = .ok (.iload_n 3, 1) := by decide +kernel
theorem dX13_suffix_188 : decode cX13_suffix 188 = .ok (.ifCond .eq 23, 3) := by decide +kernel
theorem dX13_suffix_191 : decode cX13_suffix 191 = .ok (.aload_n 0, 1) := by decide +kernel
theorem dX13_suffix_192 : decode cX13_suffix 192 = .ok (.getfield 324, 3) := by decide +kernel
theorem dX13_suffix_195 : decode cX13_suffix 195 = .ok (.aload_n 0, 1) := by decide +kernel
theorem dX13_suffix_196 : decode cX13_suffix 196 = .ok (.getfield 371, 3) := by decide +kernel
theorem dX13_suffix_199 : decode cX13_suffix 199 = .ok (.iconst 3, 1) := by decide +kernel
theorem dX13_suffix_200 : decode cX13_suffix 200 = .ok (.isub, 1) := by decide +kernel
theorem dX13_suffix_201 : decode cX13_suffix 201 = .ok (.caload, 1) := by decide +kernel
theorem dX13_suffix_202 : decode cX13_suffix 202 = .ok (.bipush 46, 2) := by decide +kernel
theorem dX13_suffix_204 : decode cX13_suffix 204 = .ok (.if_icmp .ne 7, 3) := by decide +kernel
theorem dX13_suffix_207 : decode cX13_suffix 207 = .ok (.iconst 3, 1) := by decide +kernel
theorem dX13_suffix_208 : decode cX13_suffix 208 = .ok (.goto 4, 3) := by decide +kernel
theorem dX13_suffix_211 : decode cX13_suffix 211 = .ok (.iconst 0, 1) := by decide +kernel
theorem dX13_suffix_212 : decode cX13_suffix 212 = .ok (.ireturn, 1) := by decide +kernel
theorem dX13_statement_0 : decode cX13_statement 0 = .ok (.aload_n 0, 1) := by decide +kernel
theorem dX13_statement_1 : decode cX13_statement 1 = .ok (.iload_n 2, 1) := by decide +kernel
theorem dX13_statement_2 : decode cX13_statement 2 = .ok (.putfield 522, 3) := by decide +kernel
theorem dX13_statement_5 : decode cX13_statement 5 = .ok (.aload_n 0, 1) := by decide +kernel
theorem dX13_statement_6 : decode cX13_statement 6 = .ok (.iload_n 1, 1) := by decide +kernel
theorem dX13_statement_7 : decode cX13_statement 7 = .ok (.putfield 374, 3) := by decide +kernel
theorem dX13_statement_10 : decode cX13_statement 10 = .ok (.aload_n 0, 1) := by decide +kernel
theorem dX13_statement_11 : decode cX13_statement 11 = .ok (.iconst 0, 1) := by decide +kernel
theorem dX13_statement_12 : decode cX13_statement 12 = .ok (.putfield 541, 3) := by decide +kernel
theorem dX13_statement_15 : decode cX13_statement 15 = .ok (.aload_n 0, 1) := by decide +kernel
theorem dX13_statement_16 : decode cX13_statement 16 = .ok (.invokevirtual 416, 3) := by decide +kernel
theorem dX13_statement_19 : decode cX13_statement 19 = .ok (.aload_n 0, 1) := by decide +kernel
theorem dX13_statement_20 : decode cX13_statement 20 = .ok (.invokevirtual 645, 3) := by decide +kernel
theorem dX13_statement_23 : decode cX13_statement 23 = .ok (.istore_n 3, 1) := by decide +kernel
theorem dX13_statement_24 : decode cX13_statement 24 = .ok (.aload_n 0, 1) := by decide +kernel
theorem dX13_statement_25 : decode cX13_statement 25 = .ok (.aload_n 0, 1) := by decide +kernel
theorem dX13_statement_26 : decode cX13_statement 26 = .ok (.getfield 368, 3) := by decide +kernel
theorem dX13_statement_29 : decode cX13_statement 29 = .ok (.aload_n 0, 1) := by decide +kernel
theorem dX13_statement_30 : decode cX13_statement 30 = .ok (.getfield 371, 3) := by decide +kernel
theorem dX13_statement_33 : decode cX13_statement 33 = .ok (.invokevirtual 648, 3) := by decide +kernel
theorem dX13_statement_36 : decode cX13_statement 36 = .ok (.istore 4, 2) := by decide +kernel
theorem dX13_statement_38 : decode cX13_statement 38 = .ok (.iconst 0, 1) := by decide +kernel
theorem dX13_statement_39 : decode cX13_statement 39 = .ok (.istore 5, 2) := by decide +kernel
theorem dX13_statement_41 : decode cX13_statement 41 = .ok (.iload 4, 2) := by decide +kernel
theorem dX13_statement_43 : decode cX13_statement 43 = .ok (.ifCond .ge 93, 3) := by decide +kernel
theorem dX13_statement_46 : decode cX13_statement 46 = .ok (.iload_n 3, 1) := by decide +kernel
theorem dX13_statement_47 : decode cX13_statement 47 = .ok (.ifCond .le 89, 3) := by decide +kernel
theorem dX13_statement_50 : decode cX13_statement 50 = .ok (.aload_n 0, 1) := by decide +kernel
theorem dX13_statement_51 : decode cX13_statement 51 = .ok (.aload_n 0, 1) := by decide +kernel
theorem dX13_statement_52 : decode cX13_statement 52 = .ok (.getfield 368, 3) := by decide +kernel
theorem dX13_statement_55 : decode cX13_statement 55 = .ok (.aload_n 0, 1) := by decide +kernel
theorem dX13_statement_56 : decode cX13_statement 56 = .ok (.getfield 371, 3) := by decide +kernel
theorem dX13_statement_59 : decode cX13_statement 59 = .ok (.iload_n 3, 1) := by decide +kernel
theorem dX13_statement_60 : decode cX13_statement 60 = .ok (.isub, 1) := by decide +kernel
theorem dX13_statement_61 : decode cX13_statement 61 = .ok (.invokevirtual 648, 3) := by decide +kernel
theorem dX13_statement_64 : decode cX13_statement 64 = .ok (.istore 4, 2) := by decide +kernel
theorem dX13_statement_66 : decode cX13_statement 66 = .ok (.iload_n 3, 1) := by decide +kernel
theorem dX13_statement_67 : decode cX13_statement 67 = .ok (.iconst 5, 1) := by decide +kernel
theorem dX13_statement_68 : decode cX13_statement 68 = .ok (.if_icmp .ne 9, 3) := by decide +kernel
theorem dX13_statement_71 : decode cX13_statement 71 = .ok (.ldc_w 651, 3) := by decide +kernel
theorem dX13_statement_74 : decode cX13_statement 74 = .ok (.goto 28, 3) := by decide +kernel
theorem dX13_statement_77 : decode cX13_statement 77 = .ok (.aload_n 0, 1) := by decide +kernel
theorem dX13_statement_78 : decode cX13_statement 78 = .ok (.getfield 324, 3) := by decide +kernel
theorem dX13_statement_81 : decode cX13_statement 81 = .ok (.aload_n 0, 1) := by decide +kernel
theorem dX13_statement_82 : decode cX13_statement 82 = .ok (.getfield 371, 3) := by decide +kernel
theorem dX13_statement_85 : decode cX13_statement 85 = .ok (.iconst 1, 1) := by decide +kernel
theorem dX13_statement_86 : decode cX13_statement 86 = .ok (.isub, 1) := by decide +kernel
theorem dX13_statement_87 : decode cX13_statement 87 = .ok (.caload, 1) := by decide +kernel
theorem dX13_statement_88 : decode cX13_statement 88 = .ok (.bipush 113, 2) := by decide +kernel
theorem dX13_statement_90 : decode cX13_statement 90 = .ok (.if_icmp .ne 9, 3) := by decide +kernel
theorem dX13_statement_93 : decode cX13_statement 93 = .ok (.ldc_w 652, 3) := by decide +kernel
theorem dX13_statement_96 : decode cX13_statement 96 = .ok (.goto 6, 3) := by decide +kernel
theorem dX13_statement_99 : decode cX13_statement 99 = .ok (.ldc_w 653, 3) := by decide +kernel
theorem dX13_statement_102 : decode cX13_statement 102 = .ok (.istore 5, 2) := by decide +kernel
theorem dX13_statement_104 : decode cX13_statement 104 = .ok (.iload 4, 2) := by decide +kernel
theorem dX13_statement_106 : decode cX13_statement 106 = .ok (.ifCond .lt 30, 3) := by decide +kernel
theorem dX13_statement_109 : decode cX13_statement 109 = .ok (.aload_n 0, 1) := by decide +kernel
theorem dX13_statement_110 : decode cX13_statement 110 = .ok (.getfield 269, 3) := by decide +kernel
theorem dX13_statement_113 : decode cX13_statement 113 = .ok (.iload 4, 2) := by decide +kernel
theorem dX13_statement_115 : decode cX13_statement 115 = .ok (.baload, 1) := by decide +kernel
theorem dX13_statement_116 : decode cX13_statement 116 = .ok (.bipush 9, 2) := by decide +kernel
theorem dX13_statement_118 : decode cX13_statement 118 = .ok (.if_icmp .eq 18, 3) := by decide +kernel
theorem dX13_statement_121 : decode cX13_statement 121 = .ok (.aload_n 0, 1) := by decide +kernel
theorem dX13_statement_122 : decode cX13_statement 122 = .ok (.getfield 269, 3) := by decide +kernel
theorem dX13_statement_125 : decode cX13_statement 125 = .ok (.iload 4, 2) := by decide +kernel
theorem dX13_statement_127 : decode cX13_statement 127 = .ok (.baload, 1) := by decide +kernel
theorem dX13_statement_128 : decode cX13_statement 128 = .ok (.bipush 10, 2) := by decide +kernel
theorem dX13_statement_130 : decode cX13_statement 130 = .ok (.if_icmp .eq 6, 3) := by decide +kernel
theorem dX13_statement_133 : decode cX13_statement 133 = .ok (.iconst (-1), 1) := by decide +kernel
theorem dX13_statement_134 : decode cX13_statement 134 = .ok (.istore 4, 2) := by decide +kernel
theorem dX13_statement_136 : decode cX13_statement 136 = .ok (.iload 4, 2) := by decide +kernel
theorem dX13_statement_138 : decode cX13_statement 138 = .ok (.ifCond .ge 9, 3) := by decide +kernel
theorem dX13_statement_141 : decode cX13_statement 141 = .ok (.aload_n 0, 1) := by decide +kernel
theorem dX13_statement_142 : decode cX13_statement 142 = .ok (.iconst 2, 1) := by decide +kernel
theorem dX13_statement_143 : decode cX13_statement 143 = .ok (.invokevirtual 419, 3) := by decide +kernel
theorem dX13_statement_146 : decode cX13_statement 146 = .ok (.return_, 1) := by decide +kernel
theorem dX13_statement_147 : decode cX13_statement 147 = .ok (.aload_n 0, 1) := by decide +kernel
theorem dX13_statement_148 : decode cX13_statement 148 = .ok (.getfield 269, 3) := by decide +kernel
theorem dX13_statement_151 : decode cX13_statement 151 = .ok (.iload 4, 2) := by decide +kernel
theorem dX13_statement_153 : decode cX13_statement 153 = .ok (.baload, 1) := by decide +kernel
theorem dX13_statement_154 : decode cX13_statement 154 = .ok (.istore 6, 2) := by decide +kernel
theorem dX13_statement_156 : decode cX13_statement 156 = .ok (.aload_n 0, 1) := by decide +kernel
theorem dX13_statement_157 : decode cX13_statement 157 = .ok (.getfield 319, 3) := by decide +kernel
theorem dX13_statement_160 : decode cX13_statement 160 = .ok (.iload 4, 2) := by decide +kernel
theorem dX13_statement_162 : decode cX13_statement 162 = .ok (.iaload, 1) := by decide +kernel
theorem dX13_statement_163 : decode cX13_statement 163 = .ok (.iload 5, 2) := by decide +kernel
theorem dX13_statement_165 : decode cX13_statement 165 = .ok (.ior, 1) := by decide +kernel
theorem dX13_statement_166 : decode cX13_statement 166 = .ok (.istore 7, 2) := by decide +kernel
theorem dX13_statement_168 : decode cX13_statement 168 = .ok (.iload 6, 2) := by decide +kernel
theorem dX13_statement_170 : decode cX13_statement 170 = .ok (.bipush 39, 2) := by decide +kernel
theorem dX13_statement_172 : decode cX13_statement 172 = .ok (.if_icmp .le 14, 3) := by decide +kernel
theorem dX13_statement_175 : decode cX13_statement 175 = .ok (.aload_n 0, 1) := by decide +kernel
theorem dX13_statement_176 : decode cX13_statement 176 = .ok (.iload 6, 2) := by decide +kernel
theorem dX13_statement_178 : decode cX13_statement 178 = .ok (.iload 7, 2) := by decide +kernel
theorem dX13_statement_180 : decode cX13_statement 180 = .ok (.invokevirtual 654, 3) := by decide +kernel
theorem dX13_statement_183 : decode cX13_statement 183 = .ok (.goto 143, 3) := by decide +kernel
theorem dX13_statement_186 : decode cX13_statement 186 = .ok (.iload 6, 2) := by decide +kernel
theorem dX13_statement_188 : decode cX13_statement 188 = .ok (.bipush 12, 2) := by decide +kernel
theorem dX13_statement_190 : decode cX13_statement 190 = .ok (.if_icmp .ne 12, 3) := by decide +kernel
theorem dX13_statement_193 : decode cX13_statement 193 = .ok (.aload_n 0, 1) := by decide +kernel
theorem dX13_statement_194 : decode cX13_statement 194 = .ok (.iload 7, 2) := by decide +kernel
theorem dX13_statement_196 : decode cX13_statement 196 = .ok (.invokevirtual 570, 3) := by decide +kernel
theorem dX13_statement_199 : decode cX13_statement 199 = .ok (.goto 127, 3) := by decide +kernel
theorem dX13_statement_202 : decode cX13_statement 202 = .ok (.iload 6, 2) := by decide +kernel
theorem dX13_statement_204 : decode cX13_statement 204 = .ok (.bipush 16, 2) := by decide +kernel
theorem dX13_statement_206 : decode cX13_statement 206 = .ok (.if_icmp .ne 12, 3) := by decide +kernel
theorem dX13_statement_209 : decode cX13_statement 209 = .ok (.aload_n 0, 1) := by decide +kernel
theorem dX13_statement_210 : decode cX13_statement 210 = .ok (.iload 7, 2) := by decide +kernel
theorem dX13_statement_212 : decode cX13_statement 212 = .ok (.invokevirtual 547, 3) := by decide +kernel
theorem dX13_statement_215 : decode cX13_statement 215 = .ok (.goto 111, 3) := by decide +kernel
theorem dX13_statement_218 : decode cX13_statement 218 = .ok (.iload 6, 2) := by decide +kernel
theorem dX13_statement_220 : decode cX13_statement 220 = .ok (.bipush 8, 2) := by decide +kernel
theorem dX13_statement_222 : decode cX13_statement 222 = .ok (.if_icmp .eq 10, 3) := by decide +kernel
theorem dX13_statement_225 : decode cX13_statement 225 = .ok (.iload 6, 2) := by decide +kernel
theorem dX13_statement_227 : decode cX13_statement 227 = .ok (.bipush 34, 2) := by decide +kernel
theorem dX13_statement_229 : decode cX13_statement 229 = .ok (.if_icmp .ne 14, 3) := by decide +kernel
theorem dX13_statement_232 : decode cX13_statement 232 = .ok (.aload_n 0, 1) := by decide +kernel
theorem dX13_statement_233 : decode cX13_statement 233 = .ok (.iload 6, 2) := by decide +kernel
theorem dX13_statement_235 : decode cX13_statement 235 = .ok (.iload 7, 2) := by decide +kernel
theorem dX13_statement_237 : decode cX13_statement 237 = .ok (.invokevirtual 658, 3) := by decide +kernel
theorem dX13_statement_240 : decode cX13_statement 240 = .ok (.goto 86, 3) := by decide +kernel
theorem dX13_statement_243 : decode cX13_statement 243 = .ok (.iload 6, 2) := by decide +kernel
theorem dX13_statement_245 : decode cX13_statement 245 = .ok (.bipush 7, 2) := by decide +kernel
theorem dX13_statement_247 : decode cX13_statement 247 = .ok (.if_icmp .eq 17, 3) := by decide +kernel
theorem dX13_statement_250 : decode cX13_statement 250 = .ok (.iload 6, 2) := by decide +kernel
theorem dX13_statement_252 : decode cX13_statement 252 = .ok (.bipush 34, 2) := by decide +kernel
theorem dX13_statement_254 : decode cX13_statement 254 = .ok (.if_icmp .le 21, 3) := by decide +kernel
theorem dX13_statement_257 : decode cX13_statement 257 = .ok (.iload 6, 2) := by decide +kernel
theorem dX13_statement_259 : decode cX13_statement 259 = .ok (.bipush 38, 2) := by decide +kernel
theorem dX13_statement_261 : decode cX13_statement 261 = .ok (.if_icmp .ge 14, 3) := by decide +kernel
theorem dX13_statement_264 : decode cX13_statement 264 = .ok (.aload_n 0, 1) := by decide +kernel
theorem dX13_statement_265 : decode cX13_statement 265 = .ok (.iload 6, 2) := by decide +kernel
theorem dX13_statement_267 : decode cX13_statement 267 = .ok (.iload 7, 2) := by decide +kernel
theorem dX13_statement_269 : decode cX13_statement 269 = .ok (.invokevirtual 661, 3) := by decide +kernel
theorem dX13_statement_272 : decode cX13_statement 272 = .ok (.goto 54, 3) := by decide +kernel
theorem dX13_statement_275 : decode cX13_statement 275 = .ok (.iload 6, 2) := by decide +kernel
theorem dX13_statement_277 : decode cX13_statement 277 = .ok (.bipush 12, 2) := by decide +kernel
theorem dX13_statement_279 : decode cX13_statement 279 = .ok (.if_icmp .lt 10, 3) := by decide +kernel
theorem dX13_statement_282 : decode cX13_statement 282 = .ok (.iload 6, 2) := by decide +kernel
theorem dX13_statement_284 : decode cX13_statement 284 = .ok (.bipush 30, 2) := by decide +kernel
theorem dX13_statement_286 : decode cX13_statement 286 = .ok (.if_icmp .ne 14, 3) := by decide +kernel
theorem dX13_statement_289 : decode cX13_statement 289 = .ok (.aload_n 0, 1) := by decide +kernel
theorem dX13_statement_290 : decode cX13_statement 290 = .ok (.iload 6, 2) := by decide +kernel
theorem dX13_statement_292 : decode cX13_statement 292 = .ok (.iload 7, 2) := by decide +kernel
theorem dX13_statement_294 : decode cX13_statement 294 = .ok (.invokevirtual 664, 3) := by decide +kernel
theorem dX13_statement_297 : decode cX13_statement 297 = .ok (.goto 29, 3) := by decide +kernel
theorem dX13_statement_300 : decode cX13_statement 300 = .ok (.iload 6, 2) := by decide +kernel
theorem dX13_statement_302 : decode cX13_statement 302 = .ok (.bipush 30, 2) := by decide +kernel
theorem dX13_statement_304 : decode cX13_statement 304 = .ok (.if_icmp .ge 14, 3) := by decide +kernel
theorem dX13_statement_307 : decode cX13_statement 307 = .ok (.aload_n 0, 1) := by decide +kernel
theorem dX13_statement_308 : decode cX13_statement 308 = .ok (.iload 6, 2) := by decide +kernel
theorem dX13_statement_310 : decode cX13_statement 310 = .ok (.iload 7, 2) := by decide +kernel
theorem dX13_statement_312 : decode cX13_statement 312 = .ok (.invokevirtual 667, 3) := by decide +kernel
theorem dX13_statement_315 : decode cX13_statement 315 = .ok (.goto 11, 3) := by decide +kernel
theorem dX13_statement_318 : decode cX13_statement 318 = .ok (.aload_n 0, 1) := by decide +kernel
theorem dX13_statement_319 : decode cX13_statement 319 = .ok (.iload 6, 2) := by decide +kernel
theorem dX13_statement_321 : decode cX13_statement 321 = .ok (.iload 7, 2) := by decide +kernel
theorem dX13_statement_323 : decode cX13_statement 323 = .ok (.invokevirtual 670, 3) := by decide +kernel
theorem dX13_statement_326 : decode cX13_statement 326 = .ok (.aload_n 0, 1) := by decide +kernel
theorem dX13_statement_327 : decode cX13_statement 327 = .ok (.getfield 522, 3) := by decide +kernel
theorem dX13_statement_330 : decode cX13_statement 330 = .ok (.ifCond .ne 16, 3) := by decide +kernel
theorem dX13_statement_333 : decode cX13_statement 333 = .ok (.aload_n 0, 1) := by decide +kernel
theorem dX13_statement_334 : decode cX13_statement 334 = .ok (.getfield 410, 3) := by decide +kernel
theorem dX13_statement_337 : decode cX13_statement 337 = .ok (.ifCond .ne 9, 3) := by decide +kernel
theorem dX13_statement_340 : decode cX13_statement 340 = .ok (.aload_n 0, 1) := by decide +kernel
theorem dX13_statement_341 : decode cX13_statement 341 = .ok (.iconst 0, 1) := by decide +kernel
theorem dX13_statement_342 : decode cX13_statement 342 = .ok (.invokevirtual 506, 3) := by decide +kernel
theorem dX13_statement_345 : decode cX13_statement 345 = .ok (.pop, 1) := by decide +kernel
theorem dX13_statement_346 : decode cX13_statement 346 = .ok (.return_, 1) := by decide +kernel
theorem dX13_labelled_0 : decode cX13_labelled 0 = .ok (.aload_n 0, 1) := by decide +kernel
theorem dX13_labelled_1 : decode cX13_labelled 1 = .ok (.getfield 410, 3) := by decide +kernel
theorem dX13_labelled_4 : decode cX13_labelled 4 = .ok (.ifCond .ne 165, 3) := by decide +kernel
theorem dX13_labelled_7 : decode cX13_labelled 7 = .ok (.aload_n 0, 1) := by decide +kernel
theorem dX13_labelled_8 : decode cX13_labelled 8 = .ok (.invokevirtual 416, 3) := by decide +kernel
theorem dX13_labelled_11 : decode cX13_labelled 11 = .ok (.aload_n 0, 1) := by decide +kernel
theorem dX13_labelled_12 : decode cX13_labelled 12 = .ok (.getfield 368, 3) := by decide +kernel
theorem dX13_labelled_15 : decode cX13_labelled 15 = .ok (.istore_n 1, 1) := by decide +kernel
theorem dX13_labelled_16 : decode cX13_labelled 16 = .ok (.aload_n 0, 1) := by decide +kernel
theorem dX13_labelled_17 : decode cX13_labelled 17 = .ok (.getfield 371, 3) := by decide +kernel
theorem dX13_labelled_20 : decode cX13_labelled 20 = .ok (.istore_n 2, 1) := by decide +kernel
theorem dX13_labelled_21 : decode cX13_labelled 21 = .ok (.aload_n 0, 1) := by decide +kernel
theorem dX13_labelled_22 : decode cX13_labelled 22 = .ok (.getfield 365, 3) := by decide +kernel
theorem dX13_labelled_25 : decode cX13_labelled 25 = .ok (.istore_n 3, 1) := by decide +kernel
theorem dX13_labelled_26 : decode cX13_labelled 26 = .ok (.iload_n 3, 1) := by decide +kernel
theorem dX13_labelled_27 : decode cX13_labelled 27 = .ok (.iconst 2, 1) := by decide +kernel
theorem dX13_labelled_28 : decode cX13_labelled 28 = .ok (.if_icmp .ne 14, 3) := by decide +kernel
theorem dX13_labelled_31 : decode cX13_labelled 31 = .ok (.iload_n 2, 1) := by decide +kernel
theorem dX13_labelled_32 : decode cX13_labelled 32 = .ok (.iload_n 1, 1) := by decide +kernel
theorem dX13_labelled_33 : decode cX13_labelled 33 = .ok (.isub, 1) := by decide +kernel
theorem dX13_labelled_34 : decode cX13_labelled 34 = .ok (.iconst 1, 1) := by decide +kernel
theorem dX13_labelled_35 : decode cX13_labelled 35 = .ok (.if_icmp .ne 7, 3) := by decide +kernel
theorem dX13_labelled_38 : decode cX13_labelled 38 = .ok (.iconst 1, 1) := by decide +kernel
theorem dX13_labelled_39 : decode cX13_labelled 39 = .ok (.goto 4, 3) := by decide +kernel
theorem dX13_labelled_42 : decode cX13_labelled 42 = .ok (.iconst 0, 1) := by decide +kernel
theorem dX13_labelled_43 : decode cX13_labelled 43 = .ok (.istore 4, 2) := by decide +kernel
theorem dX13_labelled_45 : decode cX13_labelled 45 = .ok (.iload_n 3, 1) := by decide +kernel
theorem dX13_labelled_46 : decode cX13_labelled 46 = .ok (.ifCond .ne 5, 3) := by decide +kernel
theorem dX13_labelled_49 : decode cX13_labelled 49 = .ok (.iconst 0, 1) := by decide +kernel
theorem dX13_labelled_50 : decode cX13_labelled 50 = .ok (.ireturn, 1) := by decide +kernel
theorem dX13_labelled_51 : decode cX13_labelled 51 = .ok (.iload_n 3, 1) := by decide +kernel
theorem dX13_labelled_52 : decode cX13_labelled 52 = .ok (.iconst 1, 1) := by decide +kernel
theorem dX13_labelled_53 : decode cX13_labelled 53 = .ok (.if_icmp .eq 15, 3) := by decide +kernel
theorem dX13_labelled_56 : decode cX13_labelled 56 = .ok (.iload 4, 2) := by decide +kernel
theorem dX13_labelled_58 : decode cX13_labelled 58 = .ok (.ifCond .ne 10, 3) := by decide +kernel
theorem dX13_labelled_61 : decode cX13_labelled 61 = .ok (.aload_n 0, 1) := by decide +kernel
theorem dX13_labelled_62 : decode cX13_labelled 62 = .ok (.iconst 1, 1) := by decide +kernel
theorem dX13_labelled_63 : decode cX13_labelled 63 = .ok (.invokevirtual 419, 3) := by decide +kernel
theorem dX13_labelled_66 : decode cX13_labelled 66 = .ok (.iconst 0, 1) := by decide +kernel
theorem dX13_labelled_67 : decode cX13_labelled 67 = .ok (.ireturn, 1) := by decide +kernel
theorem dX13_labelled_68 : decode cX13_labelled 68 = .ok (.aload_n 0, 1) := by decide +kernel
theorem dX13_labelled_69 : decode cX13_labelled 69 = .ok (.invokevirtual 416, 3) := by decide +kernel
theorem dX13_labelled_72 : decode cX13_labelled 72 = .ok (.aload_n 0, 1) := by decide +kernel
theorem dX13_labelled_73 : decode cX13_labelled 73 = .ok (.getfield 365, 3) := by decide +kernel
theorem dX13_labelled_76 : decode cX13_labelled 76 = .ok (.bipush 58, 2) := by decide +kernel
theorem dX13_labelled_78 : decode cX13_labelled 78 = .ok (.if_icmp .eq 31, 3) := by decide +kernel
theorem dX13_labelled_81 : decode cX13_labelled 81 = .ok (.iload 4, 2) := by decide +kernel
theorem dX13_labelled_83 : decode cX13_labelled 83 = .ok (.ifCond .eq 8, 3) := by decide +kernel
theorem dX13_labelled_86 : decode cX13_labelled 86 = .ok (.aload_n 0, 1) := by decide +kernel
theorem dX13_labelled_87 : decode cX13_labelled 87 = .ok (.iconst 1, 1) := by decide +kernel
theorem dX13_labelled_88 : decode cX13_labelled 88 = .ok (.invokevirtual 419, 3) := by decide +kernel
theorem dX13_labelled_91 : decode cX13_labelled 91 = .ok (.aload_n 0, 1) := by decide +kernel
theorem dX13_labelled_92 : decode cX13_labelled 92 = .ok (.iload_n 1, 1) := by decide +kernel
theorem dX13_labelled_93 : decode cX13_labelled 93 = .ok (.putfield 374, 3) := by decide +kernel
theorem dX13_labelled_96 : decode cX13_labelled 96 = .ok (.aload_n 0, 1) := by decide +kernel
theorem dX13_labelled_97 : decode cX13_labelled 97 = .ok (.getfield 410, 3) := by decide +kernel
theorem dX13_labelled_100 : decode cX13_labelled 100 = .ok (.ifCond .ne 7, 3) := by decide +kernel
theorem dX13_labelled_103 : decode cX13_labelled 103 = .ok (.iconst 1, 1) := by decide +kernel
theorem dX13_labelled_104 : decode cX13_labelled 104 = .ok (.goto 4, 3) := by decide +kernel
theorem dX13_labelled_107 : decode cX13_labelled 107 = .ok (.iconst 0, 1) := by decide +kernel
theorem dX13_labelled_108 : decode cX13_labelled 108 = .ok (.ireturn, 1) := by decide +kernel
theorem dX13_labelled_109 : decode cX13_labelled 109 = .ok (.iload 4, 2) := by decide +kernel
theorem dX13_labelled_111 : decode cX13_labelled 111 = .ok (.ifCond .ne 26, 3) := by decide +kernel
theorem dX13_labelled_114 : decode cX13_labelled 114 = .ok (.aload_n 0, 1) := by decide +kernel
theorem dX13_labelled_115 : decode cX13_labelled 115 = .ok (.iload_n 1, 1) := by decide +kernel
theorem dX13_labelled_116 : decode cX13_labelled 116 = .ok (.iload_n 2, 1) := by decide +kernel
theorem dX13_labelled_117 : decode cX13_labelled 117 = .ok (.invokevirtual 477, 3) := by decide +kernel
theorem dX13_labelled_120 : decode cX13_labelled 120 = .ok (.ifCond .ge 12, 3) := by decide +kernel
theorem dX13_labelled_123 : decode cX13_labelled 123 = .ok (.aload_n 0, 1) := by decide +kernel
theorem dX13_labelled_124 : decode cX13_labelled 124 = .ok (.iload_n 1, 1) := by decide +kernel
theorem dX13_labelled_125 : decode cX13_labelled 125 = .ok (.iload_n 2, 1) := by decide +kernel
theorem dX13_labelled_126 : decode cX13_labelled 126 = .ok (.invokevirtual 480, 3) := by decide +kernel
theorem dX13_labelled_129 : decode cX13_labelled 129 = .ok (.ifCond .lt 8, 3) := by decide +kernel
theorem dX13_labelled_132 : decode cX13_labelled 132 = .ok (.aload_n 0, 1) := by decide +kernel
theorem dX13_labelled_133 : decode cX13_labelled 133 = .ok (.iconst 4, 1) := by decide +kernel
theorem dX13_labelled_134 : decode cX13_labelled 134 = .ok (.invokevirtual 419, 3) := by decide +kernel
theorem dX13_labelled_137 : decode cX13_labelled 137 = .ok (.aload_n 0, 1) := by decide +kernel
theorem dX13_labelled_138 : decode cX13_labelled 138 = .ok (.getfield 410, 3) := by decide +kernel
theorem dX13_labelled_141 : decode cX13_labelled 141 = .ok (.ifCond .ne 25, 3) := by decide +kernel
theorem dX13_labelled_144 : decode cX13_labelled 144 = .ok (.aload_n 0, 1) := by decide +kernel
theorem dX13_labelled_145 : decode cX13_labelled 145 = .ok (.iload_n 1, 1) := by decide +kernel
theorem dX13_labelled_146 : decode cX13_labelled 146 = .ok (.iload_n 2, 1) := by decide +kernel
theorem dX13_labelled_147 : decode cX13_labelled 147 = .ok (.aload_n 0, 1) := by decide +kernel
theorem dX13_labelled_148 : decode cX13_labelled 148 = .ok (.getfield 634, 3) := by decide +kernel
theorem dX13_labelled_151 : decode cX13_labelled 151 = .ok (.iload 4, 2) := by decide +kernel
theorem dX13_labelled_153 : decode cX13_labelled 153 = .ok (.ifCond .eq 7, 3) := by decide +kernel
theorem dX13_labelled_156 : decode cX13_labelled 156 = .ok (.iconst 3, 1) := by decide +kernel
theorem dX13_labelled_157 : decode cX13_labelled 157 = .ok (.goto 4, 3) := by decide +kernel
theorem dX13_labelled_160 : decode cX13_labelled 160 = .ok (.iconst 0, 1) := by decide +kernel
theorem dX13_labelled_161 : decode cX13_labelled 161 = .ok (.iadd, 1) := by decide +kernel
theorem dX13_labelled_162 : decode cX13_labelled 162 = .ok (.iconst 0, 1) := by decide +kernel
theorem dX13_labelled_163 : decode cX13_labelled 163 = .ok (.invokevirtual 631, 3) := by decide +kernel
theorem dX13_labelled_166 : decode cX13_labelled 166 = .ok (.goto (-166), 3) := by decide +kernel
theorem dX13_labelled_169 : decode cX13_labelled 169 = .ok (.iconst 0, 1) := by decide +kernel
theorem dX13_labelled_170 : decode cX13_labelled 170 = .ok (.ireturn, 1) := by decide +kernel
theorem dX13_readAll_0 : decode cX13_readAll 0 = .ok (.aload_n 0, 1) := by decide +kernel
theorem dX13_readAll_1 : decode cX13_readAll 1 = .ok (.iconst 0, 1) := by decide +kernel
