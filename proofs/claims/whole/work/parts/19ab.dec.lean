theorem dX5_tick_0 : decode cX5_tick 0 = .ok (.aload_n 0, 1) := by decide +kernel
theorem dX5_tick_1 : decode cX5_tick 1 = .ok (.getfield 18, 3) := by decide +kernel
theorem dX5_tick_4 : decode cX5_tick 4 = .ok (.getfield 51, 3) := by decide +kernel
theorem dX5_tick_7 : decode cX5_tick 7 = .ok (.istore_n 1, 1) := by decide +kernel
theorem dX5_tick_8 : decode cX5_tick 8 = .ok (.aload_n 0, 1) := by decide +kernel
theorem dX5_tick_9 : decode cX5_tick 9 = .ok (.getfield 18, 3) := by decide +kernel
theorem dX5_tick_12 : decode cX5_tick 12 = .ok (.iconst 0, 1) := by decide +kernel
theorem dX5_tick_13 : decode cX5_tick 13 = .ok (.putfield 55, 3) := by decide +kernel
theorem dX5_tick_16 : decode cX5_tick 16 = .ok (.iload_n 1, 1) := by decide +kernel
theorem dX5_tick_17 : decode cX5_tick 17 = .ok (.ifCond .ge 4, 3) := by decide +kernel
theorem dX5_tick_20 : decode cX5_tick 20 = .ok (.return_, 1) := by decide +kernel
theorem dX5_tick_21 : decode cX5_tick 21 = .ok (.aload_n 0, 1) := by decide +kernel
theorem dX5_tick_22 : decode cX5_tick 22 = .ok (.getfield 18, 3) := by decide +kernel
theorem dX5_tick_25 : decode cX5_tick 25 = .ok (.getfield 58, 3) := by decide +kernel
theorem dX5_tick_28 : decode cX5_tick 28 = .ok (.iload_n 1, 1) := by decide +kernel
theorem dX5_tick_29 : decode cX5_tick 29 = .ok (.if_icmp .eq 19, 3) := by decide +kernel
theorem dX5_tick_32 : decode cX5_tick 32 = .ok (.aload_n 0, 1) := by decide +kernel
theorem dX5_tick_33 : decode cX5_tick 33 = .ok (.getfield 18, 3) := by decide +kernel
theorem dX5_tick_36 : decode cX5_tick 36 = .ok (.iconst (-1), 1) := by decide +kernel
theorem dX5_tick_37 : decode cX5_tick 37 = .ok (.putfield 61, 3) := by decide +kernel
theorem dX5_tick_40 : decode cX5_tick 40 = .ok (.aload_n 0, 1) := by decide +kernel
theorem dX5_tick_41 : decode cX5_tick 41 = .ok (.getfield 18, 3) := by decide +kernel
theorem dX5_tick_44 : decode cX5_tick 44 = .ok (.iload_n 1, 1) := by decide +kernel
theorem dX5_tick_45 : decode cX5_tick 45 = .ok (.putfield 58, 3) := by decide +kernel
theorem dX5_tick_48 : decode cX5_tick 48 = .ok (.aload_n 0, 1) := by decide +kernel
theorem dX5_tick_49 : decode cX5_tick 49 = .ok (.getfield 18, 3) := by decide +kernel
theorem dX5_tick_52 : decode cX5_tick 52 = .ok (.iload_n 1, 1) := by decide +kernel
theorem dX5_tick_53 : decode cX5_tick 53 = .ok (.invokevirtual 64, 3) := by decide +kernel
theorem dX5_tick_56 : decode cX5_tick 56 = .ok (.istore_n 2, 1) := by decide +kernel
theorem dX5_tick_57 : decode cX5_tick 57 = .ok (.iload_n 2, 1) := by decide +kernel
theorem dX5_tick_58 : decode cX5_tick 58 = .ok (.ifCond .eq 32, 3) := by decide +kernel
theorem dX5_tick_61 : decode cX5_tick 61 = .ok (.aload_n 0, 1) := by decide +kernel
theorem dX5_tick_62 : decode cX5_tick 62 = .ok (.getfield 37, 3) := by decide +kernel
theorem dX5_tick_65 : decode cX5_tick 65 = .ok (.iload_n 1, 1) := by decide +kernel
theorem dX5_tick_66 : decode cX5_tick 66 = .ok (.bipush 7, 2) := by decide +kernel
theorem dX5_tick_68 : decode cX5_tick 68 = .ok (.imul, 1) := by decide +kernel
theorem dX5_tick_69 : decode cX5_tick 69 = .ok (.iconst 3, 1) := by decide +kernel
theorem dX5_tick_70 : decode cX5_tick 70 = .ok (.iadd, 1) := by decide +kernel
theorem dX5_tick_71 : decode cX5_tick 71 = .ok (.dup2, 1) := by decide +kernel
theorem dX5_tick_72 : decode cX5_tick 72 = .ok (.iaload, 1) := by decide +kernel
theorem dX5_tick_73 : decode cX5_tick 73 = .ok (.iconst 1, 1) := by decide +kernel
theorem dX5_tick_74 : decode cX5_tick 74 = .ok (.iload_n 2, 1) := by decide +kernel
theorem dX5_tick_75 : decode cX5_tick 75 = .ok (.ishl, 1) := by decide +kernel
theorem dX5_tick_76 : decode cX5_tick 76 = .ok (.iconst (-1), 1) := by decide +kernel
theorem dX5_tick_77 : decode cX5_tick 77 = .ok (.ixor, 1) := by decide +kernel
theorem dX5_tick_78 : decode cX5_tick 78 = .ok (.iand, 1) := by decide +kernel
theorem dX5_tick_79 : decode cX5_tick 79 = .ok (.iastore, 1) := by decide +kernel
theorem dX5_tick_80 : decode cX5_tick 80 = .ok (.aload_n 0, 1) := by decide +kernel
theorem dX5_tick_81 : decode cX5_tick 81 = .ok (.iload_n 1, 1) := by decide +kernel
theorem dX5_tick_82 : decode cX5_tick 82 = .ok (.iload_n 2, 1) := by decide +kernel
theorem dX5_tick_83 : decode cX5_tick 83 = .ok (.iconst 0, 1) := by decide +kernel
theorem dX5_tick_84 : decode cX5_tick 84 = .ok (.invokevirtual 68, 3) := by decide +kernel
theorem dX5_tick_87 : decode cX5_tick 87 = .ok (.goto 57, 3) := by decide +kernel
theorem dX5_tick_90 : decode cX5_tick 90 = .ok (.aload_n 0, 1) := by decide +kernel
theorem dX5_tick_91 : decode cX5_tick 91 = .ok (.getfield 43, 3) := by decide +kernel
theorem dX5_tick_94 : decode cX5_tick 94 = .ok (.iload_n 1, 1) := by decide +kernel
theorem dX5_tick_95 : decode cX5_tick 95 = .ok (.invokevirtual 72, 3) := by decide +kernel
theorem dX5_tick_98 : decode cX5_tick 98 = .ok (.istore_n 3, 1) := by decide +kernel
theorem dX5_tick_99 : decode cX5_tick 99 = .ok (.iload_n 3, 1) := by decide +kernel
theorem dX5_tick_100 : decode cX5_tick 100 = .ok (.iconst (-1), 1) := by decide +kernel
theorem dX5_tick_101 : decode cX5_tick 101 = .ok (.if_icmp .ne 14, 3) := by decide +kernel
theorem dX5_tick_104 : decode cX5_tick 104 = .ok (.aload_n 0, 1) := by decide +kernel
theorem dX5_tick_105 : decode cX5_tick 105 = .ok (.iload_n 1, 1) := by decide +kernel
theorem dX5_tick_106 : decode cX5_tick 106 = .ok (.aload_n 0, 1) := by decide +kernel
theorem dX5_tick_107 : decode cX5_tick 107 = .ok (.iload_n 1, 1) := by decide +kernel
theorem dX5_tick_108 : decode cX5_tick 108 = .ok (.invokevirtual 75, 3) := by decide +kernel
theorem dX5_tick_111 : decode cX5_tick 111 = .ok (.invokevirtual 79, 3) := by decide +kernel
theorem dX5_tick_114 : decode cX5_tick 114 = .ok (.istore_n 3, 1) := by decide +kernel
theorem dX5_tick_115 : decode cX5_tick 115 = .ok (.iload_n 3, 1) := by decide +kernel
theorem dX5_tick_116 : decode cX5_tick 116 = .ok (.ifCond .eq 28, 3) := by decide +kernel
theorem dX5_tick_119 : decode cX5_tick 119 = .ok (.aload_n 0, 1) := by decide +kernel
theorem dX5_tick_120 : decode cX5_tick 120 = .ok (.iload_n 1, 1) := by decide +kernel
theorem dX5_tick_121 : decode cX5_tick 121 = .ok (.iload_n 3, 1) := by decide +kernel
theorem dX5_tick_122 : decode cX5_tick 122 = .ok (.aload_n 0, 1) := by decide +kernel
theorem dX5_tick_123 : decode cX5_tick 123 = .ok (.getfield 37, 3) := by decide +kernel
theorem dX5_tick_126 : decode cX5_tick 126 = .ok (.iload_n 1, 1) := by decide +kernel
theorem dX5_tick_127 : decode cX5_tick 127 = .ok (.bipush 7, 2) := by decide +kernel
theorem dX5_tick_129 : decode cX5_tick 129 = .ok (.imul, 1) := by decide +kernel
theorem dX5_tick_130 : decode cX5_tick 130 = .ok (.iconst 4, 1) := by decide +kernel
theorem dX5_tick_131 : decode cX5_tick 131 = .ok (.iadd, 1) := by decide +kernel
theorem dX5_tick_132 : decode cX5_tick 132 = .ok (.iaload, 1) := by decide +kernel
theorem dX5_tick_133 : decode cX5_tick 133 = .ok (.ifCond .eq 7, 3) := by decide +kernel
theorem dX5_tick_136 : decode cX5_tick 136 = .ok (.iconst 1, 1) := by decide +kernel
theorem dX5_tick_137 : decode cX5_tick 137 = .ok (.goto 4, 3) := by decide +kernel
theorem dX5_tick_140 : decode cX5_tick 140 = .ok (.iconst 0, 1) := by decide +kernel
theorem dX5_tick_141 : decode cX5_tick 141 = .ok (.invokevirtual 68, 3) := by decide +kernel
theorem dX5_tick_144 : decode cX5_tick 144 = .ok (.aload_n 0, 1) := by decide +kernel
theorem dX5_tick_145 : decode cX5_tick 145 = .ok (.invokevirtual 83, 3) := by decide +kernel
theorem dX5_tick_148 : decode cX5_tick 148 = .ok (.return_, 1) := by decide +kernel
theorem dX5_answerOf_0 : decode cX5_answerOf 0 = .ok (.aload_n 0, 1) := by decide +kernel
theorem dX5_answerOf_1 : decode cX5_answerOf 1 = .ok (.iload_n 1, 1) := by decide +kernel
theorem dX5_answerOf_2 : decode cX5_answerOf 2 = .ok (.bipush 10, 2) := by decide +kernel
theorem dX5_answerOf_4 : decode cX5_answerOf 4 = .ok (.invokevirtual 115, 3) := by decide +kernel
theorem dX5_answerOf_7 : decode cX5_answerOf 7 = .ok (.istore_n 2, 1) := by decide +kernel
theorem dX5_answerOf_8 : decode cX5_answerOf 8 = .ok (.aload_n 0, 1) := by decide +kernel
theorem dX5_answerOf_9 : decode cX5_answerOf 9 = .ok (.iload_n 1, 1) := by decide +kernel
theorem dX5_answerOf_10 : decode cX5_answerOf 10 = .ok (.bipush 11, 2) := by decide +kernel
theorem dX5_answerOf_12 : decode cX5_answerOf 12 = .ok (.invokevirtual 115, 3) := by decide +kernel
theorem dX5_answerOf_15 : decode cX5_answerOf 15 = .ok (.istore_n 3, 1) := by decide +kernel
theorem dX5_answerOf_16 : decode cX5_answerOf 16 = .ok (.aload_n 0, 1) := by decide +kernel
theorem dX5_answerOf_17 : decode cX5_answerOf 17 = .ok (.iload_n 1, 1) := by decide +kernel
theorem dX5_answerOf_18 : decode cX5_answerOf 18 = .ok (.bipush 12, 2) := by decide +kernel
theorem dX5_answerOf_20 : decode cX5_answerOf 20 = .ok (.invokevirtual 115, 3) := by decide +kernel
theorem dX5_answerOf_23 : decode cX5_answerOf 23 = .ok (.istore 4, 2) := by decide +kernel
theorem dX5_answerOf_25 : decode cX5_answerOf 25 = .ok (.aload_n 0, 1) := by decide +kernel
theorem dX5_answerOf_26 : decode cX5_answerOf 26 = .ok (.iload_n 1, 1) := by decide +kernel
theorem dX5_answerOf_27 : decode cX5_answerOf 27 = .ok (.bipush 17, 2) := by decide +kernel
theorem dX5_answerOf_29 : decode cX5_answerOf 29 = .ok (.invokevirtual 115, 3) := by decide +kernel
theorem dX5_answerOf_32 : decode cX5_answerOf 32 = .ok (.tableswitch 326 0 21 #[104, 121, 127, 134, 140, 143, 150, 160, 170, 177, 185, 193, 200, 210, 218, 225, 242, 249, 257, 263, 270, 303], 104) := by decide +kernel
theorem dX5_answerOf_136 : decode cX5_answerOf 136 = .ok (.aload_n 0, 1) := by decide +kernel
theorem dX5_answerOf_137 : decode cX5_answerOf 137 = .ok (.getfield 18, 3) := by decide +kernel
theorem dX5_answerOf_140 : decode cX5_answerOf 140 = .ok (.iload_n 1, 1) := by decide +kernel
theorem dX5_answerOf_141 : decode cX5_answerOf 141 = .ok (.iload_n 2, 1) := by decide +kernel
theorem dX5_answerOf_142 : decode cX5_answerOf 142 = .ok (.sipush 255, 3) := by decide +kernel
theorem dX5_answerOf_145 : decode cX5_answerOf 145 = .ok (.iand, 1) := by decide +kernel
theorem dX5_answerOf_146 : decode cX5_answerOf 146 = .ok (.invokevirtual 89, 3) := by decide +kernel
theorem dX5_answerOf_149 : decode cX5_answerOf 149 = .ok (.ldc2_w 159, 3) := by decide +kernel
theorem dX5_answerOf_152 : decode cX5_answerOf 152 = .ok (.lreturn, 1) := by decide +kernel
theorem dX5_answerOf_153 : decode cX5_answerOf 153 = .ok (.aload_n 0, 1) := by decide +kernel
theorem dX5_answerOf_154 : decode cX5_answerOf 154 = .ok (.iload_n 1, 1) := by decide +kernel
theorem dX5_answerOf_155 : decode cX5_answerOf 155 = .ok (.invokevirtual 161, 3) := by decide +kernel
theorem dX5_answerOf_158 : decode cX5_answerOf 158 = .ok (.lreturn, 1) := by decide +kernel
theorem dX5_answerOf_159 : decode cX5_answerOf 159 = .ok (.aload_n 0, 1) := by decide +kernel
theorem dX5_answerOf_160 : decode cX5_answerOf 160 = .ok (.iload_n 1, 1) := by decide +kernel
theorem dX5_answerOf_161 : decode cX5_answerOf 161 = .ok (.iload_n 2, 1) := by decide +kernel
theorem dX5_answerOf_162 : decode cX5_answerOf 162 = .ok (.invokevirtual 164, 3) := by decide +kernel
theorem dX5_answerOf_165 : decode cX5_answerOf 165 = .ok (.lreturn, 1) := by decide +kernel
theorem dX5_answerOf_166 : decode cX5_answerOf 166 = .ok (.aload_n 0, 1) := by decide +kernel
theorem dX5_answerOf_167 : decode cX5_answerOf 167 = .ok (.iload_n 1, 1) := by decide +kernel
theorem dX5_answerOf_168 : decode cX5_answerOf 168 = .ok (.invokevirtual 168, 3) := by decide +kernel
theorem dX5_answerOf_171 : decode cX5_answerOf 171 = .ok (.lreturn, 1) := by decide +kernel
theorem dX5_answerOf_172 : decode cX5_answerOf 172 = .ok (.iload_n 1, 1) := by decide +kernel
theorem dX5_answerOf_173 : decode cX5_answerOf 173 = .ok (.i2l, 1) := by decide +kernel
theorem dX5_answerOf_174 : decode cX5_answerOf 174 = .ok (.lreturn, 1) := by decide +kernel
theorem dX5_answerOf_175 : decode cX5_answerOf 175 = .ok (.aload_n 0, 1) := by decide +kernel
theorem dX5_answerOf_176 : decode cX5_answerOf 176 = .ok (.iload_n 1, 1) := by decide +kernel
theorem dX5_answerOf_177 : decode cX5_answerOf 177 = .ok (.iload_n 2, 1) := by decide +kernel
theorem dX5_answerOf_178 : decode cX5_answerOf 178 = .ok (.invokevirtual 171, 3) := by decide +kernel
theorem dX5_answerOf_181 : decode cX5_answerOf 181 = .ok (.lreturn, 1) := by decide +kernel
theorem dX5_answerOf_182 : decode cX5_answerOf 182 = .ok (.aload_n 0, 1) := by decide +kernel
theorem dX5_answerOf_183 : decode cX5_answerOf 183 = .ok (.iload_n 1, 1) := by decide +kernel
theorem dX5_answerOf_184 : decode cX5_answerOf 184 = .ok (.iload_n 2, 1) := by decide +kernel
theorem dX5_answerOf_185 : decode cX5_answerOf 185 = .ok (.iload_n 3, 1) := by decide +kernel
theorem dX5_answerOf_186 : decode cX5_answerOf 186 = .ok (.iload 4, 2) := by decide +kernel
theorem dX5_answerOf_188 : decode cX5_answerOf 188 = .ok (.invokevirtual 174, 3) := by decide +kernel
theorem dX5_answerOf_191 : decode cX5_answerOf 191 = .ok (.lreturn, 1) := by decide +kernel
theorem dX5_answerOf_192 : decode cX5_answerOf 192 = .ok (.aload_n 0, 1) := by decide +kernel
theorem dX5_answerOf_193 : decode cX5_answerOf 193 = .ok (.iload_n 1, 1) := by decide +kernel
theorem dX5_answerOf_194 : decode cX5_answerOf 194 = .ok (.iload_n 2, 1) := by decide +kernel
theorem dX5_answerOf_195 : decode cX5_answerOf 195 = .ok (.iload_n 3, 1) := by decide +kernel
theorem dX5_answerOf_196 : decode cX5_answerOf 196 = .ok (.iload 4, 2) := by decide +kernel
theorem dX5_answerOf_198 : decode cX5_answerOf 198 = .ok (.invokevirtual 178, 3) := by decide +kernel
theorem dX5_answerOf_201 : decode cX5_answerOf 201 = .ok (.lreturn, 1) := by decide +kernel
theorem dX5_answerOf_202 : decode cX5_answerOf 202 = .ok (.aload_n 0, 1) := by decide +kernel
theorem dX5_answerOf_203 : decode cX5_answerOf 203 = .ok (.iload_n 1, 1) := by decide +kernel
theorem dX5_answerOf_204 : decode cX5_answerOf 204 = .ok (.iload_n 2, 1) := by decide +kernel
theorem dX5_answerOf_205 : decode cX5_answerOf 205 = .ok (.invokevirtual 181, 3) := by decide +kernel
theorem dX5_answerOf_208 : decode cX5_answerOf 208 = .ok (.lreturn, 1) := by decide +kernel
theorem dX5_answerOf_209 : decode cX5_answerOf 209 = .ok (.aload_n 0, 1) := by decide +kernel
theorem dX5_answerOf_210 : decode cX5_answerOf 210 = .ok (.iload_n 1, 1) := by decide +kernel
theorem dX5_answerOf_211 : decode cX5_answerOf 211 = .ok (.iload_n 2, 1) := by decide +kernel
theorem dX5_answerOf_212 : decode cX5_answerOf 212 = .ok (.iload_n 3, 1) := by decide +kernel
theorem dX5_answerOf_213 : decode cX5_answerOf 213 = .ok (.invokevirtual 184, 3) := by decide +kernel
theorem dX5_answerOf_216 : decode cX5_answerOf 216 = .ok (.lreturn, 1) := by decide +kernel
theorem dX5_answerOf_217 : decode cX5_answerOf 217 = .ok (.aload_n 0, 1) := by decide +kernel
theorem dX5_answerOf_218 : decode cX5_answerOf 218 = .ok (.iload_n 1, 1) := by decide +kernel
theorem dX5_answerOf_219 : decode cX5_answerOf 219 = .ok (.iload_n 2, 1) := by decide +kernel
theorem dX5_answerOf_220 : decode cX5_answerOf 220 = .ok (.iload_n 3, 1) := by decide +kernel
theorem dX5_answerOf_221 : decode cX5_answerOf 221 = .ok (.invokevirtual 188, 3) := by decide +kernel
theorem dX5_answerOf_224 : decode cX5_answerOf 224 = .ok (.lreturn, 1) := by decide +kernel
theorem dX5_answerOf_225 : decode cX5_answerOf 225 = .ok (.aload_n 0, 1) := by decide +kernel
theorem dX5_answerOf_226 : decode cX5_answerOf 226 = .ok (.iload_n 1, 1) := by decide +kernel
theorem dX5_answerOf_227 : decode cX5_answerOf 227 = .ok (.iload_n 2, 1) := by decide +kernel
theorem dX5_answerOf_228 : decode cX5_answerOf 228 = .ok (.invokevirtual 191, 3) := by decide +kernel
theorem dX5_answerOf_231 : decode cX5_answerOf 231 = .ok (.lreturn, 1) := by decide +kernel
theorem dX5_answerOf_232 : decode cX5_answerOf 232 = .ok (.aload_n 0, 1) := by decide +kernel
theorem dX5_answerOf_233 : decode cX5_answerOf 233 = .ok (.iload_n 1, 1) := by decide +kernel
theorem dX5_answerOf_234 : decode cX5_answerOf 234 = .ok (.iload_n 2, 1) := by decide +kernel
theorem dX5_answerOf_235 : decode cX5_answerOf 235 = .ok (.iload_n 3, 1) := by decide +kernel
theorem dX5_answerOf_236 : decode cX5_answerOf 236 = .ok (.iload 4, 2) := by decide +kernel
theorem dX5_answerOf_238 : decode cX5_answerOf 238 = .ok (.invokevirtual 194, 3) := by decide +kernel
theorem dX5_answerOf_241 : decode cX5_answerOf 241 = .ok (.lreturn, 1) := by decide +kernel
theorem dX5_answerOf_242 : decode cX5_answerOf 242 = .ok (.aload_n 0, 1) := by decide +kernel
theorem dX5_answerOf_243 : decode cX5_answerOf 243 = .ok (.iload_n 1, 1) := by decide +kernel
theorem dX5_answerOf_244 : decode cX5_answerOf 244 = .ok (.iload_n 2, 1) := by decide +kernel
theorem dX5_answerOf_245 : decode cX5_answerOf 245 = .ok (.iload_n 3, 1) := by decide +kernel
theorem dX5_answerOf_246 : decode cX5_answerOf 246 = .ok (.invokevirtual 197, 3) := by decide +kernel
theorem dX5_answerOf_249 : decode cX5_answerOf 249 = .ok (.lreturn, 1) := by decide +kernel
theorem dX5_answerOf_250 : decode cX5_answerOf 250 = .ok (.aload_n 0, 1) := by decide +kernel
theorem dX5_answerOf_251 : decode cX5_answerOf 251 = .ok (.iload_n 1, 1) := by decide +kernel
theorem dX5_answerOf_252 : decode cX5_answerOf 252 = .ok (.iload_n 2, 1) := by decide +kernel
theorem dX5_answerOf_253 : decode cX5_answerOf 253 = .ok (.invokevirtual 200, 3) := by decide +kernel
theorem dX5_answerOf_256 : decode cX5_answerOf 256 = .ok (.lreturn, 1) := by decide +kernel
theorem dX5_answerOf_257 : decode cX5_answerOf 257 = .ok (.aload_n 0, 1) := by decide +kernel
theorem dX5_answerOf_258 : decode cX5_answerOf 258 = .ok (.getfield 18, 3) := by decide +kernel
theorem dX5_answerOf_261 : decode cX5_answerOf 261 = .ok (.aload_n 0, 1) := by decide +kernel
theorem dX5_answerOf_262 : decode cX5_answerOf 262 = .ok (.getfield 18, 3) := by decide +kernel
theorem dX5_answerOf_265 : decode cX5_answerOf 265 = .ok (.iload_n 1, 1) := by decide +kernel
theorem dX5_answerOf_266 : decode cX5_answerOf 266 = .ok (.invokevirtual 203, 3) := by decide +kernel
theorem dX5_answerOf_269 : decode cX5_answerOf 269 = .ok (.invokevirtual 144, 3) := by decide +kernel
theorem dX5_answerOf_272 : decode cX5_answerOf 272 = .ok (.lconst 0, 1) := by decide +kernel
theorem dX5_answerOf_273 : decode cX5_answerOf 273 = .ok (.lreturn, 1) := by decide +kernel
theorem dX5_answerOf_274 : decode cX5_answerOf 274 = .ok (.aload_n 0, 1) := by decide +kernel
theorem dX5_answerOf_275 : decode cX5_answerOf 275 = .ok (.iload_n 2, 1) := by decide +kernel
theorem dX5_answerOf_276 : decode cX5_answerOf 276 = .ok (.iload_n 3, 1) := by decide +kernel
theorem dX5_answerOf_277 : decode cX5_answerOf 277 = .ok (.invokevirtual 206, 3) := by decide +kernel
theorem dX5_answerOf_280 : decode cX5_answerOf 280 = .ok (.lreturn, 1) := by decide +kernel
theorem dX5_answerOf_281 : decode cX5_answerOf 281 = .ok (.aload_n 0, 1) := by decide +kernel
theorem dX5_answerOf_282 : decode cX5_answerOf 282 = .ok (.iload_n 1, 1) := by decide +kernel
theorem dX5_answerOf_283 : decode cX5_answerOf 283 = .ok (.iload_n 2, 1) := by decide +kernel
theorem dX5_answerOf_284 : decode cX5_answerOf 284 = .ok (.iload_n 3, 1) := by decide +kernel
theorem dX5_answerOf_285 : decode cX5_answerOf 285 = .ok (.invokevirtual 209, 3) := by decide +kernel
theorem dX5_answerOf_288 : decode cX5_answerOf 288 = .ok (.lreturn, 1) := by decide +kernel
theorem dX5_answerOf_289 : decode cX5_answerOf 289 = .ok (.aload_n 0, 1) := by decide +kernel
theorem dX5_answerOf_290 : decode cX5_answerOf 290 = .ok (.iload_n 1, 1) := by decide +kernel
theorem dX5_answerOf_291 : decode cX5_answerOf 291 = .ok (.invokevirtual 212, 3) := by decide +kernel
theorem dX5_answerOf_294 : decode cX5_answerOf 294 = .ok (.lreturn, 1) := by decide +kernel
theorem dX5_answerOf_295 : decode cX5_answerOf 295 = .ok (.aload_n 0, 1) := by decide +kernel
theorem dX5_answerOf_296 : decode cX5_answerOf 296 = .ok (.iload_n 1, 1) := by decide +kernel
theorem dX5_answerOf_297 : decode cX5_answerOf 297 = .ok (.iload_n 2, 1) := by decide +kernel
theorem dX5_answerOf_298 : decode cX5_answerOf 298 = .ok (.invokevirtual 215, 3) := by decide +kernel
theorem dX5_answerOf_301 : decode cX5_answerOf 301 = .ok (.lreturn, 1) := by decide +kernel
theorem dX5_answerOf_302 : decode cX5_answerOf 302 = .ok (.aload_n 0, 1) := by decide +kernel
theorem dX5_answerOf_303 : decode cX5_answerOf 303 = .ok (.getfield 33, 3) := by decide +kernel
theorem dX5_answerOf_306 : decode cX5_answerOf 306 = .ok (.iload_n 1, 1) := by decide +kernel
theorem dX5_answerOf_307 : decode cX5_answerOf 307 = .ok (.bipush 33, 2) := by decide +kernel
theorem dX5_answerOf_309 : decode cX5_answerOf 309 = .ok (.imul, 1) := by decide +kernel
theorem dX5_answerOf_310 : decode cX5_answerOf 310 = .ok (.bipush 11, 2) := by decide +kernel
theorem dX5_answerOf_312 : decode cX5_answerOf 312 = .ok (.iadd, 1) := by decide +kernel
theorem dX5_answerOf_313 : decode cX5_answerOf 313 = .ok (.aload_n 0, 1) := by decide +kernel
theorem dX5_answerOf_314 : decode cX5_answerOf 314 = .ok (.getfield 18, 3) := by decide +kernel
theorem dX5_answerOf_317 : decode cX5_answerOf 317 = .ok (.getfield 133, 3) := by decide +kernel
theorem dX5_answerOf_320 : decode cX5_answerOf 320 = .ok (.bipush 32, 2) := by decide +kernel
theorem dX5_answerOf_322 : decode cX5_answerOf 322 = .ok (.lshr, 1) := by decide +kernel
theorem dX5_answerOf_323 : decode cX5_answerOf 323 = .ok (.l2i, 1) := by decide +kernel
theorem dX5_answerOf_324 : decode cX5_answerOf 324 = .ok (.iastore, 1) := by decide +kernel
theorem dX5_answerOf_325 : decode cX5_answerOf 325 = .ok (.aload_n 0, 1) := by decide +kernel
theorem dX5_answerOf_326 : decode cX5_answerOf 326 = .ok (.getfield 18, 3) := by decide +kernel
theorem dX5_answerOf_329 : decode cX5_answerOf 329 = .ok (.getfield 133, 3) := by decide +kernel
theorem dX5_answerOf_332 : decode cX5_answerOf 332 = .ok (.l2i, 1) := by decide +kernel
theorem dX5_answerOf_333 : decode cX5_answerOf 333 = .ok (.i2l, 1) := by decide +kernel
theorem dX5_answerOf_334 : decode cX5_answerOf 334 = .ok (.lreturn, 1) := by decide +kernel
theorem dX5_answerOf_335 : decode cX5_answerOf 335 = .ok (.aload_n 0, 1) := by decide +kernel
theorem dX5_answerOf_336 : decode cX5_answerOf 336 = .ok (.iload_n 1, 1) := by decide +kernel
theorem dX5_answerOf_337 : decode cX5_answerOf 337 = .ok (.invokevirtual 108, 3) := by decide +kernel
theorem dX5_answerOf_340 : decode cX5_answerOf 340 = .ok (.ifCond .eq 9, 3) := by decide +kernel
theorem dX5_answerOf_343 : decode cX5_answerOf 343 = .ok (.ldc2_w 157, 3) := by decide +kernel
theorem dX5_answerOf_346 : decode cX5_answerOf 346 = .ok (.goto 11, 3) := by decide +kernel
theorem dX5_answerOf_349 : decode cX5_answerOf 349 = .ok (.aload_n 0, 1) := by decide +kernel
theorem dX5_answerOf_350 : decode cX5_answerOf 350 = .ok (.getfield 18, 3) := by decide +kernel
theorem dX5_answerOf_353 : decode cX5_answerOf 353 = .ok (.invokevirtual 217, 3) := by decide +kernel
theorem dX5_answerOf_356 : decode cX5_answerOf 356 = .ok (.i2l, 1) := by decide +kernel
theorem dX5_answerOf_357 : decode cX5_answerOf 357 = .ok (.lreturn, 1) := by decide +kernel
theorem dX5_answerOf_358 : decode cX5_answerOf 358 = .ok (.ldc2_w 221, 3) := by decide +kernel
theorem dX5_answerOf_361 : decode cX5_answerOf 361 = .ok (.lreturn, 1) := by decide +kernel
theorem dX5_exec_0 : decode cX5_exec 0 = .ok (.iload_n 2, 1) := by decide +kernel
theorem dX5_exec_1 : decode cX5_exec 1 = .ok (.ifCond .lt 12, 3) := by decide +kernel
theorem dX5_exec_4 : decode cX5_exec 4 = .ok (.iload_n 2, 1) := by decide +kernel
theorem dX5_exec_5 : decode cX5_exec 5 = .ok (.aload_n 0, 1) := by decide +kernel
theorem dX5_exec_6 : decode cX5_exec 6 = .ok (.getfield 47, 3) := by decide +kernel
theorem dX5_exec_9 : decode cX5_exec 9 = .ok (.arraylength, 1) := by decide +kernel
theorem dX5_exec_10 : decode cX5_exec 10 = .ok (.if_icmp .lt 7, 3) := by decide +kernel
theorem dX5_exec_13 : decode cX5_exec 13 = .ok (.aconst_null, 1) := by decide +kernel
theorem dX5_exec_14 : decode cX5_exec 14 = .ok (.goto 9, 3) := by decide +kernel
theorem dX5_exec_17 : decode cX5_exec 17 = .ok (.aload_n 0, 1) := by decide +kernel
theorem dX5_exec_18 : decode cX5_exec 18 = .ok (.getfield 47, 3) := by decide +kernel
theorem dX5_exec_21 : decode cX5_exec 21 = .ok (.iload_n 2, 1) := by decide +kernel
theorem dX5_exec_22 : decode cX5_exec 22 = .ok (.aaload, 1) := by decide +kernel
theorem dX5_exec_23 : decode cX5_exec 23 = .ok (.astore_n 3, 1) := by decide +kernel
theorem dX5_exec_24 : decode cX5_exec 24 = .ok (.aload_n 3, 1) := by decide +kernel
theorem dX5_exec_25 : decode cX5_exec 25 = .ok (.ifnonnull 7, 3) := by decide +kernel
theorem dX5_exec_28 : decode cX5_exec 28 = .ok (.ldc2_w 230, 3) := by decide +kernel
theorem dX5_exec_31 : decode cX5_exec 31 = .ok (.lreturn, 1) := by decide +kernel
theorem dX5_exec_32 : decode cX5_exec 32 = .ok (.aload_n 0, 1) := by decide +kernel
theorem dX5_exec_33 : decode cX5_exec 33 = .ok (.getfield 18, 3) := by decide +kernel
theorem dX5_exec_36 : decode cX5_exec 36 = .ok (.invokevirtual 232, 3) := by decide +kernel
theorem dX5_exec_39 : decode cX5_exec 39 = .ok (.aload_n 3, 1) := by decide +kernel
theorem dX5_exec_40 : decode cX5_exec 40 = .ok (.invokestatic 235, 3) := by decide +kernel
theorem dX5_exec_43 : decode cX5_exec 43 = .ok (.if_icmp .ge 7, 3) := by decide +kernel
theorem dX5_exec_46 : decode cX5_exec 46 = .ok (.ldc2_w 228, 3) := by decide +kernel
theorem dX5_exec_49 : decode cX5_exec 49 = .ok (.lreturn, 1) := by decide +kernel
theorem dX5_exec_50 : decode cX5_exec 50 = .ok (.aload_n 0, 1) := by decide +kernel
theorem dX5_exec_51 : decode cX5_exec 51 = .ok (.getfield 18, 3) := by decide +kernel
theorem dX5_exec_54 : decode cX5_exec 54 = .ok (.iload_n 1, 1) := by decide +kernel
theorem dX5_exec_55 : decode cX5_exec 55 = .ok (.invokevirtual 239, 3) := by decide +kernel
theorem dX5_exec_58 : decode cX5_exec 58 = .ok (.aload_n 0, 1) := by decide +kernel
theorem dX5_exec_59 : decode cX5_exec 59 = .ok (.getfield 18, 3) := by decide +kernel
theorem dX5_exec_62 : decode cX5_exec 62 = .ok (.iload_n 1, 1) := by decide +kernel
theorem dX5_exec_63 : decode cX5_exec 63 = .ok (.aload_n 3, 1) := by decide +kernel
theorem dX5_exec_64 : decode cX5_exec 64 = .ok (.invokevirtual 242, 3) := by decide +kernel
theorem dX5_exec_67 : decode cX5_exec 67 = .ok (.ldc2_w 159, 3) := by decide +kernel
theorem dX5_exec_70 : decode cX5_exec 70 = .ok (.lreturn, 1) := by decide +kernel
theorem dX11_startWithout_0 : decode cX11_startWithout 0 = .ok (.aload_n 0, 1) := by decide +kernel
theorem dX11_startWithout_1 : decode cX11_startWithout 1 = .ok (.getfield 20, 3) := by decide +kernel
theorem dX11_startWithout_4 : decode cX11_startWithout 4 = .ok (.invokevirtual 55, 3) := by decide +kernel
theorem dX11_startWithout_7 : decode cX11_startWithout 7 = .ok (.aload_n 0, 1) := by decide +kernel
theorem dX11_startWithout_8 : decode cX11_startWithout 8 = .ok (.aload_n 1, 1) := by decide +kernel
theorem dX11_startWithout_9 : decode cX11_startWithout 9 = .ok (.iload_n 2, 1) := by decide +kernel
theorem dX11_startWithout_10 : decode cX11_startWithout 10 = .ok (.invokevirtual 58, 3) := by decide +kernel
theorem dX11_startWithout_13 : decode cX11_startWithout 13 = .ok (.return_, 1) := by decide +kernel
theorem dX11_startWith_0 : decode cX11_startWith 0 = .ok (.aload_n 0, 1) := by decide +kernel
theorem dX11_startWith_1 : decode cX11_startWith 1 = .ok (.getfield 20, 3) := by decide +kernel
theorem dX11_startWith_4 : decode cX11_startWith 4 = .ok (.astore_n 3, 1) := by decide +kernel
theorem dX11_startWith_5 : decode cX11_startWith 5 = .ok (.aload_n 0, 1) := by decide +kernel
theorem dX11_startWith_6 : decode cX11_startWith 6 = .ok (.aload_n 0, 1) := by decide +kernel
theorem dX11_startWith_7 : decode cX11_startWith 7 = .ok (.getfield 24, 3) := by decide +kernel
theorem dX11_startWith_10 : decode cX11_startWith 10 = .ok (.putfield 20, 3) := by decide +kernel
theorem dX11_startWith_13 : decode cX11_startWith 13 = .ok (.aload_n 0, 1) := by decide +kernel
theorem dX11_startWith_14 : decode cX11_startWith 14 = .ok (.aload_n 3, 1) := by decide +kernel
theorem dX11_startWith_15 : decode cX11_startWith 15 = .ok (.putfield 24, 3) := by decide +kernel
theorem dX11_startWith_18 : decode cX11_startWith 18 = .ok (.aload_n 0, 1) := by decide +kernel
theorem dX11_startWith_19 : decode cX11_startWith 19 = .ok (.aload_n 1, 1) := by decide +kernel
theorem dX11_startWith_20 : decode cX11_startWith 20 = .ok (.iload_n 2, 1) := by decide +kernel
theorem dX11_startWith_21 : decode cX11_startWith 21 = .ok (.invokevirtual 58, 3) := by decide +kernel
theorem dX11_startWith_24 : decode cX11_startWith 24 = .ok (.aload_n 0, 1) := by decide +kernel
theorem dX11_startWith_25 : decode cX11_startWith 25 = .ok (.invokevirtual 62, 3) := by decide +kernel
theorem dX11_startWith_28 : decode cX11_startWith 28 = .ok (.return_, 1) := by decide +kernel
theorem dX11_start_0 : decode cX11_start 0 = .ok (.iconst 0, 1) := by decide +kernel
theorem dX11_start_1 : decode cX11_start 1 = .ok (.istore_n 3, 1) := by decide +kernel
theorem dX11_start_2 : decode cX11_start 2 = .ok (.iload_n 3, 1) := by decide +kernel
theorem dX11_start_3 : decode cX11_start 3 = .ok (.aload_n 0, 1) := by decide +kernel
theorem dX11_start_4 : decode cX11_start 4 = .ok (.getfield 11, 3) := by decide +kernel
theorem dX11_start_7 : decode cX11_start 7 = .ok (.arraylength, 1) := by decide +kernel
theorem dX11_start_8 : decode cX11_start 8 = .ok (.if_icmp .ge 18, 3) := by decide +kernel
theorem dX11_start_11 : decode cX11_start 11 = .ok (.aload_n 0, 1) := by decide +kernel
theorem dX11_start_12 : decode cX11_start 12 = .ok (.getfield 11, 3) := by decide +kernel
theorem dX11_start_15 : decode cX11_start 15 = .ok (.iload_n 3, 1) := by decide +kernel
theorem dX11_start_16 : decode cX11_start 16 = .ok (.aload_n 1, 1) := by decide +kernel
theorem dX11_start_17 : decode cX11_start 17 = .ok (.iload_n 3, 1) := by decide +kernel
theorem dX11_start_18 : decode cX11_start 18 = .ok (.aaload, 1) := by decide +kernel
theorem dX11_start_19 : decode cX11_start 19 = .ok (.aastore, 1) := by decide +kernel
theorem dX11_start_20 : decode cX11_start 20 = .ok (.iinc 3 1, 3) := by decide +kernel
theorem dX11_start_23 : decode cX11_start 23 = .ok (.goto (-21), 3) := by decide +kernel
theorem dX11_start_26 : decode cX11_start 26 = .ok (.aload_n 0, 1) := by decide +kernel
theorem dX11_start_27 : decode cX11_start 27 = .ok (.getfield 30, 3) := by decide +kernel
theorem dX11_start_30 : decode cX11_start 30 = .ok (.aload_n 0, 1) := by decide +kernel
theorem dX11_start_31 : decode cX11_start 31 = .ok (.getfield 11, 3) := by decide +kernel
theorem dX11_start_34 : decode cX11_start 34 = .ok (.iload_n 2, 1) := by decide +kernel
theorem dX11_start_35 : decode cX11_start 35 = .ok (.aaload, 1) := by decide +kernel
theorem dX11_start_36 : decode cX11_start 36 = .ok (.invokevirtual 65, 3) := by decide +kernel
theorem dX11_start_39 : decode cX11_start 39 = .ok (.aload_n 0, 1) := by decide +kernel
theorem dX11_start_40 : decode cX11_start 40 = .ok (.iconst 1, 1) := by decide +kernel
theorem dX11_start_41 : decode cX11_start 41 = .ok (.putfield 68, 3) := by decide +kernel
theorem dX11_start_44 : decode cX11_start 44 = .ok (.aload_n 0, 1) := by decide +kernel
theorem dX11_start_45 : decode cX11_start 45 = .ok (.iconst 0, 1) := by decide +kernel
theorem dX11_start_46 : decode cX11_start 46 = .ok (.putfield 72, 3) := by decide +kernel
theorem dX11_start_49 : decode cX11_start 49 = .ok (.aload_n 0, 1) := by decide +kernel
theorem dX11_start_50 : decode cX11_start 50 = .ok (.iconst 0, 1) := by decide +kernel
theorem dX11_start_51 : decode cX11_start 51 = .ok (.putfield 76, 3) := by decide +kernel
theorem dX11_start_54 : decode cX11_start 54 = .ok (.aload_n 0, 1) := by decide +kernel
theorem dX11_start_55 : decode cX11_start 55 = .ok (.iconst 0, 1) := by decide +kernel
theorem dX11_start_56 : decode cX11_start 56 = .ok (.putfield 79, 3) := by decide +kernel
theorem dX11_start_59 : decode cX11_start 59 = .ok (.aload_n 0, 1) := by decide +kernel
theorem dX11_start_60 : decode cX11_start 60 = .ok (.iconst 0, 1) := by decide +kernel
theorem dX11_start_61 : decode cX11_start 61 = .ok (.putfield 82, 3) := by decide +kernel
theorem dX11_start_64 : decode cX11_start 64 = .ok (.aload_n 0, 1) := by decide +kernel
theorem dX11_start_65 : decode cX11_start 65 = .ok (.iconst 0, 1) := by decide +kernel
theorem dX11_start_66 : decode cX11_start 66 = .ok (.putfield 85, 3) := by decide +kernel
theorem dX11_start_69 : decode cX11_start 69 = .ok (.aload_n 0, 1) := by decide +kernel
theorem dX11_start_70 : decode cX11_start 70 = .ok (.sipush 256, 3) := by decide +kernel
theorem dX11_start_73 : decode cX11_start 73 = .ok (.putfield 88, 3) := by decide +kernel
theorem dX11_start_76 : decode cX11_start 76 = .ok (.aload_n 0, 1) := by decide +kernel
theorem dX11_start_77 : decode cX11_start 77 = .ok (.invokevirtual 91, 3) := by decide +kernel
theorem dX11_start_80 : decode cX11_start 80 = .ok (.return_, 1) := by decide +kernel
theorem dX11_keepCopy_0 : decode cX11_keepCopy 0 = .ok (.aload_n 0, 1) := by decide +kernel
theorem dX11_keepCopy_1 : decode cX11_keepCopy 1 = .ok (.getfield 85, 3) := by decide +kernel
theorem dX11_keepCopy_4 : decode cX11_keepCopy 4 = .ok (.bipush 8, 2) := by decide +kernel
theorem dX11_keepCopy_6 : decode cX11_keepCopy 6 = .ok (.if_icmp .ge 42, 3) := by decide +kernel
theorem dX11_keepCopy_9 : decode cX11_keepCopy 9 = .ok (.aload_n 0, 1) := by decide +kernel
theorem dX11_keepCopy_10 : decode cX11_keepCopy 10 = .ok (.getfield 48, 3) := by decide +kernel
theorem dX11_keepCopy_13 : decode cX11_keepCopy 13 = .ok (.aload_n 0, 1) := by decide +kernel
theorem dX11_keepCopy_14 : decode cX11_keepCopy 14 = .ok (.getfield 85, 3) := by decide +kernel
theorem dX11_keepCopy_17 : decode cX11_keepCopy 17 = .ok (.aaload, 1) := by decide +kernel
theorem dX11_keepCopy_18 : decode cX11_keepCopy 18 = .ok (.aload_n 0, 1) := by decide +kernel
theorem dX11_keepCopy_19 : decode cX11_keepCopy 19 = .ok (.getfield 30, 3) := by decide +kernel
theorem dX11_keepCopy_22 : decode cX11_keepCopy 22 = .ok (.invokevirtual 94, 3) := by decide +kernel
theorem dX11_keepCopy_25 : decode cX11_keepCopy 25 = .ok (.aload_n 0, 1) := by decide +kernel
theorem dX11_keepCopy_26 : decode cX11_keepCopy 26 = .ok (.getfield 52, 3) := by decide +kernel
theorem dX11_keepCopy_29 : decode cX11_keepCopy 29 = .ok (.aload_n 0, 1) := by decide +kernel
theorem dX11_keepCopy_30 : decode cX11_keepCopy 30 = .ok (.getfield 85, 3) := by decide +kernel
theorem dX11_keepCopy_33 : decode cX11_keepCopy 33 = .ok (.aload_n 0, 1) := by decide +kernel
theorem dX11_keepCopy_34 : decode cX11_keepCopy 34 = .ok (.getfield 72, 3) := by decide +kernel
theorem dX11_keepCopy_37 : decode cX11_keepCopy 37 = .ok (.iastore, 1) := by decide +kernel
theorem dX11_keepCopy_38 : decode cX11_keepCopy 38 = .ok (.aload_n 0, 1) := by decide +kernel
theorem dX11_keepCopy_39 : decode cX11_keepCopy 39 = .ok (.dup, 1) := by decide +kernel
theorem dX11_keepCopy_40 : decode cX11_keepCopy 40 = .ok (.getfield 85, 3) := by decide +kernel
theorem dX11_keepCopy_43 : decode cX11_keepCopy 43 = .ok (.iconst 1, 1) := by decide +kernel
theorem dX11_keepCopy_44 : decode cX11_keepCopy 44 = .ok (.iadd, 1) := by decide +kernel
theorem dX11_keepCopy_45 : decode cX11_keepCopy 45 = .ok (.putfield 85, 3) := by decide +kernel
theorem dX11_keepCopy_48 : decode cX11_keepCopy 48 = .ok (.return_, 1) := by decide +kernel
theorem dX11_thinOut_0 : decode cX11_thinOut 0 = .ok (.iconst 1, 1) := by decide +kernel
theorem dX11_thinOut_1 : decode cX11_thinOut 1 = .ok (.istore_n 1, 1) := by decide +kernel
theorem dX11_thinOut_2 : decode cX11_thinOut 2 = .ok (.iconst 2, 1) := by decide +kernel
theorem dX11_thinOut_3 : decode cX11_thinOut 3 = .ok (.iload_n 1, 1) := by decide +kernel
theorem dX11_thinOut_4 : decode cX11_thinOut 4 = .ok (.imul, 1) := by decide +kernel
theorem dX11_thinOut_5 : decode cX11_thinOut 5 = .ok (.bipush 8, 2) := by decide +kernel
theorem dX11_thinOut_7 : decode cX11_thinOut 7 = .ok (.if_icmp .ge 53, 3) := by decide +kernel
theorem dX11_thinOut_10 : decode cX11_thinOut 10 = .ok (.aload_n 0, 1) := by decide +kernel
theorem dX11_thinOut_11 : decode cX11_thinOut 11 = .ok (.getfield 48, 3) := by decide +kernel
theorem dX11_thinOut_14 : decode cX11_thinOut 14 = .ok (.iload_n 1, 1) := by decide +kernel
theorem dX11_thinOut_15 : decode cX11_thinOut 15 = .ok (.aaload, 1) := by decide +kernel
theorem dX11_thinOut_16 : decode cX11_thinOut 16 = .ok (.astore_n 2, 1) := by decide +kernel
theorem dX11_thinOut_17 : decode cX11_thinOut 17 = .ok (.aload_n 0, 1) := by decide +kernel
theorem dX11_thinOut_18 : decode cX11_thinOut 18 = .ok (.getfield 48, 3) := by decide +kernel
theorem dX11_thinOut_21 : decode cX11_thinOut 21 = .ok (.iload_n 1, 1) := by decide +kernel
theorem dX11_thinOut_22 : decode cX11_thinOut 22 = .ok (.aload_n 0, 1) := by decide +kernel
theorem dX11_thinOut_23 : decode cX11_thinOut 23 = .ok (.getfield 48, 3) := by decide +kernel
theorem dX11_thinOut_26 : decode cX11_thinOut 26 = .ok (.iconst 2, 1) := by decide +kernel
theorem dX11_thinOut_27 : decode cX11_thinOut 27 = .ok (.iload_n 1, 1) := by decide +kernel
theorem dX11_thinOut_28 : decode cX11_thinOut 28 = .ok (.imul, 1) := by decide +kernel
theorem dX11_thinOut_29 : decode cX11_thinOut 29 = .ok (.aaload, 1) := by decide +kernel
theorem dX11_thinOut_30 : decode cX11_thinOut 30 = .ok (.aastore, 1) := by decide +kernel
theorem dX11_thinOut_31 : decode cX11_thinOut 31 = .ok (.aload_n 0, 1) := by decide +kernel
theorem dX11_thinOut_32 : decode cX11_thinOut 32 = .ok (.getfield 48, 3) := by decide +kernel
theorem dX11_thinOut_35 : decode cX11_thinOut 35 = .ok (.iconst 2, 1) := by decide +kernel
theorem dX11_thinOut_36 : decode cX11_thinOut 36 = .ok (.iload_n 1, 1) := by decide +kernel
theorem dX11_thinOut_37 : decode cX11_thinOut 37 = .ok (.imul, 1) := by decide +kernel
theorem dX11_thinOut_38 : decode cX11_thinOut 38 = .ok (.aload_n 2, 1) := by decide +kernel
theorem dX11_thinOut_39 : decode cX11_thinOut 39 = .ok (.aastore, 1) := by decide +kernel
theorem dX11_thinOut_40 : decode cX11_thinOut 40 = .ok (.aload_n 0, 1) := by decide +kernel
theorem dX11_thinOut_41 : decode cX11_thinOut 41 = .ok (.getfield 52, 3) := by decide +kernel
theorem dX11_thinOut_44 : decode cX11_thinOut 44 = .ok (.iload_n 1, 1) := by decide +kernel
theorem dX11_thinOut_45 : decode cX11_thinOut 45 = .ok (.aload_n 0, 1) := by decide +kernel
theorem dX11_thinOut_46 : decode cX11_thinOut 46 = .ok (.getfield 52, 3) := by decide +kernel
theorem dX11_thinOut_49 : decode cX11_thinOut 49 = .ok (.iconst 2, 1) := by decide +kernel
theorem dX11_thinOut_50 : decode cX11_thinOut 50 = .ok (.iload_n 1, 1) := by decide +kernel
theorem dX11_thinOut_51 : decode cX11_thinOut 51 = .ok (.imul, 1) := by decide +kernel
theorem dX11_thinOut_52 : decode cX11_thinOut 52 = .ok (.iaload, 1) := by decide +kernel
theorem dX11_thinOut_53 : decode cX11_thinOut 53 = .ok (.iastore, 1) := by decide +kernel
theorem dX11_thinOut_54 : decode cX11_thinOut 54 = .ok (.iinc 1 1, 3) := by decide +kernel
theorem dX11_thinOut_57 : decode cX11_thinOut 57 = .ok (.goto (-55), 3) := by decide +kernel
theorem dX11_thinOut_60 : decode cX11_thinOut 60 = .ok (.aload_n 0, 1) := by decide +kernel
theorem dX11_thinOut_61 : decode cX11_thinOut 61 = .ok (.iconst 4, 1) := by decide +kernel
theorem dX11_thinOut_62 : decode cX11_thinOut 62 = .ok (.putfield 85, 3) := by decide +kernel
theorem dX11_thinOut_65 : decode cX11_thinOut 65 = .ok (.aload_n 0, 1) := by decide +kernel
theorem dX11_thinOut_66 : decode cX11_thinOut 66 = .ok (.dup, 1) := by decide +kernel
theorem dX11_thinOut_67 : decode cX11_thinOut 67 = .ok (.getfield 88, 3) := by decide +kernel
theorem dX11_thinOut_70 : decode cX11_thinOut 70 = .ok (.iconst 2, 1) := by decide +kernel
theorem dX11_thinOut_71 : decode cX11_thinOut 71 = .ok (.imul, 1) := by decide +kernel
theorem dX11_thinOut_72 : decode cX11_thinOut 72 = .ok (.putfield 88, 3) := by decide +kernel
theorem dX11_thinOut_75 : decode cX11_thinOut 75 = .ok (.return_, 1) := by decide +kernel
theorem dX11_advance_0 : decode cX11_advance 0 = .ok (.aload_n 0, 1) := by decide +kernel
theorem dX11_advance_1 : decode cX11_advance 1 = .ok (.getfield 39, 3) := by decide +kernel
theorem dX11_advance_4 : decode cX11_advance 4 = .ok (.invokevirtual 98, 3) := by decide +kernel
theorem dX11_advance_7 : decode cX11_advance 7 = .ok (.aload_n 0, 1) := by decide +kernel
theorem dX11_advance_8 : decode cX11_advance 8 = .ok (.getfield 72, 3) := by decide +kernel
theorem dX11_advance_11 : decode cX11_advance 11 = .ok (.aload_n 0, 1) := by decide +kernel
theorem dX11_advance_12 : decode cX11_advance 12 = .ok (.getfield 44, 3) := by decide +kernel
theorem dX11_advance_15 : decode cX11_advance 15 = .ok (.arraylength, 1) := by decide +kernel
theorem dX11_advance_16 : decode cX11_advance 16 = .ok (.if_icmp .ge 19, 3) := by decide +kernel
theorem dX11_advance_19 : decode cX11_advance 19 = .ok (.aload_n 0, 1) := by decide +kernel
theorem dX11_advance_20 : decode cX11_advance 20 = .ok (.getfield 44, 3) := by decide +kernel
theorem dX11_advance_23 : decode cX11_advance 23 = .ok (.aload_n 0, 1) := by decide +kernel
theorem dX11_advance_24 : decode cX11_advance 24 = .ok (.getfield 72, 3) := by decide +kernel
theorem dX11_advance_27 : decode cX11_advance 27 = .ok (.aload_n 0, 1) := by decide +kernel
theorem dX11_advance_28 : decode cX11_advance 28 = .ok (.getfield 30, 3) := by decide +kernel
theorem dX11_advance_31 : decode cX11_advance 31 = .ok (.getfield 101, 3) := by decide +kernel
theorem dX11_advance_34 : decode cX11_advance 34 = .ok (.iastore, 1) := by decide +kernel
theorem dX11_advance_35 : decode cX11_advance 35 = .ok (.aload_n 0, 1) := by decide +kernel
theorem dX11_advance_36 : decode cX11_advance 36 = .ok (.dup, 1) := by decide +kernel
theorem dX11_advance_37 : decode cX11_advance 37 = .ok (.getfield 72, 3) := by decide +kernel
theorem dX11_advance_40 : decode cX11_advance 40 = .ok (.iconst 1, 1) := by decide +kernel
theorem dX11_advance_41 : decode cX11_advance 41 = .ok (.iadd, 1) := by decide +kernel
theorem dX11_advance_42 : decode cX11_advance 42 = .ok (.putfield 72, 3) := by decide +kernel
theorem dX11_advance_45 : decode cX11_advance 45 = .ok (.aload_n 0, 1) := by decide +kernel
theorem dX11_advance_46 : decode cX11_advance 46 = .ok (.getfield 72, 3) := by decide +kernel
theorem dX11_advance_49 : decode cX11_advance 49 = .ok (.iconst 1, 1) := by decide +kernel
theorem dX11_advance_50 : decode cX11_advance 50 = .ok (.aload_n 0, 1) := by decide +kernel
theorem dX11_advance_51 : decode cX11_advance 51 = .ok (.getfield 88, 3) := by decide +kernel
theorem dX11_advance_54 : decode cX11_advance 54 = .ok (.invokestatic 104, 3) := by decide +kernel
theorem dX11_advance_57 : decode cX11_advance 57 = .ok (.irem, 1) := by decide +kernel
theorem dX11_advance_58 : decode cX11_advance 58 = .ok (.ifCond .ne 54, 3) := by decide +kernel
theorem dX11_advance_61 : decode cX11_advance 61 = .ok (.aload_n 0, 1) := by decide +kernel
theorem dX11_advance_62 : decode cX11_advance 62 = .ok (.getfield 72, 3) := by decide +kernel
theorem dX11_advance_65 : decode cX11_advance 65 = .ok (.aload_n 0, 1) := by decide +kernel
theorem dX11_advance_66 : decode cX11_advance 66 = .ok (.getfield 52, 3) := by decide +kernel
theorem dX11_advance_69 : decode cX11_advance 69 = .ok (.aload_n 0, 1) := by decide +kernel
theorem dX11_advance_70 : decode cX11_advance 70 = .ok (.getfield 85, 3) := by decide +kernel
theorem dX11_advance_73 : decode cX11_advance 73 = .ok (.iconst 1, 1) := by decide +kernel
theorem dX11_advance_74 : decode cX11_advance 74 = .ok (.isub, 1) := by decide +kernel
theorem dX11_advance_75 : decode cX11_advance 75 = .ok (.iaload, 1) := by decide +kernel
theorem dX11_advance_76 : decode cX11_advance 76 = .ok (.if_icmp .le 36, 3) := by decide +kernel
theorem dX11_advance_79 : decode cX11_advance 79 = .ok (.aload_n 0, 1) := by decide +kernel
theorem dX11_advance_80 : decode cX11_advance 80 = .ok (.getfield 85, 3) := by decide +kernel
theorem dX11_advance_83 : decode cX11_advance 83 = .ok (.bipush 8, 2) := by decide +kernel
theorem dX11_advance_85 : decode cX11_advance 85 = .ok (.if_icmp .ne 7, 3) := by decide +kernel
theorem dX11_advance_88 : decode cX11_advance 88 = .ok (.aload_n 0, 1) := by decide +kernel
theorem dX11_advance_89 : decode cX11_advance 89 = .ok (.invokevirtual 110, 3) := by decide +kernel
theorem dX11_advance_92 : decode cX11_advance 92 = .ok (.aload_n 0, 1) := by decide +kernel
theorem dX11_advance_93 : decode cX11_advance 93 = .ok (.getfield 72, 3) := by decide +kernel
theorem dX11_advance_96 : decode cX11_advance 96 = .ok (.iconst 1, 1) := by decide +kernel
theorem dX11_advance_97 : decode cX11_advance 97 = .ok (.aload_n 0, 1) := by decide +kernel
theorem dX11_advance_98 : decode cX11_advance 98 = .ok (.getfield 88, 3) := by decide +kernel
theorem dX11_advance_101 : decode cX11_advance 101 = .ok (.invokestatic 104, 3) := by decide +kernel
theorem dX11_advance_104 : decode cX11_advance 104 = .ok (.irem, 1) := by decide +kernel
theorem dX11_advance_105 : decode cX11_advance 105 = .ok (.ifCond .ne 7, 3) := by decide +kernel
theorem dX11_advance_108 : decode cX11_advance 108 = .ok (.aload_n 0, 1) := by decide +kernel
theorem dX11_advance_109 : decode cX11_advance 109 = .ok (.invokevirtual 91, 3) := by decide +kernel
theorem dX11_advance_112 : decode cX11_advance 112 = .ok (.aload_n 0, 1) := by decide +kernel
theorem dX11_advance_113 : decode cX11_advance 113 = .ok (.invokevirtual 113, 3) := by decide +kernel
theorem dX11_advance_116 : decode cX11_advance 116 = .ok (.aload_n 0, 1) := by decide +kernel
theorem dX11_advance_117 : decode cX11_advance 117 = .ok (.getfield 72, 3) := by decide +kernel
theorem dX11_advance_120 : decode cX11_advance 120 = .ok (.aload_n 0, 1) := by decide +kernel
theorem dX11_advance_121 : decode cX11_advance 121 = .ok (.getfield 76, 3) := by decide +kernel
theorem dX11_advance_124 : decode cX11_advance 124 = .ok (.if_icmp .le 15, 3) := by decide +kernel
theorem dX11_advance_127 : decode cX11_advance 127 = .ok (.aload_n 0, 1) := by decide +kernel
theorem dX11_advance_128 : decode cX11_advance 128 = .ok (.aload_n 0, 1) := by decide +kernel
theorem dX11_advance_129 : decode cX11_advance 129 = .ok (.getfield 72, 3) := by decide +kernel
theorem dX11_advance_132 : decode cX11_advance 132 = .ok (.putfield 76, 3) := by decide +kernel
theorem dX11_advance_135 : decode cX11_advance 135 = .ok (.aload_n 0, 1) := by decide +kernel
theorem dX11_advance_136 : decode cX11_advance 136 = .ok (.invokevirtual 62, 3) := by decide +kernel
theorem dX11_advance_139 : decode cX11_advance 139 = .ok (.return_, 1) := by decide +kernel
theorem dX11_takeRecorded_0 : decode cX11_takeRecorded 0 = .ok (.aload_n 0, 1) := by decide +kernel
theorem dX11_takeRecorded_1 : decode cX11_takeRecorded 1 = .ok (.getfield 79, 3) := by decide +kernel
theorem dX11_takeRecorded_4 : decode cX11_takeRecorded 4 = .ok (.aload_n 0, 1) := by decide +kernel
theorem dX11_takeRecorded_5 : decode cX11_takeRecorded 5 = .ok (.getfield 20, 3) := by decide +kernel
theorem dX11_takeRecorded_8 : decode cX11_takeRecorded 8 = .ok (.getfield 116, 3) := by decide +kernel
theorem dX11_takeRecorded_11 : decode cX11_takeRecorded 11 = .ok (.if_icmp .ge 78, 3) := by decide +kernel
theorem dX11_takeRecorded_14 : decode cX11_takeRecorded 14 = .ok (.aload_n 0, 1) := by decide +kernel
theorem dX11_takeRecorded_15 : decode cX11_takeRecorded 15 = .ok (.getfield 20, 3) := by decide +kernel
theorem dX11_takeRecorded_18 : decode cX11_takeRecorded 18 = .ok (.aload_n 0, 1) := by decide +kernel
theorem dX11_takeRecorded_19 : decode cX11_takeRecorded 19 = .ok (.getfield 79, 3) := by decide +kernel
theorem dX11_takeRecorded_22 : decode cX11_takeRecorded 22 = .ok (.aload_n 0, 1) := by decide +kernel
theorem dX11_takeRecorded_23 : decode cX11_takeRecorded 23 = .ok (.getfield 72, 3) := by decide +kernel
theorem dX11_takeRecorded_26 : decode cX11_takeRecorded 26 = .ok (.invokevirtual 119, 3) := by decide +kernel
theorem dX11_takeRecorded_29 : decode cX11_takeRecorded 29 = .ok (.ifCond .eq 60, 3) := by decide +kernel
theorem dX11_takeRecorded_32 : decode cX11_takeRecorded 32 = .ok (.aload_n 0, 1) := by decide +kernel
theorem dX11_takeRecorded_33 : decode cX11_takeRecorded 33 = .ok (.getfield 39, 3) := by decide +kernel
theorem dX11_takeRecorded_36 : decode cX11_takeRecorded 36 = .ok (.aload_n 0, 1) := by decide +kernel
theorem dX11_takeRecorded_37 : decode cX11_takeRecorded 37 = .ok (.getfield 20, 3) := by decide +kernel
theorem dX11_takeRecorded_40 : decode cX11_takeRecorded 40 = .ok (.getfield 123, 3) := by decide +kernel
theorem dX11_takeRecorded_43 : decode cX11_takeRecorded 43 = .ok (.aload_n 0, 1) := by decide +kernel
theorem dX11_takeRecorded_44 : decode cX11_takeRecorded 44 = .ok (.getfield 79, 3) := by decide +kernel
theorem dX11_takeRecorded_47 : decode cX11_takeRecorded 47 = .ok (.iaload, 1) := by decide +kernel
theorem dX11_takeRecorded_48 : decode cX11_takeRecorded 48 = .ok (.aload_n 0, 1) := by decide +kernel
theorem dX11_takeRecorded_49 : decode cX11_takeRecorded 49 = .ok (.getfield 20, 3) := by decide +kernel
theorem dX11_takeRecorded_52 : decode cX11_takeRecorded 52 = .ok (.getfield 126, 3) := by decide +kernel
theorem dX11_takeRecorded_55 : decode cX11_takeRecorded 55 = .ok (.aload_n 0, 1) := by decide +kernel
theorem dX11_takeRecorded_56 : decode cX11_takeRecorded 56 = .ok (.getfield 79, 3) := by decide +kernel
theorem dX11_takeRecorded_59 : decode cX11_takeRecorded 59 = .ok (.laload, 1) := by decide +kernel
theorem dX11_takeRecorded_60 : decode cX11_takeRecorded 60 = .ok (.aload_n 0, 1) := by decide +kernel
theorem dX11_takeRecorded_61 : decode cX11_takeRecorded 61 = .ok (.getfield 20, 3) := by decide +kernel
theorem dX11_takeRecorded_64 : decode cX11_takeRecorded 64 = .ok (.getfield 130, 3) := by decide +kernel
theorem dX11_takeRecorded_67 : decode cX11_takeRecorded 67 = .ok (.aload_n 0, 1) := by decide +kernel
theorem dX11_takeRecorded_68 : decode cX11_takeRecorded 68 = .ok (.getfield 79, 3) := by decide +kernel
theorem dX11_takeRecorded_71 : decode cX11_takeRecorded 71 = .ok (.iaload, 1) := by decide +kernel
theorem dX11_takeRecorded_72 : decode cX11_takeRecorded 72 = .ok (.invokevirtual 133, 3) := by decide +kernel
theorem dX11_takeRecorded_75 : decode cX11_takeRecorded 75 = .ok (.pop, 1) := by decide +kernel
theorem dX11_takeRecorded_76 : decode cX11_takeRecorded 76 = .ok (.aload_n 0, 1) := by decide +kernel
theorem dX11_takeRecorded_77 : decode cX11_takeRecorded 77 = .ok (.dup, 1) := by decide +kernel
theorem dX11_takeRecorded_78 : decode cX11_takeRecorded 78 = .ok (.getfield 79, 3) := by decide +kernel
theorem dX11_takeRecorded_81 : decode cX11_takeRecorded 81 = .ok (.iconst 1, 1) := by decide +kernel
theorem dX11_takeRecorded_82 : decode cX11_takeRecorded 82 = .ok (.iadd, 1) := by decide +kernel
theorem dX11_takeRecorded_83 : decode cX11_takeRecorded 83 = .ok (.putfield 79, 3) := by decide +kernel
theorem dX11_takeRecorded_86 : decode cX11_takeRecorded 86 = .ok (.goto (-86), 3) := by decide +kernel
theorem dX11_takeRecorded_89 : decode cX11_takeRecorded 89 = .ok (.return_, 1) := by decide +kernel
theorem dX11_takeScheduled_0 : decode cX11_takeScheduled 0 = .ok (.aload_n 0, 1) := by decide +kernel
theorem dX11_takeScheduled_1 : decode cX11_takeScheduled 1 = .ok (.getfield 20, 3) := by decide +kernel
theorem dX11_takeScheduled_4 : decode cX11_takeScheduled 4 = .ok (.getfield 116, 3) := by decide +kernel
theorem dX11_takeScheduled_7 : decode cX11_takeScheduled 7 = .ok (.aload_n 0, 1) := by decide +kernel
theorem dX11_takeScheduled_8 : decode cX11_takeScheduled 8 = .ok (.getfield 20, 3) := by decide +kernel
theorem dX11_takeScheduled_11 : decode cX11_takeScheduled 11 = .ok (.getfield 137, 3) := by decide +kernel
theorem dX11_takeScheduled_14 : decode cX11_takeScheduled 14 = .ok (.if_icmp .ge 117, 3) := by decide +kernel
theorem dX11_takeScheduled_17 : decode cX11_takeScheduled 17 = .ok (.aload_n 0, 1) := by decide +kernel
theorem dX11_takeScheduled_18 : decode cX11_takeScheduled 18 = .ok (.getfield 20, 3) := by decide +kernel
theorem dX11_takeScheduled_21 : decode cX11_takeScheduled 21 = .ok (.aload_n 0, 1) := by decide +kernel
theorem dX11_takeScheduled_22 : decode cX11_takeScheduled 22 = .ok (.getfield 20, 3) := by decide +kernel
theorem dX11_takeScheduled_25 : decode cX11_takeScheduled 25 = .ok (.getfield 116, 3) := by decide +kernel
theorem dX11_takeScheduled_28 : decode cX11_takeScheduled 28 = .ok (.aload_n 0, 1) := by decide +kernel
theorem dX11_takeScheduled_29 : decode cX11_takeScheduled 29 = .ok (.getfield 76, 3) := by decide +kernel
theorem dX11_takeScheduled_32 : decode cX11_takeScheduled 32 = .ok (.invokevirtual 119, 3) := by decide +kernel
theorem dX11_takeScheduled_35 : decode cX11_takeScheduled 35 = .ok (.ifCond .eq 96, 3) := by decide +kernel
theorem dX11_takeScheduled_38 : decode cX11_takeScheduled 38 = .ok (.aload_n 0, 1) := by decide +kernel
theorem dX11_takeScheduled_39 : decode cX11_takeScheduled 39 = .ok (.getfield 20, 3) := by decide +kernel
theorem dX11_takeScheduled_42 : decode cX11_takeScheduled 42 = .ok (.getfield 116, 3) := by decide +kernel
theorem dX11_takeScheduled_45 : decode cX11_takeScheduled 45 = .ok (.istore_n 1, 1) := by decide +kernel
theorem dX11_takeScheduled_46 : decode cX11_takeScheduled 46 = .ok (.aload_n 0, 1) := by decide +kernel
theorem dX11_takeScheduled_47 : decode cX11_takeScheduled 47 = .ok (.getfield 39, 3) := by decide +kernel
theorem dX11_takeScheduled_50 : decode cX11_takeScheduled 50 = .ok (.aload_n 0, 1) := by decide +kernel
theorem dX11_takeScheduled_51 : decode cX11_takeScheduled 51 = .ok (.getfield 20, 3) := by decide +kernel
theorem dX11_takeScheduled_54 : decode cX11_takeScheduled 54 = .ok (.getfield 123, 3) := by decide +kernel
theorem dX11_takeScheduled_57 : decode cX11_takeScheduled 57 = .ok (.iload_n 1, 1) := by decide +kernel
theorem dX11_takeScheduled_58 : decode cX11_takeScheduled 58 = .ok (.iaload, 1) := by decide +kernel
theorem dX11_takeScheduled_59 : decode cX11_takeScheduled 59 = .ok (.aload_n 0, 1) := by decide +kernel
theorem dX11_takeScheduled_60 : decode cX11_takeScheduled 60 = .ok (.getfield 20, 3) := by decide +kernel
theorem dX11_takeScheduled_63 : decode cX11_takeScheduled 63 = .ok (.getfield 126, 3) := by decide +kernel
theorem dX11_takeScheduled_66 : decode cX11_takeScheduled 66 = .ok (.iload_n 1, 1) := by decide +kernel
theorem dX11_takeScheduled_67 : decode cX11_takeScheduled 67 = .ok (.laload, 1) := by decide +kernel
theorem dX11_takeScheduled_68 : decode cX11_takeScheduled 68 = .ok (.aload_n 0, 1) := by decide +kernel
theorem dX11_takeScheduled_69 : decode cX11_takeScheduled 69 = .ok (.getfield 20, 3) := by decide +kernel
theorem dX11_takeScheduled_72 : decode cX11_takeScheduled 72 = .ok (.getfield 130, 3) := by decide +kernel
theorem dX11_takeScheduled_75 : decode cX11_takeScheduled 75 = .ok (.iload_n 1, 1) := by decide +kernel
theorem dX11_takeScheduled_76 : decode cX11_takeScheduled 76 = .ok (.iaload, 1) := by decide +kernel
theorem dX11_takeScheduled_77 : decode cX11_takeScheduled 77 = .ok (.invokevirtual 133, 3) := by decide +kernel
theorem dX11_takeScheduled_80 : decode cX11_takeScheduled 80 = .ok (.ifCond .eq 29, 3) := by decide +kernel
theorem dX11_takeScheduled_83 : decode cX11_takeScheduled 83 = .ok (.aload_n 0, 1) := by decide +kernel
theorem dX11_takeScheduled_84 : decode cX11_takeScheduled 84 = .ok (.getfield 20, 3) := by decide +kernel
theorem dX11_takeScheduled_87 : decode cX11_takeScheduled 87 = .ok (.dup, 1) := by decide +kernel
theorem dX11_takeScheduled_88 : decode cX11_takeScheduled 88 = .ok (.getfield 116, 3) := by decide +kernel
theorem dX11_takeScheduled_91 : decode cX11_takeScheduled 91 = .ok (.iconst 1, 1) := by decide +kernel
theorem dX11_takeScheduled_92 : decode cX11_takeScheduled 92 = .ok (.iadd, 1) := by decide +kernel
theorem dX11_takeScheduled_93 : decode cX11_takeScheduled 93 = .ok (.putfield 116, 3) := by decide +kernel
theorem dX11_takeScheduled_96 : decode cX11_takeScheduled 96 = .ok (.aload_n 0, 1) := by decide +kernel
theorem dX11_takeScheduled_97 : decode cX11_takeScheduled 97 = .ok (.dup, 1) := by decide +kernel
theorem dX11_takeScheduled_98 : decode cX11_takeScheduled 98 = .ok (.getfield 79, 3) := by decide +kernel
theorem dX11_takeScheduled_101 : decode cX11_takeScheduled 101 = .ok (.iconst 1, 1) := by decide +kernel
theorem dX11_takeScheduled_102 : decode cX11_takeScheduled 102 = .ok (.iadd, 1) := by decide +kernel
theorem dX11_takeScheduled_103 : decode cX11_takeScheduled 103 = .ok (.putfield 79, 3) := by decide +kernel
theorem dX11_takeScheduled_106 : decode cX11_takeScheduled 106 = .ok (.goto 22, 3) := by decide +kernel
theorem dX11_takeScheduled_109 : decode cX11_takeScheduled 109 = .ok (.aload_n 0, 1) := by decide +kernel
theorem dX11_takeScheduled_110 : decode cX11_takeScheduled 110 = .ok (.getfield 20, 3) := by decide +kernel
theorem dX11_takeScheduled_113 : decode cX11_takeScheduled 113 = .ok (.aload_n 0, 1) := by decide +kernel
theorem dX11_takeScheduled_114 : decode cX11_takeScheduled 114 = .ok (.getfield 20, 3) := by decide +kernel
theorem dX11_takeScheduled_117 : decode cX11_takeScheduled 117 = .ok (.getfield 116, 3) := by decide +kernel
theorem dX11_takeScheduled_120 : decode cX11_takeScheduled 120 = .ok (.putfield 137, 3) := by decide +kernel
theorem dX11_takeScheduled_123 : decode cX11_takeScheduled 123 = .ok (.aload_n 0, 1) := by decide +kernel
theorem dX11_takeScheduled_124 : decode cX11_takeScheduled 124 = .ok (.iconst 1, 1) := by decide +kernel
theorem dX11_takeScheduled_125 : decode cX11_takeScheduled 125 = .ok (.putfield 82, 3) := by decide +kernel
theorem dX11_takeScheduled_128 : decode cX11_takeScheduled 128 = .ok (.goto (-128), 3) := by decide +kernel
theorem dX11_takeScheduled_131 : decode cX11_takeScheduled 131 = .ok (.return_, 1) := by decide +kernel
theorem dX11_come_0 : decode cX11_come 0 = .ok (.aload_n 0, 1) := by decide +kernel
theorem dX11_come_1 : decode cX11_come 1 = .ok (.getfield 72, 3) := by decide +kernel
theorem dX11_come_4 : decode cX11_come 4 = .ok (.aload_n 0, 1) := by decide +kernel
theorem dX11_come_5 : decode cX11_come 5 = .ok (.getfield 76, 3) := by decide +kernel
theorem dX11_come_8 : decode cX11_come 8 = .ok (.if_icmp .ne 20, 3) := by decide +kernel
theorem dX11_come_11 : decode cX11_come 11 = .ok (.aload_n 0, 1) := by decide +kernel
theorem dX11_come_12 : decode cX11_come 12 = .ok (.getfield 20, 3) := by decide +kernel
theorem dX11_come_15 : decode cX11_come 15 = .ok (.getfield 116, 3) := by decide +kernel
theorem dX11_come_18 : decode cX11_come 18 = .ok (.aload_n 0, 1) := by decide +kernel
theorem dX11_come_19 : decode cX11_come 19 = .ok (.getfield 20, 3) := by decide +kernel
theorem dX11_come_22 : decode cX11_come 22 = .ok (.getfield 137, 3) := by decide +kernel
theorem dX11_come_25 : decode cX11_come 25 = .ok (.if_icmp .ge 5, 3) := by decide +kernel
theorem dX11_come_28 : decode cX11_come 28 = .ok (.iconst 2, 1) := by decide +kernel
theorem dX11_come_29 : decode cX11_come 29 = .ok (.ireturn, 1) := by decide +kernel
theorem dX11_come_30 : decode cX11_come 30 = .ok (.aload_n 0, 1) := by decide +kernel
theorem dX11_come_31 : decode cX11_come 31 = .ok (.getfield 20, 3) := by decide +kernel
theorem dX11_come_34 : decode cX11_come 34 = .ok (.getfield 116, 3) := by decide +kernel
theorem dX11_come_37 : decode cX11_come 37 = .ok (.sipush 2048, 3) := by decide +kernel
theorem dX11_come_40 : decode cX11_come 40 = .ok (.if_icmp .lt 5, 3) := by decide +kernel
theorem dX11_come_43 : decode cX11_come 43 = .ok (.iconst 3, 1) := by decide +kernel
theorem dX11_come_44 : decode cX11_come 44 = .ok (.ireturn, 1) := by decide +kernel
theorem dX11_come_45 : decode cX11_come 45 = .ok (.aload_n 0, 1) := by decide +kernel
theorem dX11_come_46 : decode cX11_come 46 = .ok (.getfield 39, 3) := by decide +kernel
theorem dX11_come_49 : decode cX11_come 49 = .ok (.iload_n 1, 1) := by decide +kernel
theorem dX11_come_50 : decode cX11_come 50 = .ok (.lload_n 2, 1) := by decide +kernel
theorem dX11_come_51 : decode cX11_come 51 = .ok (.iload 4, 2) := by decide +kernel
theorem dX11_come_53 : decode cX11_come 53 = .ok (.invokevirtual 133, 3) := by decide +kernel
theorem dX11_come_56 : decode cX11_come 56 = .ok (.ifCond .ne 5, 3) := by decide +kernel
theorem dX11_come_59 : decode cX11_come 59 = .ok (.iconst 1, 1) := by decide +kernel
theorem dX11_come_60 : decode cX11_come 60 = .ok (.ireturn, 1) := by decide +kernel
theorem dX11_come_61 : decode cX11_come 61 = .ok (.aload_n 0, 1) := by decide +kernel
theorem dX11_come_62 : decode cX11_come 62 = .ok (.getfield 20, 3) := by decide +kernel
theorem dX11_come_65 : decode cX11_come 65 = .ok (.iload_n 1, 1) := by decide +kernel
theorem dX11_come_66 : decode cX11_come 66 = .ok (.aload_n 0, 1) := by decide +kernel
theorem dX11_come_67 : decode cX11_come 67 = .ok (.getfield 72, 3) := by decide +kernel
theorem dX11_come_70 : decode cX11_come 70 = .ok (.i2l, 1) := by decide +kernel
theorem dX11_come_71 : decode cX11_come 71 = .ok (.lload_n 2, 1) := by decide +kernel
theorem dX11_come_72 : decode cX11_come 72 = .ok (.iload 4, 2) := by decide +kernel
theorem dX11_come_74 : decode cX11_come 74 = .ok (.invokevirtual 140, 3) := by decide +kernel
theorem dX11_come_77 : decode cX11_come 77 = .ok (.pop, 1) := by decide +kernel
theorem dX11_come_78 : decode cX11_come 78 = .ok (.aload_n 0, 1) := by decide +kernel
theorem dX11_come_79 : decode cX11_come 79 = .ok (.getfield 20, 3) := by decide +kernel
theorem dX11_come_82 : decode cX11_come 82 = .ok (.aload_n 0, 1) := by decide +kernel
theorem dX11_come_83 : decode cX11_come 83 = .ok (.getfield 20, 3) := by decide +kernel
theorem dX11_come_86 : decode cX11_come 86 = .ok (.getfield 137, 3) := by decide +kernel
theorem dX11_come_89 : decode cX11_come 89 = .ok (.putfield 116, 3) := by decide +kernel
theorem dX11_come_92 : decode cX11_come 92 = .ok (.aload_n 0, 1) := by decide +kernel
theorem dX11_come_93 : decode cX11_come 93 = .ok (.aload_n 0, 1) := by decide +kernel
theorem dX11_come_94 : decode cX11_come 94 = .ok (.getfield 20, 3) := by decide +kernel
theorem dX11_come_97 : decode cX11_come 97 = .ok (.getfield 116, 3) := by decide +kernel
theorem dX11_come_100 : decode cX11_come 100 = .ok (.putfield 79, 3) := by decide +kernel
theorem dX11_come_103 : decode cX11_come 103 = .ok (.iconst 0, 1) := by decide +kernel
theorem dX11_come_104 : decode cX11_come 104 = .ok (.ireturn, 1) := by decide +kernel
theorem dX11_ticks_0 : decode cX11_ticks 0 = .ok (.aload_n 0, 1) := by decide +kernel
theorem dX11_ticks_1 : decode cX11_ticks 1 = .ok (.getfield 82, 3) := by decide +kernel
theorem dX11_ticks_4 : decode cX11_ticks 4 = .ok (.ifCond .eq 15, 3) := by decide +kernel
theorem dX11_ticks_7 : decode cX11_ticks 7 = .ok (.aload_n 0, 1) := by decide +kernel
theorem dX11_ticks_8 : decode cX11_ticks 8 = .ok (.iconst 0, 1) := by decide +kernel
theorem dX11_ticks_9 : decode cX11_ticks 9 = .ok (.putfield 82, 3) := by decide +kernel
theorem dX11_ticks_12 : decode cX11_ticks 12 = .ok (.aload_n 0, 1) := by decide +kernel
theorem dX11_ticks_13 : decode cX11_ticks 13 = .ok (.iconst 5, 1) := by decide +kernel
theorem dX11_ticks_14 : decode cX11_ticks 14 = .ok (.putfield 144, 3) := by decide +kernel
theorem dX11_ticks_17 : decode cX11_ticks 17 = .ok (.iconst 0, 1) := by decide +kernel
theorem dX11_ticks_18 : decode cX11_ticks 18 = .ok (.ireturn, 1) := by decide +kernel
theorem dX11_ticks_19 : decode cX11_ticks 19 = .ok (.iconst 0, 1) := by decide +kernel
theorem dX11_ticks_20 : decode cX11_ticks 20 = .ok (.istore_n 3, 1) := by decide +kernel
theorem dX11_ticks_21 : decode cX11_ticks 21 = .ok (.iload_n 3, 1) := by decide +kernel
theorem dX11_ticks_22 : decode cX11_ticks 22 = .ok (.iload_n 1, 1) := by decide +kernel
theorem dX11_ticks_23 : decode cX11_ticks 23 = .ok (.if_icmp .ge 71, 3) := by decide +kernel
theorem dX11_ticks_26 : decode cX11_ticks 26 = .ok (.aload_n 0, 1) := by decide +kernel
theorem dX11_ticks_27 : decode cX11_ticks 27 = .ok (.aload_n 0, 1) := by decide +kernel
theorem dX11_ticks_28 : decode cX11_ticks 28 = .ok (.invokevirtual 147, 3) := by decide +kernel
theorem dX11_ticks_31 : decode cX11_ticks 31 = .ok (.putfield 144, 3) := by decide +kernel
theorem dX11_ticks_34 : decode cX11_ticks 34 = .ok (.aload_n 0, 1) := by decide +kernel
theorem dX11_ticks_35 : decode cX11_ticks 35 = .ok (.getfield 144, 3) := by decide +kernel
theorem dX11_ticks_38 : decode cX11_ticks 38 = .ok (.ifCond .eq 5, 3) := by decide +kernel
theorem dX11_ticks_41 : decode cX11_ticks 41 = .ok (.iload_n 3, 1) := by decide +kernel
theorem dX11_ticks_42 : decode cX11_ticks 42 = .ok (.ireturn, 1) := by decide +kernel
theorem dX11_ticks_43 : decode cX11_ticks 43 = .ok (.aload_n 0, 1) := by decide +kernel
theorem dX11_ticks_44 : decode cX11_ticks 44 = .ok (.aload_n 2, 1) := by decide +kernel
theorem dX11_ticks_45 : decode cX11_ticks 45 = .ok (.invokevirtual 151, 3) := by decide +kernel
theorem dX11_ticks_48 : decode cX11_ticks 48 = .ok (.aload_n 0, 1) := by decide +kernel
theorem dX11_ticks_49 : decode cX11_ticks 49 = .ok (.invokevirtual 155, 3) := by decide +kernel
theorem dX11_ticks_52 : decode cX11_ticks 52 = .ok (.aload_n 0, 1) := by decide +kernel
theorem dX11_ticks_53 : decode cX11_ticks 53 = .ok (.aload_n 0, 1) := by decide +kernel
theorem dX11_ticks_54 : decode cX11_ticks 54 = .ok (.getfield 82, 3) := by decide +kernel
theorem dX11_ticks_57 : decode cX11_ticks 57 = .ok (.ifCond .eq 7, 3) := by decide +kernel
theorem dX11_ticks_60 : decode cX11_ticks 60 = .ok (.iconst 5, 1) := by decide +kernel
theorem dX11_ticks_61 : decode cX11_ticks 61 = .ok (.goto 8, 3) := by decide +kernel
theorem dX11_ticks_64 : decode cX11_ticks 64 = .ok (.aload_n 0, 1) := by decide +kernel
theorem dX11_ticks_65 : decode cX11_ticks 65 = .ok (.aload_n 2, 1) := by decide +kernel
theorem dX11_ticks_66 : decode cX11_ticks 66 = .ok (.invokevirtual 158, 3) := by decide +kernel
theorem dX11_ticks_69 : decode cX11_ticks 69 = .ok (.putfield 144, 3) := by decide +kernel
theorem dX11_ticks_72 : decode cX11_ticks 72 = .ok (.aload_n 0, 1) := by decide +kernel
theorem dX11_ticks_73 : decode cX11_ticks 73 = .ok (.iconst 0, 1) := by decide +kernel
theorem dX11_ticks_74 : decode cX11_ticks 74 = .ok (.putfield 82, 3) := by decide +kernel
theorem dX11_ticks_77 : decode cX11_ticks 77 = .ok (.aload_n 0, 1) := by decide +kernel
theorem dX11_ticks_78 : decode cX11_ticks 78 = .ok (.getfield 144, 3) := by decide +kernel
theorem dX11_ticks_81 : decode cX11_ticks 81 = .ok (.ifCond .eq 7, 3) := by decide +kernel
theorem dX11_ticks_84 : decode cX11_ticks 84 = .ok (.iload_n 3, 1) := by decide +kernel
theorem dX11_ticks_85 : decode cX11_ticks 85 = .ok (.iconst 1, 1) := by decide +kernel
theorem dX11_ticks_86 : decode cX11_ticks 86 = .ok (.iadd, 1) := by decide +kernel
theorem dX11_ticks_87 : decode cX11_ticks 87 = .ok (.ireturn, 1) := by decide +kernel
theorem dX11_ticks_88 : decode cX11_ticks 88 = .ok (.iinc 3 1, 3) := by decide +kernel
theorem dX11_ticks_91 : decode cX11_ticks 91 = .ok (.goto (-70), 3) := by decide +kernel
theorem dX11_ticks_94 : decode cX11_ticks 94 = .ok (.aload_n 0, 1) := by decide +kernel
theorem dX11_ticks_95 : decode cX11_ticks 95 = .ok (.iconst 0, 1) := by decide +kernel
theorem dX11_ticks_96 : decode cX11_ticks 96 = .ok (.putfield 144, 3) := by decide +kernel
theorem dX11_ticks_99 : decode cX11_ticks 99 = .ok (.iload_n 1, 1) := by decide +kernel
theorem dX11_ticks_100 : decode cX11_ticks 100 = .ok (.ireturn, 1) := by decide +kernel
theorem dX11_stops_0 : decode cX11_stops 0 = .ok (.aload_n 0, 1) := by decide +kernel
theorem dX11_stops_1 : decode cX11_stops 1 = .ok (.getfield 72, 3) := by decide +kernel
theorem dX11_stops_4 : decode cX11_stops 4 = .ok (.ldc 43, 2) := by decide +kernel
theorem dX11_stops_6 : decode cX11_stops 6 = .ok (.if_icmp .lt 5, 3) := by decide +kernel
theorem dX11_stops_9 : decode cX11_stops 9 = .ok (.iconst 4, 1) := by decide +kernel
theorem dX11_stops_10 : decode cX11_stops 10 = .ok (.ireturn, 1) := by decide +kernel
theorem dX11_stops_11 : decode cX11_stops 11 = .ok (.aload_n 0, 1) := by decide +kernel
theorem dX11_stops_12 : decode cX11_stops 12 = .ok (.getfield 30, 3) := by decide +kernel
theorem dX11_stops_15 : decode cX11_stops 15 = .ok (.getfield 162, 3) := by decide +kernel
theorem dX11_stops_18 : decode cX11_stops 18 = .ok (.ifCond .lt 5, 3) := by decide +kernel
theorem dX11_stops_21 : decode cX11_stops 21 = .ok (.iconst 0, 1) := by decide +kernel
theorem dX11_stops_22 : decode cX11_stops 22 = .ok (.ireturn, 1) := by decide +kernel
theorem dX11_stops_23 : decode cX11_stops 23 = .ok (.aload_n 0, 1) := by decide +kernel
theorem dX11_stops_24 : decode cX11_stops 24 = .ok (.getfield 30, 3) := by decide +kernel
theorem dX11_stops_27 : decode cX11_stops 27 = .ok (.getfield 165, 3) := by decide +kernel
theorem dX11_stops_30 : decode cX11_stops 30 = .ok (.ifCond .le 7, 3) := by decide +kernel
theorem dX11_stops_33 : decode cX11_stops 33 = .ok (.iconst 1, 1) := by decide +kernel
theorem dX11_stops_34 : decode cX11_stops 34 = .ok (.goto 4, 3) := by decide +kernel
theorem dX11_stops_37 : decode cX11_stops 37 = .ok (.iconst 2, 1) := by decide +kernel
theorem dX11_stops_38 : decode cX11_stops 38 = .ok (.ireturn, 1) := by decide +kernel
theorem dX11_hit_0 : decode cX11_hit 0 = .ok (.iconst 0, 1) := by decide +kernel
theorem dX11_hit_1 : decode cX11_hit 1 = .ok (.istore_n 2, 1) := by decide +kernel
theorem dX11_hit_2 : decode cX11_hit 2 = .ok (.iload_n 2, 1) := by decide +kernel
theorem dX11_hit_3 : decode cX11_hit 3 = .ok (.aload_n 1, 1) := by decide +kernel
theorem dX11_hit_4 : decode cX11_hit 4 = .ok (.arraylength, 1) := by decide +kernel
theorem dX11_hit_5 : decode cX11_hit 5 = .ok (.if_icmp .ge 41, 3) := by decide +kernel
theorem dX11_hit_8 : decode cX11_hit 8 = .ok (.aload_n 1, 1) := by decide +kernel
theorem dX11_hit_9 : decode cX11_hit 9 = .ok (.iload_n 2, 1) := by decide +kernel
theorem dX11_hit_10 : decode cX11_hit 10 = .ok (.aaload, 1) := by decide +kernel
theorem dX11_hit_11 : decode cX11_hit 11 = .ok (.ifnull 29, 3) := by decide +kernel
theorem dX11_hit_14 : decode cX11_hit 14 = .ok (.aload_n 1, 1) := by decide +kernel
theorem dX11_hit_15 : decode cX11_hit 15 = .ok (.iload_n 2, 1) := by decide +kernel
theorem dX11_hit_16 : decode cX11_hit 16 = .ok (.aaload, 1) := by decide +kernel
theorem dX11_hit_17 : decode cX11_hit 17 = .ok (.aload_n 0, 1) := by decide +kernel
theorem dX11_hit_18 : decode cX11_hit 18 = .ok (.getfield 30, 3) := by decide +kernel
theorem dX11_hit_21 : decode cX11_hit 21 = .ok (.aload_n 0, 1) := by decide +kernel
theorem dX11_hit_22 : decode cX11_hit 22 = .ok (.getfield 72, 3) := by decide +kernel
theorem dX11_hit_25 : decode cX11_hit 25 = .ok (.invokevirtual 168, 3) := by decide +kernel
theorem dX11_hit_28 : decode cX11_hit 28 = .ok (.lconst 0, 1) := by decide +kernel
theorem dX11_hit_29 : decode cX11_hit 29 = .ok (.lcmp, 1) := by decide +kernel
theorem dX11_hit_30 : decode cX11_hit 30 = .ok (.ifCond .eq 10, 3) := by decide +kernel
theorem dX11_hit_33 : decode cX11_hit 33 = .ok (.iconst 3, 1) := by decide +kernel
theorem dX11_hit_34 : decode cX11_hit 34 = .ok (.bipush 8, 2) := by decide +kernel
theorem dX11_hit_36 : decode cX11_hit 36 = .ok (.iload_n 2, 1) := by decide +kernel
theorem dX11_hit_37 : decode cX11_hit 37 = .ok (.imul, 1) := by decide +kernel
theorem dX11_hit_38 : decode cX11_hit 38 = .ok (.iadd, 1) := by decide +kernel
theorem dX11_hit_39 : decode cX11_hit 39 = .ok (.ireturn, 1) := by decide +kernel
theorem dX11_hit_40 : decode cX11_hit 40 = .ok (.iinc 2 1, 3) := by decide +kernel
theorem dX11_hit_43 : decode cX11_hit 43 = .ok (.goto (-41), 3) := by decide +kernel
theorem dX11_hit_46 : decode cX11_hit 46 = .ok (.iconst 0, 1) := by decide +kernel
theorem dX11_hit_47 : decode cX11_hit 47 = .ok (.ireturn, 1) := by decide +kernel
theorem dX11_rememberAll_0 : decode cX11_rememberAll 0 = .ok (.iconst 0, 1) := by decide +kernel
theorem dX11_rememberAll_1 : decode cX11_rememberAll 1 = .ok (.istore_n 2, 1) := by decide +kernel
theorem dX11_rememberAll_2 : decode cX11_rememberAll 2 = .ok (.iload_n 2, 1) := by decide +kernel
theorem dX11_rememberAll_3 : decode cX11_rememberAll 3 = .ok (.aload_n 1, 1) := by decide +kernel
theorem dX11_rememberAll_4 : decode cX11_rememberAll 4 = .ok (.arraylength, 1) := by decide +kernel
theorem dX11_rememberAll_5 : decode cX11_rememberAll 5 = .ok (.if_icmp .ge 29, 3) := by decide +kernel
theorem dX11_rememberAll_8 : decode cX11_rememberAll 8 = .ok (.aload_n 1, 1) := by decide +kernel
theorem dX11_rememberAll_9 : decode cX11_rememberAll 9 = .ok (.iload_n 2, 1) := by decide +kernel
theorem dX11_rememberAll_10 : decode cX11_rememberAll 10 = .ok (.aaload, 1) := by decide +kernel
theorem dX11_rememberAll_11 : decode cX11_rememberAll 11 = .ok (.ifnull 17, 3) := by decide +kernel
theorem dX11_rememberAll_14 : decode cX11_rememberAll 14 = .ok (.aload_n 1, 1) := by decide +kernel
theorem dX11_rememberAll_15 : decode cX11_rememberAll 15 = .ok (.iload_n 2, 1) := by decide +kernel
theorem dX11_rememberAll_16 : decode cX11_rememberAll 16 = .ok (.aaload, 1) := by decide +kernel
theorem dX11_rememberAll_17 : decode cX11_rememberAll 17 = .ok (.aload_n 0, 1) := by decide +kernel
theorem dX11_rememberAll_18 : decode cX11_rememberAll 18 = .ok (.getfield 30, 3) := by decide +kernel
theorem dX11_rememberAll_21 : decode cX11_rememberAll 21 = .ok (.aload_n 0, 1) := by decide +kernel
theorem dX11_rememberAll_22 : decode cX11_rememberAll 22 = .ok (.getfield 72, 3) := by decide +kernel
theorem dX11_rememberAll_25 : decode cX11_rememberAll 25 = .ok (.invokevirtual 174, 3) := by decide +kernel
theorem dX11_rememberAll_28 : decode cX11_rememberAll 28 = .ok (.iinc 2 1, 3) := by decide +kernel
theorem dX11_rememberAll_31 : decode cX11_rememberAll 31 = .ok (.goto (-29), 3) := by decide +kernel
theorem dX11_rememberAll_34 : decode cX11_rememberAll 34 = .ok (.return_, 1) := by decide +kernel
theorem dX11_moveTo_0 : decode cX11_moveTo 0 = .ok (.aload_n 0, 1) := by decide +kernel
theorem dX11_moveTo_1 : decode cX11_moveTo 1 = .ok (.iload_n 1, 1) := by decide +kernel
theorem dX11_moveTo_2 : decode cX11_moveTo 2 = .ok (.invokevirtual 178, 3) := by decide +kernel
theorem dX11_moveTo_5 : decode cX11_moveTo 5 = .ok (.istore_n 2, 1) := by decide +kernel
theorem dX11_moveTo_6 : decode cX11_moveTo 6 = .ok (.iload_n 1, 1) := by decide +kernel
theorem dX11_moveTo_7 : decode cX11_moveTo 7 = .ok (.aload_n 0, 1) := by decide +kernel
theorem dX11_moveTo_8 : decode cX11_moveTo 8 = .ok (.getfield 72, 3) := by decide +kernel
theorem dX11_moveTo_11 : decode cX11_moveTo 11 = .ok (.if_icmp .lt 16, 3) := by decide +kernel
theorem dX11_moveTo_14 : decode cX11_moveTo 14 = .ok (.aload_n 0, 1) := by decide +kernel
theorem dX11_moveTo_15 : decode cX11_moveTo 15 = .ok (.getfield 52, 3) := by decide +kernel
theorem dX11_moveTo_18 : decode cX11_moveTo 18 = .ok (.iload_n 2, 1) := by decide +kernel
theorem dX11_moveTo_19 : decode cX11_moveTo 19 = .ok (.iaload, 1) := by decide +kernel
theorem dX11_moveTo_20 : decode cX11_moveTo 20 = .ok (.aload_n 0, 1) := by decide +kernel
theorem dX11_moveTo_21 : decode cX11_moveTo 21 = .ok (.getfield 72, 3) := by decide +kernel
theorem dX11_moveTo_24 : decode cX11_moveTo 24 = .ok (.if_icmp .le 8, 3) := by decide +kernel
theorem dX11_moveTo_27 : decode cX11_moveTo 27 = .ok (.aload_n 0, 1) := by decide +kernel
theorem dX11_moveTo_28 : decode cX11_moveTo 28 = .ok (.iload_n 2, 1) := by decide +kernel
theorem dX11_moveTo_29 : decode cX11_moveTo 29 = .ok (.invokevirtual 182, 3) := by decide +kernel
theorem dX11_moveTo_32 : decode cX11_moveTo 32 = .ok (.iload_n 1, 1) := by decide +kernel
theorem dX11_moveTo_33 : decode cX11_moveTo 33 = .ok (.aload_n 0, 1) := by decide +kernel
theorem dX11_moveTo_34 : decode cX11_moveTo 34 = .ok (.getfield 72, 3) := by decide +kernel
theorem dX11_moveTo_37 : decode cX11_moveTo 37 = .ok (.isub, 1) := by decide +kernel
theorem dX11_moveTo_38 : decode cX11_moveTo 38 = .ok (.istore_n 3, 1) := by decide +kernel
theorem dX11_moveTo_39 : decode cX11_moveTo 39 = .ok (.iload_n 3, 1) := by decide +kernel
theorem dX11_moveTo_40 : decode cX11_moveTo 40 = .ok (.ifCond .le 13, 3) := by decide +kernel
theorem dX11_moveTo_43 : decode cX11_moveTo 43 = .ok (.aload_n 0, 1) := by decide +kernel
theorem dX11_moveTo_44 : decode cX11_moveTo 44 = .ok (.invokevirtual 155, 3) := by decide +kernel
theorem dX11_moveTo_47 : decode cX11_moveTo 47 = .ok (.iinc 3 (-1), 3) := by decide +kernel
theorem dX11_moveTo_50 : decode cX11_moveTo 50 = .ok (.goto (-11), 3) := by decide +kernel
theorem dX11_moveTo_53 : decode cX11_moveTo 53 = .ok (.return_, 1) := by decide +kernel
theorem dX11_copyUpTo_0 : decode cX11_copyUpTo 0 = .ok (.aload_n 0, 1) := by decide +kernel
theorem dX11_copyUpTo_1 : decode cX11_copyUpTo 1 = .ok (.getfield 85, 3) := by decide +kernel
theorem dX11_copyUpTo_4 : decode cX11_copyUpTo 4 = .ok (.iconst 1, 1) := by decide +kernel
theorem dX11_copyUpTo_5 : decode cX11_copyUpTo 5 = .ok (.isub, 1) := by decide +kernel
theorem dX11_copyUpTo_6 : decode cX11_copyUpTo 6 = .ok (.istore_n 2, 1) := by decide +kernel
theorem dX11_copyUpTo_7 : decode cX11_copyUpTo 7 = .ok (.iload_n 2, 1) := by decide +kernel
theorem dX11_copyUpTo_8 : decode cX11_copyUpTo 8 = .ok (.ifCond .le 19, 3) := by decide +kernel
theorem dX11_copyUpTo_11 : decode cX11_copyUpTo 11 = .ok (.aload_n 0, 1) := by decide +kernel
theorem dX11_copyUpTo_12 : decode cX11_copyUpTo 12 = .ok (.getfield 52, 3) := by decide +kernel
theorem dX11_copyUpTo_15 : decode cX11_copyUpTo 15 = .ok (.iload_n 2, 1) := by decide +kernel
theorem dX11_copyUpTo_16 : decode cX11_copyUpTo 16 = .ok (.iaload, 1) := by decide +kernel
theorem dX11_copyUpTo_17 : decode cX11_copyUpTo 17 = .ok (.iload_n 1, 1) := by decide +kernel
theorem dX11_copyUpTo_18 : decode cX11_copyUpTo 18 = .ok (.if_icmp .le 9, 3) := by decide +kernel
theorem dX11_copyUpTo_21 : decode cX11_copyUpTo 21 = .ok (.iinc 2 (-1), 3) := by decide +kernel
theorem dX11_copyUpTo_24 : decode cX11_copyUpTo 24 = .ok (.goto (-17), 3) := by decide +kernel
theorem dX11_copyUpTo_27 : decode cX11_copyUpTo 27 = .ok (.iconst 0, 1) := by decide +kernel
theorem dX11_copyUpTo_28 : decode cX11_copyUpTo 28 = .ok (.iload_n 2, 1) := by decide +kernel
theorem dX11_copyUpTo_29 : decode cX11_copyUpTo 29 = .ok (.invokestatic 104, 3) := by decide +kernel
theorem dX11_copyUpTo_32 : decode cX11_copyUpTo 32 = .ok (.ireturn, 1) := by decide +kernel
theorem dX11_restore_0 : decode cX11_restore 0 = .ok (.aload_n 0, 1) := by decide +kernel
theorem dX11_restore_1 : decode cX11_restore 1 = .ok (.getfield 30, 3) := by decide +kernel
theorem dX11_restore_4 : decode cX11_restore 4 = .ok (.aload_n 0, 1) := by decide +kernel
theorem dX11_restore_5 : decode cX11_restore 5 = .ok (.getfield 48, 3) := by decide +kernel
theorem dX11_restore_8 : decode cX11_restore 8 = .ok (.iload_n 1, 1) := by decide +kernel
theorem dX11_restore_9 : decode cX11_restore 9 = .ok (.aaload, 1) := by decide +kernel
theorem dX11_restore_10 : decode cX11_restore 10 = .ok (.invokevirtual 94, 3) := by decide +kernel
theorem dX11_restore_13 : decode cX11_restore 13 = .ok (.aload_n 0, 1) := by decide +kernel
theorem dX11_restore_14 : decode cX11_restore 14 = .ok (.aload_n 0, 1) := by decide +kernel
theorem dX11_restore_15 : decode cX11_restore 15 = .ok (.getfield 52, 3) := by decide +kernel
theorem dX11_restore_18 : decode cX11_restore 18 = .ok (.iload_n 1, 1) := by decide +kernel
theorem dX11_restore_19 : decode cX11_restore 19 = .ok (.iaload, 1) := by decide +kernel
theorem dX11_restore_20 : decode cX11_restore 20 = .ok (.putfield 72, 3) := by decide +kernel
theorem dX11_restore_23 : decode cX11_restore 23 = .ok (.aload_n 0, 1) := by decide +kernel
theorem dX11_restore_24 : decode cX11_restore 24 = .ok (.aload_n 0, 1) := by decide +kernel
theorem dX11_restore_25 : decode cX11_restore 25 = .ok (.getfield 20, 3) := by decide +kernel
theorem dX11_restore_28 : decode cX11_restore 28 = .ok (.aload_n 0, 1) := by decide +kernel
theorem dX11_restore_29 : decode cX11_restore 29 = .ok (.getfield 72, 3) := by decide +kernel
theorem dX11_restore_32 : decode cX11_restore 32 = .ok (.invokevirtual 186, 3) := by decide +kernel
theorem dX11_restore_35 : decode cX11_restore 35 = .ok (.putfield 79, 3) := by decide +kernel
theorem dX11_restore_38 : decode cX11_restore 38 = .ok (.aload_n 0, 1) := by decide +kernel
theorem dX11_restore_39 : decode cX11_restore 39 = .ok (.invokevirtual 113, 3) := by decide +kernel
theorem dX11_restore_42 : decode cX11_restore 42 = .ok (.return_, 1) := by decide +kernel
theorem dX11_forgetBehind_0 : decode cX11_forgetBehind 0 = .ok (.aload_n 0, 1) := by decide +kernel
theorem dX11_forgetBehind_1 : decode cX11_forgetBehind 1 = .ok (.getfield 76, 3) := by decide +kernel
theorem dX11_forgetBehind_4 : decode cX11_forgetBehind 4 = .ok (.aload_n 0, 1) := by decide +kernel
theorem dX11_forgetBehind_5 : decode cX11_forgetBehind 5 = .ok (.getfield 72, 3) := by decide +kernel
theorem dX11_forgetBehind_8 : decode cX11_forgetBehind 8 = .ok (.isub, 1) := by decide +kernel
theorem dX11_forgetBehind_9 : decode cX11_forgetBehind 9 = .ok (.istore_n 1, 1) := by decide +kernel
theorem dX11_forgetBehind_10 : decode cX11_forgetBehind 10 = .ok (.aload_n 0, 1) := by decide +kernel
theorem dX11_forgetBehind_11 : decode cX11_forgetBehind 11 = .ok (.aload_n 0, 1) := by decide +kernel
theorem dX11_forgetBehind_12 : decode cX11_forgetBehind 12 = .ok (.getfield 72, 3) := by decide +kernel
theorem dX11_forgetBehind_15 : decode cX11_forgetBehind 15 = .ok (.putfield 76, 3) := by decide +kernel
theorem dX11_forgetBehind_18 : decode cX11_forgetBehind 18 = .ok (.aload_n 0, 1) := by decide +kernel
theorem dX11_forgetBehind_19 : decode cX11_forgetBehind 19 = .ok (.getfield 20, 3) := by decide +kernel
theorem dX11_forgetBehind_22 : decode cX11_forgetBehind 22 = .ok (.aload_n 0, 1) := by decide +kernel
theorem dX11_forgetBehind_23 : decode cX11_forgetBehind 23 = .ok (.getfield 79, 3) := by decide +kernel
theorem dX11_forgetBehind_26 : decode cX11_forgetBehind 26 = .ok (.putfield 116, 3) := by decide +kernel
theorem dX11_forgetBehind_29 : decode cX11_forgetBehind 29 = .ok (.aload_n 0, 1) := by decide +kernel
theorem dX11_forgetBehind_30 : decode cX11_forgetBehind 30 = .ok (.getfield 20, 3) := by decide +kernel
theorem dX11_forgetBehind_33 : decode cX11_forgetBehind 33 = .ok (.aload_n 0, 1) := by decide +kernel
theorem dX11_forgetBehind_34 : decode cX11_forgetBehind 34 = .ok (.getfield 79, 3) := by decide +kernel
theorem dX11_forgetBehind_37 : decode cX11_forgetBehind 37 = .ok (.putfield 137, 3) := by decide +kernel
theorem dX11_forgetBehind_40 : decode cX11_forgetBehind 40 = .ok (.aload_n 0, 1) := by decide +kernel
theorem dX11_forgetBehind_41 : decode cX11_forgetBehind 41 = .ok (.iconst 0, 1) := by decide +kernel
theorem dX11_forgetBehind_42 : decode cX11_forgetBehind 42 = .ok (.putfield 82, 3) := by decide +kernel
theorem dX11_forgetBehind_45 : decode cX11_forgetBehind 45 = .ok (.aload_n 0, 1) := by decide +kernel
theorem dX11_forgetBehind_46 : decode cX11_forgetBehind 46 = .ok (.aload_n 0, 1) := by decide +kernel
theorem dX11_forgetBehind_47 : decode cX11_forgetBehind 47 = .ok (.aload_n 0, 1) := by decide +kernel
