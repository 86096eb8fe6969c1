theorem dX5_tick_0 : decode cX5_tick 0 = .ok (.aload_n 0, 1) := by decide +kernel
theorem dX5_tick_1 : decode cX5_tick 1 = .ok (.getfield 18, 3) := by decide +kernel
theorem dX5_tick_4 : decode cX5_tick 4 = .ok (.getfield 51, 3) := by decide +kernel
theorem dX5_tick_7 : decode cX5_tick 7 = .ok (.istore_n 1, 1) := by decide +kernel
theorem dX5_tick_8 : decode cX5_tick 8 = .ok (.aload_n 0, 1) := by decide +kernel
theorem dX5_tick_9 : decode cX5_tick 9 = .ok (.getfield 18, 3) := by decide +kernel
theorem dX5_tick_12 : decode cX5_tick 12 = .ok (.iconst 0, 1) := by decide +kernel
theorem dX5_tick_13 : decode cX5_tick 13 = .ok (.putfield 55, 3) := by decide +kernel
theorem dX5_tick_16 : decode cX5_tick 16 = .ok (.iload_n 1, 1) := by decide +kernel
theorem dX5_tick_17 : decode cX5_tick 17 = .ok (.ifCond .ge 4, 3) := by decide +kernel
theorem dX5_tick_20 : decode cX5_tick 20 = .ok (.return_, 1) := by decide +kernel
theorem dX5_tick_21 : decode cX5_tick 21 = .ok (.aload_n 0, 1) := by decide +kernel
theorem dX5_tick_22 : decode cX5_tick 22 = .ok (.getfield 18, 3) := by decide +kernel
theorem dX5_tick_25 : decode cX5_tick 25 = .ok (.getfield 58, 3) := by decide +kernel
theorem dX5_tick_28 : decode cX5_tick 28 = .ok (.iload_n 1, 1) := by decide +kernel
theorem dX5_tick_29 : decode cX5_tick 29 = .ok (.if_icmp .eq 19, 3) := by decide +kernel
theorem dX5_tick_32 : decode cX5_tick 32 = .ok (.aload_n 0, 1) := by decide +kernel
theorem dX5_tick_33 : decode cX5_tick 33 = .ok (.getfield 18, 3) := by decide +kernel
theorem dX5_tick_36 : decode cX5_tick 36 = .ok (.iconst (-1), 1) := by decide +kernel
theorem dX5_tick_37 : decode cX5_tick 37 = .ok (.putfield 61, 3) := by decide +kernel
theorem dX5_tick_40 : decode cX5_tick 40 = .ok (.aload_n 0, 1) := by decide +kernel
theorem dX5_tick_41 : decode cX5_tick 41 = .ok (.getfield 18, 3) := by decide +kernel
theorem dX5_tick_44 : decode cX5_tick 44 = .ok (.iload_n 1, 1) := by decide +kernel
theorem dX5_tick_45 : decode cX5_tick 45 = .ok (.putfield 58, 3) := by decide +kernel
theorem dX5_tick_48 : decode cX5_tick 48 = .ok (.aload_n 0, 1) := by decide +kernel
theorem dX5_tick_49 : decode cX5_tick 49 = .ok (.getfield 18, 3) := by decide +kernel
theorem dX5_tick_52 : decode cX5_tick 52 = .ok (.iload_n 1, 1) := by decide +kernel
theorem dX5_tick_53 : decode cX5_tick 53 = .ok (.invokevirtual 64, 3) := by decide +kernel
theorem dX5_tick_56 : decode cX5_tick 56 = .ok (.istore_n 2, 1) := by decide +kernel
theorem dX5_tick_57 : decode cX5_tick 57 = .ok (.iload_n 2, 1) := by decide +kernel
theorem dX5_tick_58 : decode cX5_tick 58 = .ok (.ifCond .eq 32, 3) := by decide +kernel
theorem dX5_tick_61 : decode cX5_tick 61 = .ok (.aload_n 0, 1) := by decide +kernel
theorem dX5_tick_62 : decode cX5_tick 62 = .ok (.getfield 37, 3) := by decide +kernel
theorem dX5_tick_65 : decode cX5_tick 65 = .ok (.iload_n 1, 1) := by decide +kernel
theorem dX5_tick_66 : decode cX5_tick 66 = .ok (.bipush 7, 2) := by decide +kernel
theorem dX5_tick_68 : decode cX5_tick 68 = .ok (.imul, 1) := by decide +kernel
theorem dX5_tick_69 : decode cX5_tick 69 = .ok (.iconst 3, 1) := by decide +kernel
theorem dX5_tick_70 : decode cX5_tick 70 = .ok (.iadd, 1) := by decide +kernel
theorem dX5_tick_71 : decode cX5_tick 71 = .ok (.dup2, 1) := by decide +kernel
theorem dX5_tick_72 : decode cX5_tick 72 = .ok (.iaload, 1) := by decide +kernel
theorem dX5_tick_73 : decode cX5_tick 73 = .ok (.iconst 1, 1) := by decide +kernel
theorem dX5_tick_74 : decode cX5_tick 74 = .ok (.iload_n 2, 1) := by decide +kernel
theorem dX5_tick_75 : decode cX5_tick 75 = .ok (.ishl, 1) := by decide +kernel
theorem dX5_tick_76 : decode cX5_tick 76 = .ok (.iconst (-1), 1) := by decide +kernel
theorem dX5_tick_77 : decode cX5_tick 77 = .ok (.ixor, 1) := by decide +kernel
theorem dX5_tick_78 : decode cX5_tick 78 = .ok (.iand, 1) := by decide +kernel
theorem dX5_tick_79 : decode cX5_tick 79 = .ok (.iastore, 1) := by decide +kernel
theorem dX5_tick_80 : decode cX5_tick 80 = .ok (.aload_n 0, 1) := by decide +kernel
theorem dX5_tick_81 : decode cX5_tick 81 = .ok (.iload_n 1, 1) := by decide +kernel
theorem dX5_tick_82 : decode cX5_tick 82 = .ok (.iload_n 2, 1) := by decide +kernel
theorem dX5_tick_83 : decode cX5_tick 83 = .ok (.iconst 0, 1) := by decide +kernel
theorem dX5_tick_84 : decode cX5_tick 84 = .ok (.invokevirtual 68, 3) := by decide +kernel
theorem dX5_tick_87 : decode cX5_tick 87 = .ok (.goto 57, 3) := by decide +kernel
theorem dX5_tick_90 : decode cX5_tick 90 = .ok (.aload_n 0, 1) := by decide +kernel
theorem dX5_tick_91 : decode cX5_tick 91 = .ok (.getfield 43, 3) := by decide +kernel
theorem dX5_tick_94 : decode cX5_tick 94 = .ok (.iload_n 1, 1) := by decide +kernel
theorem dX5_tick_95 : decode cX5_tick 95 = .ok (.invokevirtual 72, 3) := by decide +kernel
theorem dX5_tick_98 : decode cX5_tick 98 = .ok (.istore_n 3, 1) := by decide +kernel
theorem dX5_tick_99 : decode cX5_tick 99 = .ok (.iload_n 3, 1) := by decide +kernel
theorem dX5_tick_100 : decode cX5_tick 100 = .ok (.iconst (-1), 1) := by decide +kernel
theorem dX5_tick_101 : decode cX5_tick 101 = .ok (.if_icmp .ne 14, 3) := by decide +kernel
theorem dX5_tick_104 : decode cX5_tick 104 = .ok (.aload_n 0, 1) := by decide +kernel
theorem dX5_tick_105 : decode cX5_tick 105 = .ok (.iload_n 1, 1) := by decide +kernel
theorem dX5_tick_106 : decode cX5_tick 106 = .ok (.aload_n 0, 1) := by decide +kernel
theorem dX5_tick_107 : decode cX5_tick 107 = .ok (.iload_n 1, 1) := by decide +kernel
theorem dX5_tick_108 : decode cX5_tick 108 = .ok (.invokevirtual 75, 3) := by decide +kernel
theorem dX5_tick_111 : decode cX5_tick 111 = .ok (.invokevirtual 79, 3) := by decide +kernel
theorem dX5_tick_114 : decode cX5_tick 114 = .ok (.istore_n 3, 1) := by decide +kernel
theorem dX5_tick_115 : decode cX5_tick 115 = .ok (.iload_n 3, 1) := by decide +kernel
theorem dX5_tick_116 : decode cX5_tick 116 = .ok (.ifCond .eq 28, 3) := by decide +kernel
theorem dX5_tick_119 : decode cX5_tick 119 = .ok (.aload_n 0, 1) := by decide +kernel
theorem dX5_tick_120 : decode cX5_tick 120 = .ok (.iload_n 1, 1) := by decide +kernel
theorem dX5_tick_121 : decode cX5_tick 121 = .ok (.iload_n 3, 1) := by decide +kernel
theorem dX5_tick_122 : decode cX5_tick 122 = .ok (.aload_n 0, 1) := by decide +kernel
theorem dX5_tick_123 : decode cX5_tick 123 = .ok (.getfield 37, 3) := by decide +kernel
theorem dX5_tick_126 : decode cX5_tick 126 = .ok (.iload_n 1, 1) := by decide +kernel
theorem dX5_tick_127 : decode cX5_tick 127 = .ok (.bipush 7, 2) := by decide +kernel
theorem dX5_tick_129 : decode cX5_tick 129 = .ok (.imul, 1) := by decide +kernel
theorem dX5_tick_130 : decode cX5_tick 130 = .ok (.iconst 4, 1) := by decide +kernel
theorem dX5_tick_131 : decode cX5_tick 131 = .ok (.iadd, 1) := by decide +kernel
theorem dX5_tick_132 : decode cX5_tick 132 = .ok (.iaload, 1) := by decide +kernel
theorem dX5_tick_133 : decode cX5_tick 133 = .ok (.ifCond .eq 7, 3) := by decide +kernel
theorem dX5_tick_136 : decode cX5_tick 136 = .ok (.iconst 1, 1) := by decide +kernel
theorem dX5_tick_137 : decode cX5_tick 137 = .ok (.goto 4, 3) := by decide +kernel
theorem dX5_tick_140 : decode cX5_tick 140 = .ok (.iconst 0, 1) := by decide +kernel
theorem dX5_tick_141 : decode cX5_tick 141 = .ok (.invokevirtual 68, 3) := by decide +kernel
theorem dX5_tick_144 : decode cX5_tick 144 = .ok (.aload_n 0, 1) := by decide +kernel
theorem dX5_tick_145 : decode cX5_tick 145 = .ok (.invokevirtual 83, 3) := by decide +kernel
theorem dX5_tick_148 : decode cX5_tick 148 = .ok (.return_, 1) := by decide +kernel
theorem dX5_answerOf_0 : decode cX5_answerOf 0 = .ok (.aload_n 0, 1) := by decide +kernel
theorem dX5_answerOf_1 : decode cX5_answerOf 1 = .ok (.iload_n 1, 1) := by decide +kernel
theorem dX5_answerOf_2 : decode cX5_answerOf 2 = .ok (.bipush 10, 2) := by decide +kernel
theorem dX5_answerOf_4 : decode cX5_answerOf 4 = .ok (.invokevirtual 115, 3) := by decide +kernel
theorem dX5_answerOf_7 : decode cX5_answerOf 7 = .ok (.istore_n 2, 1) := by decide +kernel
theorem dX5_answerOf_8 : decode cX5_answerOf 8 = .ok (.aload_n 0, 1) := by decide +kernel
theorem dX5_answerOf_9 : decode cX5_answerOf 9 = .ok (.iload_n 1, 1) := by decide +kernel
theorem dX5_answerOf_10 : decode cX5_answerOf 10 = .ok (.bipush 11, 2) := by decide +kernel
theorem dX5_answerOf_12 : decode cX5_answerOf 12 = .ok (.invokevirtual 115, 3) := by decide +kernel
theorem dX5_answerOf_15 : decode cX5_answerOf 15 = .ok (.istore_n 3, 1) := by decide +kernel
theorem dX5_answerOf_16 : decode cX5_answerOf 16 = .ok (.aload_n 0, 1) := by decide +kernel
theorem dX5_answerOf_17 : decode cX5_answerOf 17 = .ok (.iload_n 1, 1) := by decide +kernel
theorem dX5_answerOf_18 : decode cX5_answerOf 18 = .ok (.bipush 12, 2) := by decide +kernel
theorem dX5_answerOf_20 : decode cX5_answerOf 20 = .ok (.invokevirtual 115, 3) := by decide +kernel
theorem dX5_answerOf_23 : decode cX5_answerOf 23 = .ok (.istore 4, 2) := by decide +kernel
theorem dX5_answerOf_25 : decode cX5_answerOf 25 = .ok (.aload_n 0, 1) := by decide +kernel
theorem dX5_answerOf_26 : decode cX5_answerOf 26 = .ok (.iload_n 1, 1) := by decide +kernel
theorem dX5_answerOf_27 : decode cX5_answerOf 27 = .ok (.bipush 17, 2) := by decide +kernel
theorem dX5_answerOf_29 : decode cX5_answerOf 29 = .ok (.invokevirtual 115, 3) := by decide +kernel
theorem dX5_answerOf_32 : decode cX5_answerOf 32 = .ok (.tableswitch 326 0 21 #[104, 121, 127, 134, 140, 143, 150, 160, 170, 177, 185, 193, 200, 210, 218, 225, 242, 249, 257, 263, 270, 303], 104) := by decide +kernel
theorem dX5_answerOf_136 : decode cX5_answerOf 136 = .ok (.aload_n 0, 1) := by decide +kernel
theorem dX5_answerOf_137 : decode cX5_answerOf 137 = .ok (.getfield 18, 3) := by decide +kernel
theorem dX5_answerOf_140 : decode cX5_answerOf 140 = .ok (.iload_n 1, 1) := by decide +kernel
theorem dX5_answerOf_141 : decode cX5_answerOf 141 = .ok (.iload_n 2, 1) := by decide +kernel
theorem dX5_answerOf_142 : decode cX5_answerOf 142 = .ok (.sipush 255, 3) := by decide +kernel
theorem dX5_answerOf_145 : decode cX5_answerOf 145 = .ok (.iand, 1) := by decide +kernel
theorem dX5_answerOf_146 : decode cX5_answerOf 146 = .ok (.invokevirtual 89, 3) := by decide +kernel
theorem dX5_answerOf_149 : decode cX5_answerOf 149 = .ok (.ldc2_w 159, 3) := by decide +kernel
theorem dX5_answerOf_152 : decode cX5_answerOf 152 = .ok (.lreturn, 1) := by decide +kernel
theorem dX5_answerOf_153 : decode cX5_answerOf 153 = .ok (.aload_n 0, 1) := by decide +kernel
theorem dX5_answerOf_154 : decode cX5_answerOf 154 = .ok (.iload_n 1, 1) := by decide +kernel
theorem dX5_answerOf_155 : decode cX5_answerOf 155 = .ok (.invokevirtual 161, 3) := by decide +kernel
theorem dX5_answerOf_158 : decode cX5_answerOf 158 = .ok (.lreturn, 1) := by decide +kernel
theorem dX5_answerOf_159 : decode cX5_answerOf 159 = .ok (.aload_n 0, 1) := by decide +kernel
theorem dX5_answerOf_160 : decode cX5_answerOf 160 = .ok (.iload_n 1, 1) := by decide +kernel
theorem dX5_answerOf_161 : decode cX5_answerOf 161 = .ok (.iload_n 2, 1) := by decide +kernel
theorem dX5_answerOf_162 : decode cX5_answerOf 162 = .ok (.invokevirtual 164, 3) := by decide +kernel
theorem dX5_answerOf_165 : decode cX5_answerOf 165 = .ok (.lreturn, 1) := by decide +kernel
theorem dX5_answerOf_166 : decode cX5_answerOf 166 = .ok (.aload_n 0, 1) := by decide +kernel
theorem dX5_answerOf_167 : decode cX5_answerOf 167 = .ok (.iload_n 1, 1) := by decide +kernel
theorem dX5_answerOf_168 : decode cX5_answerOf 168 = .ok (.invokevirtual 168, 3) := by decide +kernel
theorem dX5_answerOf_171 : decode cX5_answerOf 171 = .ok (.lreturn, 1) := by decide +kernel
theorem dX5_answerOf_172 : decode cX5_answerOf 172 = .ok (.iload_n 1, 1) := by decide +kernel
theorem dX5_answerOf_173 : decode cX5_answerOf 173 = .ok (.i2l, 1) := by decide +kernel
theorem dX5_answerOf_174 : decode cX5_answerOf 174 = .ok (.lreturn, 1) := by decide +kernel
theorem dX5_answerOf_175 : decode cX5_answerOf 175 = .ok (.aload_n 0, 1) := by decide +kernel
theorem dX5_answerOf_176 : decode cX5_answerOf 176 = .ok (.iload_n 1, 1) := by decide +kernel
theorem dX5_answerOf_177 : decode cX5_answerOf 177 = .ok (.iload_n 2, 1) := by decide +kernel
theorem dX5_answerOf_178 : decode cX5_answerOf 178 = .ok (.invokevirtual 171, 3) := by decide +kernel
theorem dX5_answerOf_181 : decode cX5_answerOf 181 = .ok (.lreturn, 1) := by decide +kernel
theorem dX5_answerOf_182 : decode cX5_answerOf 182 = .ok (.aload_n 0, 1) := by decide +kernel
theorem dX5_answerOf_183 : decode cX5_answerOf 183 = .ok (.iload_n 1, 1) := by decide +kernel
theorem dX5_answerOf_184 : decode cX5_answerOf 184 = .ok (.iload_n 2, 1) := by decide +kernel
theorem dX5_answerOf_185 : decode cX5_answerOf 185 = .ok (.iload_n 3, 1) := by decide +kernel
theorem dX5_answerOf_186 : decode cX5_answerOf 186 = .ok (.iload 4, 2) := by decide +kernel
theorem dX5_answerOf_188 : decode cX5_answerOf 188 = .ok (.invokevirtual 174, 3) := by decide +kernel
theorem dX5_answerOf_191 : decode cX5_answerOf 191 = .ok (.lreturn, 1) := by decide +kernel
theorem dX5_answerOf_192 : decode cX5_answerOf 192 = .ok (.aload_n 0, 1) := by decide +kernel
theorem dX5_answerOf_193 : decode cX5_answerOf 193 = .ok (.iload_n 1, 1) := by decide +kernel
theorem dX5_answerOf_194 : decode cX5_answerOf 194 = .ok (.iload_n 2, 1) := by decide +kernel
theorem dX5_answerOf_195 : decode cX5_answerOf 195 = .ok (.iload_n 3, 1) := by decide +kernel
theorem dX5_answerOf_196 : decode cX5_answerOf 196 = .ok (.iload 4, 2) := by decide +kernel
theorem dX5_answerOf_198 : decode cX5_answerOf 198 = .ok (.invokevirtual 178, 3) := by decide +kernel
theorem dX5_answerOf_201 : decode cX5_answerOf 201 = .ok (.lreturn, 1) := by decide +kernel
theorem dX5_answerOf_202 : decode cX5_answerOf 202 = .ok (.aload_n 0, 1) := by decide +kernel
theorem dX5_answerOf_203 : decode cX5_answerOf 203 = .ok (.iload_n 1, 1) := by decide +kernel
theorem dX5_answerOf_204 : decode cX5_answerOf 204 = .ok (.iload_n 2, 1) := by decide +kernel
theorem dX5_answerOf_205 : decode cX5_answerOf 205 = .ok (.invokevirtual 181, 3) := by decide +kernel
theorem dX5_answerOf_208 : decode cX5_answerOf 208 = .ok (.lreturn, 1) := by decide +kernel
theorem dX5_answerOf_209 : decode cX5_answerOf 209 = .ok (.aload_n 0, 1) := by decide +kernel
theorem dX5_answerOf_210 : decode cX5_answerOf 210 = .ok (.iload_n 1, 1) := by decide +kernel
theorem dX5_answerOf_211 : decode cX5_answerOf 211 = .ok (.iload_n 2, 1) := by decide +kernel
theorem dX5_answerOf_212 : decode cX5_answerOf 212 = .ok (.iload_n 3, 1) := by decide +kernel
theorem dX5_answerOf_213 : decode cX5_answerOf 213 = .ok (.invokevirtual 184, 3) := by decide +kernel
theorem dX5_answerOf_216 : decode cX5_answerOf 216 = .ok (.lreturn, 1) := by decide +kernel
theorem dX5_answerOf_217 : decode cX5_answerOf 217 = .ok (.aload_n 0, 1) := by decide +kernel
theorem dX5_answerOf_218 : decode cX5_answerOf 218 = .ok (.iload_n 1, 1) := by decide +kernel
theorem dX5_answerOf_219 : decode cX5_answerOf 219 = .ok (.iload_n 2, 1) := by decide +kernel
theorem dX5_answerOf_220 : decode cX5_answerOf 220 = .ok (.iload_n 3, 1) := by decide +kernel
theorem dX5_answerOf_221 : decode cX5_answerOf 221 = .ok (.invokevirtual 188, 3) := by decide +kernel
theorem dX5_answerOf_224 : decode cX5_answerOf 224 = .ok (.lreturn, 1) := by decide +kernel
theorem dX5_answerOf_225 : decode cX5_answerOf 225 = .ok (.aload_n 0, 1) := by decide +kernel
theorem dX5_answerOf_226 : decode cX5_answerOf 226 = .ok (.iload_n 1, 1) := by decide +kernel
theorem dX5_answerOf_227 : decode cX5_answerOf 227 = .ok (.iload_n 2, 1) := by decide +kernel
theorem dX5_answerOf_228 : decode cX5_answerOf 228 = .ok (.invokevirtual 191, 3) := by decide +kernel
theorem dX5_answerOf_231 : decode cX5_answerOf 231 = .ok (.lreturn, 1) := by decide +kernel
theorem dX5_answerOf_232 : decode cX5_answerOf 232 = .ok (.aload_n 0, 1) := by decide +kernel
theorem dX5_answerOf_233 : decode cX5_answerOf 233 = .ok (.iload_n 1, 1) := by decide +kernel
theorem dX5_answerOf_234 : decode cX5_answerOf 234 = .ok (.iload_n 2, 1) := by decide +kernel
theorem dX5_answerOf_235 : decode cX5_answerOf 235 = .ok (.iload_n 3, 1) := by decide +kernel
theorem dX5_answerOf_236 : decode cX5_answerOf 236 = .ok (.iload 4, 2) := by decide +kernel
theorem dX5_answerOf_238 : decode cX5_answerOf 238 = .ok (.invokevirtual 194, 3) := by decide +kernel
theorem dX5_answerOf_241 : decode cX5_answerOf 241 = .ok (.lreturn, 1) := by decide +kernel
theorem dX5_answerOf_242 : decode cX5_answerOf 242 = .ok (.aload_n 0, 1) := by decide +kernel
theorem dX5_answerOf_243 : decode cX5_answerOf 243 = .ok (.iload_n 1, 1) := by decide +kernel
theorem dX5_answerOf_244 : decode cX5_answerOf 244 = .ok (.iload_n 2, 1) := by decide +kernel
theorem dX5_answerOf_245 : decode cX5_answerOf 245 = .ok (.iload_n 3, 1) := by decide +kernel
theorem dX5_answerOf_246 : decode cX5_answerOf 246 = .ok (.invokevirtual 197, 3) := by decide +kernel
theorem dX5_answerOf_249 : decode cX5_answerOf 249 = .ok (.lreturn, 1) := by decide +kernel
theorem dX5_answerOf_250 : decode cX5_answerOf 250 = .ok (.aload_n 0, 1) := by decide +kernel
theorem dX5_answerOf_251 : decode cX5_answerOf 251 = .ok (.iload_n 1, 1) := by decide +kernel
theorem dX5_answerOf_252 : decode cX5_answerOf 252 = .ok (.iload_n 2, 1) := by decide +kernel
theorem dX5_answerOf_253 : decode cX5_answerOf 253 = .ok (.invokevirtual 200, 3) := by decide +kernel
theorem dX5_answerOf_256 : decode cX5_answerOf 256 = .ok (.lreturn, 1) := by decide +kernel
theorem dX5_answerOf_257 : decode cX5_answerOf 257 = .ok (.aload_n 0, 1) := by decide +kernel
theorem dX5_answerOf_258 : decode cX5_answerOf 258 = .ok (.getfield 18, 3) := by decide +kernel
theorem dX5_answerOf_261 : decode cX5_answerOf 261 = .ok (.aload_n 0, 1) := by decide +kernel
theorem dX5_answerOf_262 : decode cX5_answerOf 262 = .ok (.getfield 18, 3) := by decide +kernel
theorem dX5_answerOf_265 : decode cX5_answerOf 265 = .ok (.iload_n 1, 1) := by decide +kernel
theorem dX5_answerOf_266 : decode cX5_answerOf 266 = .ok (.invokevirtual 203, 3) := by decide +kernel
theorem dX5_answerOf_269 : decode cX5_answerOf 269 = .ok (.invokevirtual 144, 3) := by decide +kernel
theorem dX5_answerOf_272 : decode cX5_answerOf 272 = .ok (.lconst 0, 1) := by decide +kernel
theorem dX5_answerOf_273 : decode cX5_answerOf 273 = .ok (.lreturn, 1) := by decide +kernel
theorem dX5_answerOf_274 : decode cX5_answerOf 274 = .ok (.aload_n 0, 1) := by decide +kernel
theorem dX5_answerOf_275 : decode cX5_answerOf 275 = .ok (.iload_n 2, 1) := by decide +kernel
theorem dX5_answerOf_276 : decode cX5_answerOf 276 = .ok (.iload_n 3, 1) := by decide +kernel
theorem dX5_answerOf_277 : decode cX5_answerOf 277 = .ok (.invokevirtual 206, 3) := by decide +kernel
theorem dX5_answerOf_280 : decode cX5_answerOf 280 = .ok (.lreturn, 1) := by decide +kernel
theorem dX5_answerOf_281 : decode cX5_answerOf 281 = .ok (.aload_n 0, 1) := by decide +kernel
theorem dX5_answerOf_282 : decode cX5_answerOf 282 = .ok (.iload_n 1, 1) := by decide +kernel
theorem dX5_answerOf_283 : decode cX5_answerOf 283 = .ok (.iload_n 2, 1) := by decide +kernel
theorem dX5_answerOf_284 : decode cX5_answerOf 284 = .ok (.iload_n 3, 1) := by decide +kernel
theorem dX5_answerOf_285 : decode cX5_answerOf 285 = .ok (.invokevirtual 209, 3) := by decide +kernel
theorem dX5_answerOf_288 : decode cX5_answerOf 288 = .ok (.lreturn, 1) := by decide +kernel
theorem dX5_answerOf_289 : decode cX5_answerOf 289 = .ok (.aload_n 0, 1) := by decide +kernel
theorem dX5_answerOf_290 : decode cX5_answerOf 290 = .ok (.iload_n 1, 1) := by decide +kernel
theorem dX5_answerOf_291 : decode cX5_answerOf 291 = .ok (.invokevirtual 212, 3) := by decide +kernel
theorem dX5_answerOf_294 : decode cX5_answerOf 294 = .ok (.lreturn, 1) := by decide +kernel
theorem dX5_answerOf_295 : decode cX5_answerOf 295 = .ok (.aload_n 0, 1) := by decide +kernel
theorem dX5_answerOf_296 : decode cX5_answerOf 296 = .ok (.iload_n 1, 1) := by decide +kernel
theorem dX5_answerOf_297 : decode cX5_answerOf 297 = .ok (.iload_n 2, 1) := by decide +kernel
theorem dX5_answerOf_298 : decode cX5_answerOf 298 = .ok (.invokevirtual 215, 3) := by decide +kernel
theorem dX5_answerOf_301 : decode cX5_answerOf 301 = .ok (.lreturn, 1) := by decide +kernel
theorem dX5_answerOf_302 : decode cX5_answerOf 302 = .ok (.aload_n 0, 1) := by decide +kernel
theorem dX5_answerOf_303 : decode cX5_answerOf 303 = .ok (.getfield 33, 3) := by decide +kernel
theorem dX5_answerOf_306 : decode cX5_answerOf 306 = .ok (.iload_n 1, 1) := by decide +kernel
theorem dX5_answerOf_307 : decode cX5_answerOf 307 = .ok (.bipush 33, 2) := by decide +kernel
theorem dX5_answerOf_309 : decode cX5_answerOf 309 = .ok (.imul, 1) := by decide +kernel
theorem dX5_answerOf_310 : decode cX5_answerOf 310 = .ok (.bipush 11, 2) := by decide +kernel
theorem dX5_answerOf_312 : decode cX5_answerOf 312 = .ok (.iadd, 1) := by decide +kernel
theorem dX5_answerOf_313 : decode cX5_answerOf 313 = .ok (.aload_n 0, 1) := by decide +kernel
theorem dX5_answerOf_314 : decode cX5_answerOf 314 = .ok (.getfield 18, 3) := by decide +kernel
theorem dX5_answerOf_317 : decode cX5_answerOf 317 = .ok (.getfield 133, 3) := by decide +kernel
theorem dX5_answerOf_320 : decode cX5_answerOf 320 = .ok (.bipush 32, 2) := by decide +kernel
theorem dX5_answerOf_322 : decode cX5_answerOf 322 = .ok (.lshr, 1) := by decide +kernel
theorem dX5_answerOf_323 : decode cX5_answerOf 323 = .ok (.l2i, 1) := by decide +kernel
theorem dX5_answerOf_324 : decode cX5_answerOf 324 = .ok (.iastore, 1) := by decide +kernel
theorem dX5_answerOf_325 : decode cX5_answerOf 325 = .ok (.aload_n 0, 1) := by decide +kernel
theorem dX5_answerOf_326 : decode cX5_answerOf 326 = .ok (.getfield 18, 3) := by decide +kernel
theorem dX5_answerOf_329 : decode cX5_answerOf 329 = .ok (.getfield 133, 3) := by decide +kernel
theorem dX5_answerOf_332 : decode cX5_answerOf 332 = .ok (.l2i, 1) := by decide +kernel
theorem dX5_answerOf_333 : decode cX5_answerOf 333 = .ok (.i2l, 1) := by decide +kernel
theorem dX5_answerOf_334 : decode cX5_answerOf 334 = .ok (.lreturn, 1) := by decide +kernel
theorem dX5_answerOf_335 : decode cX5_answerOf 335 = .ok (.aload_n 0, 1) := by decide +kernel
theorem dX5_answerOf_336 : decode cX5_answerOf 336 = .ok (.iload_n 1, 1) := by decide +kernel
theorem dX5_answerOf_337 : decode cX5_answerOf 337 = .ok (.invokevirtual 108, 3) := by decide +kernel
theorem dX5_answerOf_340 : decode cX5_answerOf 340 = .ok (.ifCond .eq 9, 3) := by decide +kernel
theorem dX5_answerOf_343 : decode cX5_answerOf 343 = .ok (.ldc2_w 157, 3) := by decide +kernel
theorem dX5_answerOf_346 : decode cX5_answerOf 346 = .ok (.goto 11, 3) := by decide +kernel
theorem dX5_answerOf_349 : decode cX5_answerOf 349 = .ok (.aload_n 0, 1) := by decide +kernel
theorem dX5_answerOf_350 : decode cX5_answerOf 350 = .ok (.getfield 18, 3) := by decide +kernel
theorem dX5_answerOf_353 : decode cX5_answerOf 353 = .ok (.invokevirtual 217, 3) := by decide +kernel
theorem dX5_answerOf_356 : decode cX5_answerOf 356 = .ok (.i2l, 1) := by decide +kernel
theorem dX5_answerOf_357 : decode cX5_answerOf 357 = .ok (.lreturn, 1) := by decide +kernel
theorem dX5_answerOf_358 : decode cX5_answerOf 358 = .ok (.ldc2_w 221, 3) := by decide +kernel
theorem dX5_answerOf_361 : decode cX5_answerOf 361 = .ok (.lreturn, 1) := by decide +kernel
theorem dX5_exec_0 : decode cX5_exec 0 = .ok (.iload_n 2, 1) := by decide +kernel
theorem dX5_exec_1 : decode cX5_exec 1 = .ok (.ifCond .lt 12, 3) := by decide +kernel
theorem dX5_exec_4 : decode cX5_exec 4 = .ok (.iload_n 2, 1) := by decide +kernel
theorem dX5_exec_5 : decode cX5_exec 5 = .ok (.aload_n 0, 1) := by decide +kernel
theorem dX5_exec_6 : decode cX5_exec 6 = .ok (.getfield 47, 3) := by decide +kernel
theorem dX5_exec_9 : decode cX5_exec 9 = .ok (.arraylength, 1) := by decide +kernel
theorem dX5_exec_10 : decode cX5_exec 10 = .ok (.if_icmp .lt 7, 3) := by decide +kernel
theorem dX5_exec_13 : decode cX5_exec 13 = .ok (.aconst_null, 1) := by decide +kernel
theorem dX5_exec_14 : decode cX5_exec 14 = .ok (.goto 9, 3) := by decide +kernel
theorem dX5_exec_17 : decode cX5_exec 17 = .ok (.aload_n 0, 1) := by decide +kernel
theorem dX5_exec_18 : decode cX5_exec 18 = .ok (.getfield 47, 3) := by decide +kernel
theorem dX5_exec_21 : decode cX5_exec 21 = .ok (.iload_n 2, 1) := by decide +kernel
theorem dX5_exec_22 : decode cX5_exec 22 = .ok (.aaload, 1) := by decide +kernel
theorem dX5_exec_23 : decode cX5_exec 23 = .ok (.astore_n 3, 1) := by decide +kernel
theorem dX5_exec_24 : decode cX5_exec 24 = .ok (.aload_n 3, 1) := by decide +kernel
theorem dX5_exec_25 : decode cX5_exec 25 = .ok (.ifnonnull 7, 3) := by decide +kernel
theorem dX5_exec_28 : decode cX5_exec 28 = .ok (.ldc2_w 230, 3) := by decide +kernel
theorem dX5_exec_31 : decode cX5_exec 31 = .ok (.lreturn, 1) := by decide +kernel
theorem dX5_exec_32 : decode cX5_exec 32 = .ok (.aload_n 0, 1) := by decide +kernel
theorem dX5_exec_33 : decode cX5_exec 33 = .ok (.getfield 18, 3) := by decide +kernel
theorem dX5_exec_36 : decode cX5_exec 36 = .ok (.invokevirtual 232, 3) := by decide +kernel
theorem dX5_exec_39 : decode cX5_exec 39 = .ok (.aload_n 3, 1) := by decide +kernel
theorem dX5_exec_40 : decode cX5_exec 40 = .ok (.invokestatic 235, 3) := by decide +kernel
theorem dX5_exec_43 : decode cX5_exec 43 = .ok (.if_icmp .ge 7, 3) := by decide +kernel
theorem dX5_exec_46 : decode cX5_exec 46 = .ok (.ldc2_w 228, 3) := by decide +kernel
theorem dX5_exec_49 : decode cX5_exec 49 = .ok (.lreturn, 1) := by decide +kernel
theorem dX5_exec_50 : decode cX5_exec 50 = .ok (.aload_n 0, 1) := by decide +kernel
theorem dX5_exec_51 : decode cX5_exec 51 = .ok (.getfield 18, 3) := by decide +kernel
theorem dX5_exec_54 : decode cX5_exec 54 = .ok (.iload_n 1, 1) := by decide +kernel
theorem dX5_exec_55 : decode cX5_exec 55 = .ok (.invokevirtual 239, 3) := by decide +kernel
theorem dX5_exec_58 : decode cX5_exec 58 = .ok (.aload_n 0, 1) := by decide +kernel
theorem dX5_exec_59 : decode cX5_exec 59 = .ok (.getfield 18, 3) := by decide +kernel
theorem dX5_exec_62 : decode cX5_exec 62 = .ok (.iload_n 1, 1) := by decide +kernel
theorem dX5_exec_63 : decode cX5_exec 63 = .ok (.aload_n 3, 1) := by decide +kernel
theorem dX5_exec_64 : decode cX5_exec 64 = .ok (.invokevirtual 242, 3) := by decide +kernel
theorem dX5_exec_67 : decode cX5_exec 67 = .ok (.ldc2_w 159, 3) := by decide +kernel
theorem dX5_exec_70 : decode cX5_exec 70 = .ok (.lreturn, 1) := by decide +kernel
theorem dX11_startWithout_0 : decode cX11_startWithout 0 = .ok (.aload_n 0, 1) := by decide +kernel
theorem dX11_startWithout_1 : decode cX11_startWithout 1 = .ok (.getfield 20, 3) := by decide +kernel
theorem dX11_startWithout_4 : decode cX11_startWithout 4 = .ok (.invokevirtual 55, 3) := by decide +kernel
theorem dX11_startWithout_7 : decode cX11_startWithout 7 = .ok (.aload_n 0, 1) := by decide +kernel
theorem dX11_startWithout_8 : decode cX11_startWithout 8 = .ok (.aload_n 1, 1) := by decide +kernel
theorem dX11_startWithout_9 : decode cX11_startWithout 9 = .ok (.iload_n 2, 1) := by decide +kernel
theorem dX11_startWithout_10 : decode cX11_startWithout 10 = .ok (.invokevirtual 58, 3) := by decide +kernel
theorem dX11_startWithout_13 : decode cX11_startWithout 13 = .ok (.return_, 1) := by decide +kernel
theorem dX11_startWith_0 : decode cX11_startWith 0 = .ok (.aload_n 0, 1) := by decide +kernel
theorem dX11_startWith_1 : decode cX11_startWith 1 = .ok (.getfield 20, 3) := by decide +kernel
theorem dX11_startWith_4 : decode cX11_startWith 4 = .ok (.astore_n 3, 1) := by decide +kernel
theorem dX11_startWith_5 : decode cX11_startWith 5 = .ok (.aload_n 0, 1) := by decide +kernel
theorem dX11_startWith_6 : decode cX11_startWith 6 = .ok (.aload_n 0, 1) := by decide +kernel
theorem dX11_startWith_7 : decode cX11_startWith 7 = .ok (.getfield 24, 3) := by decide +kernel
theorem dX11_startWith_10 : decode cX11_startWith 10 = .ok (.putfield 20, 3) := by decide +kernel
theorem dX11_startWith_13 : decode cX11_startWith 13 = .ok (.aload_n 0, 1) := by decide +kernel
theorem dX11_startWith_14 : decode cX11_startWith 14 = .ok (.aload_n 3, 1) := by decide +kernel
theorem dX11_startWith_15 : decode cX11_startWith 15 = .ok (.putfield 24, 3) := by decide +kernel
theorem dX11_startWith_18 : decode cX11_startWith 18 = .ok (.aload_n 0, 1) := by decide +kernel
theorem dX11_startWith_19 : decode cX11_startWith 19 = .ok (.aload_n 1, 1) := by decide +kernel
theorem dX11_startWith_20 : decode cX11_startWith 20 = .ok (.iload_n 2, 1) := by decide +kernel
theorem dX11_startWith_21 : decode cX11_startWith 21 = .ok (.invokevirtual 58, 3) := by decide +kernel
theorem dX11_startWith_24 : decode cX11_startWith 24 = .ok (.aload_n 0, 1) := by decide +kernel
theorem dX11_startWith_25 : decode cX11_startWith 25 = .ok (.invokevirtual 62, 3) := by decide +kernel
theorem dX11_startWith_28 : decode cX11_startWith 28 = .ok (.return_, 1) := by decide +kernel
theorem dX11_start_0 : decode cX11_start 0 = .ok (.iconst 0, 1) := by decide +kernel
theorem dX11_start_1 : decode cX11_start 1 = .ok (.istore_n 3, 1) := by decide +kernel
theorem dX11_start_2 : decode cX11_start 2 = .ok (.iload_n 3, 1) := by decide +kernel
theorem dX11_start_3 : decode cX11_start 3 = .ok (.aload_n 0, 1) := by decide +kernel
theorem dX11_start_4 : decode cX11_start 4 = .ok (.getfield 11, 3) := by decide +kernel
theorem dX11_start_7 : decode cX11_start 7 = .ok (.arraylength, 1) := by decide +kernel
theorem dX11_start_8 : decode cX11_start 8 = .ok (.if_icmp .ge 18, 3) := by decide +kernel
theorem dX11_start_11 : decode cX11_start 11 = .ok (.aload_n 0, 1) := by decide +kernel
theorem dX11_start_12 : decode cX11_start 12 = .ok (.getfield 11, 3) := by decide +kernel
theorem dX11_start_15 : decode cX11_start 15 = .ok (.iload_n 3, 1) := by decide +kernel
theorem dX11_start_16 : decode cX11_start 16 = .ok (.aload_n 1, 1) := by decide +kernel
theorem dX11_start_17 : decode cX11_start 17 = .ok (.iload_n 3, 1) := by decide +kernel
theorem dX11_start_18 : decode cX11_start 18 = .ok (.aaload, 1) := by decide +kernel
theorem dX11_start_19 : decode cX11_start 19 = .ok (.aastore, 1) := by decide +kernel
theorem dX11_start_20 : decode cX11_start 20 = .ok (.iinc 3 1, 3) := by decide +kernel
theorem dX11_start_23 : decode cX11_start 23 = .ok (.goto (-21), 3) := by decide +kernel
theorem dX11_start_26 : decode cX11_start 26 = .ok (.aload_n 0, 1) := by decide +kernel
theorem dX11_start_27 : decode cX11_start 27 = .ok (.getfield 30, 3) := by decide +kernel
theorem dX11_start_30 : decode cX11_start 30 = .ok (.aload_n 0, 1) := by decide +kernel
theorem dX11_start_31 : decode cX11_start 31 = .ok (.getfield 11, 3) := by decide +kernel
theorem dX11_start_34 : decode cX11_start 34 = .ok (.iload_n 2, 1) := by decide +kernel
theorem dX11_start_35 : decode cX11_start 35 = .ok (.aaload, 1) := by decide +kernel
theorem dX11_start_36 : decode cX11_start 36 = .ok (.invokevirtual 65, 3) := by decide +kernel
theorem dX11_start_39 : decode cX11_start 39 = .ok (.aload_n 0, 1) := by decide +kernel
theorem dX11_start_40 : decode cX11_start 40 = .ok (.iconst 1, 1) := by decide +kernel
theorem dX11_start_41 : decode cX11_start 41 = .ok (.putfield 68, 3) := by decide +kernel
theorem dX11_start_44 : decode cX11_start 44 = .ok (.aload_n 0, 1) := by decide +kernel
theorem dX11_start_45 : decode cX11_start 45 = .ok (.iconst 0, 1) := by decide +kernel
theorem dX11_start_46 : decode cX11_start 46 = .ok (.putfield 72, 3) := by decide +kernel
theorem dX11_start_49 : decode cX11_start 49 = .ok (.aload_n 0, 1) := by decide +kernel
theorem dX11_start_50 : decode cX11_start 50 = .ok (.iconst 0, 1) := by decide +kernel
theorem dX11_start_51 : decode cX11_start 51 = .ok (.putfield 76, 3) := by decide +kernel
theorem dX11_start_54 : decode cX11_start 54 = .ok (.aload_n 0, 1) := by decide +kernel
