theorem dX16_call_22 : decode cX16_call 22 = .ok (.iload_n 1, 1) := by decide +kernel
theorem dX16_call_23 : decode cX16_call 23 = .ok (.aload_n 0, 1) := by decide +kernel
theorem dX16_call_24 : decode cX16_call 24 = .ok (.getfield 42, 3) := by decide +kernel
theorem dX16_call_27 : decode cX16_call 27 = .ok (.bipush 32, 2) := by decide +kernel
theorem dX16_call_29 : decode cX16_call 29 = .ok (.aload_n 0, 1) := by decide +kernel
theorem dX16_call_30 : decode cX16_call 30 = .ok (.getfield 232, 3) := by decide +kernel
theorem dX16_call_33 : decode cX16_call 33 = .ok (.imul, 1) := by decide +kernel
theorem dX16_call_34 : decode cX16_call 34 = .ok (.bipush 10, 2) := by decide +kernel
theorem dX16_call_36 : decode cX16_call 36 = .ok (.iadd, 1) := by decide +kernel
theorem dX16_call_37 : decode cX16_call 37 = .ok (.iaload, 1) := by decide +kernel
theorem dX16_call_38 : decode cX16_call 38 = .ok (.aload_n 0, 1) := by decide +kernel
theorem dX16_call_39 : decode cX16_call 39 = .ok (.getfield 42, 3) := by decide +kernel
theorem dX16_call_42 : decode cX16_call 42 = .ok (.bipush 32, 2) := by decide +kernel
theorem dX16_call_44 : decode cX16_call 44 = .ok (.aload_n 0, 1) := by decide +kernel
theorem dX16_call_45 : decode cX16_call 45 = .ok (.getfield 232, 3) := by decide +kernel
theorem dX16_call_48 : decode cX16_call 48 = .ok (.imul, 1) := by decide +kernel
theorem dX16_call_49 : decode cX16_call 49 = .ok (.bipush 11, 2) := by decide +kernel
theorem dX16_call_51 : decode cX16_call 51 = .ok (.iadd, 1) := by decide +kernel
theorem dX16_call_52 : decode cX16_call 52 = .ok (.iaload, 1) := by decide +kernel
theorem dX16_call_53 : decode cX16_call 53 = .ok (.aload_n 0, 1) := by decide +kernel
theorem dX16_call_54 : decode cX16_call 54 = .ok (.getfield 42, 3) := by decide +kernel
theorem dX16_call_57 : decode cX16_call 57 = .ok (.bipush 32, 2) := by decide +kernel
theorem dX16_call_59 : decode cX16_call 59 = .ok (.aload_n 0, 1) := by decide +kernel
theorem dX16_call_60 : decode cX16_call 60 = .ok (.getfield 232, 3) := by decide +kernel
theorem dX16_call_63 : decode cX16_call 63 = .ok (.imul, 1) := by decide +kernel
theorem dX16_call_64 : decode cX16_call 64 = .ok (.bipush 12, 2) := by decide +kernel
theorem dX16_call_66 : decode cX16_call 66 = .ok (.iadd, 1) := by decide +kernel
theorem dX16_call_67 : decode cX16_call 67 = .ok (.iaload, 1) := by decide +kernel
theorem dX16_call_68 : decode cX16_call 68 = .ok (.invokevirtual 412, 3) := by decide +kernel
theorem dX16_call_71 : decode cX16_call 71 = .ok (.istore_n 2, 1) := by decide +kernel
theorem dX16_call_72 : decode cX16_call 72 = .ok (.aload_n 0, 1) := by decide +kernel
theorem dX16_call_73 : decode cX16_call 73 = .ok (.getfield 409, 3) := by decide +kernel
theorem dX16_call_76 : decode cX16_call 76 = .ok (.iconst 2, 1) := by decide +kernel
theorem dX16_call_77 : decode cX16_call 77 = .ok (.if_icmp .ne 4, 3) := by decide +kernel
theorem dX16_call_80 : decode cX16_call 80 = .ok (.return_, 1) := by decide +kernel
theorem dX16_call_81 : decode cX16_call 81 = .ok (.aload_n 0, 1) := by decide +kernel
theorem dX16_call_82 : decode cX16_call 82 = .ok (.getfield 409, 3) := by decide +kernel
theorem dX16_call_85 : decode cX16_call 85 = .ok (.iconst 3, 1) := by decide +kernel
theorem dX16_call_86 : decode cX16_call 86 = .ok (.if_icmp .ne 10, 3) := by decide +kernel
theorem dX16_call_89 : decode cX16_call 89 = .ok (.aload_n 0, 1) := by decide +kernel
theorem dX16_call_90 : decode cX16_call 90 = .ok (.bipush 7, 2) := by decide +kernel
theorem dX16_call_92 : decode cX16_call 92 = .ok (.invokevirtual 294, 3) := by decide +kernel
theorem dX16_call_95 : decode cX16_call 95 = .ok (.return_, 1) := by decide +kernel
theorem dX16_call_96 : decode cX16_call 96 = .ok (.aload_n 0, 1) := by decide +kernel
theorem dX16_call_97 : decode cX16_call 97 = .ok (.getfield 409, 3) := by decide +kernel
theorem dX16_call_100 : decode cX16_call 100 = .ok (.iconst 1, 1) := by decide +kernel
theorem dX16_call_101 : decode cX16_call 101 = .ok (.if_icmp .ne 24, 3) := by decide +kernel
theorem dX16_call_104 : decode cX16_call 104 = .ok (.aload_n 0, 1) := by decide +kernel
theorem dX16_call_105 : decode cX16_call 105 = .ok (.getfield 13, 3) := by decide +kernel
theorem dX16_call_108 : decode cX16_call 108 = .ok (.aload_n 0, 1) := by decide +kernel
theorem dX16_call_109 : decode cX16_call 109 = .ok (.getfield 232, 3) := by decide +kernel
theorem dX16_call_112 : decode cX16_call 112 = .ok (.iconst 2, 1) := by decide +kernel
theorem dX16_call_113 : decode cX16_call 113 = .ok (.iastore, 1) := by decide +kernel
theorem dX16_call_114 : decode cX16_call 114 = .ok (.aload_n 0, 1) := by decide +kernel
theorem dX16_call_115 : decode cX16_call 115 = .ok (.getfield 31, 3) := by decide +kernel
theorem dX16_call_118 : decode cX16_call 118 = .ok (.aload_n 0, 1) := by decide +kernel
theorem dX16_call_119 : decode cX16_call 119 = .ok (.getfield 232, 3) := by decide +kernel
theorem dX16_call_122 : decode cX16_call 122 = .ok (.iload_n 1, 1) := by decide +kernel
theorem dX16_call_123 : decode cX16_call 123 = .ok (.iastore, 1) := by decide +kernel
theorem dX16_call_124 : decode cX16_call 124 = .ok (.return_, 1) := by decide +kernel
theorem dX16_call_125 : decode cX16_call 125 = .ok (.aload_n 0, 1) := by decide +kernel
theorem dX16_call_126 : decode cX16_call 126 = .ok (.getfield 42, 3) := by decide +kernel
theorem dX16_call_129 : decode cX16_call 129 = .ok (.bipush 32, 2) := by decide +kernel
theorem dX16_call_131 : decode cX16_call 131 = .ok (.aload_n 0, 1) := by decide +kernel
theorem dX16_call_132 : decode cX16_call 132 = .ok (.getfield 232, 3) := by decide +kernel
theorem dX16_call_135 : decode cX16_call 135 = .ok (.imul, 1) := by decide +kernel
theorem dX16_call_136 : decode cX16_call 136 = .ok (.bipush 10, 2) := by decide +kernel
theorem dX16_call_138 : decode cX16_call 138 = .ok (.iadd, 1) := by decide +kernel
theorem dX16_call_139 : decode cX16_call 139 = .ok (.iload_n 2, 1) := by decide +kernel
theorem dX16_call_140 : decode cX16_call 140 = .ok (.iastore, 1) := by decide +kernel
theorem dX16_call_141 : decode cX16_call 141 = .ok (.aload_n 0, 1) := by decide +kernel
theorem dX16_call_142 : decode cX16_call 142 = .ok (.getfield 45, 3) := by decide +kernel
theorem dX16_call_145 : decode cX16_call 145 = .ok (.aload_n 0, 1) := by decide +kernel
theorem dX16_call_146 : decode cX16_call 146 = .ok (.getfield 232, 3) := by decide +kernel
theorem dX16_call_149 : decode cX16_call 149 = .ok (.dup2, 1) := by decide +kernel
theorem dX16_call_150 : decode cX16_call 150 = .ok (.iaload, 1) := by decide +kernel
theorem dX16_call_151 : decode cX16_call 151 = .ok (.iconst 4, 1) := by decide +kernel
theorem dX16_call_152 : decode cX16_call 152 = .ok (.iadd, 1) := by decide +kernel
theorem dX16_call_153 : decode cX16_call 153 = .ok (.iastore, 1) := by decide +kernel
theorem dX16_call_154 : decode cX16_call 154 = .ok (.iload_n 1, 1) := by decide +kernel
theorem dX16_call_155 : decode cX16_call 155 = .ok (.bipush 15, 2) := by decide +kernel
theorem dX16_call_157 : decode cX16_call 157 = .ok (.if_icmp .ne 7, 3) := by decide +kernel
theorem dX16_call_160 : decode cX16_call 160 = .ok (.aload_n 0, 1) := by decide +kernel
theorem dX16_call_161 : decode cX16_call 161 = .ok (.invokevirtual 275, 3) := by decide +kernel
theorem dX16_call_164 : decode cX16_call 164 = .ok (.return_, 1) := by decide +kernel
theorem dX16_tell_0 : decode cX16_tell 0 = .ok (.aload_n 0, 1) := by decide +kernel
theorem dX16_tell_1 : decode cX16_tell 1 = .ok (.iload_n 1, 1) := by decide +kernel
theorem dX16_tell_2 : decode cX16_tell 2 = .ok (.putfield 409, 3) := by decide +kernel
theorem dX16_tell_5 : decode cX16_tell 5 = .ok (.iconst 0, 1) := by decide +kernel
theorem dX16_tell_6 : decode cX16_tell 6 = .ok (.ireturn, 1) := by decide +kernel
theorem dX16_answer_0 : decode cX16_answer 0 = .ok (.iload_n 1, 1) := by decide +kernel
theorem dX16_answer_1 : decode cX16_answer 1 = .ok (.tableswitch 276 0 21 #[103, 122, 127, 133, 138, 143, 149, 158, 167, 173, 180, 187, 193, 202, 209, 215, 217, 224, 231, 236, 242, 271], 103) := by decide +kernel
theorem dX16_answer_104 : decode cX16_answer 104 = .ok (.aload_n 0, 1) := by decide +kernel
theorem dX16_answer_105 : decode cX16_answer 105 = .ok (.aload_n 0, 1) := by decide +kernel
theorem dX16_answer_106 : decode cX16_answer 106 = .ok (.getfield 232, 3) := by decide +kernel
theorem dX16_answer_109 : decode cX16_answer 109 = .ok (.iload_n 2, 1) := by decide +kernel
theorem dX16_answer_110 : decode cX16_answer 110 = .ok (.sipush 255, 3) := by decide +kernel
theorem dX16_answer_113 : decode cX16_answer 113 = .ok (.iand, 1) := by decide +kernel
theorem dX16_answer_114 : decode cX16_answer 114 = .ok (.invokevirtual 282, 3) := by decide +kernel
theorem dX16_answer_117 : decode cX16_answer 117 = .ok (.aload_n 0, 1) := by decide +kernel
theorem dX16_answer_118 : decode cX16_answer 118 = .ok (.iconst 2, 1) := by decide +kernel
theorem dX16_answer_119 : decode cX16_answer 119 = .ok (.invokevirtual 415, 3) := by decide +kernel
theorem dX16_answer_122 : decode cX16_answer 122 = .ok (.ireturn, 1) := by decide +kernel
theorem dX16_answer_123 : decode cX16_answer 123 = .ok (.aload_n 0, 1) := by decide +kernel
theorem dX16_answer_124 : decode cX16_answer 124 = .ok (.invokevirtual 418, 3) := by decide +kernel
theorem dX16_answer_127 : decode cX16_answer 127 = .ok (.ireturn, 1) := by decide +kernel
theorem dX16_answer_128 : decode cX16_answer 128 = .ok (.aload_n 0, 1) := by decide +kernel
theorem dX16_answer_129 : decode cX16_answer 129 = .ok (.iload_n 2, 1) := by decide +kernel
theorem dX16_answer_130 : decode cX16_answer 130 = .ok (.invokevirtual 421, 3) := by decide +kernel
theorem dX16_answer_133 : decode cX16_answer 133 = .ok (.ireturn, 1) := by decide +kernel
theorem dX16_answer_134 : decode cX16_answer 134 = .ok (.aload_n 0, 1) := by decide +kernel
theorem dX16_answer_135 : decode cX16_answer 135 = .ok (.invokevirtual 424, 3) := by decide +kernel
theorem dX16_answer_138 : decode cX16_answer 138 = .ok (.ireturn, 1) := by decide +kernel
theorem dX16_answer_139 : decode cX16_answer 139 = .ok (.aload_n 0, 1) := by decide +kernel
theorem dX16_answer_140 : decode cX16_answer 140 = .ok (.getfield 232, 3) := by decide +kernel
theorem dX16_answer_143 : decode cX16_answer 143 = .ok (.ireturn, 1) := by decide +kernel
theorem dX16_answer_144 : decode cX16_answer 144 = .ok (.aload_n 0, 1) := by decide +kernel
theorem dX16_answer_145 : decode cX16_answer 145 = .ok (.iload_n 2, 1) := by decide +kernel
theorem dX16_answer_146 : decode cX16_answer 146 = .ok (.invokevirtual 427, 3) := by decide +kernel
theorem dX16_answer_149 : decode cX16_answer 149 = .ok (.ireturn, 1) := by decide +kernel
theorem dX16_answer_150 : decode cX16_answer 150 = .ok (.aload_n 0, 1) := by decide +kernel
theorem dX16_answer_151 : decode cX16_answer 151 = .ok (.iload_n 2, 1) := by decide +kernel
theorem dX16_answer_152 : decode cX16_answer 152 = .ok (.iload_n 3, 1) := by decide +kernel
theorem dX16_answer_153 : decode cX16_answer 153 = .ok (.iload 4, 2) := by decide +kernel
theorem dX16_answer_155 : decode cX16_answer 155 = .ok (.invokevirtual 430, 3) := by decide +kernel
theorem dX16_answer_158 : decode cX16_answer 158 = .ok (.ireturn, 1) := by decide +kernel
theorem dX16_answer_159 : decode cX16_answer 159 = .ok (.aload_n 0, 1) := by decide +kernel
theorem dX16_answer_160 : decode cX16_answer 160 = .ok (.iload_n 2, 1) := by decide +kernel
theorem dX16_answer_161 : decode cX16_answer 161 = .ok (.iload_n 3, 1) := by decide +kernel
theorem dX16_answer_162 : decode cX16_answer 162 = .ok (.iload 4, 2) := by decide +kernel
theorem dX16_answer_164 : decode cX16_answer 164 = .ok (.invokevirtual 433, 3) := by decide +kernel
theorem dX16_answer_167 : decode cX16_answer 167 = .ok (.ireturn, 1) := by decide +kernel
theorem dX16_answer_168 : decode cX16_answer 168 = .ok (.aload_n 0, 1) := by decide +kernel
theorem dX16_answer_169 : decode cX16_answer 169 = .ok (.iload_n 2, 1) := by decide +kernel
theorem dX16_answer_170 : decode cX16_answer 170 = .ok (.invokevirtual 436, 3) := by decide +kernel
theorem dX16_answer_173 : decode cX16_answer 173 = .ok (.ireturn, 1) := by decide +kernel
theorem dX16_answer_174 : decode cX16_answer 174 = .ok (.aload_n 0, 1) := by decide +kernel
theorem dX16_answer_175 : decode cX16_answer 175 = .ok (.iload_n 2, 1) := by decide +kernel
theorem dX16_answer_176 : decode cX16_answer 176 = .ok (.iload_n 3, 1) := by decide +kernel
theorem dX16_answer_177 : decode cX16_answer 177 = .ok (.invokevirtual 439, 3) := by decide +kernel
theorem dX16_answer_180 : decode cX16_answer 180 = .ok (.ireturn, 1) := by decide +kernel
theorem dX16_answer_181 : decode cX16_answer 181 = .ok (.aload_n 0, 1) := by decide +kernel
theorem dX16_answer_182 : decode cX16_answer 182 = .ok (.iload_n 2, 1) := by decide +kernel
theorem dX16_answer_183 : decode cX16_answer 183 = .ok (.iload_n 3, 1) := by decide +kernel
theorem dX16_answer_184 : decode cX16_answer 184 = .ok (.invokevirtual 442, 3) := by decide +kernel
theorem dX16_answer_187 : decode cX16_answer 187 = .ok (.ireturn, 1) := by decide +kernel
theorem dX16_answer_188 : decode cX16_answer 188 = .ok (.aload_n 0, 1) := by decide +kernel
theorem dX16_answer_189 : decode cX16_answer 189 = .ok (.iload_n 2, 1) := by decide +kernel
theorem dX16_answer_190 : decode cX16_answer 190 = .ok (.invokevirtual 445, 3) := by decide +kernel
theorem dX16_answer_193 : decode cX16_answer 193 = .ok (.ireturn, 1) := by decide +kernel
theorem dX16_answer_194 : decode cX16_answer 194 = .ok (.aload_n 0, 1) := by decide +kernel
theorem dX16_answer_195 : decode cX16_answer 195 = .ok (.iload_n 2, 1) := by decide +kernel
theorem dX16_answer_196 : decode cX16_answer 196 = .ok (.iload_n 3, 1) := by decide +kernel
theorem dX16_answer_197 : decode cX16_answer 197 = .ok (.iload 4, 2) := by decide +kernel
theorem dX16_answer_199 : decode cX16_answer 199 = .ok (.invokevirtual 448, 3) := by decide +kernel
theorem dX16_answer_202 : decode cX16_answer 202 = .ok (.ireturn, 1) := by decide +kernel
theorem dX16_answer_203 : decode cX16_answer 203 = .ok (.aload_n 0, 1) := by decide +kernel
theorem dX16_answer_204 : decode cX16_answer 204 = .ok (.iload_n 2, 1) := by decide +kernel
theorem dX16_answer_205 : decode cX16_answer 205 = .ok (.iload_n 3, 1) := by decide +kernel
theorem dX16_answer_206 : decode cX16_answer 206 = .ok (.invokevirtual 451, 3) := by decide +kernel
theorem dX16_answer_209 : decode cX16_answer 209 = .ok (.ireturn, 1) := by decide +kernel
theorem dX16_answer_210 : decode cX16_answer 210 = .ok (.aload_n 0, 1) := by decide +kernel
theorem dX16_answer_211 : decode cX16_answer 211 = .ok (.iload_n 2, 1) := by decide +kernel
theorem dX16_answer_212 : decode cX16_answer 212 = .ok (.invokevirtual 454, 3) := by decide +kernel
theorem dX16_answer_215 : decode cX16_answer 215 = .ok (.ireturn, 1) := by decide +kernel
theorem dX16_answer_216 : decode cX16_answer 216 = .ok (.iconst 0, 1) := by decide +kernel
theorem dX16_answer_217 : decode cX16_answer 217 = .ok (.ireturn, 1) := by decide +kernel
theorem dX16_answer_218 : decode cX16_answer 218 = .ok (.aload_n 0, 1) := by decide +kernel
theorem dX16_answer_219 : decode cX16_answer 219 = .ok (.iload_n 2, 1) := by decide +kernel
theorem dX16_answer_220 : decode cX16_answer 220 = .ok (.iload_n 3, 1) := by decide +kernel
theorem dX16_answer_221 : decode cX16_answer 221 = .ok (.invokevirtual 457, 3) := by decide +kernel
theorem dX16_answer_224 : decode cX16_answer 224 = .ok (.ireturn, 1) := by decide +kernel
theorem dX16_answer_225 : decode cX16_answer 225 = .ok (.aload_n 0, 1) := by decide +kernel
theorem dX16_answer_226 : decode cX16_answer 226 = .ok (.iload_n 2, 1) := by decide +kernel
theorem dX16_answer_227 : decode cX16_answer 227 = .ok (.iload_n 3, 1) := by decide +kernel
theorem dX16_answer_228 : decode cX16_answer 228 = .ok (.invokevirtual 460, 3) := by decide +kernel
theorem dX16_answer_231 : decode cX16_answer 231 = .ok (.ireturn, 1) := by decide +kernel
theorem dX16_answer_232 : decode cX16_answer 232 = .ok (.aload_n 0, 1) := by decide +kernel
theorem dX16_answer_233 : decode cX16_answer 233 = .ok (.invokevirtual 463, 3) := by decide +kernel
theorem dX16_answer_236 : decode cX16_answer 236 = .ok (.ireturn, 1) := by decide +kernel
theorem dX16_answer_237 : decode cX16_answer 237 = .ok (.aload_n 0, 1) := by decide +kernel
theorem dX16_answer_238 : decode cX16_answer 238 = .ok (.iload_n 2, 1) := by decide +kernel
theorem dX16_answer_239 : decode cX16_answer 239 = .ok (.invokevirtual 466, 3) := by decide +kernel
theorem dX16_answer_242 : decode cX16_answer 242 = .ok (.ireturn, 1) := by decide +kernel
theorem dX16_answer_243 : decode cX16_answer 243 = .ok (.aload_n 0, 1) := by decide +kernel
theorem dX16_answer_244 : decode cX16_answer 244 = .ok (.getfield 42, 3) := by decide +kernel
theorem dX16_answer_247 : decode cX16_answer 247 = .ok (.bipush 32, 2) := by decide +kernel
theorem dX16_answer_249 : decode cX16_answer 249 = .ok (.aload_n 0, 1) := by decide +kernel
theorem dX16_answer_250 : decode cX16_answer 250 = .ok (.getfield 232, 3) := by decide +kernel
theorem dX16_answer_253 : decode cX16_answer 253 = .ok (.imul, 1) := by decide +kernel
theorem dX16_answer_254 : decode cX16_answer 254 = .ok (.bipush 11, 2) := by decide +kernel
theorem dX16_answer_256 : decode cX16_answer 256 = .ok (.iadd, 1) := by decide +kernel
theorem dX16_answer_257 : decode cX16_answer 257 = .ok (.aload_n 0, 1) := by decide +kernel
theorem dX16_answer_258 : decode cX16_answer 258 = .ok (.getfield 151, 3) := by decide +kernel
theorem dX16_answer_261 : decode cX16_answer 261 = .ok (.bipush 32, 2) := by decide +kernel
theorem dX16_answer_263 : decode cX16_answer 263 = .ok (.lshr, 1) := by decide +kernel
theorem dX16_answer_264 : decode cX16_answer 264 = .ok (.l2i, 1) := by decide +kernel
theorem dX16_answer_265 : decode cX16_answer 265 = .ok (.iastore, 1) := by decide +kernel
theorem dX16_answer_266 : decode cX16_answer 266 = .ok (.aload_n 0, 1) := by decide +kernel
theorem dX16_answer_267 : decode cX16_answer 267 = .ok (.getfield 151, 3) := by decide +kernel
theorem dX16_answer_270 : decode cX16_answer 270 = .ok (.l2i, 1) := by decide +kernel
theorem dX16_answer_271 : decode cX16_answer 271 = .ok (.ireturn, 1) := by decide +kernel
theorem dX16_answer_272 : decode cX16_answer 272 = .ok (.aload_n 0, 1) := by decide +kernel
theorem dX16_answer_273 : decode cX16_answer 273 = .ok (.invokevirtual 469, 3) := by decide +kernel
theorem dX16_answer_276 : decode cX16_answer 276 = .ok (.ireturn, 1) := by decide +kernel
theorem dX16_answer_277 : decode cX16_answer 277 = .ok (.bipush (-38), 2) := by decide +kernel
theorem dX16_answer_279 : decode cX16_answer 279 = .ok (.ireturn, 1) := by decide +kernel
theorem dX16_fork_0 : decode cX16_fork 0 = .ok (.iconst 0, 1) := by decide +kernel
theorem dX16_fork_1 : decode cX16_fork 1 = .ok (.istore_n 1, 1) := by decide +kernel
theorem dX16_fork_2 : decode cX16_fork 2 = .ok (.iload_n 1, 1) := by decide +kernel
theorem dX16_fork_3 : decode cX16_fork 3 = .ok (.bipush 16, 2) := by decide +kernel
theorem dX16_fork_5 : decode cX16_fork 5 = .ok (.if_icmp .ge 18, 3) := by decide +kernel
theorem dX16_fork_8 : decode cX16_fork 8 = .ok (.aload_n 0, 1) := by decide +kernel
theorem dX16_fork_9 : decode cX16_fork 9 = .ok (.getfield 13, 3) := by decide +kernel
theorem dX16_fork_12 : decode cX16_fork 12 = .ok (.iload_n 1, 1) := by decide +kernel
theorem dX16_fork_13 : decode cX16_fork 13 = .ok (.iaload, 1) := by decide +kernel
theorem dX16_fork_14 : decode cX16_fork 14 = .ok (.ifCond .eq 9, 3) := by decide +kernel
theorem dX16_fork_17 : decode cX16_fork 17 = .ok (.iinc 1 1, 3) := by decide +kernel
theorem dX16_fork_20 : decode cX16_fork 20 = .ok (.goto (-18), 3) := by decide +kernel
theorem dX16_fork_23 : decode cX16_fork 23 = .ok (.iload_n 1, 1) := by decide +kernel
theorem dX16_fork_24 : decode cX16_fork 24 = .ok (.bipush 16, 2) := by decide +kernel
theorem dX16_fork_26 : decode cX16_fork 26 = .ok (.if_icmp .ne 6, 3) := by decide +kernel
theorem dX16_fork_29 : decode cX16_fork 29 = .ok (.bipush (-4), 2) := by decide +kernel
theorem dX16_fork_31 : decode cX16_fork 31 = .ok (.ireturn, 1) := by decide +kernel
theorem dX16_fork_32 : decode cX16_fork 32 = .ok (.aload_n 0, 1) := by decide +kernel
theorem dX16_fork_33 : decode cX16_fork 33 = .ok (.iload_n 1, 1) := by decide +kernel
theorem dX16_fork_34 : decode cX16_fork 34 = .ok (.invokevirtual 160, 3) := by decide +kernel
theorem dX16_fork_37 : decode cX16_fork 37 = .ok (.aload_n 0, 1) := by decide +kernel
theorem dX16_fork_38 : decode cX16_fork 38 = .ok (.getfield 13, 3) := by decide +kernel
theorem dX16_fork_41 : decode cX16_fork 41 = .ok (.iload_n 1, 1) := by decide +kernel
theorem dX16_fork_42 : decode cX16_fork 42 = .ok (.iconst 1, 1) := by decide +kernel
theorem dX16_fork_43 : decode cX16_fork 43 = .ok (.iastore, 1) := by decide +kernel
theorem dX16_fork_44 : decode cX16_fork 44 = .ok (.aload_n 0, 1) := by decide +kernel
theorem dX16_fork_45 : decode cX16_fork 45 = .ok (.getfield 16, 3) := by decide +kernel
theorem dX16_fork_48 : decode cX16_fork 48 = .ok (.iload_n 1, 1) := by decide +kernel
theorem dX16_fork_49 : decode cX16_fork 49 = .ok (.aload_n 0, 1) := by decide +kernel
theorem dX16_fork_50 : decode cX16_fork 50 = .ok (.getfield 232, 3) := by decide +kernel
theorem dX16_fork_53 : decode cX16_fork 53 = .ok (.iastore, 1) := by decide +kernel
theorem dX16_fork_54 : decode cX16_fork 54 = .ok (.iconst 0, 1) := by decide +kernel
theorem dX16_fork_55 : decode cX16_fork 55 = .ok (.istore_n 2, 1) := by decide +kernel
theorem dX16_fork_56 : decode cX16_fork 56 = .ok (.iload_n 2, 1) := by decide +kernel
theorem dX16_fork_57 : decode cX16_fork 57 = .ok (.bipush 32, 2) := by decide +kernel
theorem dX16_fork_59 : decode cX16_fork 59 = .ok (.if_icmp .ge 59, 3) := by decide +kernel
theorem dX16_fork_62 : decode cX16_fork 62 = .ok (.aload_n 0, 1) := by decide +kernel
theorem dX16_fork_63 : decode cX16_fork 63 = .ok (.getfield 42, 3) := by decide +kernel
theorem dX16_fork_66 : decode cX16_fork 66 = .ok (.bipush 32, 2) := by decide +kernel
theorem dX16_fork_68 : decode cX16_fork 68 = .ok (.iload_n 1, 1) := by decide +kernel
theorem dX16_fork_69 : decode cX16_fork 69 = .ok (.imul, 1) := by decide +kernel
theorem dX16_fork_70 : decode cX16_fork 70 = .ok (.iload_n 2, 1) := by decide +kernel
theorem dX16_fork_71 : decode cX16_fork 71 = .ok (.iadd, 1) := by decide +kernel
theorem dX16_fork_72 : decode cX16_fork 72 = .ok (.aload_n 0, 1) := by decide +kernel
theorem dX16_fork_73 : decode cX16_fork 73 = .ok (.getfield 42, 3) := by decide +kernel
theorem dX16_fork_76 : decode cX16_fork 76 = .ok (.bipush 32, 2) := by decide +kernel
theorem dX16_fork_78 : decode cX16_fork 78 = .ok (.aload_n 0, 1) := by decide +kernel
theorem dX16_fork_79 : decode cX16_fork 79 = .ok (.getfield 232, 3) := by decide +kernel
theorem dX16_fork_82 : decode cX16_fork 82 = .ok (.imul, 1) := by decide +kernel
theorem dX16_fork_83 : decode cX16_fork 83 = .ok (.iload_n 2, 1) := by decide +kernel
theorem dX16_fork_84 : decode cX16_fork 84 = .ok (.iadd, 1) := by decide +kernel
theorem dX16_fork_85 : decode cX16_fork 85 = .ok (.iaload, 1) := by decide +kernel
theorem dX16_fork_86 : decode cX16_fork 86 = .ok (.iastore, 1) := by decide +kernel
theorem dX16_fork_87 : decode cX16_fork 87 = .ok (.aload_n 0, 1) := by decide +kernel
theorem dX16_fork_88 : decode cX16_fork 88 = .ok (.getfield 48, 3) := by decide +kernel
theorem dX16_fork_91 : decode cX16_fork 91 = .ok (.bipush 32, 2) := by decide +kernel
theorem dX16_fork_93 : decode cX16_fork 93 = .ok (.iload_n 1, 1) := by decide +kernel
theorem dX16_fork_94 : decode cX16_fork 94 = .ok (.imul, 1) := by decide +kernel
theorem dX16_fork_95 : decode cX16_fork 95 = .ok (.iload_n 2, 1) := by decide +kernel
theorem dX16_fork_96 : decode cX16_fork 96 = .ok (.iadd, 1) := by decide +kernel
theorem dX16_fork_97 : decode cX16_fork 97 = .ok (.aload_n 0, 1) := by decide +kernel
theorem dX16_fork_98 : decode cX16_fork 98 = .ok (.getfield 48, 3) := by decide +kernel
theorem dX16_fork_101 : decode cX16_fork 101 = .ok (.bipush 32, 2) := by decide +kernel
theorem dX16_fork_103 : decode cX16_fork 103 = .ok (.aload_n 0, 1) := by decide +kernel
theorem dX16_fork_104 : decode cX16_fork 104 = .ok (.getfield 232, 3) := by decide +kernel
theorem dX16_fork_107 : decode cX16_fork 107 = .ok (.imul, 1) := by decide +kernel
theorem dX16_fork_108 : decode cX16_fork 108 = .ok (.iload_n 2, 1) := by decide +kernel
theorem dX16_fork_109 : decode cX16_fork 109 = .ok (.iadd, 1) := by decide +kernel
theorem dX16_fork_110 : decode cX16_fork 110 = .ok (.iaload, 1) := by decide +kernel
theorem dX16_fork_111 : decode cX16_fork 111 = .ok (.iastore, 1) := by decide +kernel
theorem dX16_fork_112 : decode cX16_fork 112 = .ok (.iinc 2 1, 3) := by decide +kernel
theorem dX16_fork_115 : decode cX16_fork 115 = .ok (.goto (-59), 3) := by decide +kernel
theorem dX16_fork_118 : decode cX16_fork 118 = .ok (.aload_n 0, 1) := by decide +kernel
theorem dX16_fork_119 : decode cX16_fork 119 = .ok (.getfield 42, 3) := by decide +kernel
theorem dX16_fork_122 : decode cX16_fork 122 = .ok (.bipush 32, 2) := by decide +kernel
theorem dX16_fork_124 : decode cX16_fork 124 = .ok (.iload_n 1, 1) := by decide +kernel
theorem dX16_fork_125 : decode cX16_fork 125 = .ok (.imul, 1) := by decide +kernel
theorem dX16_fork_126 : decode cX16_fork 126 = .ok (.bipush 10, 2) := by decide +kernel
theorem dX16_fork_128 : decode cX16_fork 128 = .ok (.iadd, 1) := by decide +kernel
theorem dX16_fork_129 : decode cX16_fork 129 = .ok (.iconst 0, 1) := by decide +kernel
theorem dX16_fork_130 : decode cX16_fork 130 = .ok (.iastore, 1) := by decide +kernel
theorem dX16_fork_131 : decode cX16_fork 131 = .ok (.aload_n 0, 1) := by decide +kernel
theorem dX16_fork_132 : decode cX16_fork 132 = .ok (.getfield 45, 3) := by decide +kernel
theorem dX16_fork_135 : decode cX16_fork 135 = .ok (.iload_n 1, 1) := by decide +kernel
theorem dX16_fork_136 : decode cX16_fork 136 = .ok (.aload_n 0, 1) := by decide +kernel
theorem dX16_fork_137 : decode cX16_fork 137 = .ok (.getfield 45, 3) := by decide +kernel
theorem dX16_fork_140 : decode cX16_fork 140 = .ok (.aload_n 0, 1) := by decide +kernel
theorem dX16_fork_141 : decode cX16_fork 141 = .ok (.getfield 232, 3) := by decide +kernel
theorem dX16_fork_144 : decode cX16_fork 144 = .ok (.iaload, 1) := by decide +kernel
theorem dX16_fork_145 : decode cX16_fork 145 = .ok (.iconst 4, 1) := by decide +kernel
theorem dX16_fork_146 : decode cX16_fork 146 = .ok (.iadd, 1) := by decide +kernel
theorem dX16_fork_147 : decode cX16_fork 147 = .ok (.iastore, 1) := by decide +kernel
theorem dX16_fork_148 : decode cX16_fork 148 = .ok (.aload_n 0, 1) := by decide +kernel
theorem dX16_fork_149 : decode cX16_fork 149 = .ok (.getfield 51, 3) := by decide +kernel
theorem dX16_fork_152 : decode cX16_fork 152 = .ok (.iload_n 1, 1) := by decide +kernel
theorem dX16_fork_153 : decode cX16_fork 153 = .ok (.aload_n 0, 1) := by decide +kernel
theorem dX16_fork_154 : decode cX16_fork 154 = .ok (.getfield 51, 3) := by decide +kernel
theorem dX16_fork_157 : decode cX16_fork 157 = .ok (.aload_n 0, 1) := by decide +kernel
theorem dX16_fork_158 : decode cX16_fork 158 = .ok (.getfield 232, 3) := by decide +kernel
theorem dX16_fork_161 : decode cX16_fork 161 = .ok (.iaload, 1) := by decide +kernel
theorem dX16_fork_162 : decode cX16_fork 162 = .ok (.iastore, 1) := by decide +kernel
theorem dX16_fork_163 : decode cX16_fork 163 = .ok (.aload_n 0, 1) := by decide +kernel
theorem dX16_fork_164 : decode cX16_fork 164 = .ok (.getfield 34, 3) := by decide +kernel
theorem dX16_fork_167 : decode cX16_fork 167 = .ok (.iload_n 1, 1) := by decide +kernel
theorem dX16_fork_168 : decode cX16_fork 168 = .ok (.aload_n 0, 1) := by decide +kernel
theorem dX16_fork_169 : decode cX16_fork 169 = .ok (.getfield 34, 3) := by decide +kernel
theorem dX16_fork_172 : decode cX16_fork 172 = .ok (.aload_n 0, 1) := by decide +kernel
theorem dX16_fork_173 : decode cX16_fork 173 = .ok (.getfield 232, 3) := by decide +kernel
theorem dX16_fork_176 : decode cX16_fork 176 = .ok (.baload, 1) := by decide +kernel
theorem dX16_fork_177 : decode cX16_fork 177 = .ok (.bastore, 1) := by decide +kernel
theorem dX16_fork_178 : decode cX16_fork 178 = .ok (.aload_n 0, 1) := by decide +kernel
theorem dX16_fork_179 : decode cX16_fork 179 = .ok (.getfield 25, 3) := by decide +kernel
theorem dX16_fork_182 : decode cX16_fork 182 = .ok (.iload_n 1, 1) := by decide +kernel
theorem dX16_fork_183 : decode cX16_fork 183 = .ok (.aload_n 0, 1) := by decide +kernel
theorem dX16_fork_184 : decode cX16_fork 184 = .ok (.getfield 25, 3) := by decide +kernel
theorem dX16_fork_187 : decode cX16_fork 187 = .ok (.aload_n 0, 1) := by decide +kernel
theorem dX16_fork_188 : decode cX16_fork 188 = .ok (.getfield 232, 3) := by decide +kernel
theorem dX16_fork_191 : decode cX16_fork 191 = .ok (.iaload, 1) := by decide +kernel
theorem dX16_fork_192 : decode cX16_fork 192 = .ok (.iastore, 1) := by decide +kernel
theorem dX16_fork_193 : decode cX16_fork 193 = .ok (.aload_n 0, 1) := by decide +kernel
theorem dX16_fork_194 : decode cX16_fork 194 = .ok (.getfield 28, 3) := by decide +kernel
theorem dX16_fork_197 : decode cX16_fork 197 = .ok (.iload_n 1, 1) := by decide +kernel
theorem dX16_fork_198 : decode cX16_fork 198 = .ok (.aload_n 0, 1) := by decide +kernel
theorem dX16_fork_199 : decode cX16_fork 199 = .ok (.getfield 28, 3) := by decide +kernel
theorem dX16_fork_202 : decode cX16_fork 202 = .ok (.aload_n 0, 1) := by decide +kernel
theorem dX16_fork_203 : decode cX16_fork 203 = .ok (.getfield 232, 3) := by decide +kernel
theorem dX16_fork_206 : decode cX16_fork 206 = .ok (.iaload, 1) := by decide +kernel
theorem dX16_fork_207 : decode cX16_fork 207 = .ok (.iastore, 1) := by decide +kernel
theorem dX16_fork_208 : decode cX16_fork 208 = .ok (.iconst 0, 1) := by decide +kernel
theorem dX16_fork_209 : decode cX16_fork 209 = .ok (.istore_n 2, 1) := by decide +kernel
theorem dX16_fork_210 : decode cX16_fork 210 = .ok (.iload_n 2, 1) := by decide +kernel
theorem dX16_fork_211 : decode cX16_fork 211 = .ok (.bipush 16, 2) := by decide +kernel
theorem dX16_fork_213 : decode cX16_fork 213 = .ok (.if_icmp .ge 59, 3) := by decide +kernel
theorem dX16_fork_216 : decode cX16_fork 216 = .ok (.aload_n 0, 1) := by decide +kernel
theorem dX16_fork_217 : decode cX16_fork 217 = .ok (.getfield 54, 3) := by decide +kernel
theorem dX16_fork_220 : decode cX16_fork 220 = .ok (.bipush 16, 2) := by decide +kernel
theorem dX16_fork_222 : decode cX16_fork 222 = .ok (.iload_n 1, 1) := by decide +kernel
theorem dX16_fork_223 : decode cX16_fork 223 = .ok (.imul, 1) := by decide +kernel
theorem dX16_fork_224 : decode cX16_fork 224 = .ok (.iload_n 2, 1) := by decide +kernel
theorem dX16_fork_225 : decode cX16_fork 225 = .ok (.iadd, 1) := by decide +kernel
theorem dX16_fork_226 : decode cX16_fork 226 = .ok (.aload_n 0, 1) := by decide +kernel
theorem dX16_fork_227 : decode cX16_fork 227 = .ok (.getfield 54, 3) := by decide +kernel
theorem dX16_fork_230 : decode cX16_fork 230 = .ok (.bipush 16, 2) := by decide +kernel
theorem dX16_fork_232 : decode cX16_fork 232 = .ok (.aload_n 0, 1) := by decide +kernel
theorem dX16_fork_233 : decode cX16_fork 233 = .ok (.getfield 232, 3) := by decide +kernel
theorem dX16_fork_236 : decode cX16_fork 236 = .ok (.imul, 1) := by decide +kernel
theorem dX16_fork_237 : decode cX16_fork 237 = .ok (.iload_n 2, 1) := by decide +kernel
theorem dX16_fork_238 : decode cX16_fork 238 = .ok (.iadd, 1) := by decide +kernel
theorem dX16_fork_239 : decode cX16_fork 239 = .ok (.iaload, 1) := by decide +kernel
theorem dX16_fork_240 : decode cX16_fork 240 = .ok (.iastore, 1) := by decide +kernel
theorem dX16_fork_241 : decode cX16_fork 241 = .ok (.aload_n 0, 1) := by decide +kernel
theorem dX16_fork_242 : decode cX16_fork 242 = .ok (.getfield 57, 3) := by decide +kernel
theorem dX16_fork_245 : decode cX16_fork 245 = .ok (.bipush 16, 2) := by decide +kernel
theorem dX16_fork_247 : decode cX16_fork 247 = .ok (.iload_n 1, 1) := by decide +kernel
theorem dX16_fork_248 : decode cX16_fork 248 = .ok (.imul, 1) := by decide +kernel
theorem dX16_fork_249 : decode cX16_fork 249 = .ok (.iload_n 2, 1) := by decide +kernel
theorem dX16_fork_250 : decode cX16_fork 250 = .ok (.iadd, 1) := by decide +kernel
theorem dX16_fork_251 : decode cX16_fork 251 = .ok (.aload_n 0, 1) := by decide +kernel
theorem dX16_fork_252 : decode cX16_fork 252 = .ok (.getfield 57, 3) := by decide +kernel
theorem dX16_fork_255 : decode cX16_fork 255 = .ok (.bipush 16, 2) := by decide +kernel
theorem dX16_fork_257 : decode cX16_fork 257 = .ok (.aload_n 0, 1) := by decide +kernel
theorem dX16_fork_258 : decode cX16_fork 258 = .ok (.getfield 232, 3) := by decide +kernel
theorem dX16_fork_261 : decode cX16_fork 261 = .ok (.imul, 1) := by decide +kernel
theorem dX16_fork_262 : decode cX16_fork 262 = .ok (.iload_n 2, 1) := by decide +kernel
theorem dX16_fork_263 : decode cX16_fork 263 = .ok (.iadd, 1) := by decide +kernel
theorem dX16_fork_264 : decode cX16_fork 264 = .ok (.iaload, 1) := by decide +kernel
theorem dX16_fork_265 : decode cX16_fork 265 = .ok (.iastore, 1) := by decide +kernel
theorem dX16_fork_266 : decode cX16_fork 266 = .ok (.iinc 2 1, 3) := by decide +kernel
theorem dX16_fork_269 : decode cX16_fork 269 = .ok (.goto (-59), 3) := by decide +kernel
theorem dX16_fork_272 : decode cX16_fork 272 = .ok (.iconst 0, 1) := by decide +kernel
theorem dX16_fork_273 : decode cX16_fork 273 = .ok (.istore_n 2, 1) := by decide +kernel
theorem dX16_fork_274 : decode cX16_fork 274 = .ok (.iload_n 2, 1) := by decide +kernel
theorem dX16_fork_275 : decode cX16_fork 275 = .ok (.bipush 64, 2) := by decide +kernel
theorem dX16_fork_277 : decode cX16_fork 277 = .ok (.if_icmp .ge 79, 3) := by decide +kernel
theorem dX16_fork_280 : decode cX16_fork 280 = .ok (.aload_n 0, 1) := by decide +kernel
theorem dX16_fork_281 : decode cX16_fork 281 = .ok (.getfield 64, 3) := by decide +kernel
theorem dX16_fork_284 : decode cX16_fork 284 = .ok (.bipush 64, 2) := by decide +kernel
theorem dX16_fork_286 : decode cX16_fork 286 = .ok (.aload_n 0, 1) := by decide +kernel
theorem dX16_fork_287 : decode cX16_fork 287 = .ok (.getfield 232, 3) := by decide +kernel
theorem dX16_fork_290 : decode cX16_fork 290 = .ok (.imul, 1) := by decide +kernel
theorem dX16_fork_291 : decode cX16_fork 291 = .ok (.iload_n 2, 1) := by decide +kernel
theorem dX16_fork_292 : decode cX16_fork 292 = .ok (.iadd, 1) := by decide +kernel
theorem dX16_fork_293 : decode cX16_fork 293 = .ok (.iaload, 1) := by decide +kernel
theorem dX16_fork_294 : decode cX16_fork 294 = .ok (.iconst (-1), 1) := by decide +kernel
theorem dX16_fork_295 : decode cX16_fork 295 = .ok (.if_icmp .ne 6, 3) := by decide +kernel
theorem dX16_fork_298 : decode cX16_fork 298 = .ok (.goto 52, 3) := by decide +kernel
theorem dX16_fork_301 : decode cX16_fork 301 = .ok (.aload_n 0, 1) := by decide +kernel
theorem dX16_fork_302 : decode cX16_fork 302 = .ok (.bipush 64, 2) := by decide +kernel
theorem dX16_fork_304 : decode cX16_fork 304 = .ok (.iload_n 1, 1) := by decide +kernel
theorem dX16_fork_305 : decode cX16_fork 305 = .ok (.imul, 1) := by decide +kernel
theorem dX16_fork_306 : decode cX16_fork 306 = .ok (.iload_n 2, 1) := by decide +kernel
theorem dX16_fork_307 : decode cX16_fork 307 = .ok (.iadd, 1) := by decide +kernel
theorem dX16_fork_308 : decode cX16_fork 308 = .ok (.aload_n 0, 1) := by decide +kernel
theorem dX16_fork_309 : decode cX16_fork 309 = .ok (.getfield 64, 3) := by decide +kernel
theorem dX16_fork_312 : decode cX16_fork 312 = .ok (.bipush 64, 2) := by decide +kernel
theorem dX16_fork_314 : decode cX16_fork 314 = .ok (.aload_n 0, 1) := by decide +kernel
theorem dX16_fork_315 : decode cX16_fork 315 = .ok (.getfield 232, 3) := by decide +kernel
theorem dX16_fork_318 : decode cX16_fork 318 = .ok (.imul, 1) := by decide +kernel
theorem dX16_fork_319 : decode cX16_fork 319 = .ok (.iload_n 2, 1) := by decide +kernel
theorem dX16_fork_320 : decode cX16_fork 320 = .ok (.iadd, 1) := by decide +kernel
theorem dX16_fork_321 : decode cX16_fork 321 = .ok (.iaload, 1) := by decide +kernel
theorem dX16_fork_322 : decode cX16_fork 322 = .ok (.invokevirtual 208, 3) := by decide +kernel
theorem dX16_fork_325 : decode cX16_fork 325 = .ok (.aload_n 0, 1) := by decide +kernel
theorem dX16_fork_326 : decode cX16_fork 326 = .ok (.getfield 67, 3) := by decide +kernel
theorem dX16_fork_329 : decode cX16_fork 329 = .ok (.bipush 64, 2) := by decide +kernel
theorem dX16_fork_331 : decode cX16_fork 331 = .ok (.iload_n 1, 1) := by decide +kernel
theorem dX16_fork_332 : decode cX16_fork 332 = .ok (.imul, 1) := by decide +kernel
theorem dX16_fork_333 : decode cX16_fork 333 = .ok (.iload_n 2, 1) := by decide +kernel
theorem dX16_fork_334 : decode cX16_fork 334 = .ok (.iadd, 1) := by decide +kernel
theorem dX16_fork_335 : decode cX16_fork 335 = .ok (.aload_n 0, 1) := by decide +kernel
theorem dX16_fork_336 : decode cX16_fork 336 = .ok (.getfield 67, 3) := by decide +kernel
theorem dX16_fork_339 : decode cX16_fork 339 = .ok (.bipush 64, 2) := by decide +kernel
theorem dX16_fork_341 : decode cX16_fork 341 = .ok (.aload_n 0, 1) := by decide +kernel
theorem dX16_fork_342 : decode cX16_fork 342 = .ok (.getfield 232, 3) := by decide +kernel
theorem dX16_fork_345 : decode cX16_fork 345 = .ok (.imul, 1) := by decide +kernel
theorem dX16_fork_346 : decode cX16_fork 346 = .ok (.iload_n 2, 1) := by decide +kernel
theorem dX16_fork_347 : decode cX16_fork 347 = .ok (.iadd, 1) := by decide +kernel
theorem dX16_fork_348 : decode cX16_fork 348 = .ok (.iaload, 1) := by decide +kernel
theorem dX16_fork_349 : decode cX16_fork 349 = .ok (.iastore, 1) := by decide +kernel
theorem dX16_fork_350 : decode cX16_fork 350 = .ok (.iinc 2 1, 3) := by decide +kernel
theorem dX16_fork_353 : decode cX16_fork 353 = .ok (.goto (-79), 3) := by decide +kernel
theorem dX16_fork_356 : decode cX16_fork 356 = .ok (.iconst 0, 1) := by decide +kernel
theorem dX16_fork_357 : decode cX16_fork 357 = .ok (.istore_n 2, 1) := by decide +kernel
theorem dX16_fork_358 : decode cX16_fork 358 = .ok (.iload_n 2, 1) := by decide +kernel
theorem dX16_fork_359 : decode cX16_fork 359 = .ok (.sipush 16384, 3) := by decide +kernel
theorem dX16_fork_362 : decode cX16_fork 362 = .ok (.if_icmp .ge 36, 3) := by decide +kernel
theorem dX16_fork_365 : decode cX16_fork 365 = .ok (.aload_n 0, 1) := by decide +kernel
theorem dX16_fork_366 : decode cX16_fork 366 = .ok (.getfield 61, 3) := by decide +kernel
theorem dX16_fork_369 : decode cX16_fork 369 = .ok (.sipush 16384, 3) := by decide +kernel
theorem dX16_fork_372 : decode cX16_fork 372 = .ok (.iload_n 1, 1) := by decide +kernel
theorem dX16_fork_373 : decode cX16_fork 373 = .ok (.imul, 1) := by decide +kernel
theorem dX16_fork_374 : decode cX16_fork 374 = .ok (.iload_n 2, 1) := by decide +kernel
theorem dX16_fork_375 : decode cX16_fork 375 = .ok (.iadd, 1) := by decide +kernel
theorem dX16_fork_376 : decode cX16_fork 376 = .ok (.aload_n 0, 1) := by decide +kernel
theorem dX16_fork_377 : decode cX16_fork 377 = .ok (.getfield 61, 3) := by decide +kernel
theorem dX16_fork_380 : decode cX16_fork 380 = .ok (.sipush 16384, 3) := by decide +kernel
theorem dX16_fork_383 : decode cX16_fork 383 = .ok (.aload_n 0, 1) := by decide +kernel
theorem dX16_fork_384 : decode cX16_fork 384 = .ok (.getfield 232, 3) := by decide +kernel
theorem dX16_fork_387 : decode cX16_fork 387 = .ok (.imul, 1) := by decide +kernel
theorem dX16_fork_388 : decode cX16_fork 388 = .ok (.iload_n 2, 1) := by decide +kernel
theorem dX16_fork_389 : decode cX16_fork 389 = .ok (.iadd, 1) := by decide +kernel
theorem dX16_fork_390 : decode cX16_fork 390 = .ok (.iaload, 1) := by decide +kernel
theorem dX16_fork_391 : decode cX16_fork 391 = .ok (.iastore, 1) := by decide +kernel
theorem dX16_fork_392 : decode cX16_fork 392 = .ok (.iinc 2 1, 3) := by decide +kernel
theorem dX16_fork_395 : decode cX16_fork 395 = .ok (.goto (-37), 3) := by decide +kernel
theorem dX16_fork_398 : decode cX16_fork 398 = .ok (.iload_n 1, 1) := by decide +kernel
theorem dX16_fork_399 : decode cX16_fork 399 = .ok (.ireturn, 1) := by decide +kernel
theorem dX16_exec_0 : decode cX16_exec 0 = .ok (.iload_n 1, 1) := by decide +kernel
theorem dX16_exec_1 : decode cX16_exec 1 = .ok (.ifCond .lt 20, 3) := by decide +kernel
theorem dX16_exec_4 : decode cX16_exec 4 = .ok (.iload_n 1, 1) := by decide +kernel
theorem dX16_exec_5 : decode cX16_exec 5 = .ok (.iconst 3, 1) := by decide +kernel
theorem dX16_exec_6 : decode cX16_exec 6 = .ok (.if_icmp .gt 15, 3) := by decide +kernel
theorem dX16_exec_9 : decode cX16_exec 9 = .ok (.aload_n 0, 1) := by decide +kernel
theorem dX16_exec_10 : decode cX16_exec 10 = .ok (.getfield 118, 3) := by decide +kernel
theorem dX16_exec_13 : decode cX16_exec 13 = .ok (.getfield 472, 3) := by decide +kernel
theorem dX16_exec_16 : decode cX16_exec 16 = .ok (.iload_n 1, 1) := by decide +kernel
theorem dX16_exec_17 : decode cX16_exec 17 = .ok (.baload, 1) := by decide +kernel
theorem dX16_exec_18 : decode cX16_exec 18 = .ok (.ifCond .ne 6, 3) := by decide +kernel
theorem dX16_exec_21 : decode cX16_exec 21 = .ok (.bipush (-2), 2) := by decide +kernel
theorem dX16_exec_23 : decode cX16_exec 23 = .ok (.ireturn, 1) := by decide +kernel
theorem dX16_exec_24 : decode cX16_exec 24 = .ok (.aload_n 0, 1) := by decide +kernel
theorem dX16_exec_25 : decode cX16_exec 25 = .ok (.aload_n 0, 1) := by decide +kernel
theorem dX16_exec_26 : decode cX16_exec 26 = .ok (.iload_n 1, 1) := by decide +kernel
theorem dX16_exec_27 : decode cX16_exec 27 = .ok (.invokevirtual 475, 3) := by decide +kernel
theorem dX16_exec_30 : decode cX16_exec 30 = .ok (.invokevirtual 397, 3) := by decide +kernel
theorem dX16_exec_33 : decode cX16_exec 33 = .ok (.ifCond .ne 6, 3) := by decide +kernel
theorem dX16_exec_36 : decode cX16_exec 36 = .ok (.bipush (-4), 2) := by decide +kernel
theorem dX16_exec_38 : decode cX16_exec 38 = .ok (.ireturn, 1) := by decide +kernel
theorem dX16_exec_39 : decode cX16_exec 39 = .ok (.aload_n 0, 1) := by decide +kernel
theorem dX16_exec_40 : decode cX16_exec 40 = .ok (.aload_n 0, 1) := by decide +kernel
theorem dX16_exec_41 : decode cX16_exec 41 = .ok (.getfield 232, 3) := by decide +kernel
theorem dX16_exec_44 : decode cX16_exec 44 = .ok (.invokevirtual 255, 3) := by decide +kernel
theorem dX16_exec_47 : decode cX16_exec 47 = .ok (.aload_n 0, 1) := by decide +kernel
theorem dX16_exec_48 : decode cX16_exec 48 = .ok (.aload_n 0, 1) := by decide +kernel
theorem dX16_exec_49 : decode cX16_exec 49 = .ok (.getfield 232, 3) := by decide +kernel
theorem dX16_exec_52 : decode cX16_exec 52 = .ok (.iload_n 1, 1) := by decide +kernel
theorem dX16_exec_53 : decode cX16_exec 53 = .ok (.invokevirtual 164, 3) := by decide +kernel
theorem dX16_exec_56 : decode cX16_exec 56 = .ok (.iconst 0, 1) := by decide +kernel
theorem dX16_exec_57 : decode cX16_exec 57 = .ok (.istore_n 2, 1) := by decide +kernel
theorem dX16_exec_58 : decode cX16_exec 58 = .ok (.iload_n 2, 1) := by decide +kernel
theorem dX16_exec_59 : decode cX16_exec 59 = .ok (.bipush 16, 2) := by decide +kernel
theorem dX16_exec_61 : decode cX16_exec 61 = .ok (.if_icmp .ge 24, 3) := by decide +kernel
theorem dX16_exec_64 : decode cX16_exec 64 = .ok (.aload_n 0, 1) := by decide +kernel
theorem dX16_exec_65 : decode cX16_exec 65 = .ok (.getfield 54, 3) := by decide +kernel
theorem dX16_exec_68 : decode cX16_exec 68 = .ok (.bipush 16, 2) := by decide +kernel
theorem dX16_exec_70 : decode cX16_exec 70 = .ok (.aload_n 0, 1) := by decide +kernel
theorem dX16_exec_71 : decode cX16_exec 71 = .ok (.getfield 232, 3) := by decide +kernel
theorem dX16_exec_74 : decode cX16_exec 74 = .ok (.imul, 1) := by decide +kernel
theorem dX16_exec_75 : decode cX16_exec 75 = .ok (.iload_n 2, 1) := by decide +kernel
theorem dX16_exec_76 : decode cX16_exec 76 = .ok (.iadd, 1) := by decide +kernel
theorem dX16_exec_77 : decode cX16_exec 77 = .ok (.iconst 0, 1) := by decide +kernel
theorem dX16_exec_78 : decode cX16_exec 78 = .ok (.iastore, 1) := by decide +kernel
theorem dX16_exec_79 : decode cX16_exec 79 = .ok (.iinc 2 1, 3) := by decide +kernel
theorem dX16_exec_82 : decode cX16_exec 82 = .ok (.goto (-24), 3) := by decide +kernel
theorem dX16_exec_85 : decode cX16_exec 85 = .ok (.aload_n 0, 1) := by decide +kernel
theorem dX16_exec_86 : decode cX16_exec 86 = .ok (.getfield 34, 3) := by decide +kernel
theorem dX16_exec_89 : decode cX16_exec 89 = .ok (.aload_n 0, 1) := by decide +kernel
theorem dX16_exec_90 : decode cX16_exec 90 = .ok (.getfield 232, 3) := by decide +kernel
theorem dX16_exec_93 : decode cX16_exec 93 = .ok (.iconst 0, 1) := by decide +kernel
theorem dX16_exec_94 : decode cX16_exec 94 = .ok (.bastore, 1) := by decide +kernel
theorem dX16_exec_95 : decode cX16_exec 95 = .ok (.aload_n 0, 1) := by decide +kernel
theorem dX16_exec_96 : decode cX16_exec 96 = .ok (.getfield 38, 3) := by decide +kernel
theorem dX16_exec_99 : decode cX16_exec 99 = .ok (.aload_n 0, 1) := by decide +kernel
theorem dX16_exec_100 : decode cX16_exec 100 = .ok (.getfield 232, 3) := by decide +kernel
theorem dX16_exec_103 : decode cX16_exec 103 = .ok (.ldc2_w 175, 3) := by decide +kernel
theorem dX16_exec_106 : decode cX16_exec 106 = .ok (.lastore, 1) := by decide +kernel
theorem dX16_exec_107 : decode cX16_exec 107 = .ok (.aload_n 0, 1) := by decide +kernel
theorem dX16_exec_108 : decode cX16_exec 108 = .ok (.iconst (-1), 1) := by decide +kernel
theorem dX16_exec_109 : decode cX16_exec 109 = .ok (.putfield 135, 3) := by decide +kernel
theorem dX16_exec_112 : decode cX16_exec 112 = .ok (.aload_n 0, 1) := by decide +kernel
theorem dX16_exec_113 : decode cX16_exec 113 = .ok (.iconst 2, 1) := by decide +kernel
theorem dX16_exec_114 : decode cX16_exec 114 = .ok (.invokevirtual 415, 3) := by decide +kernel
theorem dX16_exec_117 : decode cX16_exec 117 = .ok (.ireturn, 1) := by decide +kernel
theorem dX16_waitFor_0 : decode cX16_waitFor 0 = .ok (.aload_n 0, 1) := by decide +kernel
theorem dX16_waitFor_1 : decode cX16_waitFor 1 = .ok (.aload_n 0, 1) := by decide +kernel
theorem dX16_waitFor_2 : decode cX16_waitFor 2 = .ok (.getfield 232, 3) := by decide +kernel
theorem dX16_waitFor_5 : decode cX16_waitFor 5 = .ok (.iconst 0, 1) := by decide +kernel
theorem dX16_waitFor_6 : decode cX16_waitFor 6 = .ok (.invokevirtual 260, 3) := by decide +kernel
theorem dX16_waitFor_9 : decode cX16_waitFor 9 = .ok (.iconst (-1), 1) := by decide +kernel
theorem dX16_waitFor_10 : decode cX16_waitFor 10 = .ok (.if_icmp .ne 6, 3) := by decide +kernel
theorem dX16_waitFor_13 : decode cX16_waitFor 13 = .ok (.bipush (-10), 2) := by decide +kernel
theorem dX16_waitFor_15 : decode cX16_waitFor 15 = .ok (.ireturn, 1) := by decide +kernel
theorem dX16_waitFor_16 : decode cX16_waitFor 16 = .ok (.aload_n 0, 1) := by decide +kernel
theorem dX16_waitFor_17 : decode cX16_waitFor 17 = .ok (.aload_n 0, 1) := by decide +kernel
theorem dX16_waitFor_18 : decode cX16_waitFor 18 = .ok (.getfield 232, 3) := by decide +kernel
theorem dX16_waitFor_21 : decode cX16_waitFor 21 = .ok (.iconst 1, 1) := by decide +kernel
theorem dX16_waitFor_22 : decode cX16_waitFor 22 = .ok (.invokevirtual 260, 3) := by decide +kernel
theorem dX16_waitFor_25 : decode cX16_waitFor 25 = .ok (.istore_n 1, 1) := by decide +kernel
theorem dX16_waitFor_26 : decode cX16_waitFor 26 = .ok (.iload_n 1, 1) := by decide +kernel
theorem dX16_waitFor_27 : decode cX16_waitFor 27 = .ok (.iconst (-1), 1) := by decide +kernel
theorem dX16_waitFor_28 : decode cX16_waitFor 28 = .ok (.if_icmp .ne 9, 3) := by decide +kernel
theorem dX16_waitFor_31 : decode cX16_waitFor 31 = .ok (.aload_n 0, 1) := by decide +kernel
theorem dX16_waitFor_32 : decode cX16_waitFor 32 = .ok (.iconst 1, 1) := by decide +kernel
theorem dX16_waitFor_33 : decode cX16_waitFor 33 = .ok (.invokevirtual 415, 3) := by decide +kernel
theorem dX16_waitFor_36 : decode cX16_waitFor 36 = .ok (.ireturn, 1) := by decide +kernel
theorem dX16_waitFor_37 : decode cX16_waitFor 37 = .ok (.aload_n 0, 1) := by decide +kernel
theorem dX16_waitFor_38 : decode cX16_waitFor 38 = .ok (.getfield 19, 3) := by decide +kernel
theorem dX16_waitFor_41 : decode cX16_waitFor 41 = .ok (.iload_n 1, 1) := by decide +kernel
theorem dX16_waitFor_42 : decode cX16_waitFor 42 = .ok (.iaload, 1) := by decide +kernel
theorem dX16_waitFor_43 : decode cX16_waitFor 43 = .ok (.istore_n 2, 1) := by decide +kernel
theorem dX16_waitFor_44 : decode cX16_waitFor 44 = .ok (.aload_n 0, 1) := by decide +kernel
theorem dX16_waitFor_45 : decode cX16_waitFor 45 = .ok (.iload_n 1, 1) := by decide +kernel
theorem dX16_waitFor_46 : decode cX16_waitFor 46 = .ok (.invokevirtual 160, 3) := by decide +kernel
theorem dX16_waitFor_49 : decode cX16_waitFor 49 = .ok (.iload_n 1, 1) := by decide +kernel
theorem dX16_waitFor_50 : decode cX16_waitFor 50 = .ok (.sipush 256, 3) := by decide +kernel
theorem dX16_waitFor_53 : decode cX16_waitFor 53 = .ok (.iload_n 2, 1) := by decide +kernel
theorem dX16_waitFor_54 : decode cX16_waitFor 54 = .ok (.imul, 1) := by decide +kernel
theorem dX16_waitFor_55 : decode cX16_waitFor 55 = .ok (.iadd, 1) := by decide +kernel
theorem dX16_waitFor_56 : decode cX16_waitFor 56 = .ok (.ireturn, 1) := by decide +kernel
theorem dX16_pipe_0 : decode cX16_pipe 0 = .ok (.iload_n 1, 1) := by decide +kernel
theorem dX16_pipe_1 : decode cX16_pipe 1 = .ok (.iconst 4, 1) := by decide +kernel
theorem dX16_pipe_2 : decode cX16_pipe 2 = .ok (.irem, 1) := by decide +kernel
theorem dX16_pipe_3 : decode cX16_pipe 3 = .ok (.ifCond .eq 6, 3) := by decide +kernel
theorem dX16_pipe_6 : decode cX16_pipe 6 = .ok (.bipush (-22), 2) := by decide +kernel
theorem dX16_pipe_8 : decode cX16_pipe 8 = .ok (.ireturn, 1) := by decide +kernel
theorem dX16_pipe_9 : decode cX16_pipe 9 = .ok (.aload_n 0, 1) := by decide +kernel
theorem dX16_pipe_10 : decode cX16_pipe 10 = .ok (.aload_n 0, 1) := by decide +kernel
theorem dX16_pipe_11 : decode cX16_pipe 11 = .ok (.getfield 232, 3) := by decide +kernel
theorem dX16_pipe_14 : decode cX16_pipe 14 = .ok (.iload_n 1, 1) := by decide +kernel
theorem dX16_pipe_15 : decode cX16_pipe 15 = .ok (.bipush 8, 2) := by decide +kernel
theorem dX16_pipe_17 : decode cX16_pipe 17 = .ok (.iconst 2, 1) := by decide +kernel
theorem dX16_pipe_18 : decode cX16_pipe 18 = .ok (.invokevirtual 478, 3) := by decide +kernel
theorem dX16_pipe_21 : decode cX16_pipe 21 = .ok (.ifCond .ne 6, 3) := by decide +kernel
theorem dX16_pipe_24 : decode cX16_pipe 24 = .ok (.bipush (-14), 2) := by decide +kernel
theorem dX16_pipe_26 : decode cX16_pipe 26 = .ok (.ireturn, 1) := by decide +kernel
theorem dX16_pipe_27 : decode cX16_pipe 27 = .ok (.iconst 0, 1) := by decide +kernel
theorem dX16_pipe_28 : decode cX16_pipe 28 = .ok (.istore_n 2, 1) := by decide +kernel
theorem dX16_pipe_29 : decode cX16_pipe 29 = .ok (.iload_n 2, 1) := by decide +kernel
theorem dX16_pipe_30 : decode cX16_pipe 30 = .ok (.bipush 8, 2) := by decide +kernel
theorem dX16_pipe_32 : decode cX16_pipe 32 = .ok (.if_icmp .ge 18, 3) := by decide +kernel
theorem dX16_pipe_35 : decode cX16_pipe 35 = .ok (.aload_n 0, 1) := by decide +kernel
theorem dX16_pipe_36 : decode cX16_pipe 36 = .ok (.getfield 85, 3) := by decide +kernel
theorem dX16_pipe_39 : decode cX16_pipe 39 = .ok (.iload_n 2, 1) := by decide +kernel
theorem dX16_pipe_40 : decode cX16_pipe 40 = .ok (.baload, 1) := by decide +kernel
theorem dX16_pipe_41 : decode cX16_pipe 41 = .ok (.ifCond .eq 9, 3) := by decide +kernel
theorem dX16_pipe_44 : decode cX16_pipe 44 = .ok (.iinc 2 1, 3) := by decide +kernel
theorem dX16_pipe_47 : decode cX16_pipe 47 = .ok (.goto (-18), 3) := by decide +kernel
theorem dX16_pipe_50 : decode cX16_pipe 50 = .ok (.aload_n 0, 1) := by decide +kernel
theorem dX16_pipe_51 : decode cX16_pipe 51 = .ok (.invokevirtual 482, 3) := by decide +kernel
theorem dX16_pipe_54 : decode cX16_pipe 54 = .ok (.iconst 2, 1) := by decide +kernel
theorem dX16_pipe_55 : decode cX16_pipe 55 = .ok (.if_icmp .lt 18, 3) := by decide +kernel
theorem dX16_pipe_58 : decode cX16_pipe 58 = .ok (.aload_n 0, 1) := by decide +kernel
theorem dX16_pipe_59 : decode cX16_pipe 59 = .ok (.invokevirtual 485, 3) := by decide +kernel
theorem dX16_pipe_62 : decode cX16_pipe 62 = .ok (.bipush 46, 2) := by decide +kernel
theorem dX16_pipe_64 : decode cX16_pipe 64 = .ok (.if_icmp .gt 9, 3) := by decide +kernel
theorem dX16_pipe_67 : decode cX16_pipe 67 = .ok (.iload_n 2, 1) := by decide +kernel
theorem dX16_pipe_68 : decode cX16_pipe 68 = .ok (.bipush 8, 2) := by decide +kernel
theorem dX16_pipe_70 : decode cX16_pipe 70 = .ok (.if_icmp .ne 6, 3) := by decide +kernel
theorem dX16_pipe_73 : decode cX16_pipe 73 = .ok (.bipush (-4), 2) := by decide +kernel
theorem dX16_pipe_75 : decode cX16_pipe 75 = .ok (.ireturn, 1) := by decide +kernel
theorem dX16_pipe_76 : decode cX16_pipe 76 = .ok (.aload_n 0, 1) := by decide +kernel
theorem dX16_pipe_77 : decode cX16_pipe 77 = .ok (.aload_n 0, 1) := by decide +kernel
theorem dX16_pipe_78 : decode cX16_pipe 78 = .ok (.aload_n 0, 1) := by decide +kernel
theorem dX16_pipe_79 : decode cX16_pipe 79 = .ok (.getfield 232, 3) := by decide +kernel
theorem dX16_pipe_82 : decode cX16_pipe 82 = .ok (.iload_n 1, 1) := by decide +kernel
theorem dX16_pipe_83 : decode cX16_pipe 83 = .ok (.bipush 8, 2) := by decide +kernel
theorem dX16_pipe_85 : decode cX16_pipe 85 = .ok (.invokevirtual 394, 3) := by decide +kernel
theorem dX16_pipe_88 : decode cX16_pipe 88 = .ok (.invokevirtual 397, 3) := by decide +kernel
theorem dX16_pipe_91 : decode cX16_pipe 91 = .ok (.ifCond .ne 9, 3) := by decide +kernel
theorem dX16_pipe_94 : decode cX16_pipe 94 = .ok (.aload_n 0, 1) := by decide +kernel
theorem dX16_pipe_95 : decode cX16_pipe 95 = .ok (.iconst 3, 1) := by decide +kernel
theorem dX16_pipe_96 : decode cX16_pipe 96 = .ok (.invokevirtual 415, 3) := by decide +kernel
theorem dX16_pipe_99 : decode cX16_pipe 99 = .ok (.ireturn, 1) := by decide +kernel
theorem dX16_pipe_100 : decode cX16_pipe 100 = .ok (.aload_n 0, 1) := by decide +kernel
theorem dX16_pipe_101 : decode cX16_pipe 101 = .ok (.getfield 85, 3) := by decide +kernel
theorem dX16_pipe_104 : decode cX16_pipe 104 = .ok (.iload_n 2, 1) := by decide +kernel
theorem dX16_pipe_105 : decode cX16_pipe 105 = .ok (.iconst 1, 1) := by decide +kernel
theorem dX16_pipe_106 : decode cX16_pipe 106 = .ok (.bastore, 1) := by decide +kernel
theorem dX16_pipe_107 : decode cX16_pipe 107 = .ok (.aload_n 0, 1) := by decide +kernel
theorem dX16_pipe_108 : decode cX16_pipe 108 = .ok (.getfield 94, 3) := by decide +kernel
theorem dX16_pipe_111 : decode cX16_pipe 111 = .ok (.iload_n 2, 1) := by decide +kernel
theorem dX16_pipe_112 : decode cX16_pipe 112 = .ok (.iconst 0, 1) := by decide +kernel
theorem dX16_pipe_113 : decode cX16_pipe 113 = .ok (.iastore, 1) := by decide +kernel
theorem dX16_pipe_114 : decode cX16_pipe 114 = .ok (.aload_n 0, 1) := by decide +kernel
theorem dX16_pipe_115 : decode cX16_pipe 115 = .ok (.aload_n 0, 1) := by decide +kernel
theorem dX16_pipe_116 : decode cX16_pipe 116 = .ok (.iconst 1, 1) := by decide +kernel
theorem dX16_pipe_117 : decode cX16_pipe 117 = .ok (.iload_n 2, 1) := by decide +kernel
theorem dX16_pipe_118 : decode cX16_pipe 118 = .ok (.iconst 1, 1) := by decide +kernel
theorem dX16_pipe_119 : decode cX16_pipe 119 = .ok (.invokevirtual 168, 3) := by decide +kernel
theorem dX16_pipe_122 : decode cX16_pipe 122 = .ok (.invokevirtual 488, 3) := by decide +kernel
theorem dX16_pipe_125 : decode cX16_pipe 125 = .ok (.istore_n 3, 1) := by decide +kernel
theorem dX16_pipe_126 : decode cX16_pipe 126 = .ok (.aload_n 0, 1) := by decide +kernel
theorem dX16_pipe_127 : decode cX16_pipe 127 = .ok (.aload_n 0, 1) := by decide +kernel
theorem dX16_pipe_128 : decode cX16_pipe 128 = .ok (.iconst 2, 1) := by decide +kernel
theorem dX16_pipe_129 : decode cX16_pipe 129 = .ok (.iload_n 2, 1) := by decide +kernel
theorem dX16_pipe_130 : decode cX16_pipe 130 = .ok (.iconst 2, 1) := by decide +kernel
theorem dX16_pipe_131 : decode cX16_pipe 131 = .ok (.invokevirtual 168, 3) := by decide +kernel
theorem dX16_pipe_134 : decode cX16_pipe 134 = .ok (.invokevirtual 488, 3) := by decide +kernel
theorem dX16_pipe_137 : decode cX16_pipe 137 = .ok (.istore 4, 2) := by decide +kernel
theorem dX16_pipe_139 : decode cX16_pipe 139 = .ok (.iconst 0, 1) := by decide +kernel
theorem dX16_pipe_140 : decode cX16_pipe 140 = .ok (.istore 5, 2) := by decide +kernel
theorem dX16_pipe_142 : decode cX16_pipe 142 = .ok (.iload 5, 2) := by decide +kernel
theorem dX16_pipe_144 : decode cX16_pipe 144 = .ok (.bipush 8, 2) := by decide +kernel
theorem dX16_pipe_146 : decode cX16_pipe 146 = .ok (.if_icmp .ge 41, 3) := by decide +kernel
theorem dX16_pipe_149 : decode cX16_pipe 149 = .ok (.aload_n 0, 1) := by decide +kernel
theorem dX16_pipe_150 : decode cX16_pipe 150 = .ok (.aload_n 0, 1) := by decide +kernel
theorem dX16_pipe_151 : decode cX16_pipe 151 = .ok (.getfield 232, 3) := by decide +kernel
theorem dX16_pipe_154 : decode cX16_pipe 154 = .ok (.iload_n 1, 1) := by decide +kernel
theorem dX16_pipe_155 : decode cX16_pipe 155 = .ok (.iload 5, 2) := by decide +kernel
theorem dX16_pipe_157 : decode cX16_pipe 157 = .ok (.iadd, 1) := by decide +kernel
theorem dX16_pipe_158 : decode cX16_pipe 158 = .ok (.iload 5, 2) := by decide +kernel
theorem dX16_pipe_160 : decode cX16_pipe 160 = .ok (.iconst 4, 1) := by decide +kernel
theorem dX16_pipe_161 : decode cX16_pipe 161 = .ok (.if_icmp .ge 7, 3) := by decide +kernel
theorem dX16_pipe_164 : decode cX16_pipe 164 = .ok (.iload_n 3, 1) := by decide +kernel
theorem dX16_pipe_165 : decode cX16_pipe 165 = .ok (.goto 5, 3) := by decide +kernel
theorem dX16_pipe_168 : decode cX16_pipe 168 = .ok (.iload 4, 2) := by decide +kernel
theorem dX16_pipe_170 : decode cX16_pipe 170 = .ok (.bipush 8, 2) := by decide +kernel
theorem dX16_pipe_172 : decode cX16_pipe 172 = .ok (.iload 5, 2) := by decide +kernel
theorem dX16_pipe_174 : decode cX16_pipe 174 = .ok (.iconst 4, 1) := by decide +kernel
theorem dX16_pipe_175 : decode cX16_pipe 175 = .ok (.irem, 1) := by decide +kernel
theorem dX16_pipe_176 : decode cX16_pipe 176 = .ok (.imul, 1) := by decide +kernel
theorem dX16_pipe_177 : decode cX16_pipe 177 = .ok (.ishr, 1) := by decide +kernel
theorem dX16_pipe_178 : decode cX16_pipe 178 = .ok (.invokevirtual 400, 3) := by decide +kernel
theorem dX16_pipe_181 : decode cX16_pipe 181 = .ok (.iinc 5 1, 3) := by decide +kernel
theorem dX16_pipe_184 : decode cX16_pipe 184 = .ok (.goto (-42), 3) := by decide +kernel
theorem dX16_pipe_187 : decode cX16_pipe 187 = .ok (.iconst 0, 1) := by decide +kernel
theorem dX16_pipe_188 : decode cX16_pipe 188 = .ok (.ireturn, 1) := by decide +kernel
theorem dX16_comes_0 : decode cX16_comes 0 = .ok (.aload_n 0, 1) := by decide +kernel
theorem dX16_comes_1 : decode cX16_comes 1 = .ok (.getfield 73, 3) := by decide +kernel
theorem dX16_comes_4 : decode cX16_comes 4 = .ok (.iload_n 1, 1) := by decide +kernel
theorem dX16_comes_5 : decode cX16_comes 5 = .ok (.iaload, 1) := by decide +kernel
theorem dX16_comes_6 : decode cX16_comes 6 = .ok (.iconst 1, 1) := by decide +kernel
theorem dX16_comes_7 : decode cX16_comes 7 = .ok (.if_icmp .ne 34, 3) := by decide +kernel
theorem dX16_comes_10 : decode cX16_comes 10 = .ok (.aload_n 0, 1) := by decide +kernel
theorem dX16_comes_11 : decode cX16_comes 11 = .ok (.getfield 94, 3) := by decide +kernel
theorem dX16_comes_14 : decode cX16_comes 14 = .ok (.aload_n 0, 1) := by decide +kernel
theorem dX16_comes_15 : decode cX16_comes 15 = .ok (.getfield 76, 3) := by decide +kernel
theorem dX16_comes_18 : decode cX16_comes 18 = .ok (.iload_n 1, 1) := by decide +kernel
theorem dX16_comes_19 : decode cX16_comes 19 = .ok (.iaload, 1) := by decide +kernel
theorem dX16_comes_20 : decode cX16_comes 20 = .ok (.iaload, 1) := by decide +kernel
theorem dX16_comes_21 : decode cX16_comes 21 = .ok (.iload_n 2, 1) := by decide +kernel
theorem dX16_comes_22 : decode cX16_comes 22 = .ok (.if_icmp .ge 17, 3) := by decide +kernel
theorem dX16_comes_25 : decode cX16_comes 25 = .ok (.aload_n 0, 1) := by decide +kernel
theorem dX16_comes_26 : decode cX16_comes 26 = .ok (.getfield 94, 3) := by decide +kernel
theorem dX16_comes_29 : decode cX16_comes 29 = .ok (.aload_n 0, 1) := by decide +kernel
theorem dX16_comes_30 : decode cX16_comes 30 = .ok (.getfield 76, 3) := by decide +kernel
theorem dX16_comes_33 : decode cX16_comes 33 = .ok (.iload_n 1, 1) := by decide +kernel
theorem dX16_comes_34 : decode cX16_comes 34 = .ok (.iaload, 1) := by decide +kernel
theorem dX16_comes_35 : decode cX16_comes 35 = .ok (.iaload, 1) := by decide +kernel
theorem dX16_comes_36 : decode cX16_comes 36 = .ok (.goto 4, 3) := by decide +kernel
theorem dX16_comes_39 : decode cX16_comes 39 = .ok (.iload_n 2, 1) := by decide +kernel
theorem dX16_comes_40 : decode cX16_comes 40 = .ok (.ireturn, 1) := by decide +kernel
theorem dX16_comes_41 : decode cX16_comes 41 = .ok (.aload_n 0, 1) := by decide +kernel
theorem dX16_comes_42 : decode cX16_comes 42 = .ok (.getfield 73, 3) := by decide +kernel
theorem dX16_comes_45 : decode cX16_comes 45 = .ok (.iload_n 1, 1) := by decide +kernel
theorem dX16_comes_46 : decode cX16_comes 46 = .ok (.iaload, 1) := by decide +kernel
theorem dX16_comes_47 : decode cX16_comes 47 = .ok (.iconst 3, 1) := by decide +kernel
theorem dX16_comes_48 : decode cX16_comes 48 = .ok (.if_icmp .ne 73, 3) := by decide +kernel
theorem dX16_comes_51 : decode cX16_comes 51 = .ok (.aload_n 0, 1) := by decide +kernel
theorem dX16_comes_52 : decode cX16_comes 52 = .ok (.getfield 100, 3) := by decide +kernel
theorem dX16_comes_55 : decode cX16_comes 55 = .ok (.aload_n 0, 1) := by decide +kernel
theorem dX16_comes_56 : decode cX16_comes 56 = .ok (.getfield 76, 3) := by decide +kernel
theorem dX16_comes_59 : decode cX16_comes 59 = .ok (.iload_n 1, 1) := by decide +kernel
theorem dX16_comes_60 : decode cX16_comes 60 = .ok (.iaload, 1) := by decide +kernel
theorem dX16_comes_61 : decode cX16_comes 61 = .ok (.iaload, 1) := by decide +kernel
theorem dX16_comes_62 : decode cX16_comes 62 = .ok (.aload_n 0, 1) := by decide +kernel
theorem dX16_comes_63 : decode cX16_comes 63 = .ok (.getfield 79, 3) := by decide +kernel
theorem dX16_comes_66 : decode cX16_comes 66 = .ok (.iload_n 1, 1) := by decide +kernel
theorem dX16_comes_67 : decode cX16_comes 67 = .ok (.iaload, 1) := by decide +kernel
theorem dX16_comes_68 : decode cX16_comes 68 = .ok (.isub, 1) := by decide +kernel
theorem dX16_comes_69 : decode cX16_comes 69 = .ok (.ifCond .ge 7, 3) := by decide +kernel
theorem dX16_comes_72 : decode cX16_comes 72 = .ok (.iconst 0, 1) := by decide +kernel
theorem dX16_comes_73 : decode cX16_comes 73 = .ok (.goto 47, 3) := by decide +kernel
theorem dX16_comes_76 : decode cX16_comes 76 = .ok (.aload_n 0, 1) := by decide +kernel
theorem dX16_comes_77 : decode cX16_comes 77 = .ok (.getfield 100, 3) := by decide +kernel
theorem dX16_comes_80 : decode cX16_comes 80 = .ok (.aload_n 0, 1) := by decide +kernel
theorem dX16_comes_81 : decode cX16_comes 81 = .ok (.getfield 76, 3) := by decide +kernel
theorem dX16_comes_84 : decode cX16_comes 84 = .ok (.iload_n 1, 1) := by decide +kernel
theorem dX16_comes_85 : decode cX16_comes 85 = .ok (.iaload, 1) := by decide +kernel
theorem dX16_comes_86 : decode cX16_comes 86 = .ok (.iaload, 1) := by decide +kernel
theorem dX16_comes_87 : decode cX16_comes 87 = .ok (.aload_n 0, 1) := by decide +kernel
theorem dX16_comes_88 : decode cX16_comes 88 = .ok (.getfield 79, 3) := by decide +kernel
theorem dX16_comes_91 : decode cX16_comes 91 = .ok (.iload_n 1, 1) := by decide +kernel
theorem dX16_comes_92 : decode cX16_comes 92 = .ok (.iaload, 1) := by decide +kernel
theorem dX16_comes_93 : decode cX16_comes 93 = .ok (.isub, 1) := by decide +kernel
theorem dX16_comes_94 : decode cX16_comes 94 = .ok (.iload_n 2, 1) := by decide +kernel
theorem dX16_comes_95 : decode cX16_comes 95 = .ok (.if_icmp .ge 24, 3) := by decide +kernel
theorem dX16_comes_98 : decode cX16_comes 98 = .ok (.aload_n 0, 1) := by decide +kernel
theorem dX16_comes_99 : decode cX16_comes 99 = .ok (.getfield 100, 3) := by decide +kernel
theorem dX16_comes_102 : decode cX16_comes 102 = .ok (.aload_n 0, 1) := by decide +kernel
theorem dX16_comes_103 : decode cX16_comes 103 = .ok (.getfield 76, 3) := by decide +kernel
theorem dX16_comes_106 : decode cX16_comes 106 = .ok (.iload_n 1, 1) := by decide +kernel
theorem dX16_comes_107 : decode cX16_comes 107 = .ok (.iaload, 1) := by decide +kernel
theorem dX16_comes_108 : decode cX16_comes 108 = .ok (.iaload, 1) := by decide +kernel
theorem dX16_comes_109 : decode cX16_comes 109 = .ok (.aload_n 0, 1) := by decide +kernel
theorem dX16_comes_110 : decode cX16_comes 110 = .ok (.getfield 79, 3) := by decide +kernel
theorem dX16_comes_113 : decode cX16_comes 113 = .ok (.iload_n 1, 1) := by decide +kernel
theorem dX16_comes_114 : decode cX16_comes 114 = .ok (.iaload, 1) := by decide +kernel
theorem dX16_comes_115 : decode cX16_comes 115 = .ok (.isub, 1) := by decide +kernel
theorem dX16_comes_116 : decode cX16_comes 116 = .ok (.goto 4, 3) := by decide +kernel
theorem dX16_comes_119 : decode cX16_comes 119 = .ok (.iload_n 2, 1) := by decide +kernel
theorem dX16_comes_120 : decode cX16_comes 120 = .ok (.ireturn, 1) := by decide +kernel
theorem dX16_comes_121 : decode cX16_comes 121 = .ok (.iconst 0, 1) := by decide +kernel
theorem dX16_comes_122 : decode cX16_comes 122 = .ok (.istore_n 3, 1) := by decide +kernel
theorem dX16_comes_123 : decode cX16_comes 123 = .ok (.iload_n 3, 1) := by decide +kernel
theorem dX16_comes_124 : decode cX16_comes 124 = .ok (.iload_n 2, 1) := by decide +kernel
theorem dX16_comes_125 : decode cX16_comes 125 = .ok (.if_icmp .ge 27, 3) := by decide +kernel
theorem dX16_comes_128 : decode cX16_comes 128 = .ok (.iload_n 3, 1) := by decide +kernel
theorem dX16_comes_129 : decode cX16_comes 129 = .ok (.aload_n 0, 1) := by decide +kernel
theorem dX16_comes_130 : decode cX16_comes 130 = .ok (.getfield 122, 3) := by decide +kernel
theorem dX16_comes_133 : decode cX16_comes 133 = .ok (.if_icmp .ge 19, 3) := by decide +kernel
theorem dX16_comes_136 : decode cX16_comes 136 = .ok (.aload_n 0, 1) := by decide +kernel
theorem dX16_comes_137 : decode cX16_comes 137 = .ok (.getfield 109, 3) := by decide +kernel
theorem dX16_comes_140 : decode cX16_comes 140 = .ok (.iload_n 3, 1) := by decide +kernel
theorem dX16_comes_141 : decode cX16_comes 141 = .ok (.iaload, 1) := by decide +kernel
theorem dX16_comes_142 : decode cX16_comes 142 = .ok (.iconst 4, 1) := by decide +kernel
theorem dX16_comes_143 : decode cX16_comes 143 = .ok (.if_icmp .eq 9, 3) := by decide +kernel
theorem dX16_comes_146 : decode cX16_comes 146 = .ok (.iinc 3 1, 3) := by decide +kernel
theorem dX16_comes_149 : decode cX16_comes 149 = .ok (.goto (-26), 3) := by decide +kernel
theorem dX16_comes_152 : decode cX16_comes 152 = .ok (.iload_n 3, 1) := by decide +kernel
theorem dX16_comes_153 : decode cX16_comes 153 = .ok (.ireturn, 1) := by decide +kernel
theorem dX16_read_0 : decode cX16_read 0 = .ok (.iload_n 3, 1) := by decide +kernel
theorem dX16_read_1 : decode cX16_read 1 = .ok (.ifCond .lt 10, 3) := by decide +kernel
theorem dX16_read_4 : decode cX16_read 4 = .ok (.iload_n 3, 1) := by decide +kernel
theorem dX16_read_5 : decode cX16_read 5 = .ok (.sipush 512, 3) := by decide +kernel
theorem dX16_read_8 : decode cX16_read 8 = .ok (.if_icmp .le 6, 3) := by decide +kernel
theorem dX16_read_11 : decode cX16_read 11 = .ok (.bipush (-22), 2) := by decide +kernel
theorem dX16_read_13 : decode cX16_read 13 = .ok (.ireturn, 1) := by decide +kernel
theorem dX16_read_14 : decode cX16_read 14 = .ok (.aload_n 0, 1) := by decide +kernel
theorem dX16_read_15 : decode cX16_read 15 = .ok (.aload_n 0, 1) := by decide +kernel
theorem dX16_read_16 : decode cX16_read 16 = .ok (.getfield 232, 3) := by decide +kernel
theorem dX16_read_19 : decode cX16_read 19 = .ok (.iload_n 2, 1) := by decide +kernel
theorem dX16_read_20 : decode cX16_read 20 = .ok (.iload_n 3, 1) := by decide +kernel
theorem dX16_read_21 : decode cX16_read 21 = .ok (.iconst 2, 1) := by decide +kernel
theorem dX16_read_22 : decode cX16_read 22 = .ok (.invokevirtual 478, 3) := by decide +kernel
theorem dX16_read_25 : decode cX16_read 25 = .ok (.ifCond .ne 6, 3) := by decide +kernel
theorem dX16_read_28 : decode cX16_read 28 = .ok (.bipush (-14), 2) := by decide +kernel
theorem dX16_read_30 : decode cX16_read 30 = .ok (.ireturn, 1) := by decide +kernel
theorem dX16_read_31 : decode cX16_read 31 = .ok (.aload_n 0, 1) := by decide +kernel
theorem dX16_read_32 : decode cX16_read 32 = .ok (.aload_n 0, 1) := by decide +kernel
theorem dX16_read_33 : decode cX16_read 33 = .ok (.getfield 232, 3) := by decide +kernel
theorem dX16_read_36 : decode cX16_read 36 = .ok (.iload_n 1, 1) := by decide +kernel
theorem dX16_read_37 : decode cX16_read 37 = .ok (.invokevirtual 491, 3) := by decide +kernel
theorem dX16_read_40 : decode cX16_read 40 = .ok (.istore 4, 2) := by decide +kernel
theorem dX16_read_42 : decode cX16_read 42 = .ok (.iload 4, 2) := by decide +kernel
theorem dX16_read_44 : decode cX16_read 44 = .ok (.iconst (-1), 1) := by decide +kernel
theorem dX16_read_45 : decode cX16_read 45 = .ok (.if_icmp .eq 15, 3) := by decide +kernel
theorem dX16_read_48 : decode cX16_read 48 = .ok (.aload_n 0, 1) := by decide +kernel
theorem dX16_read_49 : decode cX16_read 49 = .ok (.getfield 82, 3) := by decide +kernel
theorem dX16_read_52 : decode cX16_read 52 = .ok (.iload 4, 2) := by decide +kernel
theorem dX16_read_54 : decode cX16_read 54 = .ok (.iaload, 1) := by decide +kernel
theorem dX16_read_55 : decode cX16_read 55 = .ok (.iconst 1, 1) := by decide +kernel
theorem dX16_read_56 : decode cX16_read 56 = .ok (.iand, 1) := by decide +kernel
theorem dX16_read_57 : decode cX16_read 57 = .ok (.ifCond .ne 5, 3) := by decide +kernel
theorem dX16_read_60 : decode cX16_read 60 = .ok (.iconst (-1), 1) := by decide +kernel
theorem dX16_read_61 : decode cX16_read 61 = .ok (.ireturn, 1) := by decide +kernel
theorem dX16_read_62 : decode cX16_read 62 = .ok (.aload_n 0, 1) := by decide +kernel
theorem dX16_read_63 : decode cX16_read 63 = .ok (.iload 4, 2) := by decide +kernel
theorem dX16_read_65 : decode cX16_read 65 = .ok (.iconst 1, 1) := by decide +kernel
theorem dX16_read_66 : decode cX16_read 66 = .ok (.iload_n 3, 1) := by decide +kernel
theorem dX16_read_67 : decode cX16_read 67 = .ok (.invokevirtual 264, 3) := by decide +kernel
theorem dX16_read_70 : decode cX16_read 70 = .ok (.ifCond .eq 9, 3) := by decide +kernel
theorem dX16_read_73 : decode cX16_read 73 = .ok (.aload_n 0, 1) := by decide +kernel
theorem dX16_read_74 : decode cX16_read 74 = .ok (.iconst 1, 1) := by decide +kernel
theorem dX16_read_75 : decode cX16_read 75 = .ok (.invokevirtual 415, 3) := by decide +kernel
theorem dX16_read_78 : decode cX16_read 78 = .ok (.ireturn, 1) := by decide +kernel
theorem dX16_read_79 : decode cX16_read 79 = .ok (.aload_n 0, 1) := by decide +kernel
theorem dX16_read_80 : decode cX16_read 80 = .ok (.iload 4, 2) := by decide +kernel
theorem dX16_read_82 : decode cX16_read 82 = .ok (.iload_n 3, 1) := by decide +kernel
theorem dX16_read_83 : decode cX16_read 83 = .ok (.invokevirtual 494, 3) := by decide +kernel
theorem dX16_read_86 : decode cX16_read 86 = .ok (.istore 5, 2) := by decide +kernel
theorem dX16_read_88 : decode cX16_read 88 = .ok (.aload_n 0, 1) := by decide +kernel
theorem dX16_read_89 : decode cX16_read 89 = .ok (.aload_n 0, 1) := by decide +kernel
theorem dX16_read_90 : decode cX16_read 90 = .ok (.aload_n 0, 1) := by decide +kernel
theorem dX16_read_91 : decode cX16_read 91 = .ok (.getfield 232, 3) := by decide +kernel
theorem dX16_read_94 : decode cX16_read 94 = .ok (.iload_n 2, 1) := by decide +kernel
theorem dX16_read_95 : decode cX16_read 95 = .ok (.iload 5, 2) := by decide +kernel
theorem dX16_read_97 : decode cX16_read 97 = .ok (.invokevirtual 394, 3) := by decide +kernel
theorem dX16_read_100 : decode cX16_read 100 = .ok (.invokevirtual 397, 3) := by decide +kernel
theorem dX16_read_103 : decode cX16_read 103 = .ok (.ifCond .ne 9, 3) := by decide +kernel
theorem dX16_read_106 : decode cX16_read 106 = .ok (.aload_n 0, 1) := by decide +kernel
theorem dX16_read_107 : decode cX16_read 107 = .ok (.iconst 3, 1) := by decide +kernel
theorem dX16_read_108 : decode cX16_read 108 = .ok (.invokevirtual 415, 3) := by decide +kernel
theorem dX16_read_111 : decode cX16_read 111 = .ok (.ireturn, 1) := by decide +kernel
theorem dX16_read_112 : decode cX16_read 112 = .ok (.aload_n 0, 1) := by decide +kernel
theorem dX16_read_113 : decode cX16_read 113 = .ok (.getfield 76, 3) := by decide +kernel
theorem dX16_read_116 : decode cX16_read 116 = .ok (.iload 4, 2) := by decide +kernel
theorem dX16_read_118 : decode cX16_read 118 = .ok (.iaload, 1) := by decide +kernel
theorem dX16_read_119 : decode cX16_read 119 = .ok (.istore 6, 2) := by decide +kernel
theorem dX16_read_121 : decode cX16_read 121 = .ok (.iconst 0, 1) := by decide +kernel
theorem dX16_read_122 : decode cX16_read 122 = .ok (.istore 7, 2) := by decide +kernel
theorem dX16_read_124 : decode cX16_read 124 = .ok (.iload 7, 2) := by decide +kernel
theorem dX16_read_126 : decode cX16_read 126 = .ok (.iload 5, 2) := by decide +kernel
theorem dX16_read_128 : decode cX16_read 128 = .ok (.if_icmp .ge 92, 3) := by decide +kernel
theorem dX16_read_131 : decode cX16_read 131 = .ok (.aload_n 0, 1) := by decide +kernel
theorem dX16_read_132 : decode cX16_read 132 = .ok (.aload_n 0, 1) := by decide +kernel
theorem dX16_read_133 : decode cX16_read 133 = .ok (.getfield 232, 3) := by decide +kernel
theorem dX16_read_136 : decode cX16_read 136 = .ok (.iload_n 2, 1) := by decide +kernel
theorem dX16_read_137 : decode cX16_read 137 = .ok (.iload 7, 2) := by decide +kernel
theorem dX16_read_139 : decode cX16_read 139 = .ok (.iadd, 1) := by decide +kernel
theorem dX16_read_140 : decode cX16_read 140 = .ok (.aload_n 0, 1) := by decide +kernel
theorem dX16_read_141 : decode cX16_read 141 = .ok (.getfield 73, 3) := by decide +kernel
theorem dX16_read_144 : decode cX16_read 144 = .ok (.iload 4, 2) := by decide +kernel
theorem dX16_read_146 : decode cX16_read 146 = .ok (.iaload, 1) := by decide +kernel
theorem dX16_read_147 : decode cX16_read 147 = .ok (.iconst 1, 1) := by decide +kernel
theorem dX16_read_148 : decode cX16_read 148 = .ok (.if_icmp .ne 20, 3) := by decide +kernel
theorem dX16_read_151 : decode cX16_read 151 = .ok (.aload_n 0, 1) := by decide +kernel
theorem dX16_read_152 : decode cX16_read 152 = .ok (.getfield 97, 3) := by decide +kernel
theorem dX16_read_155 : decode cX16_read 155 = .ok (.sipush 512, 3) := by decide +kernel
theorem dX16_read_158 : decode cX16_read 158 = .ok (.iload 6, 2) := by decide +kernel
theorem dX16_read_160 : decode cX16_read 160 = .ok (.imul, 1) := by decide +kernel
theorem dX16_read_161 : decode cX16_read 161 = .ok (.iload 7, 2) := by decide +kernel
theorem dX16_read_163 : decode cX16_read 163 = .ok (.iadd, 1) := by decide +kernel
theorem dX16_read_164 : decode cX16_read 164 = .ok (.iaload, 1) := by decide +kernel
theorem dX16_read_165 : decode cX16_read 165 = .ok (.goto 46, 3) := by decide +kernel
theorem dX16_read_168 : decode cX16_read 168 = .ok (.aload_n 0, 1) := by decide +kernel
theorem dX16_read_169 : decode cX16_read 169 = .ok (.getfield 73, 3) := by decide +kernel
theorem dX16_read_172 : decode cX16_read 172 = .ok (.iload 4, 2) := by decide +kernel
theorem dX16_read_174 : decode cX16_read 174 = .ok (.iaload, 1) := by decide +kernel
theorem dX16_read_175 : decode cX16_read 175 = .ok (.iconst 3, 1) := by decide +kernel
theorem dX16_read_176 : decode cX16_read 176 = .ok (.if_icmp .ne 28, 3) := by decide +kernel
theorem dX16_read_179 : decode cX16_read 179 = .ok (.aload_n 0, 1) := by decide +kernel
theorem dX16_read_180 : decode cX16_read 180 = .ok (.getfield 103, 3) := by decide +kernel
theorem dX16_read_183 : decode cX16_read 183 = .ok (.sipush 512, 3) := by decide +kernel
theorem dX16_read_186 : decode cX16_read 186 = .ok (.iload 6, 2) := by decide +kernel
theorem dX16_read_188 : decode cX16_read 188 = .ok (.imul, 1) := by decide +kernel
theorem dX16_read_189 : decode cX16_read 189 = .ok (.aload_n 0, 1) := by decide +kernel
theorem dX16_read_190 : decode cX16_read 190 = .ok (.getfield 79, 3) := by decide +kernel
theorem dX16_read_193 : decode cX16_read 193 = .ok (.iload 4, 2) := by decide +kernel
theorem dX16_read_195 : decode cX16_read 195 = .ok (.iaload, 1) := by decide +kernel
theorem dX16_read_196 : decode cX16_read 196 = .ok (.iadd, 1) := by decide +kernel
theorem dX16_read_197 : decode cX16_read 197 = .ok (.iload 7, 2) := by decide +kernel
theorem dX16_read_199 : decode cX16_read 199 = .ok (.iadd, 1) := by decide +kernel
theorem dX16_read_200 : decode cX16_read 200 = .ok (.iaload, 1) := by decide +kernel
theorem dX16_read_201 : decode cX16_read 201 = .ok (.goto 10, 3) := by decide +kernel
theorem dX16_read_204 : decode cX16_read 204 = .ok (.aload_n 0, 1) := by decide +kernel
theorem dX16_read_205 : decode cX16_read 205 = .ok (.getfield 109, 3) := by decide +kernel
theorem dX16_read_208 : decode cX16_read 208 = .ok (.iload 7, 2) := by decide +kernel
theorem dX16_read_210 : decode cX16_read 210 = .ok (.iaload, 1) := by decide +kernel
theorem dX16_read_211 : decode cX16_read 211 = .ok (.invokevirtual 400, 3) := by decide +kernel
theorem dX16_read_214 : decode cX16_read 214 = .ok (.iinc 7 1, 3) := by decide +kernel
theorem dX16_read_217 : decode cX16_read 217 = .ok (.goto (-93), 3) := by decide +kernel
theorem dX16_read_220 : decode cX16_read 220 = .ok (.aload_n 0, 1) := by decide +kernel
theorem dX16_read_221 : decode cX16_read 221 = .ok (.getfield 73, 3) := by decide +kernel
theorem dX16_read_224 : decode cX16_read 224 = .ok (.iload 4, 2) := by decide +kernel
theorem dX16_read_226 : decode cX16_read 226 = .ok (.iaload, 1) := by decide +kernel
theorem dX16_read_227 : decode cX16_read 227 = .ok (.iconst 1, 1) := by decide +kernel
theorem dX16_read_228 : decode cX16_read 228 = .ok (.if_icmp .ne 71, 3) := by decide +kernel
theorem dX16_read_231 : decode cX16_read 231 = .ok (.iload 5, 2) := by decide +kernel
theorem dX16_read_233 : decode cX16_read 233 = .ok (.istore 7, 2) := by decide +kernel
theorem dX16_read_235 : decode cX16_read 235 = .ok (.iload 7, 2) := by decide +kernel
theorem dX16_read_237 : decode cX16_read 237 = .ok (.aload_n 0, 1) := by decide +kernel
theorem dX16_read_238 : decode cX16_read 238 = .ok (.getfield 94, 3) := by decide +kernel
theorem dX16_read_241 : decode cX16_read 241 = .ok (.iload 6, 2) := by decide +kernel
theorem dX16_read_243 : decode cX16_read 243 = .ok (.iaload, 1) := by decide +kernel
theorem dX16_read_244 : decode cX16_read 244 = .ok (.if_icmp .ge 40, 3) := by decide +kernel
theorem dX16_read_247 : decode cX16_read 247 = .ok (.aload_n 0, 1) := by decide +kernel
theorem dX16_read_248 : decode cX16_read 248 = .ok (.getfield 97, 3) := by decide +kernel
theorem dX16_read_251 : decode cX16_read 251 = .ok (.sipush 512, 3) := by decide +kernel
theorem dX16_read_254 : decode cX16_read 254 = .ok (.iload 6, 2) := by decide +kernel
theorem dX16_read_256 : decode cX16_read 256 = .ok (.imul, 1) := by decide +kernel
theorem dX16_read_257 : decode cX16_read 257 = .ok (.iload 7, 2) := by decide +kernel
theorem dX16_read_259 : decode cX16_read 259 = .ok (.iadd, 1) := by decide +kernel
