theorem dX4_multiply_78 : decode cX4_multiply 78 = .ok (.l2i, 1) := by decide +kernel
theorem dX4_multiply_79 : decode cX4_multiply 79 = .ok (.istore 9, 2) := by decide +kernel
theorem dX4_multiply_81 : decode cX4_multiply 81 = .ok (.goto 104, 3) := by decide +kernel
theorem dX4_multiply_84 : decode cX4_multiply 84 = .ok (.iload_n 3, 1) := by decide +kernel
theorem dX4_multiply_85 : decode cX4_multiply 85 = .ok (.i2l, 1) := by decide +kernel
theorem dX4_multiply_86 : decode cX4_multiply 86 = .ok (.lload 7, 2) := by decide +kernel
theorem dX4_multiply_88 : decode cX4_multiply 88 = .ok (.lmul, 1) := by decide +kernel
theorem dX4_multiply_89 : decode cX4_multiply 89 = .ok (.bipush 32, 2) := by decide +kernel
theorem dX4_multiply_91 : decode cX4_multiply 91 = .ok (.lshr, 1) := by decide +kernel
theorem dX4_multiply_92 : decode cX4_multiply 92 = .ok (.l2i, 1) := by decide +kernel
theorem dX4_multiply_93 : decode cX4_multiply 93 = .ok (.istore 9, 2) := by decide +kernel
theorem dX4_multiply_95 : decode cX4_multiply 95 = .ok (.goto 90, 3) := by decide +kernel
theorem dX4_multiply_98 : decode cX4_multiply 98 = .ok (.lload 5, 2) := by decide +kernel
theorem dX4_multiply_100 : decode cX4_multiply 100 = .ok (.lload 7, 2) := by decide +kernel
theorem dX4_multiply_102 : decode cX4_multiply 102 = .ok (.lmul, 1) := by decide +kernel
theorem dX4_multiply_103 : decode cX4_multiply 103 = .ok (.bipush 32, 2) := by decide +kernel
theorem dX4_multiply_105 : decode cX4_multiply 105 = .ok (.lushr, 1) := by decide +kernel
theorem dX4_multiply_106 : decode cX4_multiply 106 = .ok (.l2i, 1) := by decide +kernel
theorem dX4_multiply_107 : decode cX4_multiply 107 = .ok (.istore 9, 2) := by decide +kernel
theorem dX4_multiply_109 : decode cX4_multiply 109 = .ok (.goto 76, 3) := by decide +kernel
theorem dX4_multiply_112 : decode cX4_multiply 112 = .ok (.iload 4, 2) := by decide +kernel
theorem dX4_multiply_114 : decode cX4_multiply 114 = .ok (.ifCond .ne 7, 3) := by decide +kernel
theorem dX4_multiply_117 : decode cX4_multiply 117 = .ok (.iconst (-1), 1) := by decide +kernel
theorem dX4_multiply_118 : decode cX4_multiply 118 = .ok (.goto 7, 3) := by decide +kernel
theorem dX4_multiply_121 : decode cX4_multiply 121 = .ok (.iload_n 3, 1) := by decide +kernel
theorem dX4_multiply_122 : decode cX4_multiply 122 = .ok (.iload 4, 2) := by decide +kernel
theorem dX4_multiply_124 : decode cX4_multiply 124 = .ok (.idiv, 1) := by decide +kernel
theorem dX4_multiply_125 : decode cX4_multiply 125 = .ok (.istore 9, 2) := by decide +kernel
theorem dX4_multiply_127 : decode cX4_multiply 127 = .ok (.goto 58, 3) := by decide +kernel
theorem dX4_multiply_130 : decode cX4_multiply 130 = .ok (.iload 4, 2) := by decide +kernel
theorem dX4_multiply_132 : decode cX4_multiply 132 = .ok (.ifCond .ne 7, 3) := by decide +kernel
theorem dX4_multiply_135 : decode cX4_multiply 135 = .ok (.iconst (-1), 1) := by decide +kernel
theorem dX4_multiply_136 : decode cX4_multiply 136 = .ok (.goto 9, 3) := by decide +kernel
theorem dX4_multiply_139 : decode cX4_multiply 139 = .ok (.lload 5, 2) := by decide +kernel
theorem dX4_multiply_141 : decode cX4_multiply 141 = .ok (.lload 7, 2) := by decide +kernel
theorem dX4_multiply_143 : decode cX4_multiply 143 = .ok (.ldiv, 1) := by decide +kernel
theorem dX4_multiply_144 : decode cX4_multiply 144 = .ok (.l2i, 1) := by decide +kernel
theorem dX4_multiply_145 : decode cX4_multiply 145 = .ok (.istore 9, 2) := by decide +kernel
theorem dX4_multiply_147 : decode cX4_multiply 147 = .ok (.goto 38, 3) := by decide +kernel
theorem dX4_multiply_150 : decode cX4_multiply 150 = .ok (.iload 4, 2) := by decide +kernel
theorem dX4_multiply_152 : decode cX4_multiply 152 = .ok (.ifCond .ne 7, 3) := by decide +kernel
theorem dX4_multiply_155 : decode cX4_multiply 155 = .ok (.iload_n 3, 1) := by decide +kernel
theorem dX4_multiply_156 : decode cX4_multiply 156 = .ok (.goto 7, 3) := by decide +kernel
theorem dX4_multiply_159 : decode cX4_multiply 159 = .ok (.iload_n 3, 1) := by decide +kernel
theorem dX4_multiply_160 : decode cX4_multiply 160 = .ok (.iload 4, 2) := by decide +kernel
theorem dX4_multiply_162 : decode cX4_multiply 162 = .ok (.irem, 1) := by decide +kernel
theorem dX4_multiply_163 : decode cX4_multiply 163 = .ok (.istore 9, 2) := by decide +kernel
theorem dX4_multiply_165 : decode cX4_multiply 165 = .ok (.goto 20, 3) := by decide +kernel
theorem dX4_multiply_168 : decode cX4_multiply 168 = .ok (.iload 4, 2) := by decide +kernel
theorem dX4_multiply_170 : decode cX4_multiply 170 = .ok (.ifCond .ne 7, 3) := by decide +kernel
theorem dX4_multiply_173 : decode cX4_multiply 173 = .ok (.iload_n 3, 1) := by decide +kernel
theorem dX4_multiply_174 : decode cX4_multiply 174 = .ok (.goto 9, 3) := by decide +kernel
theorem dX4_multiply_177 : decode cX4_multiply 177 = .ok (.lload 5, 2) := by decide +kernel
theorem dX4_multiply_179 : decode cX4_multiply 179 = .ok (.lload 7, 2) := by decide +kernel
theorem dX4_multiply_181 : decode cX4_multiply 181 = .ok (.lrem, 1) := by decide +kernel
theorem dX4_multiply_182 : decode cX4_multiply 182 = .ok (.l2i, 1) := by decide +kernel
theorem dX4_multiply_183 : decode cX4_multiply 183 = .ok (.istore 9, 2) := by decide +kernel
theorem dX4_multiply_185 : decode cX4_multiply 185 = .ok (.aload_n 0, 1) := by decide +kernel
theorem dX4_multiply_186 : decode cX4_multiply 186 = .ok (.iload_n 1, 1) := by decide +kernel
theorem dX4_multiply_187 : decode cX4_multiply 187 = .ok (.iload 9, 2) := by decide +kernel
theorem dX4_multiply_189 : decode cX4_multiply 189 = .ok (.invokevirtual 52, 3) := by decide +kernel
theorem dX4_multiply_192 : decode cX4_multiply 192 = .ok (.iconst 0, 1) := by decide +kernel
theorem dX4_multiply_193 : decode cX4_multiply 193 = .ok (.ireturn, 1) := by decide +kernel
theorem dX4_atomic_0 : decode cX4_atomic 0 = .ok (.iload_n 1, 1) := by decide +kernel
theorem dX4_atomic_1 : decode cX4_atomic 1 = .ok (.bipush 27, 2) := by decide +kernel
theorem dX4_atomic_3 : decode cX4_atomic 3 = .ok (.iushr, 1) := by decide +kernel
theorem dX4_atomic_4 : decode cX4_atomic 4 = .ok (.istore 4, 2) := by decide +kernel
theorem dX4_atomic_6 : decode cX4_atomic 6 = .ok (.iload 4, 2) := by decide +kernel
theorem dX4_atomic_8 : decode cX4_atomic 8 = .ok (.iconst 2, 1) := by decide +kernel
theorem dX4_atomic_9 : decode cX4_atomic 9 = .ok (.if_icmp .ne 7, 3) := by decide +kernel
theorem dX4_atomic_12 : decode cX4_atomic 12 = .ok (.iconst 1, 1) := by decide +kernel
theorem dX4_atomic_13 : decode cX4_atomic 13 = .ok (.goto 4, 3) := by decide +kernel
theorem dX4_atomic_16 : decode cX4_atomic 16 = .ok (.iconst 0, 1) := by decide +kernel
theorem dX4_atomic_17 : decode cX4_atomic 17 = .ok (.istore 5, 2) := by decide +kernel
theorem dX4_atomic_19 : decode cX4_atomic 19 = .ok (.iload 5, 2) := by decide +kernel
theorem dX4_atomic_21 : decode cX4_atomic 21 = .ok (.ifCond .eq 13, 3) := by decide +kernel
theorem dX4_atomic_24 : decode cX4_atomic 24 = .ok (.iload_n 1, 1) := by decide +kernel
theorem dX4_atomic_25 : decode cX4_atomic 25 = .ok (.bipush 20, 2) := by decide +kernel
theorem dX4_atomic_27 : decode cX4_atomic 27 = .ok (.ishr, 1) := by decide +kernel
theorem dX4_atomic_28 : decode cX4_atomic 28 = .ok (.bipush 31, 2) := by decide +kernel
theorem dX4_atomic_30 : decode cX4_atomic 30 = .ok (.iand, 1) := by decide +kernel
theorem dX4_atomic_31 : decode cX4_atomic 31 = .ok (.ifCond .ne 11, 3) := by decide +kernel
theorem dX4_atomic_34 : decode cX4_atomic 34 = .ok (.iload 4, 2) := by decide +kernel
theorem dX4_atomic_36 : decode cX4_atomic 36 = .ok (.invokestatic 118, 3) := by decide +kernel
theorem dX4_atomic_39 : decode cX4_atomic 39 = .ok (.ifCond .ne 5, 3) := by decide +kernel
theorem dX4_atomic_42 : decode cX4_atomic 42 = .ok (.iconst 4, 1) := by decide +kernel
theorem dX4_atomic_43 : decode cX4_atomic 43 = .ok (.ireturn, 1) := by decide +kernel
theorem dX4_atomic_44 : decode cX4_atomic 44 = .ok (.iload_n 2, 1) := by decide +kernel
theorem dX4_atomic_45 : decode cX4_atomic 45 = .ok (.iconst 3, 1) := by decide +kernel
theorem dX4_atomic_46 : decode cX4_atomic 46 = .ok (.iand, 1) := by decide +kernel
theorem dX4_atomic_47 : decode cX4_atomic 47 = .ok (.ifCond .eq 6, 3) := by decide +kernel
theorem dX4_atomic_50 : decode cX4_atomic 50 = .ok (.bipush 7, 2) := by decide +kernel
theorem dX4_atomic_52 : decode cX4_atomic 52 = .ok (.ireturn, 1) := by decide +kernel
theorem dX4_atomic_53 : decode cX4_atomic 53 = .ok (.iload 5, 2) := by decide +kernel
theorem dX4_atomic_55 : decode cX4_atomic 55 = .ok (.ifCond .ne 19, 3) := by decide +kernel
theorem dX4_atomic_58 : decode cX4_atomic 58 = .ok (.aload_n 0, 1) := by decide +kernel
theorem dX4_atomic_59 : decode cX4_atomic 59 = .ok (.getfield 7, 3) := by decide +kernel
theorem dX4_atomic_62 : decode cX4_atomic 62 = .ok (.aload_n 0, 1) := by decide +kernel
theorem dX4_atomic_63 : decode cX4_atomic 63 = .ok (.getfield 20, 3) := by decide +kernel
theorem dX4_atomic_66 : decode cX4_atomic 66 = .ok (.iload_n 2, 1) := by decide +kernel
theorem dX4_atomic_67 : decode cX4_atomic 67 = .ok (.iconst 2, 1) := by decide +kernel
theorem dX4_atomic_68 : decode cX4_atomic 68 = .ok (.invokevirtual 30, 3) := by decide +kernel
theorem dX4_atomic_71 : decode cX4_atomic 71 = .ok (.ifCond .eq 19, 3) := by decide +kernel
theorem dX4_atomic_74 : decode cX4_atomic 74 = .ok (.aload_n 0, 1) := by decide +kernel
theorem dX4_atomic_75 : decode cX4_atomic 75 = .ok (.getfield 7, 3) := by decide +kernel
theorem dX4_atomic_78 : decode cX4_atomic 78 = .ok (.aload_n 0, 1) := by decide +kernel
theorem dX4_atomic_79 : decode cX4_atomic 79 = .ok (.getfield 20, 3) := by decide +kernel
theorem dX4_atomic_82 : decode cX4_atomic 82 = .ok (.iload_n 2, 1) := by decide +kernel
theorem dX4_atomic_83 : decode cX4_atomic 83 = .ok (.iconst 1, 1) := by decide +kernel
theorem dX4_atomic_84 : decode cX4_atomic 84 = .ok (.invokevirtual 30, 3) := by decide +kernel
theorem dX4_atomic_87 : decode cX4_atomic 87 = .ok (.ifCond .ne 6, 3) := by decide +kernel
theorem dX4_atomic_90 : decode cX4_atomic 90 = .ok (.bipush 11, 2) := by decide +kernel
theorem dX4_atomic_92 : decode cX4_atomic 92 = .ok (.ireturn, 1) := by decide +kernel
theorem dX4_atomic_93 : decode cX4_atomic 93 = .ok (.iload 5, 2) := by decide +kernel
theorem dX4_atomic_95 : decode cX4_atomic 95 = .ok (.ifCond .eq 30, 3) := by decide +kernel
theorem dX4_atomic_98 : decode cX4_atomic 98 = .ok (.aload_n 0, 1) := by decide +kernel
theorem dX4_atomic_99 : decode cX4_atomic 99 = .ok (.iload_n 1, 1) := by decide +kernel
theorem dX4_atomic_100 : decode cX4_atomic 100 = .ok (.aload_n 0, 1) := by decide +kernel
theorem dX4_atomic_101 : decode cX4_atomic 101 = .ok (.getfield 7, 3) := by decide +kernel
theorem dX4_atomic_104 : decode cX4_atomic 104 = .ok (.aload_n 0, 1) := by decide +kernel
theorem dX4_atomic_105 : decode cX4_atomic 105 = .ok (.getfield 20, 3) := by decide +kernel
theorem dX4_atomic_108 : decode cX4_atomic 108 = .ok (.iload_n 2, 1) := by decide +kernel
theorem dX4_atomic_109 : decode cX4_atomic 109 = .ok (.invokevirtual 97, 3) := by decide +kernel
theorem dX4_atomic_112 : decode cX4_atomic 112 = .ok (.invokevirtual 52, 3) := by decide +kernel
theorem dX4_atomic_115 : decode cX4_atomic 115 = .ok (.aload_n 0, 1) := by decide +kernel
theorem dX4_atomic_116 : decode cX4_atomic 116 = .ok (.getfield 7, 3) := by decide +kernel
theorem dX4_atomic_119 : decode cX4_atomic 119 = .ok (.iload_n 2, 1) := by decide +kernel
theorem dX4_atomic_120 : decode cX4_atomic 120 = .ok (.putfield 122, 3) := by decide +kernel
theorem dX4_atomic_123 : decode cX4_atomic 123 = .ok (.iconst 0, 1) := by decide +kernel
theorem dX4_atomic_124 : decode cX4_atomic 124 = .ok (.ireturn, 1) := by decide +kernel
theorem dX4_atomic_125 : decode cX4_atomic 125 = .ok (.iload 4, 2) := by decide +kernel
theorem dX4_atomic_127 : decode cX4_atomic 127 = .ok (.iconst 3, 1) := by decide +kernel
theorem dX4_atomic_128 : decode cX4_atomic 128 = .ok (.if_icmp .ne 7, 3) := by decide +kernel
theorem dX4_atomic_131 : decode cX4_atomic 131 = .ok (.iconst 1, 1) := by decide +kernel
theorem dX4_atomic_132 : decode cX4_atomic 132 = .ok (.goto 4, 3) := by decide +kernel
theorem dX4_atomic_135 : decode cX4_atomic 135 = .ok (.iconst 0, 1) := by decide +kernel
theorem dX4_atomic_136 : decode cX4_atomic 136 = .ok (.istore 6, 2) := by decide +kernel
theorem dX4_atomic_138 : decode cX4_atomic 138 = .ok (.iload 6, 2) := by decide +kernel
theorem dX4_atomic_140 : decode cX4_atomic 140 = .ok (.ifCond .eq 30, 3) := by decide +kernel
theorem dX4_atomic_143 : decode cX4_atomic 143 = .ok (.aload_n 0, 1) := by decide +kernel
theorem dX4_atomic_144 : decode cX4_atomic 144 = .ok (.getfield 7, 3) := by decide +kernel
theorem dX4_atomic_147 : decode cX4_atomic 147 = .ok (.getfield 122, 3) := by decide +kernel
theorem dX4_atomic_150 : decode cX4_atomic 150 = .ok (.iload_n 2, 1) := by decide +kernel
theorem dX4_atomic_151 : decode cX4_atomic 151 = .ok (.if_icmp .eq 19, 3) := by decide +kernel
theorem dX4_atomic_154 : decode cX4_atomic 154 = .ok (.aload_n 0, 1) := by decide +kernel
theorem dX4_atomic_155 : decode cX4_atomic 155 = .ok (.iload_n 1, 1) := by decide +kernel
theorem dX4_atomic_156 : decode cX4_atomic 156 = .ok (.iconst 1, 1) := by decide +kernel
theorem dX4_atomic_157 : decode cX4_atomic 157 = .ok (.invokevirtual 52, 3) := by decide +kernel
theorem dX4_atomic_160 : decode cX4_atomic 160 = .ok (.aload_n 0, 1) := by decide +kernel
theorem dX4_atomic_161 : decode cX4_atomic 161 = .ok (.getfield 7, 3) := by decide +kernel
theorem dX4_atomic_164 : decode cX4_atomic 164 = .ok (.iconst (-1), 1) := by decide +kernel
theorem dX4_atomic_165 : decode cX4_atomic 165 = .ok (.putfield 122, 3) := by decide +kernel
theorem dX4_atomic_168 : decode cX4_atomic 168 = .ok (.iconst 0, 1) := by decide +kernel
theorem dX4_atomic_169 : decode cX4_atomic 169 = .ok (.ireturn, 1) := by decide +kernel
theorem dX4_atomic_170 : decode cX4_atomic 170 = .ok (.aload_n 0, 1) := by decide +kernel
theorem dX4_atomic_171 : decode cX4_atomic 171 = .ok (.getfield 7, 3) := by decide +kernel
theorem dX4_atomic_174 : decode cX4_atomic 174 = .ok (.aload_n 0, 1) := by decide +kernel
theorem dX4_atomic_175 : decode cX4_atomic 175 = .ok (.getfield 20, 3) := by decide +kernel
theorem dX4_atomic_178 : decode cX4_atomic 178 = .ok (.iload_n 2, 1) := by decide +kernel
theorem dX4_atomic_179 : decode cX4_atomic 179 = .ok (.invokevirtual 100, 3) := by decide +kernel
theorem dX4_atomic_182 : decode cX4_atomic 182 = .ok (.ifCond .ne 6, 3) := by decide +kernel
theorem dX4_atomic_185 : decode cX4_atomic 185 = .ok (.bipush 7, 2) := by decide +kernel
theorem dX4_atomic_187 : decode cX4_atomic 187 = .ok (.ireturn, 1) := by decide +kernel
theorem dX4_atomic_188 : decode cX4_atomic 188 = .ok (.aload_n 0, 1) := by decide +kernel
theorem dX4_atomic_189 : decode cX4_atomic 189 = .ok (.getfield 7, 3) := by decide +kernel
theorem dX4_atomic_192 : decode cX4_atomic 192 = .ok (.aload_n 0, 1) := by decide +kernel
theorem dX4_atomic_193 : decode cX4_atomic 193 = .ok (.getfield 20, 3) := by decide +kernel
theorem dX4_atomic_196 : decode cX4_atomic 196 = .ok (.iload_n 2, 1) := by decide +kernel
theorem dX4_atomic_197 : decode cX4_atomic 197 = .ok (.invokevirtual 97, 3) := by decide +kernel
theorem dX4_atomic_200 : decode cX4_atomic 200 = .ok (.istore 7, 2) := by decide +kernel
theorem dX4_atomic_202 : decode cX4_atomic 202 = .ok (.aload_n 0, 1) := by decide +kernel
theorem dX4_atomic_203 : decode cX4_atomic 203 = .ok (.getfield 7, 3) := by decide +kernel
theorem dX4_atomic_206 : decode cX4_atomic 206 = .ok (.aload_n 0, 1) := by decide +kernel
theorem dX4_atomic_207 : decode cX4_atomic 207 = .ok (.getfield 20, 3) := by decide +kernel
theorem dX4_atomic_210 : decode cX4_atomic 210 = .ok (.iload_n 2, 1) := by decide +kernel
theorem dX4_atomic_211 : decode cX4_atomic 211 = .ok (.iconst (-1), 1) := by decide +kernel
theorem dX4_atomic_212 : decode cX4_atomic 212 = .ok (.iload 6, 2) := by decide +kernel
theorem dX4_atomic_214 : decode cX4_atomic 214 = .ok (.ifCond .eq 7, 3) := by decide +kernel
theorem dX4_atomic_217 : decode cX4_atomic 217 = .ok (.iload_n 3, 1) := by decide +kernel
theorem dX4_atomic_218 : decode cX4_atomic 218 = .ok (.goto 11, 3) := by decide +kernel
theorem dX4_atomic_221 : decode cX4_atomic 221 = .ok (.iload 4, 2) := by decide +kernel
theorem dX4_atomic_223 : decode cX4_atomic 223 = .ok (.iload 7, 2) := by decide +kernel
theorem dX4_atomic_225 : decode cX4_atomic 225 = .ok (.iload_n 3, 1) := by decide +kernel
theorem dX4_atomic_226 : decode cX4_atomic 226 = .ok (.invokestatic 125, 3) := by decide +kernel
theorem dX4_atomic_229 : decode cX4_atomic 229 = .ok (.invokevirtual 105, 3) := by decide +kernel
theorem dX4_atomic_232 : decode cX4_atomic 232 = .ok (.aload_n 0, 1) := by decide +kernel
theorem dX4_atomic_233 : decode cX4_atomic 233 = .ok (.getfield 7, 3) := by decide +kernel
theorem dX4_atomic_236 : decode cX4_atomic 236 = .ok (.aload_n 0, 1) := by decide +kernel
theorem dX4_atomic_237 : decode cX4_atomic 237 = .ok (.getfield 20, 3) := by decide +kernel
theorem dX4_atomic_240 : decode cX4_atomic 240 = .ok (.iload_n 2, 1) := by decide +kernel
theorem dX4_atomic_241 : decode cX4_atomic 241 = .ok (.iconst 4, 1) := by decide +kernel
theorem dX4_atomic_242 : decode cX4_atomic 242 = .ok (.invokevirtual 109, 3) := by decide +kernel
theorem dX4_atomic_245 : decode cX4_atomic 245 = .ok (.aload_n 0, 1) := by decide +kernel
theorem dX4_atomic_246 : decode cX4_atomic 246 = .ok (.iload_n 1, 1) := by decide +kernel
theorem dX4_atomic_247 : decode cX4_atomic 247 = .ok (.iload 6, 2) := by decide +kernel
theorem dX4_atomic_249 : decode cX4_atomic 249 = .ok (.ifCond .eq 7, 3) := by decide +kernel
theorem dX4_atomic_252 : decode cX4_atomic 252 = .ok (.iconst 0, 1) := by decide +kernel
theorem dX4_atomic_253 : decode cX4_atomic 253 = .ok (.goto 5, 3) := by decide +kernel
theorem dX4_atomic_256 : decode cX4_atomic 256 = .ok (.iload 7, 2) := by decide +kernel
theorem dX4_atomic_258 : decode cX4_atomic 258 = .ok (.invokevirtual 52, 3) := by decide +kernel
theorem dX4_atomic_261 : decode cX4_atomic 261 = .ok (.iconst 0, 1) := by decide +kernel
theorem dX4_atomic_262 : decode cX4_atomic 262 = .ok (.ireturn, 1) := by decide +kernel
theorem dX4_isAtomic_0 : decode cX4_isAtomic 0 = .ok (.iload_n 0, 1) := by decide +kernel
theorem dX4_isAtomic_1 : decode cX4_isAtomic 1 = .ok (.iconst 4, 1) := by decide +kernel
theorem dX4_isAtomic_2 : decode cX4_isAtomic 2 = .ok (.if_icmp .le 9, 3) := by decide +kernel
theorem dX4_isAtomic_5 : decode cX4_isAtomic 5 = .ok (.iload_n 0, 1) := by decide +kernel
theorem dX4_isAtomic_6 : decode cX4_isAtomic 6 = .ok (.iconst 3, 1) := by decide +kernel
theorem dX4_isAtomic_7 : decode cX4_isAtomic 7 = .ok (.iand, 1) := by decide +kernel
theorem dX4_isAtomic_8 : decode cX4_isAtomic 8 = .ok (.ifCond .ne 7, 3) := by decide +kernel
theorem dX4_isAtomic_11 : decode cX4_isAtomic 11 = .ok (.iconst 1, 1) := by decide +kernel
theorem dX4_isAtomic_12 : decode cX4_isAtomic 12 = .ok (.goto 4, 3) := by decide +kernel
theorem dX4_isAtomic_15 : decode cX4_isAtomic 15 = .ok (.iconst 0, 1) := by decide +kernel
theorem dX4_isAtomic_16 : decode cX4_isAtomic 16 = .ok (.ireturn, 1) := by decide +kernel
theorem dX4_changed_0 : decode cX4_changed 0 = .ok (.iload_n 0, 1) := by decide +kernel
theorem dX4_changed_1 : decode cX4_changed 1 = .ok (.tableswitch 159 0 24 #[115, 119, 159, 159, 121, 159, 159, 159, 125, 159, 159, 159, 129, 159, 159, 159, 133, 159, 159, 159, 139, 159, 159, 159, 145], 115) := by decide +kernel
theorem dX4_changed_116 : decode cX4_changed 116 = .ok (.iload_n 1, 1) := by decide +kernel
theorem dX4_changed_117 : decode cX4_changed 117 = .ok (.iload_n 2, 1) := by decide +kernel
theorem dX4_changed_118 : decode cX4_changed 118 = .ok (.iadd, 1) := by decide +kernel
theorem dX4_changed_119 : decode cX4_changed 119 = .ok (.ireturn, 1) := by decide +kernel
theorem dX4_changed_120 : decode cX4_changed 120 = .ok (.iload_n 2, 1) := by decide +kernel
theorem dX4_changed_121 : decode cX4_changed 121 = .ok (.ireturn, 1) := by decide +kernel
theorem dX4_changed_122 : decode cX4_changed 122 = .ok (.iload_n 1, 1) := by decide +kernel
theorem dX4_changed_123 : decode cX4_changed 123 = .ok (.iload_n 2, 1) := by decide +kernel
theorem dX4_changed_124 : decode cX4_changed 124 = .ok (.ixor, 1) := by decide +kernel
theorem dX4_changed_125 : decode cX4_changed 125 = .ok (.ireturn, 1) := by decide +kernel
theorem dX4_changed_126 : decode cX4_changed 126 = .ok (.iload_n 1, 1) := by decide +kernel
theorem dX4_changed_127 : decode cX4_changed 127 = .ok (.iload_n 2, 1) := by decide +kernel
theorem dX4_changed_128 : decode cX4_changed 128 = .ok (.ior, 1) := by decide +kernel
theorem dX4_changed_129 : decode cX4_changed 129 = .ok (.ireturn, 1) := by decide +kernel
theorem dX4_changed_130 : decode cX4_changed 130 = .ok (.iload_n 1, 1) := by decide +kernel
theorem dX4_changed_131 : decode cX4_changed 131 = .ok (.iload_n 2, 1) := by decide +kernel
theorem dX4_changed_132 : decode cX4_changed 132 = .ok (.iand, 1) := by decide +kernel
theorem dX4_changed_133 : decode cX4_changed 133 = .ok (.ireturn, 1) := by decide +kernel
theorem dX4_changed_134 : decode cX4_changed 134 = .ok (.iload_n 1, 1) := by decide +kernel
theorem dX4_changed_135 : decode cX4_changed 135 = .ok (.iload_n 2, 1) := by decide +kernel
theorem dX4_changed_136 : decode cX4_changed 136 = .ok (.invokestatic 128, 3) := by decide +kernel
theorem dX4_changed_139 : decode cX4_changed 139 = .ok (.ireturn, 1) := by decide +kernel
theorem dX4_changed_140 : decode cX4_changed 140 = .ok (.iload_n 1, 1) := by decide +kernel
theorem dX4_changed_141 : decode cX4_changed 141 = .ok (.iload_n 2, 1) := by decide +kernel
theorem dX4_changed_142 : decode cX4_changed 142 = .ok (.invokestatic 133, 3) := by decide +kernel
theorem dX4_changed_145 : decode cX4_changed 145 = .ok (.ireturn, 1) := by decide +kernel
theorem dX4_changed_146 : decode cX4_changed 146 = .ok (.iload_n 1, 1) := by decide +kernel
theorem dX4_changed_147 : decode cX4_changed 147 = .ok (.iload_n 2, 1) := by decide +kernel
theorem dX4_changed_148 : decode cX4_changed 148 = .ok (.invokestatic 89, 3) := by decide +kernel
theorem dX4_changed_151 : decode cX4_changed 151 = .ok (.ifCond .ge 7, 3) := by decide +kernel
theorem dX4_changed_154 : decode cX4_changed 154 = .ok (.iload_n 1, 1) := by decide +kernel
theorem dX4_changed_155 : decode cX4_changed 155 = .ok (.goto 4, 3) := by decide +kernel
theorem dX4_changed_158 : decode cX4_changed 158 = .ok (.iload_n 2, 1) := by decide +kernel
theorem dX4_changed_159 : decode cX4_changed 159 = .ok (.ireturn, 1) := by decide +kernel
theorem dX4_changed_160 : decode cX4_changed 160 = .ok (.iload_n 1, 1) := by decide +kernel
theorem dX4_changed_161 : decode cX4_changed 161 = .ok (.iload_n 2, 1) := by decide +kernel
theorem dX4_changed_162 : decode cX4_changed 162 = .ok (.invokestatic 89, 3) := by decide +kernel
theorem dX4_changed_165 : decode cX4_changed 165 = .ok (.ifCond .le 7, 3) := by decide +kernel
theorem dX4_changed_168 : decode cX4_changed 168 = .ok (.iload_n 1, 1) := by decide +kernel
theorem dX4_changed_169 : decode cX4_changed 169 = .ok (.goto 4, 3) := by decide +kernel
theorem dX4_changed_172 : decode cX4_changed 172 = .ok (.iload_n 2, 1) := by decide +kernel
theorem dX4_changed_173 : decode cX4_changed 173 = .ok (.ireturn, 1) := by decide +kernel
theorem dX4_system_0 : decode cX4_system 0 = .ok (.iload_n 1, 1) := by decide +kernel
theorem dX4_system_1 : decode cX4_system 1 = .ok (.bipush 115, 2) := by decide +kernel
theorem dX4_system_3 : decode cX4_system 3 = .ok (.if_icmp .ne 5, 3) := by decide +kernel
theorem dX4_system_6 : decode cX4_system 6 = .ok (.iconst (-1), 1) := by decide +kernel
theorem dX4_system_7 : decode cX4_system 7 = .ok (.ireturn, 1) := by decide +kernel
theorem dX4_system_8 : decode cX4_system 8 = .ok (.iload_n 1, 1) := by decide +kernel
theorem dX4_system_9 : decode cX4_system 9 = .ok (.ldc 136, 2) := by decide +kernel
theorem dX4_system_11 : decode cX4_system 11 = .ok (.if_icmp .ne 5, 3) := by decide +kernel
theorem dX4_system_14 : decode cX4_system 14 = .ok (.iconst 5, 1) := by decide +kernel
theorem dX4_system_15 : decode cX4_system 15 = .ok (.ireturn, 1) := by decide +kernel
theorem dX4_system_16 : decode cX4_system 16 = .ok (.iload_n 2, 1) := by decide +kernel
theorem dX4_system_17 : decode cX4_system 17 = .ok (.iconst 3, 1) := by decide +kernel
theorem dX4_system_18 : decode cX4_system 18 = .ok (.iand, 1) := by decide +kernel
theorem dX4_system_19 : decode cX4_system 19 = .ok (.iconst 2, 1) := by decide +kernel
theorem dX4_system_20 : decode cX4_system 20 = .ok (.if_icmp .lt 13, 3) := by decide +kernel
theorem dX4_system_23 : decode cX4_system 23 = .ok (.iload_n 1, 1) := by decide +kernel
theorem dX4_system_24 : decode cX4_system 24 = .ok (.bipush 15, 2) := by decide +kernel
theorem dX4_system_26 : decode cX4_system 26 = .ok (.ishr, 1) := by decide +kernel
theorem dX4_system_27 : decode cX4_system 27 = .ok (.bipush 31, 2) := by decide +kernel
theorem dX4_system_29 : decode cX4_system 29 = .ok (.iand, 1) := by decide +kernel
theorem dX4_system_30 : decode cX4_system 30 = .ok (.ifCond .eq 5, 3) := by decide +kernel
theorem dX4_system_33 : decode cX4_system 33 = .ok (.iconst 4, 1) := by decide +kernel
theorem dX4_system_34 : decode cX4_system 34 = .ok (.ireturn, 1) := by decide +kernel
theorem dX4_system_35 : decode cX4_system 35 = .ok (.iload_n 1, 1) := by decide +kernel
theorem dX4_system_36 : decode cX4_system 36 = .ok (.bipush 20, 2) := by decide +kernel
theorem dX4_system_38 : decode cX4_system 38 = .ok (.iushr, 1) := by decide +kernel
theorem dX4_system_39 : decode cX4_system 39 = .ok (.lookupswitch 123 #[(3072, 57), (3073, 90), (3074, 57), (3200, 72), (3201, 105), (3202, 72)], 57) := by decide +kernel
theorem dX4_system_96 : decode cX4_system 96 = .ok (.aload_n 0, 1) := by decide +kernel
theorem dX4_system_97 : decode cX4_system 97 = .ok (.iload_n 1, 1) := by decide +kernel
theorem dX4_system_98 : decode cX4_system 98 = .ok (.aload_n 0, 1) := by decide +kernel
theorem dX4_system_99 : decode cX4_system 99 = .ok (.getfield 7, 3) := by decide +kernel
theorem dX4_system_102 : decode cX4_system 102 = .ok (.getfield 48, 3) := by decide +kernel
theorem dX4_system_105 : decode cX4_system 105 = .ok (.l2i, 1) := by decide +kernel
theorem dX4_system_106 : decode cX4_system 106 = .ok (.invokevirtual 52, 3) := by decide +kernel
theorem dX4_system_109 : decode cX4_system 109 = .ok (.iconst 0, 1) := by decide +kernel
theorem dX4_system_110 : decode cX4_system 110 = .ok (.ireturn, 1) := by decide +kernel
theorem dX4_system_111 : decode cX4_system 111 = .ok (.aload_n 0, 1) := by decide +kernel
theorem dX4_system_112 : decode cX4_system 112 = .ok (.iload_n 1, 1) := by decide +kernel
theorem dX4_system_113 : decode cX4_system 113 = .ok (.aload_n 0, 1) := by decide +kernel
theorem dX4_system_114 : decode cX4_system 114 = .ok (.getfield 7, 3) := by decide +kernel
theorem dX4_system_117 : decode cX4_system 117 = .ok (.getfield 48, 3) := by decide +kernel
theorem dX4_system_120 : decode cX4_system 120 = .ok (.bipush 32, 2) := by decide +kernel
theorem dX4_system_122 : decode cX4_system 122 = .ok (.lshr, 1) := by decide +kernel
theorem dX4_system_123 : decode cX4_system 123 = .ok (.l2i, 1) := by decide +kernel
theorem dX4_system_124 : decode cX4_system 124 = .ok (.invokevirtual 52, 3) := by decide +kernel
theorem dX4_system_127 : decode cX4_system 127 = .ok (.iconst 0, 1) := by decide +kernel
theorem dX4_system_128 : decode cX4_system 128 = .ok (.ireturn, 1) := by decide +kernel
theorem dX4_system_129 : decode cX4_system 129 = .ok (.aload_n 0, 1) := by decide +kernel
theorem dX4_system_130 : decode cX4_system 130 = .ok (.iload_n 1, 1) := by decide +kernel
theorem dX4_system_131 : decode cX4_system 131 = .ok (.aload_n 0, 1) := by decide +kernel
theorem dX4_system_132 : decode cX4_system 132 = .ok (.getfield 7, 3) := by decide +kernel
theorem dX4_system_135 : decode cX4_system 135 = .ok (.getfield 137, 3) := by decide +kernel
theorem dX4_system_138 : decode cX4_system 138 = .ok (.l2i, 1) := by decide +kernel
theorem dX4_system_139 : decode cX4_system 139 = .ok (.invokevirtual 52, 3) := by decide +kernel
theorem dX4_system_142 : decode cX4_system 142 = .ok (.iconst 0, 1) := by decide +kernel
theorem dX4_system_143 : decode cX4_system 143 = .ok (.ireturn, 1) := by decide +kernel
theorem dX4_system_144 : decode cX4_system 144 = .ok (.aload_n 0, 1) := by decide +kernel
theorem dX4_system_145 : decode cX4_system 145 = .ok (.iload_n 1, 1) := by decide +kernel
theorem dX4_system_146 : decode cX4_system 146 = .ok (.aload_n 0, 1) := by decide +kernel
theorem dX4_system_147 : decode cX4_system 147 = .ok (.getfield 7, 3) := by decide +kernel
theorem dX4_system_150 : decode cX4_system 150 = .ok (.getfield 137, 3) := by decide +kernel
theorem dX4_system_153 : decode cX4_system 153 = .ok (.bipush 32, 2) := by decide +kernel
theorem dX4_system_155 : decode cX4_system 155 = .ok (.lshr, 1) := by decide +kernel
theorem dX4_system_156 : decode cX4_system 156 = .ok (.l2i, 1) := by decide +kernel
theorem dX4_system_157 : decode cX4_system 157 = .ok (.invokevirtual 52, 3) := by decide +kernel
theorem dX4_system_160 : decode cX4_system 160 = .ok (.iconst 0, 1) := by decide +kernel
theorem dX4_system_161 : decode cX4_system 161 = .ok (.ireturn, 1) := by decide +kernel
theorem dX4_system_162 : decode cX4_system 162 = .ok (.iconst 4, 1) := by decide +kernel
theorem dX4_system_163 : decode cX4_system 163 = .ok (.ireturn, 1) := by decide +kernel
theorem dX4_expanded_0 : decode cX4_expanded 0 = .ok (.iload_n 0, 1) := by decide +kernel
theorem dX4_expanded_1 : decode cX4_expanded 1 = .ok (.iconst 3, 1) := by decide +kernel
theorem dX4_expanded_2 : decode cX4_expanded 2 = .ok (.iand, 1) := by decide +kernel
theorem dX4_expanded_3 : decode cX4_expanded 3 = .ok (.lookupswitch 50 #[(0, 25), (1, 30)], 25) := by decide +kernel
theorem dX4_expanded_28 : decode cX4_expanded 28 = .ok (.iload_n 0, 1) := by decide +kernel
theorem dX4_expanded_29 : decode cX4_expanded 29 = .ok (.invokestatic 140, 3) := by decide +kernel
theorem dX4_expanded_32 : decode cX4_expanded 32 = .ok (.ireturn, 1) := by decide +kernel
theorem dX4_expanded_33 : decode cX4_expanded 33 = .ok (.iload_n 0, 1) := by decide +kernel
theorem dX4_expanded_34 : decode cX4_expanded 34 = .ok (.bipush 13, 2) := by decide +kernel
theorem dX4_expanded_36 : decode cX4_expanded 36 = .ok (.ishr, 1) := by decide +kernel
theorem dX4_expanded_37 : decode cX4_expanded 37 = .ok (.iconst 4, 1) := by decide +kernel
theorem dX4_expanded_38 : decode cX4_expanded 38 = .ok (.if_icmp .ne 10, 3) := by decide +kernel
theorem dX4_expanded_41 : decode cX4_expanded 41 = .ok (.iload_n 0, 1) := by decide +kernel
theorem dX4_expanded_42 : decode cX4_expanded 42 = .ok (.invokestatic 143, 3) := by decide +kernel
theorem dX4_expanded_45 : decode cX4_expanded 45 = .ok (.goto 7, 3) := by decide +kernel
theorem dX4_expanded_48 : decode cX4_expanded 48 = .ok (.iload_n 0, 1) := by decide +kernel
theorem dX4_expanded_49 : decode cX4_expanded 49 = .ok (.invokestatic 146, 3) := by decide +kernel
theorem dX4_expanded_52 : decode cX4_expanded 52 = .ok (.ireturn, 1) := by decide +kernel
theorem dX4_expanded_53 : decode cX4_expanded 53 = .ok (.iload_n 0, 1) := by decide +kernel
theorem dX4_expanded_54 : decode cX4_expanded 54 = .ok (.invokestatic 149, 3) := by decide +kernel
theorem dX4_expanded_57 : decode cX4_expanded 57 = .ok (.ireturn, 1) := by decide +kernel
theorem dX4_number_0 : decode cX4_number 0 = .ok (.iload_n 0, 1) := by decide +kernel
theorem dX4_number_1 : decode cX4_number 1 = .ok (.bipush 20, 2) := by decide +kernel
theorem dX4_number_3 : decode cX4_number 3 = .ok (.ishl, 1) := by decide +kernel
