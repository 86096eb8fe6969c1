theorem dX13_operand_95 : decode cX13_operand 95 = .ok (.aload_n 0, 1) := by decide +kernel
theorem dX13_operand_96 : decode cX13_operand 96 = .ok (.aload_n 0, 1) := by decide +kernel
theorem dX13_operand_97 : decode cX13_operand 97 = .ok (.aload_n 0, 1) := by decide +kernel
theorem dX13_operand_98 : decode cX13_operand 98 = .ok (.getfield 399, 3) := by decide +kernel
theorem dX13_operand_101 : decode cX13_operand 101 = .ok (.aload_n 0, 1) := by decide +kernel
theorem dX13_operand_102 : decode cX13_operand 102 = .ok (.getfield 324, 3) := by decide +kernel
theorem dX13_operand_105 : decode cX13_operand 105 = .ok (.aload_n 0, 1) := by decide +kernel
theorem dX13_operand_106 : decode cX13_operand 106 = .ok (.getfield 371, 3) := by decide +kernel
theorem dX13_operand_109 : decode cX13_operand 109 = .ok (.iconst 1, 1) := by decide +kernel
theorem dX13_operand_110 : decode cX13_operand 110 = .ok (.isub, 1) := by decide +kernel
theorem dX13_operand_111 : decode cX13_operand 111 = .ok (.caload, 1) := by decide +kernel
theorem dX13_operand_112 : decode cX13_operand 112 = .ok (.bipush 102, 2) := by decide +kernel
theorem dX13_operand_114 : decode cX13_operand 114 = .ok (.if_icmp .ne 7, 3) := by decide +kernel
theorem dX13_operand_117 : decode cX13_operand 117 = .ok (.iconst 1, 1) := by decide +kernel
theorem dX13_operand_118 : decode cX13_operand 118 = .ok (.goto 4, 3) := by decide +kernel
theorem dX13_operand_121 : decode cX13_operand 121 = .ok (.iconst 0, 1) := by decide +kernel
theorem dX13_operand_122 : decode cX13_operand 122 = .ok (.invokevirtual 495, 3) := by decide +kernel
theorem dX13_operand_125 : decode cX13_operand 125 = .ok (.invokevirtual 489, 3) := by decide +kernel
theorem dX13_operand_128 : decode cX13_operand 128 = .ok (.goto 114, 3) := by decide +kernel
theorem dX13_operand_131 : decode cX13_operand 131 = .ok (.aload_n 0, 1) := by decide +kernel
theorem dX13_operand_132 : decode cX13_operand 132 = .ok (.iconst 1, 1) := by decide +kernel
theorem dX13_operand_133 : decode cX13_operand 133 = .ok (.invokevirtual 499, 3) := by decide +kernel
theorem dX13_operand_136 : decode cX13_operand 136 = .ok (.iconst 0, 1) := by decide +kernel
theorem dX13_operand_137 : decode cX13_operand 137 = .ok (.ireturn, 1) := by decide +kernel
theorem dX13_operand_138 : decode cX13_operand 138 = .ok (.aload_n 0, 1) := by decide +kernel
theorem dX13_operand_139 : decode cX13_operand 139 = .ok (.iconst 2, 1) := by decide +kernel
theorem dX13_operand_140 : decode cX13_operand 140 = .ok (.invokevirtual 499, 3) := by decide +kernel
theorem dX13_operand_143 : decode cX13_operand 143 = .ok (.iconst 0, 1) := by decide +kernel
theorem dX13_operand_144 : decode cX13_operand 144 = .ok (.ireturn, 1) := by decide +kernel
theorem dX13_operand_145 : decode cX13_operand 145 = .ok (.aload_n 0, 1) := by decide +kernel
theorem dX13_operand_146 : decode cX13_operand 146 = .ok (.iconst 3, 1) := by decide +kernel
theorem dX13_operand_147 : decode cX13_operand 147 = .ok (.invokevirtual 499, 3) := by decide +kernel
theorem dX13_operand_150 : decode cX13_operand 150 = .ok (.iconst 0, 1) := by decide +kernel
theorem dX13_operand_151 : decode cX13_operand 151 = .ok (.ireturn, 1) := by decide +kernel
theorem dX13_operand_152 : decode cX13_operand 152 = .ok (.aload_n 0, 1) := by decide +kernel
theorem dX13_operand_153 : decode cX13_operand 153 = .ok (.invokevirtual 416, 3) := by decide +kernel
theorem dX13_operand_156 : decode cX13_operand 156 = .ok (.aload_n 0, 1) := by decide +kernel
theorem dX13_operand_157 : decode cX13_operand 157 = .ok (.getfield 365, 3) := by decide +kernel
theorem dX13_operand_160 : decode cX13_operand 160 = .ok (.iconst 1, 1) := by decide +kernel
theorem dX13_operand_161 : decode cX13_operand 161 = .ok (.if_icmp .ne 18, 3) := by decide +kernel
theorem dX13_operand_164 : decode cX13_operand 164 = .ok (.aload_n 0, 1) := by decide +kernel
theorem dX13_operand_165 : decode cX13_operand 165 = .ok (.aload_n 0, 1) := by decide +kernel
theorem dX13_operand_166 : decode cX13_operand 166 = .ok (.getfield 368, 3) := by decide +kernel
theorem dX13_operand_169 : decode cX13_operand 169 = .ok (.aload_n 0, 1) := by decide +kernel
theorem dX13_operand_170 : decode cX13_operand 170 = .ok (.getfield 371, 3) := by decide +kernel
theorem dX13_operand_173 : decode cX13_operand 173 = .ok (.invokevirtual 423, 3) := by decide +kernel
theorem dX13_operand_176 : decode cX13_operand 176 = .ok (.goto 4, 3) := by decide +kernel
theorem dX13_operand_179 : decode cX13_operand 179 = .ok (.lconst 0, 1) := by decide +kernel
theorem dX13_operand_180 : decode cX13_operand 180 = .ok (.lstore_n 1, 1) := by decide +kernel
theorem dX13_operand_181 : decode cX13_operand 181 = .ok (.lload_n 1, 1) := by decide +kernel
theorem dX13_operand_182 : decode cX13_operand 182 = .ok (.ldc2_w 502, 3) := by decide +kernel
theorem dX13_operand_185 : decode cX13_operand 185 = .ok (.lcmp, 1) := by decide +kernel
theorem dX13_operand_186 : decode cX13_operand 186 = .ok (.ifCond .eq 16, 3) := by decide +kernel
theorem dX13_operand_189 : decode cX13_operand 189 = .ok (.lload_n 1, 1) := by decide +kernel
theorem dX13_operand_190 : decode cX13_operand 190 = .ok (.ldc2_w 504, 3) := by decide +kernel
theorem dX13_operand_193 : decode cX13_operand 193 = .ok (.lcmp, 1) := by decide +kernel
theorem dX13_operand_194 : decode cX13_operand 194 = .ok (.ifCond .eq 8, 3) := by decide +kernel
theorem dX13_operand_197 : decode cX13_operand 197 = .ok (.aload_n 0, 1) := by decide +kernel
theorem dX13_operand_198 : decode cX13_operand 198 = .ok (.iconst 1, 1) := by decide +kernel
theorem dX13_operand_199 : decode cX13_operand 199 = .ok (.invokevirtual 419, 3) := by decide +kernel
theorem dX13_operand_202 : decode cX13_operand 202 = .ok (.aload_n 0, 1) := by decide +kernel
theorem dX13_operand_203 : decode cX13_operand 203 = .ok (.lload_n 1, 1) := by decide +kernel
theorem dX13_operand_204 : decode cX13_operand 204 = .ok (.ldc2_w 502, 3) := by decide +kernel
theorem dX13_operand_207 : decode cX13_operand 207 = .ok (.lcmp, 1) := by decide +kernel
theorem dX13_operand_208 : decode cX13_operand 208 = .ok (.ifCond .ne 7, 3) := by decide +kernel
theorem dX13_operand_211 : decode cX13_operand 211 = .ok (.iconst 4, 1) := by decide +kernel
theorem dX13_operand_212 : decode cX13_operand 212 = .ok (.goto 4, 3) := by decide +kernel
theorem dX13_operand_215 : decode cX13_operand 215 = .ok (.iconst 5, 1) := by decide +kernel
theorem dX13_operand_216 : decode cX13_operand 216 = .ok (.invokevirtual 499, 3) := by decide +kernel
theorem dX13_operand_219 : decode cX13_operand 219 = .ok (.aload_n 0, 1) := by decide +kernel
theorem dX13_operand_220 : decode cX13_operand 220 = .ok (.bipush 40, 2) := by decide +kernel
theorem dX13_operand_222 : decode cX13_operand 222 = .ok (.invokevirtual 506, 3) := by decide +kernel
theorem dX13_operand_225 : decode cX13_operand 225 = .ok (.ifCond .eq 8, 3) := by decide +kernel
theorem dX13_operand_228 : decode cX13_operand 228 = .ok (.aload_n 0, 1) := by decide +kernel
theorem dX13_operand_229 : decode cX13_operand 229 = .ok (.iconst 1, 1) := by decide +kernel
theorem dX13_operand_230 : decode cX13_operand 230 = .ok (.invokevirtual 499, 3) := by decide +kernel
theorem dX13_operand_233 : decode cX13_operand 233 = .ok (.iconst 0, 1) := by decide +kernel
theorem dX13_operand_234 : decode cX13_operand 234 = .ok (.ireturn, 1) := by decide +kernel
theorem dX13_operand_235 : decode cX13_operand 235 = .ok (.aload_n 0, 1) := by decide +kernel
theorem dX13_operand_236 : decode cX13_operand 236 = .ok (.iconst 1, 1) := by decide +kernel
theorem dX13_operand_237 : decode cX13_operand 237 = .ok (.invokevirtual 419, 3) := by decide +kernel
theorem dX13_operand_240 : decode cX13_operand 240 = .ok (.iconst 0, 1) := by decide +kernel
theorem dX13_operand_241 : decode cX13_operand 241 = .ok (.ireturn, 1) := by decide +kernel
theorem dX13_operand_242 : decode cX13_operand 242 = .ok (.aload_n 0, 1) := by decide +kernel
theorem dX13_operand_243 : decode cX13_operand 243 = .ok (.invokevirtual 509, 3) := by decide +kernel
theorem dX13_operand_246 : decode cX13_operand 246 = .ok (.iconst 1, 1) := by decide +kernel
theorem dX13_operand_247 : decode cX13_operand 247 = .ok (.ireturn, 1) := by decide +kernel
theorem dX13_expression_0 : decode cX13_expression 0 = .ok (.aload_n 0, 1) := by decide +kernel
theorem dX13_expression_1 : decode cX13_expression 1 = .ok (.iconst 0, 1) := by decide +kernel
theorem dX13_expression_2 : decode cX13_expression 2 = .ok (.putfield 464, 3) := by decide +kernel
theorem dX13_expression_5 : decode cX13_expression 5 = .ok (.aload_n 0, 1) := by decide +kernel
theorem dX13_expression_6 : decode cX13_expression 6 = .ok (.ldc_w 343, 3) := by decide +kernel
theorem dX13_expression_9 : decode cX13_expression 9 = .ok (.putfield 467, 3) := by decide +kernel
theorem dX13_expression_12 : decode cX13_expression 12 = .ok (.aload_n 0, 1) := by decide +kernel
theorem dX13_expression_13 : decode cX13_expression 13 = .ok (.iconst 0, 1) := by decide +kernel
theorem dX13_expression_14 : decode cX13_expression 14 = .ok (.putfield 457, 3) := by decide +kernel
theorem dX13_expression_17 : decode cX13_expression 17 = .ok (.aload_n 0, 1) := by decide +kernel
theorem dX13_expression_18 : decode cX13_expression 18 = .ok (.iconst 0, 1) := by decide +kernel
theorem dX13_expression_19 : decode cX13_expression 19 = .ok (.putfield 470, 3) := by decide +kernel
theorem dX13_expression_22 : decode cX13_expression 22 = .ok (.aload_n 0, 1) := by decide +kernel
theorem dX13_expression_23 : decode cX13_expression 23 = .ok (.iconst 0, 1) := by decide +kernel
theorem dX13_expression_24 : decode cX13_expression 24 = .ok (.putfield 483, 3) := by decide +kernel
theorem dX13_expression_27 : decode cX13_expression 27 = .ok (.iconst 0, 1) := by decide +kernel
theorem dX13_expression_28 : decode cX13_expression 28 = .ok (.istore_n 1, 1) := by decide +kernel
theorem dX13_expression_29 : decode cX13_expression 29 = .ok (.iconst 1, 1) := by decide +kernel
theorem dX13_expression_30 : decode cX13_expression 30 = .ok (.istore_n 2, 1) := by decide +kernel
theorem dX13_expression_31 : decode cX13_expression 31 = .ok (.iconst 1, 1) := by decide +kernel
theorem dX13_expression_32 : decode cX13_expression 32 = .ok (.istore_n 3, 1) := by decide +kernel
theorem dX13_expression_33 : decode cX13_expression 33 = .ok (.iload_n 3, 1) := by decide +kernel
theorem dX13_expression_34 : decode cX13_expression 34 = .ok (.ifCond .eq 221, 3) := by decide +kernel
theorem dX13_expression_37 : decode cX13_expression 37 = .ok (.aload_n 0, 1) := by decide +kernel
theorem dX13_expression_38 : decode cX13_expression 38 = .ok (.getfield 410, 3) := by decide +kernel
theorem dX13_expression_41 : decode cX13_expression 41 = .ok (.ifCond .ne 214, 3) := by decide +kernel
theorem dX13_expression_44 : decode cX13_expression 44 = .ok (.aload_n 0, 1) := by decide +kernel
theorem dX13_expression_45 : decode cX13_expression 45 = .ok (.getfield 374, 3) := by decide +kernel
theorem dX13_expression_48 : decode cX13_expression 48 = .ok (.istore 4, 2) := by decide +kernel
theorem dX13_expression_50 : decode cX13_expression 50 = .ok (.aload_n 0, 1) := by decide +kernel
theorem dX13_expression_51 : decode cX13_expression 51 = .ok (.invokevirtual 416, 3) := by decide +kernel
theorem dX13_expression_54 : decode cX13_expression 54 = .ok (.iload_n 2, 1) := by decide +kernel
theorem dX13_expression_55 : decode cX13_expression 55 = .ok (.ifCond .eq 57, 3) := by decide +kernel
theorem dX13_expression_58 : decode cX13_expression 58 = .ok (.aload_n 0, 1) := by decide +kernel
theorem dX13_expression_59 : decode cX13_expression 59 = .ok (.getfield 365, 3) := by decide +kernel
theorem dX13_expression_62 : decode cX13_expression 62 = .ok (.bipush 40, 2) := by decide +kernel
theorem dX13_expression_64 : decode cX13_expression 64 = .ok (.if_icmp .eq 12, 3) := by decide +kernel
theorem dX13_expression_67 : decode cX13_expression 67 = .ok (.aload_n 0, 1) := by decide +kernel
theorem dX13_expression_68 : decode cX13_expression 68 = .ok (.getfield 365, 3) := by decide +kernel
theorem dX13_expression_71 : decode cX13_expression 71 = .ok (.bipush 37, 2) := by decide +kernel
theorem dX13_expression_73 : decode cX13_expression 73 = .ok (.if_icmp .ne 7, 3) := by decide +kernel
theorem dX13_expression_76 : decode cX13_expression 76 = .ok (.iconst 1, 1) := by decide +kernel
theorem dX13_expression_77 : decode cX13_expression 77 = .ok (.goto 4, 3) := by decide +kernel
theorem dX13_expression_80 : decode cX13_expression 80 = .ok (.iconst 0, 1) := by decide +kernel
theorem dX13_expression_81 : decode cX13_expression 81 = .ok (.istore 5, 2) := by decide +kernel
theorem dX13_expression_83 : decode cX13_expression 83 = .ok (.aload_n 0, 1) := by decide +kernel
theorem dX13_expression_84 : decode cX13_expression 84 = .ok (.invokevirtual 512, 3) := by decide +kernel
theorem dX13_expression_87 : decode cX13_expression 87 = .ok (.ifCond .ne 7, 3) := by decide +kernel
theorem dX13_expression_90 : decode cX13_expression 90 = .ok (.iconst 1, 1) := by decide +kernel
theorem dX13_expression_91 : decode cX13_expression 91 = .ok (.goto 4, 3) := by decide +kernel
theorem dX13_expression_94 : decode cX13_expression 94 = .ok (.iconst 0, 1) := by decide +kernel
theorem dX13_expression_95 : decode cX13_expression 95 = .ok (.istore_n 2, 1) := by decide +kernel
theorem dX13_expression_96 : decode cX13_expression 96 = .ok (.iload 5, 2) := by decide +kernel
theorem dX13_expression_98 : decode cX13_expression 98 = .ok (.ifCond .eq 9, 3) := by decide +kernel
theorem dX13_expression_101 : decode cX13_expression 101 = .ok (.iload_n 1, 1) := by decide +kernel
theorem dX13_expression_102 : decode cX13_expression 102 = .ok (.iconst 1, 1) := by decide +kernel
theorem dX13_expression_103 : decode cX13_expression 103 = .ok (.iadd, 1) := by decide +kernel
theorem dX13_expression_104 : decode cX13_expression 104 = .ok (.goto 4, 3) := by decide +kernel
theorem dX13_expression_107 : decode cX13_expression 107 = .ok (.iload_n 1, 1) := by decide +kernel
theorem dX13_expression_108 : decode cX13_expression 108 = .ok (.istore_n 1, 1) := by decide +kernel
theorem dX13_expression_109 : decode cX13_expression 109 = .ok (.goto 143, 3) := by decide +kernel
theorem dX13_expression_112 : decode cX13_expression 112 = .ok (.aload_n 0, 1) := by decide +kernel
theorem dX13_expression_113 : decode cX13_expression 113 = .ok (.getfield 365, 3) := by decide +kernel
theorem dX13_expression_116 : decode cX13_expression 116 = .ok (.invokestatic 516, 3) := by decide +kernel
theorem dX13_expression_119 : decode cX13_expression 119 = .ok (.ifCond .le 61, 3) := by decide +kernel
theorem dX13_expression_122 : decode cX13_expression 122 = .ok (.aload_n 0, 1) := by decide +kernel
theorem dX13_expression_123 : decode cX13_expression 123 = .ok (.getfield 365, 3) := by decide +kernel
theorem dX13_expression_126 : decode cX13_expression 126 = .ok (.ifCond .eq 54, 3) := by decide +kernel
theorem dX13_expression_129 : decode cX13_expression 129 = .ok (.aload_n 0, 1) := by decide +kernel
theorem dX13_expression_130 : decode cX13_expression 130 = .ok (.getfield 464, 3) := by decide +kernel
theorem dX13_expression_133 : decode cX13_expression 133 = .ok (.ifCond .le 34, 3) := by decide +kernel
theorem dX13_expression_136 : decode cX13_expression 136 = .ok (.aload_n 0, 1) := by decide +kernel
theorem dX13_expression_137 : decode cX13_expression 137 = .ok (.getfield 344, 3) := by decide +kernel
theorem dX13_expression_140 : decode cX13_expression 140 = .ok (.aload_n 0, 1) := by decide +kernel
theorem dX13_expression_141 : decode cX13_expression 141 = .ok (.getfield 464, 3) := by decide +kernel
theorem dX13_expression_144 : decode cX13_expression 144 = .ok (.iconst 1, 1) := by decide +kernel
theorem dX13_expression_145 : decode cX13_expression 145 = .ok (.isub, 1) := by decide +kernel
theorem dX13_expression_146 : decode cX13_expression 146 = .ok (.iaload, 1) := by decide +kernel
theorem dX13_expression_147 : decode cX13_expression 147 = .ok (.invokestatic 516, 3) := by decide +kernel
theorem dX13_expression_150 : decode cX13_expression 150 = .ok (.aload_n 0, 1) := by decide +kernel
theorem dX13_expression_151 : decode cX13_expression 151 = .ok (.getfield 365, 3) := by decide +kernel
theorem dX13_expression_154 : decode cX13_expression 154 = .ok (.invokestatic 516, 3) := by decide +kernel
theorem dX13_expression_157 : decode cX13_expression 157 = .ok (.if_icmp .lt 10, 3) := by decide +kernel
theorem dX13_expression_160 : decode cX13_expression 160 = .ok (.aload_n 0, 1) := by decide +kernel
theorem dX13_expression_161 : decode cX13_expression 161 = .ok (.invokevirtual 519, 3) := by decide +kernel
theorem dX13_expression_164 : decode cX13_expression 164 = .ok (.goto (-35), 3) := by decide +kernel
theorem dX13_expression_167 : decode cX13_expression 167 = .ok (.aload_n 0, 1) := by decide +kernel
theorem dX13_expression_168 : decode cX13_expression 168 = .ok (.aload_n 0, 1) := by decide +kernel
theorem dX13_expression_169 : decode cX13_expression 169 = .ok (.getfield 365, 3) := by decide +kernel
theorem dX13_expression_172 : decode cX13_expression 172 = .ok (.invokevirtual 499, 3) := by decide +kernel
theorem dX13_expression_175 : decode cX13_expression 175 = .ok (.iconst 1, 1) := by decide +kernel
theorem dX13_expression_176 : decode cX13_expression 176 = .ok (.istore_n 2, 1) := by decide +kernel
theorem dX13_expression_177 : decode cX13_expression 177 = .ok (.goto 75, 3) := by decide +kernel
theorem dX13_expression_180 : decode cX13_expression 180 = .ok (.aload_n 0, 1) := by decide +kernel
theorem dX13_expression_181 : decode cX13_expression 181 = .ok (.getfield 365, 3) := by decide +kernel
theorem dX13_expression_184 : decode cX13_expression 184 = .ok (.bipush 41, 2) := by decide +kernel
theorem dX13_expression_186 : decode cX13_expression 186 = .ok (.if_icmp .ne 49, 3) := by decide +kernel
theorem dX13_expression_189 : decode cX13_expression 189 = .ok (.iload_n 1, 1) := by decide +kernel
theorem dX13_expression_190 : decode cX13_expression 190 = .ok (.ifCond .le 45, 3) := by decide +kernel
theorem dX13_expression_193 : decode cX13_expression 193 = .ok (.aload_n 0, 1) := by decide +kernel
theorem dX13_expression_194 : decode cX13_expression 194 = .ok (.getfield 344, 3) := by decide +kernel
theorem dX13_expression_197 : decode cX13_expression 197 = .ok (.aload_n 0, 1) := by decide +kernel
theorem dX13_expression_198 : decode cX13_expression 198 = .ok (.getfield 464, 3) := by decide +kernel
theorem dX13_expression_201 : decode cX13_expression 201 = .ok (.iconst 1, 1) := by decide +kernel
theorem dX13_expression_202 : decode cX13_expression 202 = .ok (.isub, 1) := by decide +kernel
theorem dX13_expression_203 : decode cX13_expression 203 = .ok (.iaload, 1) := by decide +kernel
theorem dX13_expression_204 : decode cX13_expression 204 = .ok (.iconst 1, 1) := by decide +kernel
theorem dX13_expression_205 : decode cX13_expression 205 = .ok (.if_icmp .eq 10, 3) := by decide +kernel
theorem dX13_expression_208 : decode cX13_expression 208 = .ok (.aload_n 0, 1) := by decide +kernel
theorem dX13_expression_209 : decode cX13_expression 209 = .ok (.invokevirtual 519, 3) := by decide +kernel
theorem dX13_expression_212 : decode cX13_expression 212 = .ok (.goto (-19), 3) := by decide +kernel
theorem dX13_expression_215 : decode cX13_expression 215 = .ok (.aload_n 0, 1) := by decide +kernel
theorem dX13_expression_216 : decode cX13_expression 216 = .ok (.dup, 1) := by decide +kernel
theorem dX13_expression_217 : decode cX13_expression 217 = .ok (.getfield 464, 3) := by decide +kernel
theorem dX13_expression_220 : decode cX13_expression 220 = .ok (.iconst 1, 1) := by decide +kernel
theorem dX13_expression_221 : decode cX13_expression 221 = .ok (.isub, 1) := by decide +kernel
theorem dX13_expression_222 : decode cX13_expression 222 = .ok (.putfield 464, 3) := by decide +kernel
theorem dX13_expression_225 : decode cX13_expression 225 = .ok (.iinc 1 (-1), 3) := by decide +kernel
theorem dX13_expression_228 : decode cX13_expression 228 = .ok (.aload_n 0, 1) := by decide +kernel
theorem dX13_expression_229 : decode cX13_expression 229 = .ok (.invokevirtual 509, 3) := by decide +kernel
theorem dX13_expression_232 : decode cX13_expression 232 = .ok (.goto 20, 3) := by decide +kernel
theorem dX13_expression_235 : decode cX13_expression 235 = .ok (.iconst 0, 1) := by decide +kernel
theorem dX13_expression_236 : decode cX13_expression 236 = .ok (.istore_n 3, 1) := by decide +kernel
theorem dX13_expression_237 : decode cX13_expression 237 = .ok (.iload_n 1, 1) := by decide +kernel
theorem dX13_expression_238 : decode cX13_expression 238 = .ok (.ifCond .le 8, 3) := by decide +kernel
theorem dX13_expression_241 : decode cX13_expression 241 = .ok (.aload_n 0, 1) := by decide +kernel
theorem dX13_expression_242 : decode cX13_expression 242 = .ok (.iconst 1, 1) := by decide +kernel
theorem dX13_expression_243 : decode cX13_expression 243 = .ok (.invokevirtual 419, 3) := by decide +kernel
theorem dX13_expression_246 : decode cX13_expression 246 = .ok (.aload_n 0, 1) := by decide +kernel
theorem dX13_expression_247 : decode cX13_expression 247 = .ok (.iload 4, 2) := by decide +kernel
theorem dX13_expression_249 : decode cX13_expression 249 = .ok (.putfield 374, 3) := by decide +kernel
theorem dX13_expression_252 : decode cX13_expression 252 = .ok (.goto (-219), 3) := by decide +kernel
theorem dX13_expression_255 : decode cX13_expression 255 = .ok (.aload_n 0, 1) := by decide +kernel
theorem dX13_expression_256 : decode cX13_expression 256 = .ok (.getfield 464, 3) := by decide +kernel
theorem dX13_expression_259 : decode cX13_expression 259 = .ok (.ifCond .le 17, 3) := by decide +kernel
theorem dX13_expression_262 : decode cX13_expression 262 = .ok (.aload_n 0, 1) := by decide +kernel
theorem dX13_expression_263 : decode cX13_expression 263 = .ok (.getfield 410, 3) := by decide +kernel
theorem dX13_expression_266 : decode cX13_expression 266 = .ok (.ifCond .ne 10, 3) := by decide +kernel
theorem dX13_expression_269 : decode cX13_expression 269 = .ok (.aload_n 0, 1) := by decide +kernel
theorem dX13_expression_270 : decode cX13_expression 270 = .ok (.invokevirtual 519, 3) := by decide +kernel
theorem dX13_expression_273 : decode cX13_expression 273 = .ok (.goto (-18), 3) := by decide +kernel
theorem dX13_expression_276 : decode cX13_expression 276 = .ok (.aload_n 0, 1) := by decide +kernel
theorem dX13_expression_277 : decode cX13_expression 277 = .ok (.getfield 410, 3) := by decide +kernel
theorem dX13_expression_280 : decode cX13_expression 280 = .ok (.ifCond .ne 15, 3) := by decide +kernel
theorem dX13_expression_283 : decode cX13_expression 283 = .ok (.aload_n 0, 1) := by decide +kernel
theorem dX13_expression_284 : decode cX13_expression 284 = .ok (.getfield 344, 3) := by decide +kernel
theorem dX13_expression_287 : decode cX13_expression 287 = .ok (.aload_n 0, 1) := by decide +kernel
theorem dX13_expression_288 : decode cX13_expression 288 = .ok (.getfield 467, 3) := by decide +kernel
theorem dX13_expression_291 : decode cX13_expression 291 = .ok (.iaload, 1) := by decide +kernel
theorem dX13_expression_292 : decode cX13_expression 292 = .ok (.goto 4, 3) := by decide +kernel
theorem dX13_expression_295 : decode cX13_expression 295 = .ok (.iconst 0, 1) := by decide +kernel
theorem dX13_expression_296 : decode cX13_expression 296 = .ok (.istore 4, 2) := by decide +kernel
theorem dX13_expression_298 : decode cX13_expression 298 = .ok (.aload_n 0, 1) := by decide +kernel
theorem dX13_expression_299 : decode cX13_expression 299 = .ok (.getfield 522, 3) := by decide +kernel
theorem dX13_expression_302 : decode cX13_expression 302 = .ok (.iconst 2, 1) := by decide +kernel
theorem dX13_expression_303 : decode cX13_expression 303 = .ok (.if_icmp .ne 35, 3) := by decide +kernel
theorem dX13_expression_306 : decode cX13_expression 306 = .ok (.aload_n 0, 1) := by decide +kernel
theorem dX13_expression_307 : decode cX13_expression 307 = .ok (.getfield 457, 3) := by decide +kernel
theorem dX13_expression_310 : decode cX13_expression 310 = .ok (.ifCond .ne 10, 3) := by decide +kernel
theorem dX13_expression_313 : decode cX13_expression 313 = .ok (.aload_n 0, 1) := by decide +kernel
theorem dX13_expression_314 : decode cX13_expression 314 = .ok (.getfield 470, 3) := by decide +kernel
theorem dX13_expression_317 : decode cX13_expression 317 = .ok (.ifCond .eq 21, 3) := by decide +kernel
theorem dX13_expression_320 : decode cX13_expression 320 = .ok (.aload_n 0, 1) := by decide +kernel
theorem dX13_expression_321 : decode cX13_expression 321 = .ok (.aload_n 0, 1) := by decide +kernel
theorem dX13_expression_322 : decode cX13_expression 322 = .ok (.getfield 457, 3) := by decide +kernel
theorem dX13_expression_325 : decode cX13_expression 325 = .ok (.ifCond .eq 8, 3) := by decide +kernel
theorem dX13_expression_328 : decode cX13_expression 328 = .ok (.bipush 8, 2) := by decide +kernel
theorem dX13_expression_330 : decode cX13_expression 330 = .ok (.goto 5, 3) := by decide +kernel
theorem dX13_expression_333 : decode cX13_expression 333 = .ok (.bipush 9, 2) := by decide +kernel
theorem dX13_expression_335 : decode cX13_expression 335 = .ok (.invokevirtual 419, 3) := by decide +kernel
theorem dX13_expression_338 : decode cX13_expression 338 = .ok (.iload 4, 2) := by decide +kernel
theorem dX13_expression_340 : decode cX13_expression 340 = .ok (.ireturn, 1) := by decide +kernel
theorem dX13_within_0 : decode cX13_within 0 = .ok (.aload_n 0, 1) := by decide +kernel
theorem dX13_within_1 : decode cX13_within 1 = .ok (.invokevirtual 525, 3) := by decide +kernel
theorem dX13_within_4 : decode cX13_within 4 = .ok (.istore 4, 2) := by decide +kernel
theorem dX13_within_6 : decode cX13_within 6 = .ok (.aload_n 0, 1) := by decide +kernel
theorem dX13_within_7 : decode cX13_within 7 = .ok (.iload 4, 2) := by decide +kernel
theorem dX13_within_9 : decode cX13_within 9 = .ok (.iload_n 1, 1) := by decide +kernel
theorem dX13_within_10 : decode cX13_within 10 = .ok (.iload_n 2, 1) := by decide +kernel
theorem dX13_within_11 : decode cX13_within 11 = .ok (.iload_n 3, 1) := by decide +kernel
theorem dX13_within_12 : decode cX13_within 12 = .ok (.invokevirtual 528, 3) := by decide +kernel
theorem dX13_within_15 : decode cX13_within 15 = .ok (.iload 4, 2) := by decide +kernel
theorem dX13_within_17 : decode cX13_within 17 = .ok (.ireturn, 1) := by decide +kernel
theorem dX13_fits_0 : decode cX13_fits 0 = .ok (.aload_n 0, 1) := by decide +kernel
theorem dX13_fits_1 : decode cX13_fits 1 = .ok (.getfield 522, 3) := by decide +kernel
theorem dX13_fits_4 : decode cX13_fits 4 = .ok (.iconst 2, 1) := by decide +kernel
theorem dX13_fits_5 : decode cX13_fits 5 = .ok (.if_icmp .ne 26, 3) := by decide +kernel
theorem dX13_fits_8 : decode cX13_fits 8 = .ok (.iload_n 1, 1) := by decide +kernel
theorem dX13_fits_9 : decode cX13_fits 9 = .ok (.iload_n 2, 1) := by decide +kernel
theorem dX13_fits_10 : decode cX13_fits 10 = .ok (.if_icmp .lt 15, 3) := by decide +kernel
theorem dX13_fits_13 : decode cX13_fits 13 = .ok (.iload_n 1, 1) := by decide +kernel
theorem dX13_fits_14 : decode cX13_fits 14 = .ok (.iload_n 3, 1) := by decide +kernel
theorem dX13_fits_15 : decode cX13_fits 15 = .ok (.if_icmp .gt 10, 3) := by decide +kernel
theorem dX13_fits_18 : decode cX13_fits 18 = .ok (.iload_n 1, 1) := by decide +kernel
theorem dX13_fits_19 : decode cX13_fits 19 = .ok (.iload 4, 2) := by decide +kernel
theorem dX13_fits_21 : decode cX13_fits 21 = .ok (.irem, 1) := by decide +kernel
theorem dX13_fits_22 : decode cX13_fits 22 = .ok (.ifCond .eq 9, 3) := by decide +kernel
theorem dX13_fits_25 : decode cX13_fits 25 = .ok (.aload_n 0, 1) := by decide +kernel
theorem dX13_fits_26 : decode cX13_fits 26 = .ok (.bipush 10, 2) := by decide +kernel
theorem dX13_fits_28 : decode cX13_fits 28 = .ok (.invokevirtual 419, 3) := by decide +kernel
theorem dX13_fits_31 : decode cX13_fits 31 = .ok (.return_, 1) := by decide +kernel
theorem dX13_fixed_0 : decode cX13_fixed 0 = .ok (.aload_n 0, 1) := by decide +kernel
theorem dX13_fixed_1 : decode cX13_fixed 1 = .ok (.invokevirtual 525, 3) := by decide +kernel
theorem dX13_fixed_4 : decode cX13_fixed 4 = .ok (.istore_n 3, 1) := by decide +kernel
theorem dX13_fixed_5 : decode cX13_fixed 5 = .ok (.aload_n 0, 1) := by decide +kernel
theorem dX13_fixed_6 : decode cX13_fixed 6 = .ok (.getfield 522, 3) := by decide +kernel
theorem dX13_fixed_9 : decode cX13_fixed 9 = .ok (.ifCond .ne 57, 3) := by decide +kernel
theorem dX13_fixed_12 : decode cX13_fixed 12 = .ok (.aload_n 0, 1) := by decide +kernel
theorem dX13_fixed_13 : decode cX13_fixed 13 = .ok (.getfield 410, 3) := by decide +kernel
theorem dX13_fixed_16 : decode cX13_fixed 16 = .ok (.ifCond .ne 50, 3) := by decide +kernel
theorem dX13_fixed_19 : decode cX13_fixed 19 = .ok (.aload_n 0, 1) := by decide +kernel
theorem dX13_fixed_20 : decode cX13_fixed 20 = .ok (.getfield 483, 3) := by decide +kernel
theorem dX13_fixed_23 : decode cX13_fixed 23 = .ok (.ifCond .eq 11, 3) := by decide +kernel
theorem dX13_fixed_26 : decode cX13_fixed 26 = .ok (.aload_n 0, 1) := by decide +kernel
theorem dX13_fixed_27 : decode cX13_fixed 27 = .ok (.iconst 5, 1) := by decide +kernel
theorem dX13_fixed_28 : decode cX13_fixed 28 = .ok (.invokevirtual 419, 3) := by decide +kernel
theorem dX13_fixed_31 : decode cX13_fixed 31 = .ok (.goto 35, 3) := by decide +kernel
theorem dX13_fixed_34 : decode cX13_fixed 34 = .ok (.aload_n 0, 1) := by decide +kernel
theorem dX13_fixed_35 : decode cX13_fixed 35 = .ok (.getfield 470, 3) := by decide +kernel
theorem dX13_fixed_38 : decode cX13_fixed 38 = .ok (.ifCond .eq 12, 3) := by decide +kernel
theorem dX13_fixed_41 : decode cX13_fixed 41 = .ok (.aload_n 0, 1) := by decide +kernel
theorem dX13_fixed_42 : decode cX13_fixed 42 = .ok (.bipush 9, 2) := by decide +kernel
theorem dX13_fixed_44 : decode cX13_fixed 44 = .ok (.invokevirtual 419, 3) := by decide +kernel
theorem dX13_fixed_47 : decode cX13_fixed 47 = .ok (.goto 19, 3) := by decide +kernel
theorem dX13_fixed_50 : decode cX13_fixed 50 = .ok (.iload_n 3, 1) := by decide +kernel
theorem dX13_fixed_51 : decode cX13_fixed 51 = .ok (.iload_n 1, 1) := by decide +kernel
theorem dX13_fixed_52 : decode cX13_fixed 52 = .ok (.if_icmp .lt 8, 3) := by decide +kernel
theorem dX13_fixed_55 : decode cX13_fixed 55 = .ok (.iload_n 3, 1) := by decide +kernel
theorem dX13_fixed_56 : decode cX13_fixed 56 = .ok (.iload_n 2, 1) := by decide +kernel
theorem dX13_fixed_57 : decode cX13_fixed 57 = .ok (.if_icmp .le 9, 3) := by decide +kernel
theorem dX13_fixed_60 : decode cX13_fixed 60 = .ok (.aload_n 0, 1) := by decide +kernel
theorem dX13_fixed_61 : decode cX13_fixed 61 = .ok (.bipush 6, 2) := by decide +kernel
theorem dX13_fixed_63 : decode cX13_fixed 63 = .ok (.invokevirtual 419, 3) := by decide +kernel
theorem dX13_fixed_66 : decode cX13_fixed 66 = .ok (.iload_n 3, 1) := by decide +kernel
theorem dX13_fixed_67 : decode cX13_fixed 67 = .ok (.ireturn, 1) := by decide +kernel
theorem dX13_taken_0 : decode cX13_taken 0 = .ok (.aload_n 0, 1) := by decide +kernel
theorem dX13_taken_1 : decode cX13_taken 1 = .ok (.invokevirtual 416, 3) := by decide +kernel
theorem dX13_taken_4 : decode cX13_taken 4 = .ok (.aload_n 0, 1) := by decide +kernel
theorem dX13_taken_5 : decode cX13_taken 5 = .ok (.getfield 365, 3) := by decide +kernel
theorem dX13_taken_8 : decode cX13_taken 8 = .ok (.iconst 1, 1) := by decide +kernel
theorem dX13_taken_9 : decode cX13_taken 9 = .ok (.if_icmp .ne 18, 3) := by decide +kernel
theorem dX13_taken_12 : decode cX13_taken 12 = .ok (.aload_n 0, 1) := by decide +kernel
theorem dX13_taken_13 : decode cX13_taken 13 = .ok (.aload_n 0, 1) := by decide +kernel
theorem dX13_taken_14 : decode cX13_taken 14 = .ok (.getfield 368, 3) := by decide +kernel
theorem dX13_taken_17 : decode cX13_taken 17 = .ok (.aload_n 0, 1) := by decide +kernel
theorem dX13_taken_18 : decode cX13_taken 18 = .ok (.getfield 371, 3) := by decide +kernel
theorem dX13_taken_21 : decode cX13_taken 21 = .ok (.invokevirtual 477, 3) := by decide +kernel
theorem dX13_taken_24 : decode cX13_taken 24 = .ok (.goto 4, 3) := by decide +kernel
theorem dX13_taken_27 : decode cX13_taken 27 = .ok (.iconst (-1), 1) := by decide +kernel
theorem dX13_taken_28 : decode cX13_taken 28 = .ok (.istore_n 1, 1) := by decide +kernel
theorem dX13_taken_29 : decode cX13_taken 29 = .ok (.aload_n 0, 1) := by decide +kernel
theorem dX13_taken_30 : decode cX13_taken 30 = .ok (.getfield 365, 3) := by decide +kernel
theorem dX13_taken_33 : decode cX13_taken 33 = .ok (.ifCond .eq 11, 3) := by decide +kernel
theorem dX13_taken_36 : decode cX13_taken 36 = .ok (.aload_n 0, 1) := by decide +kernel
theorem dX13_taken_37 : decode cX13_taken 37 = .ok (.getfield 365, 3) := by decide +kernel
theorem dX13_taken_40 : decode cX13_taken 40 = .ok (.iconst 5, 1) := by decide +kernel
theorem dX13_taken_41 : decode cX13_taken 41 = .ok (.if_icmp .ne 11, 3) := by decide +kernel
theorem dX13_taken_44 : decode cX13_taken 44 = .ok (.aload_n 0, 1) := by decide +kernel
theorem dX13_taken_45 : decode cX13_taken 45 = .ok (.iconst 1, 1) := by decide +kernel
theorem dX13_taken_46 : decode cX13_taken 46 = .ok (.invokevirtual 419, 3) := by decide +kernel
theorem dX13_taken_49 : decode cX13_taken 49 = .ok (.goto 12, 3) := by decide +kernel
theorem dX13_taken_52 : decode cX13_taken 52 = .ok (.iload_n 1, 1) := by decide +kernel
theorem dX13_taken_53 : decode cX13_taken 53 = .ok (.ifCond .ge 8, 3) := by decide +kernel
