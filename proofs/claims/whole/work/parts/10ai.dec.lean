theorem dX18_second_231 : decode cX18_second 231 = .ok (.bipush 8, 2) := by decide +kernel
theorem dX18_second_233 : decode cX18_second 233 = .ok (.ishl, 1) := by decide +kernel
theorem dX18_second_234 : decode cX18_second 234 = .ok (.ior, 1) := by decide +kernel
theorem dX18_second_235 : decode cX18_second 235 = .ok (.invokevirtual 176, 3) := by decide +kernel
theorem dX18_second_238 : decode cX18_second 238 = .ok (.return_, 1) := by decide +kernel
theorem dX18_third_0 : decode cX18_third 0 = .ok (.aload_n 0, 1) := by decide +kernel
theorem dX18_third_1 : decode cX18_third 1 = .ok (.bipush 12, 2) := by decide +kernel
theorem dX18_third_3 : decode cX18_third 3 = .ok (.iconst 1, 1) := by decide +kernel
theorem dX18_third_4 : decode cX18_third 4 = .ok (.invokevirtual 172, 3) := by decide +kernel
theorem dX18_third_7 : decode cX18_third 7 = .ok (.iconst 1, 1) := by decide +kernel
theorem dX18_third_8 : decode cX18_third 8 = .ok (.if_icmp .ne 7, 3) := by decide +kernel
theorem dX18_third_11 : decode cX18_third 11 = .ok (.iconst 1, 1) := by decide +kernel
theorem dX18_third_12 : decode cX18_third 12 = .ok (.goto 4, 3) := by decide +kernel
theorem dX18_third_15 : decode cX18_third 15 = .ok (.iconst 0, 1) := by decide +kernel
theorem dX18_third_16 : decode cX18_third 16 = .ok (.istore_n 1, 1) := by decide +kernel
theorem dX18_third_17 : decode cX18_third 17 = .ok (.aload_n 0, 1) := by decide +kernel
theorem dX18_third_18 : decode cX18_third 18 = .ok (.aload_n 0, 1) := by decide +kernel
theorem dX18_third_19 : decode cX18_third 19 = .ok (.iconst 2, 1) := by decide +kernel
theorem dX18_third_20 : decode cX18_third 20 = .ok (.iconst 5, 1) := by decide +kernel
theorem dX18_third_21 : decode cX18_third 21 = .ok (.invokevirtual 172, 3) := by decide +kernel
theorem dX18_third_24 : decode cX18_third 24 = .ok (.putfield 77, 3) := by decide +kernel
theorem dX18_third_27 : decode cX18_third 27 = .ok (.aload_n 0, 1) := by decide +kernel
theorem dX18_third_28 : decode cX18_third 28 = .ok (.getfield 80, 3) := by decide +kernel
theorem dX18_third_31 : decode cX18_third 31 = .ok (.ifCond .ne 33, 3) := by decide +kernel
theorem dX18_third_34 : decode cX18_third 34 = .ok (.iload_n 1, 1) := by decide +kernel
theorem dX18_third_35 : decode cX18_third 35 = .ok (.ifCond .ne 29, 3) := by decide +kernel
theorem dX18_third_38 : decode cX18_third 38 = .ok (.aload_n 0, 1) := by decide +kernel
theorem dX18_third_39 : decode cX18_third 39 = .ok (.ldc2_w 308, 3) := by decide +kernel
theorem dX18_third_42 : decode cX18_third 42 = .ok (.invokevirtual 65, 3) := by decide +kernel
theorem dX18_third_45 : decode cX18_third 45 = .ok (.aload_n 0, 1) := by decide +kernel
theorem dX18_third_46 : decode cX18_third 46 = .ok (.aload_n 0, 1) := by decide +kernel
theorem dX18_third_47 : decode cX18_third 47 = .ok (.getfield 68, 3) := by decide +kernel
theorem dX18_third_50 : decode cX18_third 50 = .ok (.invokevirtual 71, 3) := by decide +kernel
theorem dX18_third_53 : decode cX18_third 53 = .ok (.aload_n 0, 1) := by decide +kernel
theorem dX18_third_54 : decode cX18_third 54 = .ok (.aload_n 0, 1) := by decide +kernel
theorem dX18_third_55 : decode cX18_third 55 = .ok (.getfield 77, 3) := by decide +kernel
theorem dX18_third_58 : decode cX18_third 58 = .ok (.invokevirtual 59, 3) := by decide +kernel
theorem dX18_third_61 : decode cX18_third 61 = .ok (.goto 232, 3) := by decide +kernel
theorem dX18_third_64 : decode cX18_third 64 = .ok (.aload_n 0, 1) := by decide +kernel
theorem dX18_third_65 : decode cX18_third 65 = .ok (.getfield 80, 3) := by decide +kernel
theorem dX18_third_68 : decode cX18_third 68 = .ok (.iconst 2, 1) := by decide +kernel
theorem dX18_third_69 : decode cX18_third 69 = .ok (.if_icmp .ne 60, 3) := by decide +kernel
theorem dX18_third_72 : decode cX18_third 72 = .ok (.aload_n 0, 1) := by decide +kernel
theorem dX18_third_73 : decode cX18_third 73 = .ok (.getfield 68, 3) := by decide +kernel
theorem dX18_third_76 : decode cX18_third 76 = .ok (.ifCond .eq 53, 3) := by decide +kernel
theorem dX18_third_79 : decode cX18_third 79 = .ok (.aload_n 0, 1) := by decide +kernel
theorem dX18_third_80 : decode cX18_third 80 = .ok (.ldc2_w 310, 3) := by decide +kernel
theorem dX18_third_83 : decode cX18_third 83 = .ok (.invokevirtual 65, 3) := by decide +kernel
theorem dX18_third_86 : decode cX18_third 86 = .ok (.aload_n 0, 1) := by decide +kernel
theorem dX18_third_87 : decode cX18_third 87 = .ok (.aload_n 0, 1) := by decide +kernel
theorem dX18_third_88 : decode cX18_third 88 = .ok (.getfield 68, 3) := by decide +kernel
theorem dX18_third_91 : decode cX18_third 91 = .ok (.invokevirtual 71, 3) := by decide +kernel
theorem dX18_third_94 : decode cX18_third 94 = .ok (.aload_n 0, 1) := by decide +kernel
theorem dX18_third_95 : decode cX18_third 95 = .ok (.aload_n 0, 1) := by decide +kernel
theorem dX18_third_96 : decode cX18_third 96 = .ok (.bipush 12, 2) := by decide +kernel
theorem dX18_third_98 : decode cX18_third 98 = .ok (.iconst 1, 1) := by decide +kernel
theorem dX18_third_99 : decode cX18_third 99 = .ok (.invokevirtual 172, 3) := by decide +kernel
theorem dX18_third_102 : decode cX18_third 102 = .ok (.iconst 5, 1) := by decide +kernel
theorem dX18_third_103 : decode cX18_third 103 = .ok (.ishl, 1) := by decide +kernel
theorem dX18_third_104 : decode cX18_third 104 = .ok (.aload_n 0, 1) := by decide +kernel
theorem dX18_third_105 : decode cX18_third 105 = .ok (.iconst 4, 1) := by decide +kernel
theorem dX18_third_106 : decode cX18_third 106 = .ok (.iconst 3, 1) := by decide +kernel
theorem dX18_third_107 : decode cX18_third 107 = .ok (.invokevirtual 172, 3) := by decide +kernel
theorem dX18_third_110 : decode cX18_third 110 = .ok (.iconst 2, 1) := by decide +kernel
theorem dX18_third_111 : decode cX18_third 111 = .ok (.ishl, 1) := by decide +kernel
theorem dX18_third_112 : decode cX18_third 112 = .ok (.ior, 1) := by decide +kernel
theorem dX18_third_113 : decode cX18_third 113 = .ok (.aload_n 0, 1) := by decide +kernel
theorem dX18_third_114 : decode cX18_third 114 = .ok (.iconst 2, 1) := by decide +kernel
theorem dX18_third_115 : decode cX18_third 115 = .ok (.iconst 2, 1) := by decide +kernel
theorem dX18_third_116 : decode cX18_third 116 = .ok (.invokevirtual 172, 3) := by decide +kernel
theorem dX18_third_119 : decode cX18_third 119 = .ok (.bipush 6, 2) := by decide +kernel
theorem dX18_third_121 : decode cX18_third 121 = .ok (.ishl, 1) := by decide +kernel
theorem dX18_third_122 : decode cX18_third 122 = .ok (.ior, 1) := by decide +kernel
theorem dX18_third_123 : decode cX18_third 123 = .ok (.invokevirtual 59, 3) := by decide +kernel
theorem dX18_third_126 : decode cX18_third 126 = .ok (.goto 167, 3) := by decide +kernel
theorem dX18_third_129 : decode cX18_third 129 = .ok (.aload_n 0, 1) := by decide +kernel
theorem dX18_third_130 : decode cX18_third 130 = .ok (.getfield 80, 3) := by decide +kernel
theorem dX18_third_133 : decode cX18_third 133 = .ok (.bipush 6, 2) := by decide +kernel
theorem dX18_third_135 : decode cX18_third 135 = .ok (.if_icmp .ne 45, 3) := by decide +kernel
theorem dX18_third_138 : decode cX18_third 138 = .ok (.aload_n 0, 1) := by decide +kernel
theorem dX18_third_139 : decode cX18_third 139 = .ok (.ldc2_w 312, 3) := by decide +kernel
theorem dX18_third_142 : decode cX18_third 142 = .ok (.invokevirtual 65, 3) := by decide +kernel
theorem dX18_third_145 : decode cX18_third 145 = .ok (.aload_n 0, 1) := by decide +kernel
theorem dX18_third_146 : decode cX18_third 146 = .ok (.aload_n 0, 1) := by decide +kernel
theorem dX18_third_147 : decode cX18_third 147 = .ok (.getfield 77, 3) := by decide +kernel
theorem dX18_third_150 : decode cX18_third 150 = .ok (.invokevirtual 71, 3) := by decide +kernel
theorem dX18_third_153 : decode cX18_third 153 = .ok (.aload_n 0, 1) := by decide +kernel
theorem dX18_third_154 : decode cX18_third 154 = .ok (.aload_n 0, 1) := by decide +kernel
theorem dX18_third_155 : decode cX18_third 155 = .ok (.bipush 9, 2) := by decide +kernel
theorem dX18_third_157 : decode cX18_third 157 = .ok (.iconst 4, 1) := by decide +kernel
theorem dX18_third_158 : decode cX18_third 158 = .ok (.invokevirtual 172, 3) := by decide +kernel
theorem dX18_third_161 : decode cX18_third 161 = .ok (.iconst 2, 1) := by decide +kernel
theorem dX18_third_162 : decode cX18_third 162 = .ok (.ishl, 1) := by decide +kernel
theorem dX18_third_163 : decode cX18_third 163 = .ok (.aload_n 0, 1) := by decide +kernel
theorem dX18_third_164 : decode cX18_third 164 = .ok (.bipush 7, 2) := by decide +kernel
theorem dX18_third_166 : decode cX18_third 166 = .ok (.iconst 2, 1) := by decide +kernel
theorem dX18_third_167 : decode cX18_third 167 = .ok (.invokevirtual 172, 3) := by decide +kernel
theorem dX18_third_170 : decode cX18_third 170 = .ok (.bipush 6, 2) := by decide +kernel
theorem dX18_third_172 : decode cX18_third 172 = .ok (.ishl, 1) := by decide +kernel
theorem dX18_third_173 : decode cX18_third 173 = .ok (.ior, 1) := by decide +kernel
theorem dX18_third_174 : decode cX18_third 174 = .ok (.invokevirtual 59, 3) := by decide +kernel
theorem dX18_third_177 : decode cX18_third 177 = .ok (.goto 116, 3) := by decide +kernel
theorem dX18_third_180 : decode cX18_third 180 = .ok (.aload_n 0, 1) := by decide +kernel
theorem dX18_third_181 : decode cX18_third 181 = .ok (.getfield 80, 3) := by decide +kernel
theorem dX18_third_184 : decode cX18_third 184 = .ok (.iconst 4, 1) := by decide +kernel
theorem dX18_third_185 : decode cX18_third 185 = .ok (.if_icmp .ne 46, 3) := by decide +kernel
theorem dX18_third_188 : decode cX18_third 188 = .ok (.aload_n 0, 1) := by decide +kernel
theorem dX18_third_189 : decode cX18_third 189 = .ok (.getfield 77, 3) := by decide +kernel
theorem dX18_third_192 : decode cX18_third 192 = .ok (.ifCond .eq 39, 3) := by decide +kernel
theorem dX18_third_195 : decode cX18_third 195 = .ok (.aload_n 0, 1) := by decide +kernel
theorem dX18_third_196 : decode cX18_third 196 = .ok (.iload_n 1, 1) := by decide +kernel
theorem dX18_third_197 : decode cX18_third 197 = .ok (.ifCond .eq 9, 3) := by decide +kernel
theorem dX18_third_200 : decode cX18_third 200 = .ok (.ldc2_w 314, 3) := by decide +kernel
theorem dX18_third_203 : decode cX18_third 203 = .ok (.goto 6, 3) := by decide +kernel
theorem dX18_third_206 : decode cX18_third 206 = .ok (.ldc2_w 316, 3) := by decide +kernel
theorem dX18_third_209 : decode cX18_third 209 = .ok (.invokevirtual 65, 3) := by decide +kernel
theorem dX18_third_212 : decode cX18_third 212 = .ok (.aload_n 0, 1) := by decide +kernel
theorem dX18_third_213 : decode cX18_third 213 = .ok (.aload_n 0, 1) := by decide +kernel
theorem dX18_third_214 : decode cX18_third 214 = .ok (.getfield 68, 3) := by decide +kernel
theorem dX18_third_217 : decode cX18_third 217 = .ok (.invokevirtual 71, 3) := by decide +kernel
theorem dX18_third_220 : decode cX18_third 220 = .ok (.aload_n 0, 1) := by decide +kernel
theorem dX18_third_221 : decode cX18_third 221 = .ok (.aload_n 0, 1) := by decide +kernel
theorem dX18_third_222 : decode cX18_third 222 = .ok (.getfield 77, 3) := by decide +kernel
theorem dX18_third_225 : decode cX18_third 225 = .ok (.invokevirtual 71, 3) := by decide +kernel
theorem dX18_third_228 : decode cX18_third 228 = .ok (.goto 65, 3) := by decide +kernel
theorem dX18_third_231 : decode cX18_third 231 = .ok (.aload_n 0, 1) := by decide +kernel
theorem dX18_third_232 : decode cX18_third 232 = .ok (.getfield 80, 3) := by decide +kernel
theorem dX18_third_235 : decode cX18_third 235 = .ok (.iconst 4, 1) := by decide +kernel
theorem dX18_third_236 : decode cX18_third 236 = .ok (.if_icmp .ne 38, 3) := by decide +kernel
theorem dX18_third_239 : decode cX18_third 239 = .ok (.aload_n 0, 1) := by decide +kernel
theorem dX18_third_240 : decode cX18_third 240 = .ok (.getfield 68, 3) := by decide +kernel
theorem dX18_third_243 : decode cX18_third 243 = .ok (.ifCond .eq 31, 3) := by decide +kernel
theorem dX18_third_246 : decode cX18_third 246 = .ok (.aload_n 0, 1) := by decide +kernel
theorem dX18_third_247 : decode cX18_third 247 = .ok (.iload_n 1, 1) := by decide +kernel
theorem dX18_third_248 : decode cX18_third 248 = .ok (.ifCond .eq 9, 3) := by decide +kernel
theorem dX18_third_251 : decode cX18_third 251 = .ok (.ldc2_w 318, 3) := by decide +kernel
theorem dX18_third_254 : decode cX18_third 254 = .ok (.goto 6, 3) := by decide +kernel
theorem dX18_third_257 : decode cX18_third 257 = .ok (.ldc2_w 320, 3) := by decide +kernel
theorem dX18_third_260 : decode cX18_third 260 = .ok (.invokevirtual 65, 3) := by decide +kernel
theorem dX18_third_263 : decode cX18_third 263 = .ok (.aload_n 0, 1) := by decide +kernel
theorem dX18_third_264 : decode cX18_third 264 = .ok (.aload_n 0, 1) := by decide +kernel
theorem dX18_third_265 : decode cX18_third 265 = .ok (.getfield 68, 3) := by decide +kernel
theorem dX18_third_268 : decode cX18_third 268 = .ok (.invokevirtual 71, 3) := by decide +kernel
theorem dX18_third_271 : decode cX18_third 271 = .ok (.goto 22, 3) := by decide +kernel
theorem dX18_third_274 : decode cX18_third 274 = .ok (.aload_n 0, 1) := by decide +kernel
theorem dX18_third_275 : decode cX18_third 275 = .ok (.getfield 80, 3) := by decide +kernel
theorem dX18_third_278 : decode cX18_third 278 = .ok (.iconst 4, 1) := by decide +kernel
theorem dX18_third_279 : decode cX18_third 279 = .ok (.if_icmp .ne 14, 3) := by decide +kernel
theorem dX18_third_282 : decode cX18_third 282 = .ok (.iload_n 1, 1) := by decide +kernel
theorem dX18_third_283 : decode cX18_third 283 = .ok (.ifCond .eq 10, 3) := by decide +kernel
theorem dX18_third_286 : decode cX18_third 286 = .ok (.aload_n 0, 1) := by decide +kernel
theorem dX18_third_287 : decode cX18_third 287 = .ok (.ldc2_w 322, 3) := by decide +kernel
theorem dX18_third_290 : decode cX18_third 290 = .ok (.invokevirtual 65, 3) := by decide +kernel
theorem dX18_third_293 : decode cX18_third 293 = .ok (.return_, 1) := by decide +kernel
theorem dX18_understand_0 : decode cX18_understand 0 = .ok (.aload_n 0, 1) := by decide +kernel
theorem dX18_understand_1 : decode cX18_understand 1 = .ok (.getfield 20, 3) := by decide +kernel
theorem dX18_understand_4 : decode cX18_understand 4 = .ok (.iconst 3, 1) := by decide +kernel
theorem dX18_understand_5 : decode cX18_understand 5 = .ok (.iand, 1) := by decide +kernel
theorem dX18_understand_6 : decode cX18_understand 6 = .ok (.iconst 3, 1) := by decide +kernel
theorem dX18_understand_7 : decode cX18_understand 7 = .ok (.if_icmp .ne 7, 3) := by decide +kernel
theorem dX18_understand_10 : decode cX18_understand 10 = .ok (.iconst 1, 1) := by decide +kernel
theorem dX18_understand_11 : decode cX18_understand 11 = .ok (.goto 4, 3) := by decide +kernel
theorem dX18_understand_14 : decode cX18_understand 14 = .ok (.iconst 0, 1) := by decide +kernel
theorem dX18_understand_15 : decode cX18_understand 15 = .ok (.istore_n 1, 1) := by decide +kernel
theorem dX18_understand_16 : decode cX18_understand 16 = .ok (.aload_n 0, 1) := by decide +kernel
theorem dX18_understand_17 : decode cX18_understand 17 = .ok (.iconst 0, 1) := by decide +kernel
theorem dX18_understand_18 : decode cX18_understand 18 = .ok (.putfield 24, 3) := by decide +kernel
theorem dX18_understand_21 : decode cX18_understand 21 = .ok (.aload_n 0, 1) := by decide +kernel
theorem dX18_understand_22 : decode cX18_understand 22 = .ok (.iconst 0, 1) := by decide +kernel
theorem dX18_understand_23 : decode cX18_understand 23 = .ok (.putfield 43, 3) := by decide +kernel
theorem dX18_understand_26 : decode cX18_understand 26 = .ok (.aload_n 0, 1) := by decide +kernel
theorem dX18_understand_27 : decode cX18_understand 27 = .ok (.iconst 0, 1) := by decide +kernel
theorem dX18_understand_28 : decode cX18_understand 28 = .ok (.putfield 47, 3) := by decide +kernel
theorem dX18_understand_31 : decode cX18_understand 31 = .ok (.aload_n 0, 1) := by decide +kernel
theorem dX18_understand_32 : decode cX18_understand 32 = .ok (.aload_n 0, 1) := by decide +kernel
theorem dX18_understand_33 : decode cX18_understand 33 = .ok (.bipush 7, 2) := by decide +kernel
theorem dX18_understand_35 : decode cX18_understand 35 = .ok (.iconst 5, 1) := by decide +kernel
theorem dX18_understand_36 : decode cX18_understand 36 = .ok (.invokevirtual 172, 3) := by decide +kernel
theorem dX18_understand_39 : decode cX18_understand 39 = .ok (.putfield 68, 3) := by decide +kernel
theorem dX18_understand_42 : decode cX18_understand 42 = .ok (.aload_n 0, 1) := by decide +kernel
theorem dX18_understand_43 : decode cX18_understand 43 = .ok (.aload_n 0, 1) := by decide +kernel
theorem dX18_understand_44 : decode cX18_understand 44 = .ok (.bipush 13, 2) := by decide +kernel
theorem dX18_understand_46 : decode cX18_understand 46 = .ok (.iconst 3, 1) := by decide +kernel
theorem dX18_understand_47 : decode cX18_understand 47 = .ok (.invokevirtual 172, 3) := by decide +kernel
theorem dX18_understand_50 : decode cX18_understand 50 = .ok (.putfield 80, 3) := by decide +kernel
theorem dX18_understand_53 : decode cX18_understand 53 = .ok (.iload_n 1, 1) := by decide +kernel
theorem dX18_understand_54 : decode cX18_understand 54 = .ok (.ifCond .eq 10, 3) := by decide +kernel
theorem dX18_understand_57 : decode cX18_understand 57 = .ok (.aload_n 0, 1) := by decide +kernel
theorem dX18_understand_58 : decode cX18_understand 58 = .ok (.invokevirtual 324, 3) := by decide +kernel
theorem dX18_understand_61 : decode cX18_understand 61 = .ok (.goto 40, 3) := by decide +kernel
theorem dX18_understand_64 : decode cX18_understand 64 = .ok (.aload_n 0, 1) := by decide +kernel
theorem dX18_understand_65 : decode cX18_understand 65 = .ok (.getfield 20, 3) := by decide +kernel
theorem dX18_understand_68 : decode cX18_understand 68 = .ok (.iconst 3, 1) := by decide +kernel
theorem dX18_understand_69 : decode cX18_understand 69 = .ok (.iand, 1) := by decide +kernel
theorem dX18_understand_70 : decode cX18_understand 70 = .ok (.ifCond .ne 10, 3) := by decide +kernel
theorem dX18_understand_73 : decode cX18_understand 73 = .ok (.aload_n 0, 1) := by decide +kernel
theorem dX18_understand_74 : decode cX18_understand 74 = .ok (.invokevirtual 327, 3) := by decide +kernel
theorem dX18_understand_77 : decode cX18_understand 77 = .ok (.goto 24, 3) := by decide +kernel
theorem dX18_understand_80 : decode cX18_understand 80 = .ok (.aload_n 0, 1) := by decide +kernel
theorem dX18_understand_81 : decode cX18_understand 81 = .ok (.getfield 20, 3) := by decide +kernel
theorem dX18_understand_84 : decode cX18_understand 84 = .ok (.iconst 3, 1) := by decide +kernel
theorem dX18_understand_85 : decode cX18_understand 85 = .ok (.iand, 1) := by decide +kernel
theorem dX18_understand_86 : decode cX18_understand 86 = .ok (.iconst 1, 1) := by decide +kernel
theorem dX18_understand_87 : decode cX18_understand 87 = .ok (.if_icmp .ne 10, 3) := by decide +kernel
theorem dX18_understand_90 : decode cX18_understand 90 = .ok (.aload_n 0, 1) := by decide +kernel
theorem dX18_understand_91 : decode cX18_understand 91 = .ok (.invokevirtual 330, 3) := by decide +kernel
theorem dX18_understand_94 : decode cX18_understand 94 = .ok (.goto 7, 3) := by decide +kernel
theorem dX18_understand_97 : decode cX18_understand 97 = .ok (.aload_n 0, 1) := by decide +kernel
theorem dX18_understand_98 : decode cX18_understand 98 = .ok (.invokevirtual 333, 3) := by decide +kernel
theorem dX18_understand_101 : decode cX18_understand 101 = .ok (.aload_n 0, 1) := by decide +kernel
theorem dX18_understand_102 : decode cX18_understand 102 = .ok (.getfield 43, 3) := by decide +kernel
theorem dX18_understand_105 : decode cX18_understand 105 = .ok (.ifCond .eq 4, 3) := by decide +kernel
theorem dX18_understand_108 : decode cX18_understand 108 = .ok (.return_, 1) := by decide +kernel
theorem dX18_understand_109 : decode cX18_understand 109 = .ok (.aload_n 0, 1) := by decide +kernel
theorem dX18_understand_110 : decode cX18_understand 110 = .ok (.iload_n 1, 1) := by decide +kernel
theorem dX18_understand_111 : decode cX18_understand 111 = .ok (.ifCond .eq 9, 3) := by decide +kernel
theorem dX18_understand_114 : decode cX18_understand 114 = .ok (.ldc2_w 336, 3) := by decide +kernel
theorem dX18_understand_117 : decode cX18_understand 117 = .ok (.goto 6, 3) := by decide +kernel
theorem dX18_understand_120 : decode cX18_understand 120 = .ok (.ldc2_w 338, 3) := by decide +kernel
theorem dX18_understand_123 : decode cX18_understand 123 = .ok (.invokevirtual 50, 3) := by decide +kernel
theorem dX18_understand_126 : decode cX18_understand 126 = .ok (.aload_n 0, 1) := by decide +kernel
theorem dX18_understand_127 : decode cX18_understand 127 = .ok (.invokevirtual 53, 3) := by decide +kernel
theorem dX18_understand_130 : decode cX18_understand 130 = .ok (.aload_n 0, 1) := by decide +kernel
theorem dX18_understand_131 : decode cX18_understand 131 = .ok (.aload_n 0, 1) := by decide +kernel
theorem dX18_understand_132 : decode cX18_understand 132 = .ok (.getfield 20, 3) := by decide +kernel
theorem dX18_understand_135 : decode cX18_understand 135 = .ok (.i2l, 1) := by decide +kernel
theorem dX18_understand_136 : decode cX18_understand 136 = .ok (.ldc2_w 340, 3) := by decide +kernel
theorem dX18_understand_139 : decode cX18_understand 139 = .ok (.land, 1) := by decide +kernel
theorem dX18_understand_140 : decode cX18_understand 140 = .ok (.invokevirtual 39, 3) := by decide +kernel
theorem dX18_understand_143 : decode cX18_understand 143 = .ok (.return_, 1) := by decide +kernel
theorem dX18_read_0 : decode cX18_read 0 = .ok (.aload_n 0, 1) := by decide +kernel
theorem dX18_read_1 : decode cX18_read 1 = .ok (.iload_n 1, 1) := by decide +kernel
theorem dX18_read_2 : decode cX18_read 2 = .ok (.iconst 3, 1) := by decide +kernel
theorem dX18_read_3 : decode cX18_read 3 = .ok (.iand, 1) := by decide +kernel
theorem dX18_read_4 : decode cX18_read 4 = .ok (.iconst 3, 1) := by decide +kernel
theorem dX18_read_5 : decode cX18_read 5 = .ok (.if_icmp .ne 7, 3) := by decide +kernel
theorem dX18_read_8 : decode cX18_read 8 = .ok (.iload_n 1, 1) := by decide +kernel
theorem dX18_read_9 : decode cX18_read 9 = .ok (.goto 8, 3) := by decide +kernel
theorem dX18_read_12 : decode cX18_read 12 = .ok (.iload_n 1, 1) := by decide +kernel
theorem dX18_read_13 : decode cX18_read 13 = .ok (.ldc_w 342, 3) := by decide +kernel
theorem dX18_read_16 : decode cX18_read 16 = .ok (.iand, 1) := by decide +kernel
theorem dX18_read_17 : decode cX18_read 17 = .ok (.putfield 20, 3) := by decide +kernel
theorem dX18_read_20 : decode cX18_read 20 = .ok (.aload_n 0, 1) := by decide +kernel
theorem dX18_read_21 : decode cX18_read 21 = .ok (.invokevirtual 343, 3) := by decide +kernel
theorem dX18_read_24 : decode cX18_read 24 = .ok (.aload_n 0, 1) := by decide +kernel
theorem dX18_read_25 : decode cX18_read 25 = .ok (.getfield 24, 3) := by decide +kernel
theorem dX18_read_28 : decode cX18_read 28 = .ok (.ireturn, 1) := by decide +kernel
theorem dX18_letter_0 : decode cX18_letter 0 = .ok (.aload_n 0, 1) := by decide +kernel
theorem dX18_letter_1 : decode cX18_letter 1 = .ok (.getfield 7, 3) := by decide +kernel
theorem dX18_letter_4 : decode cX18_letter 4 = .ok (.iload_n 1, 1) := by decide +kernel
theorem dX18_letter_5 : decode cX18_letter 5 = .ok (.caload, 1) := by decide +kernel
theorem dX18_letter_6 : decode cX18_letter 6 = .ok (.ireturn, 1) := by decide +kernel
