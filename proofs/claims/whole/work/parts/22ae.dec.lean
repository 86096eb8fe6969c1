theorem dX3_readRepeat_147 : decode cX3_readRepeat 147 = .ok (.invokevirtual 133, 3) := by decide +kernel
theorem dX3_readRepeat_150 : decode cX3_readRepeat 150 = .ok (.pop, 1) := by decide +kernel
theorem dX3_readRepeat_151 : decode cX3_readRepeat 151 = .ok (.lload 10, 2) := by decide +kernel
theorem dX3_readRepeat_153 : decode cX3_readRepeat 153 = .ok (.lconst 1, 1) := by decide +kernel
theorem dX3_readRepeat_154 : decode cX3_readRepeat 154 = .ok (.lsub, 1) := by decide +kernel
theorem dX3_readRepeat_155 : decode cX3_readRepeat 155 = .ok (.lstore 10, 2) := by decide +kernel
theorem dX3_readRepeat_157 : decode cX3_readRepeat 157 = .ok (.goto (-72), 3) := by decide +kernel
theorem dX3_readRepeat_160 : decode cX3_readRepeat 160 = .ok (.return_, 1) := by decide +kernel
theorem dX3_readBrought_0 : decode cX3_readBrought 0 = .ok (.iload_n 3, 1) := by decide +kernel
theorem dX3_readBrought_1 : decode cX3_readBrought 1 = .ok (.i2l, 1) := by decide +kernel
theorem dX3_readBrought_2 : decode cX3_readBrought 2 = .ok (.lstore 6, 2) := by decide +kernel
theorem dX3_readBrought_4 : decode cX3_readBrought 4 = .ok (.iconst 0, 1) := by decide +kernel
theorem dX3_readBrought_5 : decode cX3_readBrought 5 = .ok (.istore 8, 2) := by decide +kernel
theorem dX3_readBrought_7 : decode cX3_readBrought 7 = .ok (.aload_n 0, 1) := by decide +kernel
theorem dX3_readBrought_8 : decode cX3_readBrought 8 = .ok (.getfield 44, 3) := by decide +kernel
theorem dX3_readBrought_11 : decode cX3_readBrought 11 = .ok (.istore 9, 2) := by decide +kernel
theorem dX3_readBrought_13 : decode cX3_readBrought 13 = .ok (.iload_n 2, 1) := by decide +kernel
theorem dX3_readBrought_14 : decode cX3_readBrought 14 = .ok (.iconst 1, 1) := by decide +kernel
theorem dX3_readBrought_15 : decode cX3_readBrought 15 = .ok (.if_icmp .ne 75, 3) := by decide +kernel
theorem dX3_readBrought_18 : decode cX3_readBrought 18 = .ok (.iload_n 3, 1) := by decide +kernel
theorem dX3_readBrought_19 : decode cX3_readBrought 19 = .ok (.ifCond .ne 71, 3) := by decide +kernel
theorem dX3_readBrought_22 : decode cX3_readBrought 22 = .ok (.aload_n 0, 1) := by decide +kernel
theorem dX3_readBrought_23 : decode cX3_readBrought 23 = .ok (.invokevirtual 101, 3) := by decide +kernel
theorem dX3_readBrought_26 : decode cX3_readBrought 26 = .ok (.lstore 10, 2) := by decide +kernel
theorem dX3_readBrought_28 : decode cX3_readBrought 28 = .ok (.lload 10, 2) := by decide +kernel
theorem dX3_readBrought_30 : decode cX3_readBrought 30 = .ok (.lconst 0, 1) := by decide +kernel
theorem dX3_readBrought_31 : decode cX3_readBrought 31 = .ok (.lcmp, 1) := by decide +kernel
theorem dX3_readBrought_32 : decode cX3_readBrought 32 = .ok (.ifCond .ne 10, 3) := by decide +kernel
theorem dX3_readBrought_35 : decode cX3_readBrought 35 = .ok (.aload_n 0, 1) := by decide +kernel
theorem dX3_readBrought_36 : decode cX3_readBrought 36 = .ok (.iconst 5, 1) := by decide +kernel
theorem dX3_readBrought_37 : decode cX3_readBrought 37 = .ok (.iload 9, 2) := by decide +kernel
theorem dX3_readBrought_39 : decode cX3_readBrought 39 = .ok (.invokevirtual 107, 3) := by decide +kernel
theorem dX3_readBrought_42 : decode cX3_readBrought 42 = .ok (.aload_n 0, 1) := by decide +kernel
theorem dX3_readBrought_43 : decode cX3_readBrought 43 = .ok (.iconst 1, 1) := by decide +kernel
theorem dX3_readBrought_44 : decode cX3_readBrought 44 = .ok (.lload 10, 2) := by decide +kernel
theorem dX3_readBrought_46 : decode cX3_readBrought 46 = .ok (.aload_n 0, 1) := by decide +kernel
theorem dX3_readBrought_47 : decode cX3_readBrought 47 = .ok (.getfield 39, 3) := by decide +kernel
theorem dX3_readBrought_50 : decode cX3_readBrought 50 = .ok (.invokevirtual 80, 3) := by decide +kernel
theorem dX3_readBrought_53 : decode cX3_readBrought 53 = .ok (.istore 12, 2) := by decide +kernel
theorem dX3_readBrought_55 : decode cX3_readBrought 55 = .ok (.iload 12, 2) := by decide +kernel
theorem dX3_readBrought_57 : decode cX3_readBrought 57 = .ok (.ifCond .ge 12, 3) := by decide +kernel
theorem dX3_readBrought_60 : decode cX3_readBrought 60 = .ok (.aload_n 0, 1) := by decide +kernel
theorem dX3_readBrought_61 : decode cX3_readBrought 61 = .ok (.iconst 4, 1) := by decide +kernel
theorem dX3_readBrought_62 : decode cX3_readBrought 62 = .ok (.iload_n 1, 1) := by decide +kernel
theorem dX3_readBrought_63 : decode cX3_readBrought 63 = .ok (.invokevirtual 107, 3) := by decide +kernel
theorem dX3_readBrought_66 : decode cX3_readBrought 66 = .ok (.goto 21, 3) := by decide +kernel
theorem dX3_readBrought_69 : decode cX3_readBrought 69 = .ok (.aload_n 0, 1) := by decide +kernel
theorem dX3_readBrought_70 : decode cX3_readBrought 70 = .ok (.getfield 17, 3) := by decide +kernel
theorem dX3_readBrought_73 : decode cX3_readBrought 73 = .ok (.iload 12, 2) := by decide +kernel
theorem dX3_readBrought_75 : decode cX3_readBrought 75 = .ok (.laload, 1) := by decide +kernel
theorem dX3_readBrought_76 : decode cX3_readBrought 76 = .ok (.lstore 6, 2) := by decide +kernel
theorem dX3_readBrought_78 : decode cX3_readBrought 78 = .ok (.aload_n 0, 1) := by decide +kernel
theorem dX3_readBrought_79 : decode cX3_readBrought 79 = .ok (.getfield 20, 3) := by decide +kernel
theorem dX3_readBrought_82 : decode cX3_readBrought 82 = .ok (.iload 12, 2) := by decide +kernel
theorem dX3_readBrought_84 : decode cX3_readBrought 84 = .ok (.iaload, 1) := by decide +kernel
theorem dX3_readBrought_85 : decode cX3_readBrought 85 = .ok (.istore 8, 2) := by decide +kernel
theorem dX3_readBrought_87 : decode cX3_readBrought 87 = .ok (.goto 129, 3) := by decide +kernel
theorem dX3_readBrought_90 : decode cX3_readBrought 90 = .ok (.iload_n 2, 1) := by decide +kernel
theorem dX3_readBrought_91 : decode cX3_readBrought 91 = .ok (.iconst 1, 1) := by decide +kernel
theorem dX3_readBrought_92 : decode cX3_readBrought 92 = .ok (.if_icmp .ne 16, 3) := by decide +kernel
theorem dX3_readBrought_95 : decode cX3_readBrought 95 = .ok (.aload_n 0, 1) := by decide +kernel
theorem dX3_readBrought_96 : decode cX3_readBrought 96 = .ok (.iload_n 3, 1) := by decide +kernel
theorem dX3_readBrought_97 : decode cX3_readBrought 97 = .ok (.invokevirtual 137, 3) := by decide +kernel
theorem dX3_readBrought_100 : decode cX3_readBrought 100 = .ok (.lstore 6, 2) := by decide +kernel
theorem dX3_readBrought_102 : decode cX3_readBrought 102 = .ok (.iload_n 3, 1) := by decide +kernel
theorem dX3_readBrought_103 : decode cX3_readBrought 103 = .ok (.istore 8, 2) := by decide +kernel
theorem dX3_readBrought_105 : decode cX3_readBrought 105 = .ok (.goto 111, 3) := by decide +kernel
theorem dX3_readBrought_108 : decode cX3_readBrought 108 = .ok (.iload_n 2, 1) := by decide +kernel
theorem dX3_readBrought_109 : decode cX3_readBrought 109 = .ok (.iconst 2, 1) := by decide +kernel
theorem dX3_readBrought_110 : decode cX3_readBrought 110 = .ok (.if_icmp .ne 32, 3) := by decide +kernel
theorem dX3_readBrought_113 : decode cX3_readBrought 113 = .ok (.aload_n 0, 1) := by decide +kernel
theorem dX3_readBrought_114 : decode cX3_readBrought 114 = .ok (.invokevirtual 117, 3) := by decide +kernel
theorem dX3_readBrought_117 : decode cX3_readBrought 117 = .ok (.istore 8, 2) := by decide +kernel
theorem dX3_readBrought_119 : decode cX3_readBrought 119 = .ok (.iload 8, 2) := by decide +kernel
theorem dX3_readBrought_121 : decode cX3_readBrought 121 = .ok (.iconst 1, 1) := by decide +kernel
theorem dX3_readBrought_122 : decode cX3_readBrought 122 = .ok (.if_icmp .lt 10, 3) := by decide +kernel
theorem dX3_readBrought_125 : decode cX3_readBrought 125 = .ok (.iload 8, 2) := by decide +kernel
theorem dX3_readBrought_127 : decode cX3_readBrought 127 = .ok (.bipush 31, 2) := by decide +kernel
theorem dX3_readBrought_129 : decode cX3_readBrought 129 = .ok (.if_icmp .le 87, 3) := by decide +kernel
theorem dX3_readBrought_132 : decode cX3_readBrought 132 = .ok (.aload_n 0, 1) := by decide +kernel
theorem dX3_readBrought_133 : decode cX3_readBrought 133 = .ok (.iconst 5, 1) := by decide +kernel
theorem dX3_readBrought_134 : decode cX3_readBrought 134 = .ok (.iload 9, 2) := by decide +kernel
theorem dX3_readBrought_136 : decode cX3_readBrought 136 = .ok (.invokevirtual 107, 3) := by decide +kernel
theorem dX3_readBrought_139 : decode cX3_readBrought 139 = .ok (.goto 77, 3) := by decide +kernel
theorem dX3_readBrought_142 : decode cX3_readBrought 142 = .ok (.iload_n 2, 1) := by decide +kernel
theorem dX3_readBrought_143 : decode cX3_readBrought 143 = .ok (.iconst 3, 1) := by decide +kernel
theorem dX3_readBrought_144 : decode cX3_readBrought 144 = .ok (.if_icmp .ne 46, 3) := by decide +kernel
theorem dX3_readBrought_147 : decode cX3_readBrought 147 = .ok (.iload_n 3, 1) := by decide +kernel
theorem dX3_readBrought_148 : decode cX3_readBrought 148 = .ok (.iconst 1, 1) := by decide +kernel
theorem dX3_readBrought_149 : decode cX3_readBrought 149 = .ok (.if_icmp .ne 41, 3) := by decide +kernel
theorem dX3_readBrought_152 : decode cX3_readBrought 152 = .ok (.aload_n 0, 1) := by decide +kernel
theorem dX3_readBrought_153 : decode cX3_readBrought 153 = .ok (.iconst 3, 1) := by decide +kernel
theorem dX3_readBrought_154 : decode cX3_readBrought 154 = .ok (.lconst 1, 1) := by decide +kernel
theorem dX3_readBrought_155 : decode cX3_readBrought 155 = .ok (.aload_n 0, 1) := by decide +kernel
theorem dX3_readBrought_156 : decode cX3_readBrought 156 = .ok (.getfield 39, 3) := by decide +kernel
theorem dX3_readBrought_159 : decode cX3_readBrought 159 = .ok (.invokevirtual 80, 3) := by decide +kernel
theorem dX3_readBrought_162 : decode cX3_readBrought 162 = .ok (.istore 10, 2) := by decide +kernel
theorem dX3_readBrought_164 : decode cX3_readBrought 164 = .ok (.iload 10, 2) := by decide +kernel
theorem dX3_readBrought_166 : decode cX3_readBrought 166 = .ok (.ifCond .ge 12, 3) := by decide +kernel
theorem dX3_readBrought_169 : decode cX3_readBrought 169 = .ok (.aload_n 0, 1) := by decide +kernel
theorem dX3_readBrought_170 : decode cX3_readBrought 170 = .ok (.iconst 4, 1) := by decide +kernel
theorem dX3_readBrought_171 : decode cX3_readBrought 171 = .ok (.iload_n 1, 1) := by decide +kernel
theorem dX3_readBrought_172 : decode cX3_readBrought 172 = .ok (.invokevirtual 107, 3) := by decide +kernel
theorem dX3_readBrought_175 : decode cX3_readBrought 175 = .ok (.goto 12, 3) := by decide +kernel
theorem dX3_readBrought_178 : decode cX3_readBrought 178 = .ok (.aload_n 0, 1) := by decide +kernel
theorem dX3_readBrought_179 : decode cX3_readBrought 179 = .ok (.getfield 17, 3) := by decide +kernel
theorem dX3_readBrought_182 : decode cX3_readBrought 182 = .ok (.iload 10, 2) := by decide +kernel
theorem dX3_readBrought_184 : decode cX3_readBrought 184 = .ok (.laload, 1) := by decide +kernel
theorem dX3_readBrought_185 : decode cX3_readBrought 185 = .ok (.lstore 6, 2) := by decide +kernel
theorem dX3_readBrought_187 : decode cX3_readBrought 187 = .ok (.goto 29, 3) := by decide +kernel
theorem dX3_readBrought_190 : decode cX3_readBrought 190 = .ok (.iload_n 2, 1) := by decide +kernel
theorem dX3_readBrought_191 : decode cX3_readBrought 191 = .ok (.iconst 3, 1) := by decide +kernel
theorem dX3_readBrought_192 : decode cX3_readBrought 192 = .ok (.if_icmp .ne 12, 3) := by decide +kernel
theorem dX3_readBrought_195 : decode cX3_readBrought 195 = .ok (.aload_n 0, 1) := by decide +kernel
theorem dX3_readBrought_196 : decode cX3_readBrought 196 = .ok (.invokevirtual 101, 3) := by decide +kernel
theorem dX3_readBrought_199 : decode cX3_readBrought 199 = .ok (.lstore 6, 2) := by decide +kernel
theorem dX3_readBrought_201 : decode cX3_readBrought 201 = .ok (.goto 15, 3) := by decide +kernel
theorem dX3_readBrought_204 : decode cX3_readBrought 204 = .ok (.iload_n 2, 1) := by decide +kernel
theorem dX3_readBrought_205 : decode cX3_readBrought 205 = .ok (.iconst 4, 1) := by decide +kernel
theorem dX3_readBrought_206 : decode cX3_readBrought 206 = .ok (.if_icmp .ne 10, 3) := by decide +kernel
theorem dX3_readBrought_209 : decode cX3_readBrought 209 = .ok (.aload_n 0, 1) := by decide +kernel
theorem dX3_readBrought_210 : decode cX3_readBrought 210 = .ok (.iconst 4, 1) := by decide +kernel
theorem dX3_readBrought_211 : decode cX3_readBrought 211 = .ok (.invokevirtual 137, 3) := by decide +kernel
theorem dX3_readBrought_214 : decode cX3_readBrought 214 = .ok (.lstore 6, 2) := by decide +kernel
theorem dX3_readBrought_216 : decode cX3_readBrought 216 = .ok (.aload_n 0, 1) := by decide +kernel
theorem dX3_readBrought_217 : decode cX3_readBrought 217 = .ok (.getfield 95, 3) := by decide +kernel
theorem dX3_readBrought_220 : decode cX3_readBrought 220 = .ok (.ifCond .ne 15, 3) := by decide +kernel
theorem dX3_readBrought_223 : decode cX3_readBrought 223 = .ok (.aload_n 0, 1) := by decide +kernel
theorem dX3_readBrought_224 : decode cX3_readBrought 224 = .ok (.iload_n 2, 1) := by decide +kernel
theorem dX3_readBrought_225 : decode cX3_readBrought 225 = .ok (.lload 4, 2) := by decide +kernel
theorem dX3_readBrought_227 : decode cX3_readBrought 227 = .ok (.lload 6, 2) := by decide +kernel
theorem dX3_readBrought_229 : decode cX3_readBrought 229 = .ok (.iload 8, 2) := by decide +kernel
theorem dX3_readBrought_231 : decode cX3_readBrought 231 = .ok (.invokevirtual 133, 3) := by decide +kernel
theorem dX3_readBrought_234 : decode cX3_readBrought 234 = .ok (.pop, 1) := by decide +kernel
theorem dX3_readBrought_235 : decode cX3_readBrought 235 = .ok (.return_, 1) := by decide +kernel
theorem dX3_readBytes_0 : decode cX3_readBytes 0 = .ok (.lconst 0, 1) := by decide +kernel
theorem dX3_readBytes_1 : decode cX3_readBytes 1 = .ok (.lstore_n 2, 1) := by decide +kernel
theorem dX3_readBytes_2 : decode cX3_readBytes 2 = .ok (.iconst 0, 1) := by decide +kernel
theorem dX3_readBytes_3 : decode cX3_readBytes 3 = .ok (.istore 4, 2) := by decide +kernel
theorem dX3_readBytes_5 : decode cX3_readBytes 5 = .ok (.iload 4, 2) := by decide +kernel
theorem dX3_readBytes_7 : decode cX3_readBytes 7 = .ok (.iload_n 1, 1) := by decide +kernel
theorem dX3_readBytes_8 : decode cX3_readBytes 8 = .ok (.if_icmp .ge 27, 3) := by decide +kernel
theorem dX3_readBytes_11 : decode cX3_readBytes 11 = .ok (.aload_n 0, 1) := by decide +kernel
theorem dX3_readBytes_12 : decode cX3_readBytes 12 = .ok (.getfield 95, 3) := by decide +kernel
theorem dX3_readBytes_15 : decode cX3_readBytes 15 = .ok (.ifCond .ne 20, 3) := by decide +kernel
theorem dX3_readBytes_18 : decode cX3_readBytes 18 = .ok (.lload_n 2, 1) := by decide +kernel
theorem dX3_readBytes_19 : decode cX3_readBytes 19 = .ok (.bipush 8, 2) := by decide +kernel
theorem dX3_readBytes_21 : decode cX3_readBytes 21 = .ok (.lshl, 1) := by decide +kernel
theorem dX3_readBytes_22 : decode cX3_readBytes 22 = .ok (.aload_n 0, 1) := by decide +kernel
theorem dX3_readBytes_23 : decode cX3_readBytes 23 = .ok (.invokevirtual 117, 3) := by decide +kernel
theorem dX3_readBytes_26 : decode cX3_readBytes 26 = .ok (.i2l, 1) := by decide +kernel
theorem dX3_readBytes_27 : decode cX3_readBytes 27 = .ok (.lor, 1) := by decide +kernel
theorem dX3_readBytes_28 : decode cX3_readBytes 28 = .ok (.lstore_n 2, 1) := by decide +kernel
theorem dX3_readBytes_29 : decode cX3_readBytes 29 = .ok (.iinc 4 1, 3) := by decide +kernel
theorem dX3_readBytes_32 : decode cX3_readBytes 32 = .ok (.goto (-27), 3) := by decide +kernel
theorem dX3_readBytes_35 : decode cX3_readBytes 35 = .ok (.lload_n 2, 1) := by decide +kernel
theorem dX3_readBytes_36 : decode cX3_readBytes 36 = .ok (.lreturn, 1) := by decide +kernel
theorem dX7_isTarget_0 : decode cX7_isTarget 0 = .ok (.iload_n 0, 1) := by decide +kernel
theorem dX7_isTarget_1 : decode cX7_isTarget 1 = .ok (.bipush 84, 2) := by decide +kernel
theorem dX7_isTarget_3 : decode cX7_isTarget 3 = .ok (.if_icmp .eq 21, 3) := by decide +kernel
theorem dX7_isTarget_6 : decode cX7_isTarget 6 = .ok (.iload_n 0, 1) := by decide +kernel
theorem dX7_isTarget_7 : decode cX7_isTarget 7 = .ok (.bipush 74, 2) := by decide +kernel
theorem dX7_isTarget_9 : decode cX7_isTarget 9 = .ok (.if_icmp .eq 15, 3) := by decide +kernel
theorem dX7_isTarget_12 : decode cX7_isTarget 12 = .ok (.iload_n 0, 1) := by decide +kernel
theorem dX7_isTarget_13 : decode cX7_isTarget 13 = .ok (.bipush 75, 2) := by decide +kernel
theorem dX7_isTarget_15 : decode cX7_isTarget 15 = .ok (.if_icmp .eq 9, 3) := by decide +kernel
theorem dX7_isTarget_18 : decode cX7_isTarget 18 = .ok (.iload_n 0, 1) := by decide +kernel
theorem dX7_isTarget_19 : decode cX7_isTarget 19 = .ok (.bipush 76, 2) := by decide +kernel
theorem dX7_isTarget_21 : decode cX7_isTarget 21 = .ok (.if_icmp .ne 7, 3) := by decide +kernel
theorem dX7_isTarget_24 : decode cX7_isTarget 24 = .ok (.iconst 1, 1) := by decide +kernel
theorem dX7_isTarget_25 : decode cX7_isTarget 25 = .ok (.goto 4, 3) := by decide +kernel
theorem dX7_isTarget_28 : decode cX7_isTarget 28 = .ok (.iconst 0, 1) := by decide +kernel
theorem dX7_isTarget_29 : decode cX7_isTarget 29 = .ok (.ireturn, 1) := by decide +kernel
theorem dX7_fits_0 : decode cX7_fits 0 = .ok (.iload_n 0, 1) := by decide +kernel
theorem dX7_fits_1 : decode cX7_fits 1 = .ok (.tableswitch 555 72 122 #[278, 258, 337, 363, 389, 433, 415, 555, 532, 532, 555, 258, 311, 294, 278, 479, 455, 501, 555, 555, 555, 555, 555, 555, 555, 555, 555, 555, 555, 555, 555, 555, 555, 555, 555, 555, 555, 229, 219, 555, 240, 240, 555, 555, 555, 555, 555, 555, 555, 555, 219], 219) := by decide +kernel
theorem dX7_fits_220 : decode cX7_fits 220 = .ok (.iload_n 1, 1) := by decide +kernel
theorem dX7_fits_221 : decode cX7_fits 221 = .ok (.ifCond .eq 7, 3) := by decide +kernel
theorem dX7_fits_224 : decode cX7_fits 224 = .ok (.iconst 1, 1) := by decide +kernel
theorem dX7_fits_225 : decode cX7_fits 225 = .ok (.goto 4, 3) := by decide +kernel
theorem dX7_fits_228 : decode cX7_fits 228 = .ok (.iconst 0, 1) := by decide +kernel
theorem dX7_fits_229 : decode cX7_fits 229 = .ok (.ireturn, 1) := by decide +kernel
theorem dX7_fits_230 : decode cX7_fits 230 = .ok (.iload_n 1, 1) := by decide +kernel
theorem dX7_fits_231 : decode cX7_fits 231 = .ok (.iconst 2, 1) := by decide +kernel
theorem dX7_fits_232 : decode cX7_fits 232 = .ok (.if_icmp .eq 7, 3) := by decide +kernel
theorem dX7_fits_235 : decode cX7_fits 235 = .ok (.iconst 1, 1) := by decide +kernel
theorem dX7_fits_236 : decode cX7_fits 236 = .ok (.goto 4, 3) := by decide +kernel
theorem dX7_fits_239 : decode cX7_fits 239 = .ok (.iconst 0, 1) := by decide +kernel
theorem dX7_fits_240 : decode cX7_fits 240 = .ok (.ireturn, 1) := by decide +kernel
theorem dX7_fits_241 : decode cX7_fits 241 = .ok (.iload_n 1, 1) := by decide +kernel
theorem dX7_fits_242 : decode cX7_fits 242 = .ok (.bipush 8, 2) := by decide +kernel
theorem dX7_fits_244 : decode cX7_fits 244 = .ok (.if_icmp .lt 13, 3) := by decide +kernel
theorem dX7_fits_247 : decode cX7_fits 247 = .ok (.iload_n 1, 1) := by decide +kernel
theorem dX7_fits_248 : decode cX7_fits 248 = .ok (.bipush 15, 2) := by decide +kernel
theorem dX7_fits_250 : decode cX7_fits 250 = .ok (.if_icmp .gt 7, 3) := by decide +kernel
theorem dX7_fits_253 : decode cX7_fits 253 = .ok (.iconst 1, 1) := by decide +kernel
theorem dX7_fits_254 : decode cX7_fits 254 = .ok (.goto 4, 3) := by decide +kernel
theorem dX7_fits_257 : decode cX7_fits 257 = .ok (.iconst 0, 1) := by decide +kernel
theorem dX7_fits_258 : decode cX7_fits 258 = .ok (.ireturn, 1) := by decide +kernel
theorem dX7_fits_259 : decode cX7_fits 259 = .ok (.iload_n 1, 1) := by decide +kernel
theorem dX7_fits_260 : decode cX7_fits 260 = .ok (.sipush (-2048), 3) := by decide +kernel
theorem dX7_fits_263 : decode cX7_fits 263 = .ok (.if_icmp .lt 14, 3) := by decide +kernel
theorem dX7_fits_266 : decode cX7_fits 266 = .ok (.iload_n 1, 1) := by decide +kernel
theorem dX7_fits_267 : decode cX7_fits 267 = .ok (.sipush 2047, 3) := by decide +kernel
theorem dX7_fits_270 : decode cX7_fits 270 = .ok (.if_icmp .gt 7, 3) := by decide +kernel
theorem dX7_fits_273 : decode cX7_fits 273 = .ok (.iconst 1, 1) := by decide +kernel
theorem dX7_fits_274 : decode cX7_fits 274 = .ok (.goto 4, 3) := by decide +kernel
theorem dX7_fits_277 : decode cX7_fits 277 = .ok (.iconst 0, 1) := by decide +kernel
theorem dX7_fits_278 : decode cX7_fits 278 = .ok (.ireturn, 1) := by decide +kernel
theorem dX7_fits_279 : decode cX7_fits 279 = .ok (.iload_n 1, 1) := by decide +kernel
theorem dX7_fits_280 : decode cX7_fits 280 = .ok (.ifCond .lt 13, 3) := by decide +kernel
theorem dX7_fits_283 : decode cX7_fits 283 = .ok (.iload_n 1, 1) := by decide +kernel
theorem dX7_fits_284 : decode cX7_fits 284 = .ok (.bipush 31, 2) := by decide +kernel
theorem dX7_fits_286 : decode cX7_fits 286 = .ok (.if_icmp .gt 7, 3) := by decide +kernel
theorem dX7_fits_289 : decode cX7_fits 289 = .ok (.iconst 1, 1) := by decide +kernel
theorem dX7_fits_290 : decode cX7_fits 290 = .ok (.goto 4, 3) := by decide +kernel
theorem dX7_fits_293 : decode cX7_fits 293 = .ok (.iconst 0, 1) := by decide +kernel
theorem dX7_fits_294 : decode cX7_fits 294 = .ok (.ireturn, 1) := by decide +kernel
theorem dX7_fits_295 : decode cX7_fits 295 = .ok (.iload_n 1, 1) := by decide +kernel
theorem dX7_fits_296 : decode cX7_fits 296 = .ok (.ifCond .lt 14, 3) := by decide +kernel
theorem dX7_fits_299 : decode cX7_fits 299 = .ok (.iload_n 1, 1) := by decide +kernel
theorem dX7_fits_300 : decode cX7_fits 300 = .ok (.ldc_w 463, 3) := by decide +kernel
theorem dX7_fits_303 : decode cX7_fits 303 = .ok (.if_icmp .gt 7, 3) := by decide +kernel
theorem dX7_fits_306 : decode cX7_fits 306 = .ok (.iconst 1, 1) := by decide +kernel
theorem dX7_fits_307 : decode cX7_fits 307 = .ok (.goto 4, 3) := by decide +kernel
theorem dX7_fits_310 : decode cX7_fits 310 = .ok (.iconst 0, 1) := by decide +kernel
theorem dX7_fits_311 : decode cX7_fits 311 = .ok (.ireturn, 1) := by decide +kernel
theorem dX7_fits_312 : decode cX7_fits 312 = .ok (.iload_n 1, 1) := by decide +kernel
theorem dX7_fits_313 : decode cX7_fits 313 = .ok (.sipush (-4096), 3) := by decide +kernel
theorem dX7_fits_316 : decode cX7_fits 316 = .ok (.if_icmp .lt 20, 3) := by decide +kernel
theorem dX7_fits_319 : decode cX7_fits 319 = .ok (.iload_n 1, 1) := by decide +kernel
theorem dX7_fits_320 : decode cX7_fits 320 = .ok (.sipush 4094, 3) := by decide +kernel
theorem dX7_fits_323 : decode cX7_fits 323 = .ok (.if_icmp .gt 13, 3) := by decide +kernel
theorem dX7_fits_326 : decode cX7_fits 326 = .ok (.iload_n 1, 1) := by decide +kernel
theorem dX7_fits_327 : decode cX7_fits 327 = .ok (.iconst 1, 1) := by decide +kernel
theorem dX7_fits_328 : decode cX7_fits 328 = .ok (.iand, 1) := by decide +kernel
theorem dX7_fits_329 : decode cX7_fits 329 = .ok (.ifCond .ne 7, 3) := by decide +kernel
theorem dX7_fits_332 : decode cX7_fits 332 = .ok (.iconst 1, 1) := by decide +kernel
theorem dX7_fits_333 : decode cX7_fits 333 = .ok (.goto 4, 3) := by decide +kernel
theorem dX7_fits_336 : decode cX7_fits 336 = .ok (.iconst 0, 1) := by decide +kernel
theorem dX7_fits_337 : decode cX7_fits 337 = .ok (.ireturn, 1) := by decide +kernel
theorem dX7_fits_338 : decode cX7_fits 338 = .ok (.iload_n 1, 1) := by decide +kernel
theorem dX7_fits_339 : decode cX7_fits 339 = .ok (.ldc_w 464, 3) := by decide +kernel
theorem dX7_fits_342 : decode cX7_fits 342 = .ok (.if_icmp .lt 20, 3) := by decide +kernel
theorem dX7_fits_345 : decode cX7_fits 345 = .ok (.iload_n 1, 1) := by decide +kernel
theorem dX7_fits_346 : decode cX7_fits 346 = .ok (.ldc_w 465, 3) := by decide +kernel
theorem dX7_fits_349 : decode cX7_fits 349 = .ok (.if_icmp .gt 13, 3) := by decide +kernel
theorem dX7_fits_352 : decode cX7_fits 352 = .ok (.iload_n 1, 1) := by decide +kernel
theorem dX7_fits_353 : decode cX7_fits 353 = .ok (.iconst 1, 1) := by decide +kernel
theorem dX7_fits_354 : decode cX7_fits 354 = .ok (.iand, 1) := by decide +kernel
theorem dX7_fits_355 : decode cX7_fits 355 = .ok (.ifCond .ne 7, 3) := by decide +kernel
theorem dX7_fits_358 : decode cX7_fits 358 = .ok (.iconst 1, 1) := by decide +kernel
theorem dX7_fits_359 : decode cX7_fits 359 = .ok (.goto 4, 3) := by decide +kernel
theorem dX7_fits_362 : decode cX7_fits 362 = .ok (.iconst 0, 1) := by decide +kernel
theorem dX7_fits_363 : decode cX7_fits 363 = .ok (.ireturn, 1) := by decide +kernel
theorem dX7_fits_364 : decode cX7_fits 364 = .ok (.iload_n 1, 1) := by decide +kernel
theorem dX7_fits_365 : decode cX7_fits 365 = .ok (.sipush (-2048), 3) := by decide +kernel
theorem dX7_fits_368 : decode cX7_fits 368 = .ok (.if_icmp .lt 20, 3) := by decide +kernel
theorem dX7_fits_371 : decode cX7_fits 371 = .ok (.iload_n 1, 1) := by decide +kernel
theorem dX7_fits_372 : decode cX7_fits 372 = .ok (.sipush 2046, 3) := by decide +kernel
theorem dX7_fits_375 : decode cX7_fits 375 = .ok (.if_icmp .gt 13, 3) := by decide +kernel
theorem dX7_fits_378 : decode cX7_fits 378 = .ok (.iload_n 1, 1) := by decide +kernel
theorem dX7_fits_379 : decode cX7_fits 379 = .ok (.iconst 1, 1) := by decide +kernel
theorem dX7_fits_380 : decode cX7_fits 380 = .ok (.iand, 1) := by decide +kernel
theorem dX7_fits_381 : decode cX7_fits 381 = .ok (.ifCond .ne 7, 3) := by decide +kernel
theorem dX7_fits_384 : decode cX7_fits 384 = .ok (.iconst 1, 1) := by decide +kernel
theorem dX7_fits_385 : decode cX7_fits 385 = .ok (.goto 4, 3) := by decide +kernel
theorem dX7_fits_388 : decode cX7_fits 388 = .ok (.iconst 0, 1) := by decide +kernel
theorem dX7_fits_389 : decode cX7_fits 389 = .ok (.ireturn, 1) := by decide +kernel
theorem dX7_fits_390 : decode cX7_fits 390 = .ok (.iload_n 1, 1) := by decide +kernel
theorem dX7_fits_391 : decode cX7_fits 391 = .ok (.sipush (-256), 3) := by decide +kernel
theorem dX7_fits_394 : decode cX7_fits 394 = .ok (.if_icmp .lt 20, 3) := by decide +kernel
theorem dX7_fits_397 : decode cX7_fits 397 = .ok (.iload_n 1, 1) := by decide +kernel
theorem dX7_fits_398 : decode cX7_fits 398 = .ok (.sipush 254, 3) := by decide +kernel
theorem dX7_fits_401 : decode cX7_fits 401 = .ok (.if_icmp .gt 13, 3) := by decide +kernel
theorem dX7_fits_404 : decode cX7_fits 404 = .ok (.iload_n 1, 1) := by decide +kernel
theorem dX7_fits_405 : decode cX7_fits 405 = .ok (.iconst 1, 1) := by decide +kernel
theorem dX7_fits_406 : decode cX7_fits 406 = .ok (.iand, 1) := by decide +kernel
theorem dX7_fits_407 : decode cX7_fits 407 = .ok (.ifCond .ne 7, 3) := by decide +kernel
theorem dX7_fits_410 : decode cX7_fits 410 = .ok (.iconst 1, 1) := by decide +kernel
theorem dX7_fits_411 : decode cX7_fits 411 = .ok (.goto 4, 3) := by decide +kernel
theorem dX7_fits_414 : decode cX7_fits 414 = .ok (.iconst 0, 1) := by decide +kernel
theorem dX7_fits_415 : decode cX7_fits 415 = .ok (.ireturn, 1) := by decide +kernel
theorem dX7_fits_416 : decode cX7_fits 416 = .ok (.iload_n 1, 1) := by decide +kernel
theorem dX7_fits_417 : decode cX7_fits 417 = .ok (.bipush (-32), 2) := by decide +kernel
theorem dX7_fits_419 : decode cX7_fits 419 = .ok (.if_icmp .lt 13, 3) := by decide +kernel
theorem dX7_fits_422 : decode cX7_fits 422 = .ok (.iload_n 1, 1) := by decide +kernel
theorem dX7_fits_423 : decode cX7_fits 423 = .ok (.bipush 31, 2) := by decide +kernel
theorem dX7_fits_425 : decode cX7_fits 425 = .ok (.if_icmp .gt 7, 3) := by decide +kernel
theorem dX7_fits_428 : decode cX7_fits 428 = .ok (.iconst 1, 1) := by decide +kernel
theorem dX7_fits_429 : decode cX7_fits 429 = .ok (.goto 4, 3) := by decide +kernel
theorem dX7_fits_432 : decode cX7_fits 432 = .ok (.iconst 0, 1) := by decide +kernel
theorem dX7_fits_433 : decode cX7_fits 433 = .ok (.ireturn, 1) := by decide +kernel
theorem dX7_fits_434 : decode cX7_fits 434 = .ok (.iload_n 1, 1) := by decide +kernel
theorem dX7_fits_435 : decode cX7_fits 435 = .ok (.bipush (-32), 2) := by decide +kernel
theorem dX7_fits_437 : decode cX7_fits 437 = .ok (.if_icmp .lt 17, 3) := by decide +kernel
theorem dX7_fits_440 : decode cX7_fits 440 = .ok (.iload_n 1, 1) := by decide +kernel
theorem dX7_fits_441 : decode cX7_fits 441 = .ok (.bipush 31, 2) := by decide +kernel
theorem dX7_fits_443 : decode cX7_fits 443 = .ok (.if_icmp .gt 11, 3) := by decide +kernel
theorem dX7_fits_446 : decode cX7_fits 446 = .ok (.iload_n 1, 1) := by decide +kernel
theorem dX7_fits_447 : decode cX7_fits 447 = .ok (.ifCond .eq 7, 3) := by decide +kernel
theorem dX7_fits_450 : decode cX7_fits 450 = .ok (.iconst 1, 1) := by decide +kernel
theorem dX7_fits_451 : decode cX7_fits 451 = .ok (.goto 4, 3) := by decide +kernel
theorem dX7_fits_454 : decode cX7_fits 454 = .ok (.iconst 0, 1) := by decide +kernel
theorem dX7_fits_455 : decode cX7_fits 455 = .ok (.ireturn, 1) := by decide +kernel
theorem dX7_fits_456 : decode cX7_fits 456 = .ok (.iload_n 1, 1) := by decide +kernel
theorem dX7_fits_457 : decode cX7_fits 457 = .ok (.iconst 4, 1) := by decide +kernel
theorem dX7_fits_458 : decode cX7_fits 458 = .ok (.if_icmp .lt 20, 3) := by decide +kernel
theorem dX7_fits_461 : decode cX7_fits 461 = .ok (.iload_n 1, 1) := by decide +kernel
theorem dX7_fits_462 : decode cX7_fits 462 = .ok (.sipush 1020, 3) := by decide +kernel
theorem dX7_fits_465 : decode cX7_fits 465 = .ok (.if_icmp .gt 13, 3) := by decide +kernel
theorem dX7_fits_468 : decode cX7_fits 468 = .ok (.iload_n 1, 1) := by decide +kernel
theorem dX7_fits_469 : decode cX7_fits 469 = .ok (.iconst 3, 1) := by decide +kernel
theorem dX7_fits_470 : decode cX7_fits 470 = .ok (.iand, 1) := by decide +kernel
theorem dX7_fits_471 : decode cX7_fits 471 = .ok (.ifCond .ne 7, 3) := by decide +kernel
theorem dX7_fits_474 : decode cX7_fits 474 = .ok (.iconst 1, 1) := by decide +kernel
theorem dX7_fits_475 : decode cX7_fits 475 = .ok (.goto 4, 3) := by decide +kernel
theorem dX7_fits_478 : decode cX7_fits 478 = .ok (.iconst 0, 1) := by decide +kernel
theorem dX7_fits_479 : decode cX7_fits 479 = .ok (.ireturn, 1) := by decide +kernel
theorem dX7_fits_480 : decode cX7_fits 480 = .ok (.iload_n 1, 1) := by decide +kernel
theorem dX7_fits_481 : decode cX7_fits 481 = .ok (.ifCond .lt 19, 3) := by decide +kernel
theorem dX7_fits_484 : decode cX7_fits 484 = .ok (.iload_n 1, 1) := by decide +kernel
theorem dX7_fits_485 : decode cX7_fits 485 = .ok (.bipush 124, 2) := by decide +kernel
theorem dX7_fits_487 : decode cX7_fits 487 = .ok (.if_icmp .gt 13, 3) := by decide +kernel
theorem dX7_fits_490 : decode cX7_fits 490 = .ok (.iload_n 1, 1) := by decide +kernel
theorem dX7_fits_491 : decode cX7_fits 491 = .ok (.iconst 3, 1) := by decide +kernel
theorem dX7_fits_492 : decode cX7_fits 492 = .ok (.iand, 1) := by decide +kernel
theorem dX7_fits_493 : decode cX7_fits 493 = .ok (.ifCond .ne 7, 3) := by decide +kernel
theorem dX7_fits_496 : decode cX7_fits 496 = .ok (.iconst 1, 1) := by decide +kernel
theorem dX7_fits_497 : decode cX7_fits 497 = .ok (.goto 4, 3) := by decide +kernel
theorem dX7_fits_500 : decode cX7_fits 500 = .ok (.iconst 0, 1) := by decide +kernel
theorem dX7_fits_501 : decode cX7_fits 501 = .ok (.ireturn, 1) := by decide +kernel
theorem dX7_fits_502 : decode cX7_fits 502 = .ok (.iload_n 1, 1) := by decide +kernel
theorem dX7_fits_503 : decode cX7_fits 503 = .ok (.sipush (-512), 3) := by decide +kernel
theorem dX7_fits_506 : decode cX7_fits 506 = .ok (.if_icmp .lt 25, 3) := by decide +kernel
theorem dX7_fits_509 : decode cX7_fits 509 = .ok (.iload_n 1, 1) := by decide +kernel
theorem dX7_fits_510 : decode cX7_fits 510 = .ok (.sipush 496, 3) := by decide +kernel
theorem dX7_fits_513 : decode cX7_fits 513 = .ok (.if_icmp .gt 18, 3) := by decide +kernel
theorem dX7_fits_516 : decode cX7_fits 516 = .ok (.iload_n 1, 1) := by decide +kernel
theorem dX7_fits_517 : decode cX7_fits 517 = .ok (.bipush 15, 2) := by decide +kernel
theorem dX7_fits_519 : decode cX7_fits 519 = .ok (.iand, 1) := by decide +kernel
theorem dX7_fits_520 : decode cX7_fits 520 = .ok (.ifCond .ne 11, 3) := by decide +kernel
theorem dX7_fits_523 : decode cX7_fits 523 = .ok (.iload_n 1, 1) := by decide +kernel
theorem dX7_fits_524 : decode cX7_fits 524 = .ok (.ifCond .eq 7, 3) := by decide +kernel
theorem dX7_fits_527 : decode cX7_fits 527 = .ok (.iconst 1, 1) := by decide +kernel
theorem dX7_fits_528 : decode cX7_fits 528 = .ok (.goto 4, 3) := by decide +kernel
theorem dX7_fits_531 : decode cX7_fits 531 = .ok (.iconst 0, 1) := by decide +kernel
theorem dX7_fits_532 : decode cX7_fits 532 = .ok (.ireturn, 1) := by decide +kernel
theorem dX7_fits_533 : decode cX7_fits 533 = .ok (.iload_n 1, 1) := by decide +kernel
theorem dX7_fits_534 : decode cX7_fits 534 = .ok (.ifCond .lt 20, 3) := by decide +kernel
theorem dX7_fits_537 : decode cX7_fits 537 = .ok (.iload_n 1, 1) := by decide +kernel
