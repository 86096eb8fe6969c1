theorem dX5_pipe_18 : decode cX5_pipe 18 = .ok (.iconst 2, 1) := by decide +kernel
theorem dX5_pipe_19 : decode cX5_pipe 19 = .ok (.invokevirtual 253, 3) := by decide +kernel
theorem dX5_pipe_22 : decode cX5_pipe 22 = .ok (.ifCond .ne 7, 3) := by decide +kernel
theorem dX5_pipe_25 : decode cX5_pipe 25 = .ok (.ldc2_w 257, 3) := by decide +kernel
theorem dX5_pipe_28 : decode cX5_pipe 28 = .ok (.lreturn, 1) := by decide +kernel
theorem dX5_pipe_29 : decode cX5_pipe 29 = .ok (.aload_n 0, 1) := by decide +kernel
theorem dX5_pipe_30 : decode cX5_pipe 30 = .ok (.getfield 28, 3) := by decide +kernel
theorem dX5_pipe_33 : decode cX5_pipe 33 = .ok (.iload_n 1, 1) := by decide +kernel
theorem dX5_pipe_34 : decode cX5_pipe 34 = .ok (.iconst 0, 1) := by decide +kernel
theorem dX5_pipe_35 : decode cX5_pipe 35 = .ok (.invokevirtual 259, 3) := by decide +kernel
theorem dX5_pipe_38 : decode cX5_pipe 38 = .ok (.istore_n 3, 1) := by decide +kernel
theorem dX5_pipe_39 : decode cX5_pipe 39 = .ok (.iload_n 3, 1) := by decide +kernel
theorem dX5_pipe_40 : decode cX5_pipe 40 = .ok (.ifCond .ge 7, 3) := by decide +kernel
theorem dX5_pipe_43 : decode cX5_pipe 43 = .ok (.iconst (-1), 1) := by decide +kernel
theorem dX5_pipe_44 : decode cX5_pipe 44 = .ok (.goto 14, 3) := by decide +kernel
theorem dX5_pipe_47 : decode cX5_pipe 47 = .ok (.aload_n 0, 1) := by decide +kernel
theorem dX5_pipe_48 : decode cX5_pipe 48 = .ok (.getfield 28, 3) := by decide +kernel
theorem dX5_pipe_51 : decode cX5_pipe 51 = .ok (.iload_n 1, 1) := by decide +kernel
theorem dX5_pipe_52 : decode cX5_pipe 52 = .ok (.iload_n 3, 1) := by decide +kernel
theorem dX5_pipe_53 : decode cX5_pipe 53 = .ok (.iconst 1, 1) := by decide +kernel
theorem dX5_pipe_54 : decode cX5_pipe 54 = .ok (.iadd, 1) := by decide +kernel
theorem dX5_pipe_55 : decode cX5_pipe 55 = .ok (.invokevirtual 259, 3) := by decide +kernel
theorem dX5_pipe_58 : decode cX5_pipe 58 = .ok (.istore 4, 2) := by decide +kernel
theorem dX5_pipe_60 : decode cX5_pipe 60 = .ok (.aload_n 0, 1) := by decide +kernel
theorem dX5_pipe_61 : decode cX5_pipe 61 = .ok (.getfield 28, 3) := by decide +kernel
theorem dX5_pipe_64 : decode cX5_pipe 64 = .ok (.invokevirtual 262, 3) := by decide +kernel
theorem dX5_pipe_67 : decode cX5_pipe 67 = .ok (.istore 5, 2) := by decide +kernel
theorem dX5_pipe_69 : decode cX5_pipe 69 = .ok (.iload 4, 2) := by decide +kernel
theorem dX5_pipe_71 : decode cX5_pipe 71 = .ok (.ifCond .lt 19, 3) := by decide +kernel
theorem dX5_pipe_74 : decode cX5_pipe 74 = .ok (.iload 5, 2) := by decide +kernel
theorem dX5_pipe_76 : decode cX5_pipe 76 = .ok (.ifCond .lt 14, 3) := by decide +kernel
theorem dX5_pipe_79 : decode cX5_pipe 79 = .ok (.aload_n 0, 1) := by decide +kernel
theorem dX5_pipe_80 : decode cX5_pipe 80 = .ok (.getfield 28, 3) := by decide +kernel
theorem dX5_pipe_83 : decode cX5_pipe 83 = .ok (.invokevirtual 265, 3) := by decide +kernel
theorem dX5_pipe_86 : decode cX5_pipe 86 = .ok (.iconst 2, 1) := by decide +kernel
theorem dX5_pipe_87 : decode cX5_pipe 87 = .ok (.if_icmp .ge 7, 3) := by decide +kernel
theorem dX5_pipe_90 : decode cX5_pipe 90 = .ok (.ldc2_w 228, 3) := by decide +kernel
theorem dX5_pipe_93 : decode cX5_pipe 93 = .ok (.lreturn, 1) := by decide +kernel
theorem dX5_pipe_94 : decode cX5_pipe 94 = .ok (.aload_n 0, 1) := by decide +kernel
theorem dX5_pipe_95 : decode cX5_pipe 95 = .ok (.getfield 18, 3) := by decide +kernel
theorem dX5_pipe_98 : decode cX5_pipe 98 = .ok (.iload_n 1, 1) := by decide +kernel
theorem dX5_pipe_99 : decode cX5_pipe 99 = .ok (.iload_n 2, 1) := by decide +kernel
theorem dX5_pipe_100 : decode cX5_pipe 100 = .ok (.bipush 8, 2) := by decide +kernel
theorem dX5_pipe_102 : decode cX5_pipe 102 = .ok (.invokevirtual 268, 3) := by decide +kernel
theorem dX5_pipe_105 : decode cX5_pipe 105 = .ok (.aload_n 0, 1) := by decide +kernel
theorem dX5_pipe_106 : decode cX5_pipe 106 = .ok (.getfield 18, 3) := by decide +kernel
theorem dX5_pipe_109 : decode cX5_pipe 109 = .ok (.invokevirtual 232, 3) := by decide +kernel
theorem dX5_pipe_112 : decode cX5_pipe 112 = .ok (.if_icmp .le 7, 3) := by decide +kernel
theorem dX5_pipe_115 : decode cX5_pipe 115 = .ok (.ldc2_w 155, 3) := by decide +kernel
theorem dX5_pipe_118 : decode cX5_pipe 118 = .ok (.lreturn, 1) := by decide +kernel
theorem dX5_pipe_119 : decode cX5_pipe 119 = .ok (.aload_n 0, 1) := by decide +kernel
theorem dX5_pipe_120 : decode cX5_pipe 120 = .ok (.getfield 18, 3) := by decide +kernel
theorem dX5_pipe_123 : decode cX5_pipe 123 = .ok (.iload_n 1, 1) := by decide +kernel
theorem dX5_pipe_124 : decode cX5_pipe 124 = .ok (.iload_n 2, 1) := by decide +kernel
theorem dX5_pipe_125 : decode cX5_pipe 125 = .ok (.invokevirtual 272, 3) := by decide +kernel
theorem dX5_pipe_128 : decode cX5_pipe 128 = .ok (.pop, 1) := by decide +kernel
theorem dX5_pipe_129 : decode cX5_pipe 129 = .ok (.aload_n 0, 1) := by decide +kernel
theorem dX5_pipe_130 : decode cX5_pipe 130 = .ok (.getfield 18, 3) := by decide +kernel
theorem dX5_pipe_133 : decode cX5_pipe 133 = .ok (.iload_n 1, 1) := by decide +kernel
theorem dX5_pipe_134 : decode cX5_pipe 134 = .ok (.iload_n 2, 1) := by decide +kernel
theorem dX5_pipe_135 : decode cX5_pipe 135 = .ok (.iconst 4, 1) := by decide +kernel
theorem dX5_pipe_136 : decode cX5_pipe 136 = .ok (.iadd, 1) := by decide +kernel
theorem dX5_pipe_137 : decode cX5_pipe 137 = .ok (.invokevirtual 272, 3) := by decide +kernel
theorem dX5_pipe_140 : decode cX5_pipe 140 = .ok (.pop, 1) := by decide +kernel
theorem dX5_pipe_141 : decode cX5_pipe 141 = .ok (.aload_n 0, 1) := by decide +kernel
theorem dX5_pipe_142 : decode cX5_pipe 142 = .ok (.getfield 28, 3) := by decide +kernel
theorem dX5_pipe_145 : decode cX5_pipe 145 = .ok (.iload 5, 2) := by decide +kernel
theorem dX5_pipe_147 : decode cX5_pipe 147 = .ok (.invokevirtual 275, 3) := by decide +kernel
theorem dX5_pipe_150 : decode cX5_pipe 150 = .ok (.aload_n 0, 1) := by decide +kernel
theorem dX5_pipe_151 : decode cX5_pipe 151 = .ok (.getfield 28, 3) := by decide +kernel
theorem dX5_pipe_154 : decode cX5_pipe 154 = .ok (.iload_n 1, 1) := by decide +kernel
theorem dX5_pipe_155 : decode cX5_pipe 155 = .ok (.iload_n 3, 1) := by decide +kernel
theorem dX5_pipe_156 : decode cX5_pipe 156 = .ok (.aload_n 0, 1) := by decide +kernel
theorem dX5_pipe_157 : decode cX5_pipe 157 = .ok (.getfield 28, 3) := by decide +kernel
theorem dX5_pipe_160 : decode cX5_pipe 160 = .ok (.iconst 1, 1) := by decide +kernel
theorem dX5_pipe_161 : decode cX5_pipe 161 = .ok (.iload 5, 2) := by decide +kernel
theorem dX5_pipe_163 : decode cX5_pipe 163 = .ok (.iconst 1, 1) := by decide +kernel
theorem dX5_pipe_164 : decode cX5_pipe 164 = .ok (.invokevirtual 278, 3) := by decide +kernel
theorem dX5_pipe_167 : decode cX5_pipe 167 = .ok (.invokevirtual 280, 3) := by decide +kernel
theorem dX5_pipe_170 : decode cX5_pipe 170 = .ok (.aload_n 0, 1) := by decide +kernel
theorem dX5_pipe_171 : decode cX5_pipe 171 = .ok (.getfield 28, 3) := by decide +kernel
theorem dX5_pipe_174 : decode cX5_pipe 174 = .ok (.iload_n 1, 1) := by decide +kernel
theorem dX5_pipe_175 : decode cX5_pipe 175 = .ok (.iload 4, 2) := by decide +kernel
theorem dX5_pipe_177 : decode cX5_pipe 177 = .ok (.aload_n 0, 1) := by decide +kernel
theorem dX5_pipe_178 : decode cX5_pipe 178 = .ok (.getfield 28, 3) := by decide +kernel
theorem dX5_pipe_181 : decode cX5_pipe 181 = .ok (.iconst 2, 1) := by decide +kernel
theorem dX5_pipe_182 : decode cX5_pipe 182 = .ok (.iload 5, 2) := by decide +kernel
theorem dX5_pipe_184 : decode cX5_pipe 184 = .ok (.iconst 2, 1) := by decide +kernel
theorem dX5_pipe_185 : decode cX5_pipe 185 = .ok (.invokevirtual 278, 3) := by decide +kernel
theorem dX5_pipe_188 : decode cX5_pipe 188 = .ok (.invokevirtual 280, 3) := by decide +kernel
theorem dX5_pipe_191 : decode cX5_pipe 191 = .ok (.aload_n 0, 1) := by decide +kernel
theorem dX5_pipe_192 : decode cX5_pipe 192 = .ok (.getfield 18, 3) := by decide +kernel
theorem dX5_pipe_195 : decode cX5_pipe 195 = .ok (.iload_n 1, 1) := by decide +kernel
theorem dX5_pipe_196 : decode cX5_pipe 196 = .ok (.iload_n 2, 1) := by decide +kernel
theorem dX5_pipe_197 : decode cX5_pipe 197 = .ok (.iconst (-1), 1) := by decide +kernel
theorem dX5_pipe_198 : decode cX5_pipe 198 = .ok (.iload_n 3, 1) := by decide +kernel
theorem dX5_pipe_199 : decode cX5_pipe 199 = .ok (.invokevirtual 284, 3) := by decide +kernel
theorem dX5_pipe_202 : decode cX5_pipe 202 = .ok (.aload_n 0, 1) := by decide +kernel
theorem dX5_pipe_203 : decode cX5_pipe 203 = .ok (.getfield 18, 3) := by decide +kernel
theorem dX5_pipe_206 : decode cX5_pipe 206 = .ok (.iload_n 1, 1) := by decide +kernel
theorem dX5_pipe_207 : decode cX5_pipe 207 = .ok (.iload_n 2, 1) := by decide +kernel
theorem dX5_pipe_208 : decode cX5_pipe 208 = .ok (.iconst 4, 1) := by decide +kernel
theorem dX5_pipe_209 : decode cX5_pipe 209 = .ok (.iadd, 1) := by decide +kernel
theorem dX5_pipe_210 : decode cX5_pipe 210 = .ok (.iconst (-1), 1) := by decide +kernel
theorem dX5_pipe_211 : decode cX5_pipe 211 = .ok (.iload 4, 2) := by decide +kernel
theorem dX5_pipe_213 : decode cX5_pipe 213 = .ok (.invokevirtual 284, 3) := by decide +kernel
theorem dX5_pipe_216 : decode cX5_pipe 216 = .ok (.aload_n 0, 1) := by decide +kernel
theorem dX5_pipe_217 : decode cX5_pipe 217 = .ok (.getfield 18, 3) := by decide +kernel
theorem dX5_pipe_220 : decode cX5_pipe 220 = .ok (.iload_n 1, 1) := by decide +kernel
theorem dX5_pipe_221 : decode cX5_pipe 221 = .ok (.iload_n 2, 1) := by decide +kernel
theorem dX5_pipe_222 : decode cX5_pipe 222 = .ok (.bipush 8, 2) := by decide +kernel
theorem dX5_pipe_224 : decode cX5_pipe 224 = .ok (.invokevirtual 288, 3) := by decide +kernel
theorem dX5_pipe_227 : decode cX5_pipe 227 = .ok (.lconst 0, 1) := by decide +kernel
theorem dX5_pipe_228 : decode cX5_pipe 228 = .ok (.lreturn, 1) := by decide +kernel
theorem dX5_read_0 : decode cX5_read 0 = .ok (.iload 4, 2) := by decide +kernel
theorem dX5_read_2 : decode cX5_read 2 = .ok (.ifCond .lt 11, 3) := by decide +kernel
theorem dX5_read_5 : decode cX5_read 5 = .ok (.iload 4, 2) := by decide +kernel
theorem dX5_read_7 : decode cX5_read 7 = .ok (.sipush 512, 3) := by decide +kernel
theorem dX5_read_10 : decode cX5_read 10 = .ok (.if_icmp .le 7, 3) := by decide +kernel
theorem dX5_read_13 : decode cX5_read 13 = .ok (.ldc2_w 251, 3) := by decide +kernel
theorem dX5_read_16 : decode cX5_read 16 = .ok (.lreturn, 1) := by decide +kernel
theorem dX5_read_17 : decode cX5_read 17 = .ok (.aload_n 0, 1) := by decide +kernel
theorem dX5_read_18 : decode cX5_read 18 = .ok (.getfield 18, 3) := by decide +kernel
theorem dX5_read_21 : decode cX5_read 21 = .ok (.iload_n 1, 1) := by decide +kernel
theorem dX5_read_22 : decode cX5_read 22 = .ok (.iload_n 3, 1) := by decide +kernel
theorem dX5_read_23 : decode cX5_read 23 = .ok (.iload 4, 2) := by decide +kernel
theorem dX5_read_25 : decode cX5_read 25 = .ok (.iconst 2, 1) := by decide +kernel
theorem dX5_read_26 : decode cX5_read 26 = .ok (.invokevirtual 253, 3) := by decide +kernel
theorem dX5_read_29 : decode cX5_read 29 = .ok (.ifCond .ne 7, 3) := by decide +kernel
theorem dX5_read_32 : decode cX5_read 32 = .ok (.ldc2_w 257, 3) := by decide +kernel
theorem dX5_read_35 : decode cX5_read 35 = .ok (.lreturn, 1) := by decide +kernel
theorem dX5_read_36 : decode cX5_read 36 = .ok (.aload_n 0, 1) := by decide +kernel
theorem dX5_read_37 : decode cX5_read 37 = .ok (.getfield 28, 3) := by decide +kernel
theorem dX5_read_40 : decode cX5_read 40 = .ok (.iload_n 1, 1) := by decide +kernel
theorem dX5_read_41 : decode cX5_read 41 = .ok (.iload_n 2, 1) := by decide +kernel
theorem dX5_read_42 : decode cX5_read 42 = .ok (.invokevirtual 123, 3) := by decide +kernel
theorem dX5_read_45 : decode cX5_read 45 = .ok (.istore 5, 2) := by decide +kernel
theorem dX5_read_47 : decode cX5_read 47 = .ok (.iload 5, 2) := by decide +kernel
theorem dX5_read_49 : decode cX5_read 49 = .ok (.ifCond .lt 18, 3) := by decide +kernel
theorem dX5_read_52 : decode cX5_read 52 = .ok (.aload_n 0, 1) := by decide +kernel
theorem dX5_read_53 : decode cX5_read 53 = .ok (.getfield 28, 3) := by decide +kernel
theorem dX5_read_56 : decode cX5_read 56 = .ok (.iload 5, 2) := by decide +kernel
theorem dX5_read_58 : decode cX5_read 58 = .ok (.iconst 4, 1) := by decide +kernel
theorem dX5_read_59 : decode cX5_read 59 = .ok (.invokevirtual 291, 3) := by decide +kernel
theorem dX5_read_62 : decode cX5_read 62 = .ok (.iconst 1, 1) := by decide +kernel
theorem dX5_read_63 : decode cX5_read 63 = .ok (.iand, 1) := by decide +kernel
theorem dX5_read_64 : decode cX5_read 64 = .ok (.ifCond .ne 7, 3) := by decide +kernel
theorem dX5_read_67 : decode cX5_read 67 = .ok (.ldc2_w 294, 3) := by decide +kernel
theorem dX5_read_70 : decode cX5_read 70 = .ok (.lreturn, 1) := by decide +kernel
theorem dX5_read_71 : decode cX5_read 71 = .ok (.aload_n 0, 1) := by decide +kernel
theorem dX5_read_72 : decode cX5_read 72 = .ok (.getfield 28, 3) := by decide +kernel
theorem dX5_read_75 : decode cX5_read 75 = .ok (.iload 5, 2) := by decide +kernel
theorem dX5_read_77 : decode cX5_read 77 = .ok (.iload 4, 2) := by decide +kernel
theorem dX5_read_79 : decode cX5_read 79 = .ok (.invokevirtual 126, 3) := by decide +kernel
theorem dX5_read_82 : decode cX5_read 82 = .ok (.ifCond .eq 7, 3) := by decide +kernel
theorem dX5_read_85 : decode cX5_read 85 = .ok (.ldc2_w 157, 3) := by decide +kernel
theorem dX5_read_88 : decode cX5_read 88 = .ok (.lreturn, 1) := by decide +kernel
theorem dX5_read_89 : decode cX5_read 89 = .ok (.aload_n 0, 1) := by decide +kernel
theorem dX5_read_90 : decode cX5_read 90 = .ok (.getfield 28, 3) := by decide +kernel
theorem dX5_read_93 : decode cX5_read 93 = .ok (.iload 5, 2) := by decide +kernel
theorem dX5_read_95 : decode cX5_read 95 = .ok (.iload 4, 2) := by decide +kernel
theorem dX5_read_97 : decode cX5_read 97 = .ok (.invokevirtual 296, 3) := by decide +kernel
theorem dX5_read_100 : decode cX5_read 100 = .ok (.istore 6, 2) := by decide +kernel
theorem dX5_read_102 : decode cX5_read 102 = .ok (.aload_n 0, 1) := by decide +kernel
theorem dX5_read_103 : decode cX5_read 103 = .ok (.getfield 18, 3) := by decide +kernel
theorem dX5_read_106 : decode cX5_read 106 = .ok (.iload_n 1, 1) := by decide +kernel
theorem dX5_read_107 : decode cX5_read 107 = .ok (.iload_n 3, 1) := by decide +kernel
theorem dX5_read_108 : decode cX5_read 108 = .ok (.iload 6, 2) := by decide +kernel
theorem dX5_read_110 : decode cX5_read 110 = .ok (.invokevirtual 268, 3) := by decide +kernel
theorem dX5_read_113 : decode cX5_read 113 = .ok (.aload_n 0, 1) := by decide +kernel
theorem dX5_read_114 : decode cX5_read 114 = .ok (.getfield 18, 3) := by decide +kernel
theorem dX5_read_117 : decode cX5_read 117 = .ok (.invokevirtual 232, 3) := by decide +kernel
theorem dX5_read_120 : decode cX5_read 120 = .ok (.if_icmp .le 7, 3) := by decide +kernel
theorem dX5_read_123 : decode cX5_read 123 = .ok (.ldc2_w 155, 3) := by decide +kernel
theorem dX5_read_126 : decode cX5_read 126 = .ok (.lreturn, 1) := by decide +kernel
theorem dX5_read_127 : decode cX5_read 127 = .ok (.iload 6, 2) := by decide +kernel
theorem dX5_read_129 : decode cX5_read 129 = .ok (.ifCond .le 28, 3) := by decide +kernel
theorem dX5_read_132 : decode cX5_read 132 = .ok (.aload_n 0, 1) := by decide +kernel
theorem dX5_read_133 : decode cX5_read 133 = .ok (.getfield 18, 3) := by decide +kernel
theorem dX5_read_136 : decode cX5_read 136 = .ok (.iload_n 1, 1) := by decide +kernel
theorem dX5_read_137 : decode cX5_read 137 = .ok (.iload_n 3, 1) := by decide +kernel
theorem dX5_read_138 : decode cX5_read 138 = .ok (.invokevirtual 272, 3) := by decide +kernel
theorem dX5_read_141 : decode cX5_read 141 = .ok (.pop, 1) := by decide +kernel
theorem dX5_read_142 : decode cX5_read 142 = .ok (.aload_n 0, 1) := by decide +kernel
theorem dX5_read_143 : decode cX5_read 143 = .ok (.getfield 18, 3) := by decide +kernel
theorem dX5_read_146 : decode cX5_read 146 = .ok (.iload_n 1, 1) := by decide +kernel
theorem dX5_read_147 : decode cX5_read 147 = .ok (.iload_n 3, 1) := by decide +kernel
theorem dX5_read_148 : decode cX5_read 148 = .ok (.iload 6, 2) := by decide +kernel
theorem dX5_read_150 : decode cX5_read 150 = .ok (.iadd, 1) := by decide +kernel
theorem dX5_read_151 : decode cX5_read 151 = .ok (.iconst 1, 1) := by decide +kernel
theorem dX5_read_152 : decode cX5_read 152 = .ok (.isub, 1) := by decide +kernel
theorem dX5_read_153 : decode cX5_read 153 = .ok (.invokevirtual 272, 3) := by decide +kernel
theorem dX5_read_156 : decode cX5_read 156 = .ok (.pop, 1) := by decide +kernel
theorem dX5_read_157 : decode cX5_read 157 = .ok (.iconst 0, 1) := by decide +kernel
theorem dX5_read_158 : decode cX5_read 158 = .ok (.istore 7, 2) := by decide +kernel
theorem dX5_read_160 : decode cX5_read 160 = .ok (.iload 7, 2) := by decide +kernel
theorem dX5_read_162 : decode cX5_read 162 = .ok (.iload 6, 2) := by decide +kernel
theorem dX5_read_164 : decode cX5_read 164 = .ok (.if_icmp .ge 35, 3) := by decide +kernel
theorem dX5_read_167 : decode cX5_read 167 = .ok (.aload_n 0, 1) := by decide +kernel
theorem dX5_read_168 : decode cX5_read 168 = .ok (.getfield 18, 3) := by decide +kernel
theorem dX5_read_171 : decode cX5_read 171 = .ok (.iload_n 1, 1) := by decide +kernel
theorem dX5_read_172 : decode cX5_read 172 = .ok (.iload_n 3, 1) := by decide +kernel
theorem dX5_read_173 : decode cX5_read 173 = .ok (.iload 7, 2) := by decide +kernel
theorem dX5_read_175 : decode cX5_read 175 = .ok (.iadd, 1) := by decide +kernel
theorem dX5_read_176 : decode cX5_read 176 = .ok (.sipush 255, 3) := by decide +kernel
theorem dX5_read_179 : decode cX5_read 179 = .ok (.aload_n 0, 1) := by decide +kernel
theorem dX5_read_180 : decode cX5_read 180 = .ok (.getfield 28, 3) := by decide +kernel
theorem dX5_read_183 : decode cX5_read 183 = .ok (.iload 5, 2) := by decide +kernel
theorem dX5_read_185 : decode cX5_read 185 = .ok (.iload 7, 2) := by decide +kernel
theorem dX5_read_187 : decode cX5_read 187 = .ok (.invokevirtual 299, 3) := by decide +kernel
theorem dX5_read_190 : decode cX5_read 190 = .ok (.invokevirtual 284, 3) := by decide +kernel
theorem dX5_read_193 : decode cX5_read 193 = .ok (.iinc 7 1, 3) := by decide +kernel
theorem dX5_read_196 : decode cX5_read 196 = .ok (.goto (-36), 3) := by decide +kernel
theorem dX5_read_199 : decode cX5_read 199 = .ok (.aload_n 0, 1) := by decide +kernel
theorem dX5_read_200 : decode cX5_read 200 = .ok (.getfield 18, 3) := by decide +kernel
theorem dX5_read_203 : decode cX5_read 203 = .ok (.iload_n 1, 1) := by decide +kernel
theorem dX5_read_204 : decode cX5_read 204 = .ok (.iload_n 3, 1) := by decide +kernel
theorem dX5_read_205 : decode cX5_read 205 = .ok (.iload 6, 2) := by decide +kernel
theorem dX5_read_207 : decode cX5_read 207 = .ok (.invokevirtual 288, 3) := by decide +kernel
theorem dX5_read_210 : decode cX5_read 210 = .ok (.aload_n 0, 1) := by decide +kernel
theorem dX5_read_211 : decode cX5_read 211 = .ok (.getfield 28, 3) := by decide +kernel
theorem dX5_read_214 : decode cX5_read 214 = .ok (.iload 5, 2) := by decide +kernel
theorem dX5_read_216 : decode cX5_read 216 = .ok (.iload 4, 2) := by decide +kernel
theorem dX5_read_218 : decode cX5_read 218 = .ok (.iload 6, 2) := by decide +kernel
theorem dX5_read_220 : decode cX5_read 220 = .ok (.invokevirtual 302, 3) := by decide +kernel
theorem dX5_read_223 : decode cX5_read 223 = .ok (.iload 6, 2) := by decide +kernel
theorem dX5_read_225 : decode cX5_read 225 = .ok (.i2l, 1) := by decide +kernel
theorem dX5_read_226 : decode cX5_read 226 = .ok (.lreturn, 1) := by decide +kernel
theorem dX5_write_0 : decode cX5_write 0 = .ok (.iload 4, 2) := by decide +kernel
theorem dX5_write_2 : decode cX5_write 2 = .ok (.ifCond .lt 11, 3) := by decide +kernel
theorem dX5_write_5 : decode cX5_write 5 = .ok (.iload 4, 2) := by decide +kernel
theorem dX5_write_7 : decode cX5_write 7 = .ok (.sipush 512, 3) := by decide +kernel
theorem dX5_write_10 : decode cX5_write 10 = .ok (.if_icmp .le 7, 3) := by decide +kernel
theorem dX5_write_13 : decode cX5_write 13 = .ok (.ldc2_w 251, 3) := by decide +kernel
theorem dX5_write_16 : decode cX5_write 16 = .ok (.lreturn, 1) := by decide +kernel
theorem dX5_write_17 : decode cX5_write 17 = .ok (.aload_n 0, 1) := by decide +kernel
theorem dX5_write_18 : decode cX5_write 18 = .ok (.getfield 18, 3) := by decide +kernel
theorem dX5_write_21 : decode cX5_write 21 = .ok (.iload_n 1, 1) := by decide +kernel
theorem dX5_write_22 : decode cX5_write 22 = .ok (.iload_n 3, 1) := by decide +kernel
theorem dX5_write_23 : decode cX5_write 23 = .ok (.iload 4, 2) := by decide +kernel
theorem dX5_write_25 : decode cX5_write 25 = .ok (.iconst 1, 1) := by decide +kernel
theorem dX5_write_26 : decode cX5_write 26 = .ok (.invokevirtual 253, 3) := by decide +kernel
theorem dX5_write_29 : decode cX5_write 29 = .ok (.ifCond .ne 7, 3) := by decide +kernel
theorem dX5_write_32 : decode cX5_write 32 = .ok (.ldc2_w 257, 3) := by decide +kernel
theorem dX5_write_35 : decode cX5_write 35 = .ok (.lreturn, 1) := by decide +kernel
theorem dX5_write_36 : decode cX5_write 36 = .ok (.aload_n 0, 1) := by decide +kernel
theorem dX5_write_37 : decode cX5_write 37 = .ok (.getfield 28, 3) := by decide +kernel
theorem dX5_write_40 : decode cX5_write 40 = .ok (.iload_n 1, 1) := by decide +kernel
theorem dX5_write_41 : decode cX5_write 41 = .ok (.iload_n 2, 1) := by decide +kernel
theorem dX5_write_42 : decode cX5_write 42 = .ok (.invokevirtual 123, 3) := by decide +kernel
theorem dX5_write_45 : decode cX5_write 45 = .ok (.istore 5, 2) := by decide +kernel
theorem dX5_write_47 : decode cX5_write 47 = .ok (.iload 5, 2) := by decide +kernel
theorem dX5_write_49 : decode cX5_write 49 = .ok (.ifCond .lt 18, 3) := by decide +kernel
theorem dX5_write_52 : decode cX5_write 52 = .ok (.aload_n 0, 1) := by decide +kernel
theorem dX5_write_53 : decode cX5_write 53 = .ok (.getfield 28, 3) := by decide +kernel
theorem dX5_write_56 : decode cX5_write 56 = .ok (.iload 5, 2) := by decide +kernel
theorem dX5_write_58 : decode cX5_write 58 = .ok (.iconst 4, 1) := by decide +kernel
theorem dX5_write_59 : decode cX5_write 59 = .ok (.invokevirtual 291, 3) := by decide +kernel
theorem dX5_write_62 : decode cX5_write 62 = .ok (.iconst 2, 1) := by decide +kernel
theorem dX5_write_63 : decode cX5_write 63 = .ok (.iand, 1) := by decide +kernel
theorem dX5_write_64 : decode cX5_write 64 = .ok (.ifCond .ne 7, 3) := by decide +kernel
theorem dX5_write_67 : decode cX5_write 67 = .ok (.ldc2_w 294, 3) := by decide +kernel
theorem dX5_write_70 : decode cX5_write 70 = .ok (.lreturn, 1) := by decide +kernel
theorem dX5_write_71 : decode cX5_write 71 = .ok (.aload_n 0, 1) := by decide +kernel
theorem dX5_write_72 : decode cX5_write 72 = .ok (.getfield 28, 3) := by decide +kernel
theorem dX5_write_75 : decode cX5_write 75 = .ok (.iload 5, 2) := by decide +kernel
theorem dX5_write_77 : decode cX5_write 77 = .ok (.iconst 0, 1) := by decide +kernel
theorem dX5_write_78 : decode cX5_write 78 = .ok (.invokevirtual 291, 3) := by decide +kernel
theorem dX5_write_81 : decode cX5_write 81 = .ok (.istore 6, 2) := by decide +kernel
theorem dX5_write_83 : decode cX5_write 83 = .ok (.aload_n 0, 1) := by decide +kernel
theorem dX5_write_84 : decode cX5_write 84 = .ok (.getfield 28, 3) := by decide +kernel
theorem dX5_write_87 : decode cX5_write 87 = .ok (.iload 5, 2) := by decide +kernel
theorem dX5_write_89 : decode cX5_write 89 = .ok (.invokevirtual 305, 3) := by decide +kernel
theorem dX5_write_92 : decode cX5_write 92 = .ok (.ifCond .eq 7, 3) := by decide +kernel
theorem dX5_write_95 : decode cX5_write 95 = .ok (.ldc2_w 308, 3) := by decide +kernel
theorem dX5_write_98 : decode cX5_write 98 = .ok (.lreturn, 1) := by decide +kernel
theorem dX5_write_99 : decode cX5_write 99 = .ok (.iload 6, 2) := by decide +kernel
theorem dX5_write_101 : decode cX5_write 101 = .ok (.iconst 3, 1) := by decide +kernel
theorem dX5_write_102 : decode cX5_write 102 = .ok (.if_icmp .ne 15, 3) := by decide +kernel
theorem dX5_write_105 : decode cX5_write 105 = .ok (.aload_n 0, 1) := by decide +kernel
theorem dX5_write_106 : decode cX5_write 106 = .ok (.getfield 28, 3) := by decide +kernel
theorem dX5_write_109 : decode cX5_write 109 = .ok (.iload 5, 2) := by decide +kernel
theorem dX5_write_111 : decode cX5_write 111 = .ok (.invokevirtual 310, 3) := by decide +kernel
theorem dX5_write_114 : decode cX5_write 114 = .ok (.goto 4, 3) := by decide +kernel
theorem dX5_write_117 : decode cX5_write 117 = .ok (.iconst 0, 1) := by decide +kernel
theorem dX5_write_118 : decode cX5_write 118 = .ok (.istore 7, 2) := by decide +kernel
theorem dX5_write_120 : decode cX5_write 120 = .ok (.iload 4, 2) := by decide +kernel
theorem dX5_write_122 : decode cX5_write 122 = .ok (.ifCond .le 18, 3) := by decide +kernel
theorem dX5_write_125 : decode cX5_write 125 = .ok (.iload 7, 2) := by decide +kernel
theorem dX5_write_127 : decode cX5_write 127 = .ok (.iload 4, 2) := by decide +kernel
theorem dX5_write_129 : decode cX5_write 129 = .ok (.iadd, 1) := by decide +kernel
theorem dX5_write_130 : decode cX5_write 130 = .ok (.sipush 512, 3) := by decide +kernel
theorem dX5_write_133 : decode cX5_write 133 = .ok (.if_icmp .le 7, 3) := by decide +kernel
theorem dX5_write_136 : decode cX5_write 136 = .ok (.ldc2_w 313, 3) := by decide +kernel
theorem dX5_write_139 : decode cX5_write 139 = .ok (.lreturn, 1) := by decide +kernel
theorem dX5_write_140 : decode cX5_write 140 = .ok (.aload_n 0, 1) := by decide +kernel
theorem dX5_write_141 : decode cX5_write 141 = .ok (.getfield 28, 3) := by decide +kernel
theorem dX5_write_144 : decode cX5_write 144 = .ok (.iload 5, 2) := by decide +kernel
theorem dX5_write_146 : decode cX5_write 146 = .ok (.iload 4, 2) := by decide +kernel
theorem dX5_write_148 : decode cX5_write 148 = .ok (.invokevirtual 130, 3) := by decide +kernel
theorem dX5_write_151 : decode cX5_write 151 = .ok (.ifCond .eq 7, 3) := by decide +kernel
theorem dX5_write_154 : decode cX5_write 154 = .ok (.ldc2_w 157, 3) := by decide +kernel
theorem dX5_write_157 : decode cX5_write 157 = .ok (.lreturn, 1) := by decide +kernel
theorem dX5_write_158 : decode cX5_write 158 = .ok (.iload 6, 2) := by decide +kernel
theorem dX5_write_160 : decode cX5_write 160 = .ok (.iconst 3, 1) := by decide +kernel
theorem dX5_write_161 : decode cX5_write 161 = .ok (.if_icmp .ne 21, 3) := by decide +kernel
theorem dX5_write_164 : decode cX5_write 164 = .ok (.iload 4, 2) := by decide +kernel
theorem dX5_write_166 : decode cX5_write 166 = .ok (.ifCond .le 16, 3) := by decide +kernel
theorem dX5_write_169 : decode cX5_write 169 = .ok (.aload_n 0, 1) := by decide +kernel
theorem dX5_write_170 : decode cX5_write 170 = .ok (.getfield 28, 3) := by decide +kernel
theorem dX5_write_173 : decode cX5_write 173 = .ok (.iload 5, 2) := by decide +kernel
theorem dX5_write_175 : decode cX5_write 175 = .ok (.iload 7, 2) := by decide +kernel
theorem dX5_write_177 : decode cX5_write 177 = .ok (.iload 4, 2) := by decide +kernel
theorem dX5_write_179 : decode cX5_write 179 = .ok (.invokevirtual 315, 3) := by decide +kernel
theorem dX5_write_182 : decode cX5_write 182 = .ok (.iconst 0, 1) := by decide +kernel
theorem dX5_write_183 : decode cX5_write 183 = .ok (.istore 8, 2) := by decide +kernel
theorem dX5_write_185 : decode cX5_write 185 = .ok (.iload 8, 2) := by decide +kernel
theorem dX5_write_187 : decode cX5_write 187 = .ok (.iload 4, 2) := by decide +kernel
theorem dX5_write_189 : decode cX5_write 189 = .ok (.if_icmp .ge 77, 3) := by decide +kernel
theorem dX5_write_192 : decode cX5_write 192 = .ok (.aload_n 0, 1) := by decide +kernel
theorem dX5_write_193 : decode cX5_write 193 = .ok (.getfield 18, 3) := by decide +kernel
theorem dX5_write_196 : decode cX5_write 196 = .ok (.iload_n 1, 1) := by decide +kernel
theorem dX5_write_197 : decode cX5_write 197 = .ok (.iload_n 3, 1) := by decide +kernel
theorem dX5_write_198 : decode cX5_write 198 = .ok (.iload 8, 2) := by decide +kernel
theorem dX5_write_200 : decode cX5_write 200 = .ok (.iadd, 1) := by decide +kernel
theorem dX5_write_201 : decode cX5_write 201 = .ok (.invokevirtual 318, 3) := by decide +kernel
theorem dX5_write_204 : decode cX5_write 204 = .ok (.istore 9, 2) := by decide +kernel
theorem dX5_write_206 : decode cX5_write 206 = .ok (.iload 6, 2) := by decide +kernel
theorem dX5_write_208 : decode cX5_write 208 = .ok (.iconst 3, 1) := by decide +kernel
theorem dX5_write_209 : decode cX5_write 209 = .ok (.if_icmp .ne 22, 3) := by decide +kernel
theorem dX5_write_212 : decode cX5_write 212 = .ok (.aload_n 0, 1) := by decide +kernel
theorem dX5_write_213 : decode cX5_write 213 = .ok (.getfield 28, 3) := by decide +kernel
theorem dX5_write_216 : decode cX5_write 216 = .ok (.iload 5, 2) := by decide +kernel
theorem dX5_write_218 : decode cX5_write 218 = .ok (.iload 7, 2) := by decide +kernel
theorem dX5_write_220 : decode cX5_write 220 = .ok (.iload 8, 2) := by decide +kernel
theorem dX5_write_222 : decode cX5_write 222 = .ok (.iadd, 1) := by decide +kernel
theorem dX5_write_223 : decode cX5_write 223 = .ok (.iload 9, 2) := by decide +kernel
theorem dX5_write_225 : decode cX5_write 225 = .ok (.invokevirtual 321, 3) := by decide +kernel
theorem dX5_write_228 : decode cX5_write 228 = .ok (.goto 32, 3) := by decide +kernel
theorem dX5_write_231 : decode cX5_write 231 = .ok (.iload 6, 2) := by decide +kernel
theorem dX5_write_233 : decode cX5_write 233 = .ok (.iconst 4, 1) := by decide +kernel
theorem dX5_write_234 : decode cX5_write 234 = .ok (.if_icmp .ne 15, 3) := by decide +kernel
theorem dX5_write_237 : decode cX5_write 237 = .ok (.aload_n 0, 1) := by decide +kernel
theorem dX5_write_238 : decode cX5_write 238 = .ok (.getfield 28, 3) := by decide +kernel
theorem dX5_write_241 : decode cX5_write 241 = .ok (.iload 9, 2) := by decide +kernel
theorem dX5_write_243 : decode cX5_write 243 = .ok (.invokevirtual 324, 3) := by decide +kernel
theorem dX5_write_246 : decode cX5_write 246 = .ok (.goto 14, 3) := by decide +kernel
theorem dX5_write_249 : decode cX5_write 249 = .ok (.aload_n 0, 1) := by decide +kernel
theorem dX5_write_250 : decode cX5_write 250 = .ok (.getfield 28, 3) := by decide +kernel
theorem dX5_write_253 : decode cX5_write 253 = .ok (.iload 5, 2) := by decide +kernel
