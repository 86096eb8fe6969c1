theorem dX4_step_0 : decode cX4_step 0 = .ok (.aload_n 0, 1) := by decide +kernel
theorem dX4_step_1 : decode cX4_step 1 = .ok (.iload_n 1, 1) := by decide +kernel
theorem dX4_step_2 : decode cX4_step 2 = .ok (.putfield 20, 3) := by decide +kernel
theorem dX4_step_5 : decode cX4_step 5 = .ok (.aload_n 0, 1) := by decide +kernel
theorem dX4_step_6 : decode cX4_step 6 = .ok (.iload_n 1, 1) := by decide +kernel
theorem dX4_step_7 : decode cX4_step 7 = .ok (.bipush 33, 2) := by decide +kernel
theorem dX4_step_9 : decode cX4_step 9 = .ok (.imul, 1) := by decide +kernel
theorem dX4_step_10 : decode cX4_step 10 = .ok (.putfield 24, 3) := by decide +kernel
theorem dX4_step_13 : decode cX4_step 13 = .ok (.aload_n 0, 1) := by decide +kernel
theorem dX4_step_14 : decode cX4_step 14 = .ok (.aload_n 0, 1) := by decide +kernel
theorem dX4_step_15 : decode cX4_step 15 = .ok (.getfield 19, 3) := by decide +kernel
theorem dX4_step_18 : decode cX4_step 18 = .ok (.aload_n 0, 1) := by decide +kernel
theorem dX4_step_19 : decode cX4_step 19 = .ok (.getfield 24, 3) := by decide +kernel
theorem dX4_step_22 : decode cX4_step 22 = .ok (.bipush 32, 2) := by decide +kernel
theorem dX4_step_24 : decode cX4_step 24 = .ok (.iadd, 1) := by decide +kernel
theorem dX4_step_25 : decode cX4_step 25 = .ok (.iaload, 1) := by decide +kernel
theorem dX4_step_26 : decode cX4_step 26 = .ok (.putfield 27, 3) := by decide +kernel
theorem dX4_step_29 : decode cX4_step 29 = .ok (.aload_n 0, 1) := by decide +kernel
theorem dX4_step_30 : decode cX4_step 30 = .ok (.getfield 27, 3) := by decide +kernel
theorem dX4_step_33 : decode cX4_step 33 = .ok (.iconst 1, 1) := by decide +kernel
theorem dX4_step_34 : decode cX4_step 34 = .ok (.iand, 1) := by decide +kernel
theorem dX4_step_35 : decode cX4_step 35 = .ok (.ifCond .ne 19, 3) := by decide +kernel
theorem dX4_step_38 : decode cX4_step 38 = .ok (.aload_n 0, 1) := by decide +kernel
theorem dX4_step_39 : decode cX4_step 39 = .ok (.getfield 7, 3) := by decide +kernel
theorem dX4_step_42 : decode cX4_step 42 = .ok (.iload_n 1, 1) := by decide +kernel
theorem dX4_step_43 : decode cX4_step 43 = .ok (.aload_n 0, 1) := by decide +kernel
theorem dX4_step_44 : decode cX4_step 44 = .ok (.getfield 27, 3) := by decide +kernel
theorem dX4_step_47 : decode cX4_step 47 = .ok (.iconst 4, 1) := by decide +kernel
theorem dX4_step_48 : decode cX4_step 48 = .ok (.invokevirtual 30, 3) := by decide +kernel
theorem dX4_step_51 : decode cX4_step 51 = .ok (.ifCond .ne 6, 3) := by decide +kernel
theorem dX4_step_54 : decode cX4_step 54 = .ok (.bipush 11, 2) := by decide +kernel
theorem dX4_step_56 : decode cX4_step 56 = .ok (.ireturn, 1) := by decide +kernel
theorem dX4_step_57 : decode cX4_step 57 = .ok (.aload_n 0, 1) := by decide +kernel
theorem dX4_step_58 : decode cX4_step 58 = .ok (.getfield 7, 3) := by decide +kernel
theorem dX4_step_61 : decode cX4_step 61 = .ok (.iload_n 1, 1) := by decide +kernel
theorem dX4_step_62 : decode cX4_step 62 = .ok (.aload_n 0, 1) := by decide +kernel
theorem dX4_step_63 : decode cX4_step 63 = .ok (.getfield 27, 3) := by decide +kernel
theorem dX4_step_66 : decode cX4_step 66 = .ok (.invokevirtual 34, 3) := by decide +kernel
theorem dX4_step_69 : decode cX4_step 69 = .ok (.istore_n 2, 1) := by decide +kernel
theorem dX4_step_70 : decode cX4_step 70 = .ok (.iload_n 2, 1) := by decide +kernel
theorem dX4_step_71 : decode cX4_step 71 = .ok (.iconst 3, 1) := by decide +kernel
theorem dX4_step_72 : decode cX4_step 72 = .ok (.iand, 1) := by decide +kernel
theorem dX4_step_73 : decode cX4_step 73 = .ok (.iconst 3, 1) := by decide +kernel
theorem dX4_step_74 : decode cX4_step 74 = .ok (.if_icmp .ne 57, 3) := by decide +kernel
theorem dX4_step_77 : decode cX4_step 77 = .ok (.aload_n 0, 1) := by decide +kernel
theorem dX4_step_78 : decode cX4_step 78 = .ok (.getfield 7, 3) := by decide +kernel
theorem dX4_step_81 : decode cX4_step 81 = .ok (.iload_n 1, 1) := by decide +kernel
theorem dX4_step_82 : decode cX4_step 82 = .ok (.aload_n 0, 1) := by decide +kernel
theorem dX4_step_83 : decode cX4_step 83 = .ok (.getfield 27, 3) := by decide +kernel
theorem dX4_step_86 : decode cX4_step 86 = .ok (.iconst 2, 1) := by decide +kernel
theorem dX4_step_87 : decode cX4_step 87 = .ok (.iadd, 1) := by decide +kernel
theorem dX4_step_88 : decode cX4_step 88 = .ok (.iconst 4, 1) := by decide +kernel
theorem dX4_step_89 : decode cX4_step 89 = .ok (.invokevirtual 30, 3) := by decide +kernel
theorem dX4_step_92 : decode cX4_step 92 = .ok (.ifCond .ne 6, 3) := by decide +kernel
theorem dX4_step_95 : decode cX4_step 95 = .ok (.bipush 11, 2) := by decide +kernel
theorem dX4_step_97 : decode cX4_step 97 = .ok (.ireturn, 1) := by decide +kernel
theorem dX4_step_98 : decode cX4_step 98 = .ok (.iload_n 2, 1) := by decide +kernel
theorem dX4_step_99 : decode cX4_step 99 = .ok (.aload_n 0, 1) := by decide +kernel
theorem dX4_step_100 : decode cX4_step 100 = .ok (.getfield 7, 3) := by decide +kernel
theorem dX4_step_103 : decode cX4_step 103 = .ok (.iload_n 1, 1) := by decide +kernel
theorem dX4_step_104 : decode cX4_step 104 = .ok (.aload_n 0, 1) := by decide +kernel
theorem dX4_step_105 : decode cX4_step 105 = .ok (.getfield 27, 3) := by decide +kernel
theorem dX4_step_108 : decode cX4_step 108 = .ok (.iconst 2, 1) := by decide +kernel
theorem dX4_step_109 : decode cX4_step 109 = .ok (.iadd, 1) := by decide +kernel
theorem dX4_step_110 : decode cX4_step 110 = .ok (.invokevirtual 34, 3) := by decide +kernel
theorem dX4_step_113 : decode cX4_step 113 = .ok (.bipush 16, 2) := by decide +kernel
theorem dX4_step_115 : decode cX4_step 115 = .ok (.ishl, 1) := by decide +kernel
theorem dX4_step_116 : decode cX4_step 116 = .ok (.ior, 1) := by decide +kernel
theorem dX4_step_117 : decode cX4_step 117 = .ok (.istore_n 2, 1) := by decide +kernel
theorem dX4_step_118 : decode cX4_step 118 = .ok (.aload_n 0, 1) := by decide +kernel
theorem dX4_step_119 : decode cX4_step 119 = .ok (.aload_n 0, 1) := by decide +kernel
theorem dX4_step_120 : decode cX4_step 120 = .ok (.getfield 27, 3) := by decide +kernel
theorem dX4_step_123 : decode cX4_step 123 = .ok (.iconst 4, 1) := by decide +kernel
theorem dX4_step_124 : decode cX4_step 124 = .ok (.iadd, 1) := by decide +kernel
theorem dX4_step_125 : decode cX4_step 125 = .ok (.putfield 38, 3) := by decide +kernel
theorem dX4_step_128 : decode cX4_step 128 = .ok (.goto 18, 3) := by decide +kernel
theorem dX4_step_131 : decode cX4_step 131 = .ok (.iload_n 2, 1) := by decide +kernel
theorem dX4_step_132 : decode cX4_step 132 = .ok (.invokestatic 41, 3) := by decide +kernel
theorem dX4_step_135 : decode cX4_step 135 = .ok (.istore_n 2, 1) := by decide +kernel
theorem dX4_step_136 : decode cX4_step 136 = .ok (.aload_n 0, 1) := by decide +kernel
theorem dX4_step_137 : decode cX4_step 137 = .ok (.aload_n 0, 1) := by decide +kernel
theorem dX4_step_138 : decode cX4_step 138 = .ok (.getfield 27, 3) := by decide +kernel
theorem dX4_step_141 : decode cX4_step 141 = .ok (.iconst 2, 1) := by decide +kernel
theorem dX4_step_142 : decode cX4_step 142 = .ok (.iadd, 1) := by decide +kernel
theorem dX4_step_143 : decode cX4_step 143 = .ok (.putfield 38, 3) := by decide +kernel
theorem dX4_step_146 : decode cX4_step 146 = .ok (.aload_n 0, 1) := by decide +kernel
theorem dX4_step_147 : decode cX4_step 147 = .ok (.iload_n 2, 1) := by decide +kernel
theorem dX4_step_148 : decode cX4_step 148 = .ok (.invokevirtual 45, 3) := by decide +kernel
theorem dX4_step_151 : decode cX4_step 151 = .ok (.istore_n 3, 1) := by decide +kernel
theorem dX4_step_152 : decode cX4_step 152 = .ok (.iload_n 3, 1) := by decide +kernel
theorem dX4_step_153 : decode cX4_step 153 = .ok (.ifCond .ne 32, 3) := by decide +kernel
theorem dX4_step_156 : decode cX4_step 156 = .ok (.aload_n 0, 1) := by decide +kernel
theorem dX4_step_157 : decode cX4_step 157 = .ok (.getfield 19, 3) := by decide +kernel
theorem dX4_step_160 : decode cX4_step 160 = .ok (.aload_n 0, 1) := by decide +kernel
theorem dX4_step_161 : decode cX4_step 161 = .ok (.getfield 24, 3) := by decide +kernel
theorem dX4_step_164 : decode cX4_step 164 = .ok (.bipush 32, 2) := by decide +kernel
theorem dX4_step_166 : decode cX4_step 166 = .ok (.iadd, 1) := by decide +kernel
theorem dX4_step_167 : decode cX4_step 167 = .ok (.aload_n 0, 1) := by decide +kernel
theorem dX4_step_168 : decode cX4_step 168 = .ok (.getfield 38, 3) := by decide +kernel
theorem dX4_step_171 : decode cX4_step 171 = .ok (.iastore, 1) := by decide +kernel
theorem dX4_step_172 : decode cX4_step 172 = .ok (.aload_n 0, 1) := by decide +kernel
theorem dX4_step_173 : decode cX4_step 173 = .ok (.getfield 7, 3) := by decide +kernel
theorem dX4_step_176 : decode cX4_step 176 = .ok (.dup, 1) := by decide +kernel
theorem dX4_step_177 : decode cX4_step 177 = .ok (.getfield 48, 3) := by decide +kernel
theorem dX4_step_180 : decode cX4_step 180 = .ok (.lconst 1, 1) := by decide +kernel
theorem dX4_step_181 : decode cX4_step 181 = .ok (.ladd, 1) := by decide +kernel
theorem dX4_step_182 : decode cX4_step 182 = .ok (.putfield 48, 3) := by decide +kernel
theorem dX4_step_185 : decode cX4_step 185 = .ok (.iload_n 3, 1) := by decide +kernel
theorem dX4_step_186 : decode cX4_step 186 = .ok (.ireturn, 1) := by decide +kernel
theorem dX4_set_0 : decode cX4_set 0 = .ok (.iload_n 1, 1) := by decide +kernel
theorem dX4_set_1 : decode cX4_set 1 = .ok (.bipush 7, 2) := by decide +kernel
theorem dX4_set_3 : decode cX4_set 3 = .ok (.ishr, 1) := by decide +kernel
theorem dX4_set_4 : decode cX4_set 4 = .ok (.bipush 31, 2) := by decide +kernel
theorem dX4_set_6 : decode cX4_set 6 = .ok (.iand, 1) := by decide +kernel
theorem dX4_set_7 : decode cX4_set 7 = .ok (.istore_n 3, 1) := by decide +kernel
theorem dX4_set_8 : decode cX4_set 8 = .ok (.iload_n 3, 1) := by decide +kernel
theorem dX4_set_9 : decode cX4_set 9 = .ok (.ifCond .eq 15, 3) := by decide +kernel
theorem dX4_set_12 : decode cX4_set 12 = .ok (.aload_n 0, 1) := by decide +kernel
theorem dX4_set_13 : decode cX4_set 13 = .ok (.getfield 19, 3) := by decide +kernel
theorem dX4_set_16 : decode cX4_set 16 = .ok (.aload_n 0, 1) := by decide +kernel
theorem dX4_set_17 : decode cX4_set 17 = .ok (.getfield 24, 3) := by decide +kernel
theorem dX4_set_20 : decode cX4_set 20 = .ok (.iload_n 3, 1) := by decide +kernel
theorem dX4_set_21 : decode cX4_set 21 = .ok (.iadd, 1) := by decide +kernel
theorem dX4_set_22 : decode cX4_set 22 = .ok (.iload_n 2, 1) := by decide +kernel
theorem dX4_set_23 : decode cX4_set 23 = .ok (.iastore, 1) := by decide +kernel
theorem dX4_set_24 : decode cX4_set 24 = .ok (.return_, 1) := by decide +kernel
theorem dX4_work_0 : decode cX4_work 0 = .ok (.aload_n 0, 1) := by decide +kernel
theorem dX4_work_1 : decode cX4_work 1 = .ok (.getfield 19, 3) := by decide +kernel
theorem dX4_work_4 : decode cX4_work 4 = .ok (.aload_n 0, 1) := by decide +kernel
theorem dX4_work_5 : decode cX4_work 5 = .ok (.getfield 24, 3) := by decide +kernel
theorem dX4_work_8 : decode cX4_work 8 = .ok (.iload_n 1, 1) := by decide +kernel
theorem dX4_work_9 : decode cX4_work 9 = .ok (.bipush 15, 2) := by decide +kernel
theorem dX4_work_11 : decode cX4_work 11 = .ok (.ishr, 1) := by decide +kernel
theorem dX4_work_12 : decode cX4_work 12 = .ok (.bipush 31, 2) := by decide +kernel
theorem dX4_work_14 : decode cX4_work 14 = .ok (.iand, 1) := by decide +kernel
theorem dX4_work_15 : decode cX4_work 15 = .ok (.iadd, 1) := by decide +kernel
theorem dX4_work_16 : decode cX4_work 16 = .ok (.iaload, 1) := by decide +kernel
theorem dX4_work_17 : decode cX4_work 17 = .ok (.istore_n 2, 1) := by decide +kernel
theorem dX4_work_18 : decode cX4_work 18 = .ok (.aload_n 0, 1) := by decide +kernel
theorem dX4_work_19 : decode cX4_work 19 = .ok (.getfield 19, 3) := by decide +kernel
theorem dX4_work_22 : decode cX4_work 22 = .ok (.aload_n 0, 1) := by decide +kernel
theorem dX4_work_23 : decode cX4_work 23 = .ok (.getfield 24, 3) := by decide +kernel
theorem dX4_work_26 : decode cX4_work 26 = .ok (.iload_n 1, 1) := by decide +kernel
theorem dX4_work_27 : decode cX4_work 27 = .ok (.bipush 20, 2) := by decide +kernel
theorem dX4_work_29 : decode cX4_work 29 = .ok (.ishr, 1) := by decide +kernel
theorem dX4_work_30 : decode cX4_work 30 = .ok (.bipush 31, 2) := by decide +kernel
theorem dX4_work_32 : decode cX4_work 32 = .ok (.iand, 1) := by decide +kernel
theorem dX4_work_33 : decode cX4_work 33 = .ok (.iadd, 1) := by decide +kernel
theorem dX4_work_34 : decode cX4_work 34 = .ok (.iaload, 1) := by decide +kernel
theorem dX4_work_35 : decode cX4_work 35 = .ok (.istore_n 3, 1) := by decide +kernel
theorem dX4_work_36 : decode cX4_work 36 = .ok (.iload_n 1, 1) := by decide +kernel
theorem dX4_work_37 : decode cX4_work 37 = .ok (.bipush 12, 2) := by decide +kernel
theorem dX4_work_39 : decode cX4_work 39 = .ok (.ishr, 1) := by decide +kernel
theorem dX4_work_40 : decode cX4_work 40 = .ok (.bipush 7, 2) := by decide +kernel
theorem dX4_work_42 : decode cX4_work 42 = .ok (.iand, 1) := by decide +kernel
theorem dX4_work_43 : decode cX4_work 43 = .ok (.istore 4, 2) := by decide +kernel
theorem dX4_work_45 : decode cX4_work 45 = .ok (.iload_n 1, 1) := by decide +kernel
theorem dX4_work_46 : decode cX4_work 46 = .ok (.bipush 127, 2) := by decide +kernel
theorem dX4_work_48 : decode cX4_work 48 = .ok (.iand, 1) := by decide +kernel
theorem dX4_work_49 : decode cX4_work 49 = .ok (.lookupswitch 306 #[(3, 191), (15, 286), (19, 229), (23, 119), (35, 205), (47, 268), (51, 238), (55, 107), (99, 181), (103, 160), (111, 136), (115, 298)], 107) := by decide +kernel
theorem dX4_work_156 : decode cX4_work 156 = .ok (.aload_n 0, 1) := by decide +kernel
theorem dX4_work_157 : decode cX4_work 157 = .ok (.iload_n 1, 1) := by decide +kernel
theorem dX4_work_158 : decode cX4_work 158 = .ok (.iload_n 1, 1) := by decide +kernel
theorem dX4_work_159 : decode cX4_work 159 = .ok (.sipush (-4096), 3) := by decide +kernel
theorem dX4_work_162 : decode cX4_work 162 = .ok (.iand, 1) := by decide +kernel
theorem dX4_work_163 : decode cX4_work 163 = .ok (.invokevirtual 52, 3) := by decide +kernel
theorem dX4_work_166 : decode cX4_work 166 = .ok (.iconst 0, 1) := by decide +kernel
theorem dX4_work_167 : decode cX4_work 167 = .ok (.ireturn, 1) := by decide +kernel
theorem dX4_work_168 : decode cX4_work 168 = .ok (.aload_n 0, 1) := by decide +kernel
theorem dX4_work_169 : decode cX4_work 169 = .ok (.iload_n 1, 1) := by decide +kernel
theorem dX4_work_170 : decode cX4_work 170 = .ok (.aload_n 0, 1) := by decide +kernel
theorem dX4_work_171 : decode cX4_work 171 = .ok (.getfield 27, 3) := by decide +kernel
theorem dX4_work_174 : decode cX4_work 174 = .ok (.iload_n 1, 1) := by decide +kernel
theorem dX4_work_175 : decode cX4_work 175 = .ok (.sipush (-4096), 3) := by decide +kernel
theorem dX4_work_178 : decode cX4_work 178 = .ok (.iand, 1) := by decide +kernel
theorem dX4_work_179 : decode cX4_work 179 = .ok (.iadd, 1) := by decide +kernel
theorem dX4_work_180 : decode cX4_work 180 = .ok (.invokevirtual 52, 3) := by decide +kernel
theorem dX4_work_183 : decode cX4_work 183 = .ok (.iconst 0, 1) := by decide +kernel
theorem dX4_work_184 : decode cX4_work 184 = .ok (.ireturn, 1) := by decide +kernel
theorem dX4_work_185 : decode cX4_work 185 = .ok (.aload_n 0, 1) := by decide +kernel
theorem dX4_work_186 : decode cX4_work 186 = .ok (.iload_n 1, 1) := by decide +kernel
theorem dX4_work_187 : decode cX4_work 187 = .ok (.aload_n 0, 1) := by decide +kernel
theorem dX4_work_188 : decode cX4_work 188 = .ok (.getfield 38, 3) := by decide +kernel
theorem dX4_work_191 : decode cX4_work 191 = .ok (.invokevirtual 52, 3) := by decide +kernel
theorem dX4_work_194 : decode cX4_work 194 = .ok (.aload_n 0, 1) := by decide +kernel
theorem dX4_work_195 : decode cX4_work 195 = .ok (.aload_n 0, 1) := by decide +kernel
theorem dX4_work_196 : decode cX4_work 196 = .ok (.getfield 27, 3) := by decide +kernel
theorem dX4_work_199 : decode cX4_work 199 = .ok (.iload_n 1, 1) := by decide +kernel
theorem dX4_work_200 : decode cX4_work 200 = .ok (.invokestatic 56, 3) := by decide +kernel
theorem dX4_work_203 : decode cX4_work 203 = .ok (.iadd, 1) := by decide +kernel
theorem dX4_work_204 : decode cX4_work 204 = .ok (.putfield 38, 3) := by decide +kernel
theorem dX4_work_207 : decode cX4_work 207 = .ok (.iconst 0, 1) := by decide +kernel
theorem dX4_work_208 : decode cX4_work 208 = .ok (.ireturn, 1) := by decide +kernel
theorem dX4_work_209 : decode cX4_work 209 = .ok (.iload 4, 2) := by decide +kernel
theorem dX4_work_211 : decode cX4_work 211 = .ok (.ifCond .ne 17, 3) := by decide +kernel
theorem dX4_work_214 : decode cX4_work 214 = .ok (.aload_n 0, 1) := by decide +kernel
theorem dX4_work_215 : decode cX4_work 215 = .ok (.iload_n 1, 1) := by decide +kernel
theorem dX4_work_216 : decode cX4_work 216 = .ok (.iload_n 2, 1) := by decide +kernel
theorem dX4_work_217 : decode cX4_work 217 = .ok (.iload_n 1, 1) := by decide +kernel
theorem dX4_work_218 : decode cX4_work 218 = .ok (.bipush 20, 2) := by decide +kernel
theorem dX4_work_220 : decode cX4_work 220 = .ok (.ishr, 1) := by decide +kernel
theorem dX4_work_221 : decode cX4_work 221 = .ok (.iadd, 1) := by decide +kernel
theorem dX4_work_222 : decode cX4_work 222 = .ok (.invokevirtual 59, 3) := by decide +kernel
theorem dX4_work_225 : decode cX4_work 225 = .ok (.goto 4, 3) := by decide +kernel
theorem dX4_work_228 : decode cX4_work 228 = .ok (.iconst 4, 1) := by decide +kernel
theorem dX4_work_229 : decode cX4_work 229 = .ok (.ireturn, 1) := by decide +kernel
theorem dX4_work_230 : decode cX4_work 230 = .ok (.aload_n 0, 1) := by decide +kernel
theorem dX4_work_231 : decode cX4_work 231 = .ok (.iload_n 1, 1) := by decide +kernel
theorem dX4_work_232 : decode cX4_work 232 = .ok (.iload 4, 2) := by decide +kernel
theorem dX4_work_234 : decode cX4_work 234 = .ok (.iload_n 2, 1) := by decide +kernel
theorem dX4_work_235 : decode cX4_work 235 = .ok (.iload_n 3, 1) := by decide +kernel
theorem dX4_work_236 : decode cX4_work 236 = .ok (.invokevirtual 62, 3) := by decide +kernel
theorem dX4_work_239 : decode cX4_work 239 = .ok (.ireturn, 1) := by decide +kernel
theorem dX4_work_240 : decode cX4_work 240 = .ok (.aload_n 0, 1) := by decide +kernel
theorem dX4_work_241 : decode cX4_work 241 = .ok (.iload_n 1, 1) := by decide +kernel
theorem dX4_work_242 : decode cX4_work 242 = .ok (.iload 4, 2) := by decide +kernel
theorem dX4_work_244 : decode cX4_work 244 = .ok (.iload_n 2, 1) := by decide +kernel
theorem dX4_work_245 : decode cX4_work 245 = .ok (.iload_n 1, 1) := by decide +kernel
theorem dX4_work_246 : decode cX4_work 246 = .ok (.bipush 20, 2) := by decide +kernel
theorem dX4_work_248 : decode cX4_work 248 = .ok (.ishr, 1) := by decide +kernel
theorem dX4_work_249 : decode cX4_work 249 = .ok (.iadd, 1) := by decide +kernel
theorem dX4_work_250 : decode cX4_work 250 = .ok (.invokevirtual 66, 3) := by decide +kernel
theorem dX4_work_253 : decode cX4_work 253 = .ok (.ireturn, 1) := by decide +kernel
theorem dX4_work_254 : decode cX4_work 254 = .ok (.aload_n 0, 1) := by decide +kernel
theorem dX4_work_255 : decode cX4_work 255 = .ok (.iload 4, 2) := by decide +kernel
theorem dX4_work_257 : decode cX4_work 257 = .ok (.iload_n 2, 1) := by decide +kernel
theorem dX4_work_258 : decode cX4_work 258 = .ok (.iload_n 1, 1) := by decide +kernel
theorem dX4_work_259 : decode cX4_work 259 = .ok (.bipush 25, 2) := by decide +kernel
theorem dX4_work_261 : decode cX4_work 261 = .ok (.ishr, 1) := by decide +kernel
theorem dX4_work_262 : decode cX4_work 262 = .ok (.iconst 5, 1) := by decide +kernel
theorem dX4_work_263 : decode cX4_work 263 = .ok (.ishl, 1) := by decide +kernel
theorem dX4_work_264 : decode cX4_work 264 = .ok (.iload_n 1, 1) := by decide +kernel
theorem dX4_work_265 : decode cX4_work 265 = .ok (.bipush 7, 2) := by decide +kernel
theorem dX4_work_267 : decode cX4_work 267 = .ok (.ishr, 1) := by decide +kernel
theorem dX4_work_268 : decode cX4_work 268 = .ok (.bipush 31, 2) := by decide +kernel
theorem dX4_work_270 : decode cX4_work 270 = .ok (.iand, 1) := by decide +kernel
theorem dX4_work_271 : decode cX4_work 271 = .ok (.ior, 1) := by decide +kernel
theorem dX4_work_272 : decode cX4_work 272 = .ok (.iadd, 1) := by decide +kernel
theorem dX4_work_273 : decode cX4_work 273 = .ok (.iload_n 3, 1) := by decide +kernel
theorem dX4_work_274 : decode cX4_work 274 = .ok (.invokevirtual 70, 3) := by decide +kernel
theorem dX4_work_277 : decode cX4_work 277 = .ok (.ireturn, 1) := by decide +kernel
theorem dX4_work_278 : decode cX4_work 278 = .ok (.aload_n 0, 1) := by decide +kernel
theorem dX4_work_279 : decode cX4_work 279 = .ok (.iload_n 1, 1) := by decide +kernel
theorem dX4_work_280 : decode cX4_work 280 = .ok (.iload 4, 2) := by decide +kernel
theorem dX4_work_282 : decode cX4_work 282 = .ok (.iload_n 2, 1) := by decide +kernel
theorem dX4_work_283 : decode cX4_work 283 = .ok (.invokevirtual 73, 3) := by decide +kernel
theorem dX4_work_286 : decode cX4_work 286 = .ok (.ireturn, 1) := by decide +kernel
theorem dX4_work_287 : decode cX4_work 287 = .ok (.iload_n 1, 1) := by decide +kernel
theorem dX4_work_288 : decode cX4_work 288 = .ok (.bipush 25, 2) := by decide +kernel
theorem dX4_work_290 : decode cX4_work 290 = .ok (.iushr, 1) := by decide +kernel
theorem dX4_work_291 : decode cX4_work 291 = .ok (.iconst 1, 1) := by decide +kernel
theorem dX4_work_292 : decode cX4_work 292 = .ok (.if_icmp .ne 15, 3) := by decide +kernel
theorem dX4_work_295 : decode cX4_work 295 = .ok (.aload_n 0, 1) := by decide +kernel
theorem dX4_work_296 : decode cX4_work 296 = .ok (.iload_n 1, 1) := by decide +kernel
theorem dX4_work_297 : decode cX4_work 297 = .ok (.iload 4, 2) := by decide +kernel
theorem dX4_work_299 : decode cX4_work 299 = .ok (.iload_n 2, 1) := by decide +kernel
theorem dX4_work_300 : decode cX4_work 300 = .ok (.iload_n 3, 1) := by decide +kernel
theorem dX4_work_301 : decode cX4_work 301 = .ok (.invokevirtual 76, 3) := by decide +kernel
theorem dX4_work_304 : decode cX4_work 304 = .ok (.goto 12, 3) := by decide +kernel
theorem dX4_work_307 : decode cX4_work 307 = .ok (.aload_n 0, 1) := by decide +kernel
theorem dX4_work_308 : decode cX4_work 308 = .ok (.iload_n 1, 1) := by decide +kernel
theorem dX4_work_309 : decode cX4_work 309 = .ok (.iload 4, 2) := by decide +kernel
theorem dX4_work_311 : decode cX4_work 311 = .ok (.iload_n 2, 1) := by decide +kernel
theorem dX4_work_312 : decode cX4_work 312 = .ok (.iload_n 3, 1) := by decide +kernel
theorem dX4_work_313 : decode cX4_work 313 = .ok (.invokevirtual 79, 3) := by decide +kernel
theorem dX4_work_316 : decode cX4_work 316 = .ok (.ireturn, 1) := by decide +kernel
theorem dX4_work_317 : decode cX4_work 317 = .ok (.iload 4, 2) := by decide +kernel
theorem dX4_work_319 : decode cX4_work 319 = .ok (.iconst 2, 1) := by decide +kernel
theorem dX4_work_320 : decode cX4_work 320 = .ok (.if_icmp .ne 13, 3) := by decide +kernel
theorem dX4_work_323 : decode cX4_work 323 = .ok (.aload_n 0, 1) := by decide +kernel
theorem dX4_work_324 : decode cX4_work 324 = .ok (.iload_n 1, 1) := by decide +kernel
theorem dX4_work_325 : decode cX4_work 325 = .ok (.iload_n 2, 1) := by decide +kernel
theorem dX4_work_326 : decode cX4_work 326 = .ok (.iload_n 3, 1) := by decide +kernel
theorem dX4_work_327 : decode cX4_work 327 = .ok (.invokevirtual 82, 3) := by decide +kernel
theorem dX4_work_330 : decode cX4_work 330 = .ok (.goto 4, 3) := by decide +kernel
theorem dX4_work_333 : decode cX4_work 333 = .ok (.iconst 4, 1) := by decide +kernel
theorem dX4_work_334 : decode cX4_work 334 = .ok (.ireturn, 1) := by decide +kernel
theorem dX4_work_335 : decode cX4_work 335 = .ok (.iload 4, 2) := by decide +kernel
theorem dX4_work_337 : decode cX4_work 337 = .ok (.iconst 1, 1) := by decide +kernel
theorem dX4_work_338 : decode cX4_work 338 = .ok (.if_icmp .gt 7, 3) := by decide +kernel
theorem dX4_work_341 : decode cX4_work 341 = .ok (.iconst 0, 1) := by decide +kernel
theorem dX4_work_342 : decode cX4_work 342 = .ok (.goto 4, 3) := by decide +kernel
theorem dX4_work_345 : decode cX4_work 345 = .ok (.iconst 4, 1) := by decide +kernel
theorem dX4_work_346 : decode cX4_work 346 = .ok (.ireturn, 1) := by decide +kernel
theorem dX4_work_347 : decode cX4_work 347 = .ok (.aload_n 0, 1) := by decide +kernel
theorem dX4_work_348 : decode cX4_work 348 = .ok (.iload_n 1, 1) := by decide +kernel
theorem dX4_work_349 : decode cX4_work 349 = .ok (.iload 4, 2) := by decide +kernel
theorem dX4_work_351 : decode cX4_work 351 = .ok (.invokevirtual 85, 3) := by decide +kernel
theorem dX4_work_354 : decode cX4_work 354 = .ok (.ireturn, 1) := by decide +kernel
theorem dX4_work_355 : decode cX4_work 355 = .ok (.iconst 4, 1) := by decide +kernel
theorem dX4_work_356 : decode cX4_work 356 = .ok (.ireturn, 1) := by decide +kernel
theorem dX4_jumpOffset_0 : decode cX4_jumpOffset 0 = .ok (.iload_n 0, 1) := by decide +kernel
theorem dX4_jumpOffset_1 : decode cX4_jumpOffset 1 = .ok (.bipush 31, 2) := by decide +kernel
theorem dX4_jumpOffset_3 : decode cX4_jumpOffset 3 = .ok (.ishr, 1) := by decide +kernel
theorem dX4_jumpOffset_4 : decode cX4_jumpOffset 4 = .ok (.bipush 20, 2) := by decide +kernel
theorem dX4_jumpOffset_6 : decode cX4_jumpOffset 6 = .ok (.ishl, 1) := by decide +kernel
theorem dX4_jumpOffset_7 : decode cX4_jumpOffset 7 = .ok (.iload_n 0, 1) := by decide +kernel
theorem dX4_jumpOffset_8 : decode cX4_jumpOffset 8 = .ok (.ldc 88, 2) := by decide +kernel
theorem dX4_jumpOffset_10 : decode cX4_jumpOffset 10 = .ok (.iand, 1) := by decide +kernel
theorem dX4_jumpOffset_11 : decode cX4_jumpOffset 11 = .ok (.ior, 1) := by decide +kernel
theorem dX4_jumpOffset_12 : decode cX4_jumpOffset 12 = .ok (.iload_n 0, 1) := by decide +kernel
theorem dX4_jumpOffset_13 : decode cX4_jumpOffset 13 = .ok (.bipush 9, 2) := by decide +kernel
theorem dX4_jumpOffset_15 : decode cX4_jumpOffset 15 = .ok (.ishr, 1) := by decide +kernel
theorem dX4_jumpOffset_16 : decode cX4_jumpOffset 16 = .ok (.sipush 2048, 3) := by decide +kernel
theorem dX4_jumpOffset_19 : decode cX4_jumpOffset 19 = .ok (.iand, 1) := by decide +kernel
theorem dX4_jumpOffset_20 : decode cX4_jumpOffset 20 = .ok (.ior, 1) := by decide +kernel
theorem dX4_jumpOffset_21 : decode cX4_jumpOffset 21 = .ok (.iload_n 0, 1) := by decide +kernel
theorem dX4_jumpOffset_22 : decode cX4_jumpOffset 22 = .ok (.bipush 20, 2) := by decide +kernel
theorem dX4_jumpOffset_24 : decode cX4_jumpOffset 24 = .ok (.ishr, 1) := by decide +kernel
theorem dX4_jumpOffset_25 : decode cX4_jumpOffset 25 = .ok (.sipush 2046, 3) := by decide +kernel
theorem dX4_jumpOffset_28 : decode cX4_jumpOffset 28 = .ok (.iand, 1) := by decide +kernel
theorem dX4_jumpOffset_29 : decode cX4_jumpOffset 29 = .ok (.ior, 1) := by decide +kernel
theorem dX4_jumpOffset_30 : decode cX4_jumpOffset 30 = .ok (.ireturn, 1) := by decide +kernel
theorem dX4_jump_0 : decode cX4_jump 0 = .ok (.aload_n 0, 1) := by decide +kernel
theorem dX4_jump_1 : decode cX4_jump 1 = .ok (.iload_n 1, 1) := by decide +kernel
theorem dX4_jump_2 : decode cX4_jump 2 = .ok (.aload_n 0, 1) := by decide +kernel
theorem dX4_jump_3 : decode cX4_jump 3 = .ok (.getfield 38, 3) := by decide +kernel
theorem dX4_jump_6 : decode cX4_jump 6 = .ok (.invokevirtual 52, 3) := by decide +kernel
theorem dX4_jump_9 : decode cX4_jump 9 = .ok (.aload_n 0, 1) := by decide +kernel
theorem dX4_jump_10 : decode cX4_jump 10 = .ok (.iload_n 2, 1) := by decide +kernel
theorem dX4_jump_11 : decode cX4_jump 11 = .ok (.bipush (-2), 2) := by decide +kernel
theorem dX4_jump_13 : decode cX4_jump 13 = .ok (.iand, 1) := by decide +kernel
theorem dX4_jump_14 : decode cX4_jump 14 = .ok (.putfield 38, 3) := by decide +kernel
theorem dX4_jump_17 : decode cX4_jump 17 = .ok (.iconst 0, 1) := by decide +kernel
theorem dX4_jump_18 : decode cX4_jump 18 = .ok (.ireturn, 1) := by decide +kernel
theorem dX4_branch_0 : decode cX4_branch 0 = .ok (.iload_n 2, 1) := by decide +kernel
theorem dX4_branch_1 : decode cX4_branch 1 = .ok (.iconst 1, 1) := by decide +kernel
theorem dX4_branch_2 : decode cX4_branch 2 = .ok (.ishr, 1) := by decide +kernel
theorem dX4_branch_3 : decode cX4_branch 3 = .ok (.tableswitch 80 0 3 #[29, 80, 45, 61], 29) := by decide +kernel
theorem dX4_branch_32 : decode cX4_branch 32 = .ok (.iload_n 3, 1) := by decide +kernel
theorem dX4_branch_33 : decode cX4_branch 33 = .ok (.iload 4, 2) := by decide +kernel
theorem dX4_branch_35 : decode cX4_branch 35 = .ok (.if_icmp .ne 7, 3) := by decide +kernel
theorem dX4_branch_38 : decode cX4_branch 38 = .ok (.iconst 1, 1) := by decide +kernel
theorem dX4_branch_39 : decode cX4_branch 39 = .ok (.goto 4, 3) := by decide +kernel
theorem dX4_branch_42 : decode cX4_branch 42 = .ok (.iconst 0, 1) := by decide +kernel
theorem dX4_branch_43 : decode cX4_branch 43 = .ok (.istore 5, 2) := by decide +kernel
theorem dX4_branch_45 : decode cX4_branch 45 = .ok (.goto 40, 3) := by decide +kernel
theorem dX4_branch_48 : decode cX4_branch 48 = .ok (.iload_n 3, 1) := by decide +kernel
theorem dX4_branch_49 : decode cX4_branch 49 = .ok (.iload 4, 2) := by decide +kernel
theorem dX4_branch_51 : decode cX4_branch 51 = .ok (.if_icmp .ge 7, 3) := by decide +kernel
theorem dX4_branch_54 : decode cX4_branch 54 = .ok (.iconst 1, 1) := by decide +kernel
theorem dX4_branch_55 : decode cX4_branch 55 = .ok (.goto 4, 3) := by decide +kernel
theorem dX4_branch_58 : decode cX4_branch 58 = .ok (.iconst 0, 1) := by decide +kernel
theorem dX4_branch_59 : decode cX4_branch 59 = .ok (.istore 5, 2) := by decide +kernel
theorem dX4_branch_61 : decode cX4_branch 61 = .ok (.goto 24, 3) := by decide +kernel
theorem dX4_branch_64 : decode cX4_branch 64 = .ok (.iload_n 3, 1) := by decide +kernel
theorem dX4_branch_65 : decode cX4_branch 65 = .ok (.iload 4, 2) := by decide +kernel
theorem dX4_branch_67 : decode cX4_branch 67 = .ok (.invokestatic 89, 3) := by decide +kernel
theorem dX4_branch_70 : decode cX4_branch 70 = .ok (.ifCond .ge 7, 3) := by decide +kernel
theorem dX4_branch_73 : decode cX4_branch 73 = .ok (.iconst 1, 1) := by decide +kernel
theorem dX4_branch_74 : decode cX4_branch 74 = .ok (.goto 4, 3) := by decide +kernel
theorem dX4_branch_77 : decode cX4_branch 77 = .ok (.iconst 0, 1) := by decide +kernel
theorem dX4_branch_78 : decode cX4_branch 78 = .ok (.istore 5, 2) := by decide +kernel
theorem dX4_branch_80 : decode cX4_branch 80 = .ok (.goto 5, 3) := by decide +kernel
theorem dX4_branch_83 : decode cX4_branch 83 = .ok (.iconst 4, 1) := by decide +kernel
theorem dX4_branch_84 : decode cX4_branch 84 = .ok (.ireturn, 1) := by decide +kernel
theorem dX4_branch_85 : decode cX4_branch 85 = .ok (.iload 5, 2) := by decide +kernel
theorem dX4_branch_87 : decode cX4_branch 87 = .ok (.iload_n 2, 1) := by decide +kernel
theorem dX4_branch_88 : decode cX4_branch 88 = .ok (.iconst 1, 1) := by decide +kernel
theorem dX4_branch_89 : decode cX4_branch 89 = .ok (.iand, 1) := by decide +kernel
theorem dX4_branch_90 : decode cX4_branch 90 = .ok (.ifCond .ne 7, 3) := by decide +kernel
theorem dX4_branch_93 : decode cX4_branch 93 = .ok (.iconst 1, 1) := by decide +kernel
theorem dX4_branch_94 : decode cX4_branch 94 = .ok (.goto 4, 3) := by decide +kernel
theorem dX4_branch_97 : decode cX4_branch 97 = .ok (.iconst 0, 1) := by decide +kernel
theorem dX4_branch_98 : decode cX4_branch 98 = .ok (.if_icmp .ne 44, 3) := by decide +kernel
theorem dX4_branch_101 : decode cX4_branch 101 = .ok (.aload_n 0, 1) := by decide +kernel
theorem dX4_branch_102 : decode cX4_branch 102 = .ok (.aload_n 0, 1) := by decide +kernel
theorem dX4_branch_103 : decode cX4_branch 103 = .ok (.getfield 27, 3) := by decide +kernel
theorem dX4_branch_106 : decode cX4_branch 106 = .ok (.iload_n 1, 1) := by decide +kernel
theorem dX4_branch_107 : decode cX4_branch 107 = .ok (.bipush 31, 2) := by decide +kernel
theorem dX4_branch_109 : decode cX4_branch 109 = .ok (.ishr, 1) := by decide +kernel
theorem dX4_branch_110 : decode cX4_branch 110 = .ok (.bipush 12, 2) := by decide +kernel
theorem dX4_branch_112 : decode cX4_branch 112 = .ok (.ishl, 1) := by decide +kernel
theorem dX4_branch_113 : decode cX4_branch 113 = .ok (.iload_n 1, 1) := by decide +kernel
theorem dX4_branch_114 : decode cX4_branch 114 = .ok (.iconst 4, 1) := by decide +kernel
theorem dX4_branch_115 : decode cX4_branch 115 = .ok (.ishl, 1) := by decide +kernel
theorem dX4_branch_116 : decode cX4_branch 116 = .ok (.sipush 2048, 3) := by decide +kernel
theorem dX4_branch_119 : decode cX4_branch 119 = .ok (.iand, 1) := by decide +kernel
theorem dX4_branch_120 : decode cX4_branch 120 = .ok (.ior, 1) := by decide +kernel
theorem dX4_branch_121 : decode cX4_branch 121 = .ok (.iload_n 1, 1) := by decide +kernel
theorem dX4_branch_122 : decode cX4_branch 122 = .ok (.bipush 20, 2) := by decide +kernel
theorem dX4_branch_124 : decode cX4_branch 124 = .ok (.ishr, 1) := by decide +kernel
theorem dX4_branch_125 : decode cX4_branch 125 = .ok (.sipush 2016, 3) := by decide +kernel
theorem dX4_branch_128 : decode cX4_branch 128 = .ok (.iand, 1) := by decide +kernel
theorem dX4_branch_129 : decode cX4_branch 129 = .ok (.ior, 1) := by decide +kernel
theorem dX4_branch_130 : decode cX4_branch 130 = .ok (.iload_n 1, 1) := by decide +kernel
theorem dX4_branch_131 : decode cX4_branch 131 = .ok (.bipush 7, 2) := by decide +kernel
theorem dX4_branch_133 : decode cX4_branch 133 = .ok (.ishr, 1) := by decide +kernel
theorem dX4_branch_134 : decode cX4_branch 134 = .ok (.bipush 30, 2) := by decide +kernel
theorem dX4_branch_136 : decode cX4_branch 136 = .ok (.iand, 1) := by decide +kernel
theorem dX4_branch_137 : decode cX4_branch 137 = .ok (.ior, 1) := by decide +kernel
theorem dX4_branch_138 : decode cX4_branch 138 = .ok (.iadd, 1) := by decide +kernel
theorem dX4_branch_139 : decode cX4_branch 139 = .ok (.putfield 38, 3) := by decide +kernel
theorem dX4_branch_142 : decode cX4_branch 142 = .ok (.iconst 0, 1) := by decide +kernel
theorem dX4_branch_143 : decode cX4_branch 143 = .ok (.ireturn, 1) := by decide +kernel
theorem dX4_load_0 : decode cX4_load 0 = .ok (.iload_n 2, 1) := by decide +kernel
theorem dX4_load_1 : decode cX4_load 1 = .ok (.iconst 3, 1) := by decide +kernel
theorem dX4_load_2 : decode cX4_load 2 = .ok (.if_icmp .eq 8, 3) := by decide +kernel
theorem dX4_load_5 : decode cX4_load 5 = .ok (.iload_n 2, 1) := by decide +kernel
theorem dX4_load_6 : decode cX4_load 6 = .ok (.iconst 5, 1) := by decide +kernel
theorem dX4_load_7 : decode cX4_load 7 = .ok (.if_icmp .le 5, 3) := by decide +kernel
theorem dX4_load_10 : decode cX4_load 10 = .ok (.iconst 4, 1) := by decide +kernel
theorem dX4_load_11 : decode cX4_load 11 = .ok (.ireturn, 1) := by decide +kernel
theorem dX4_load_12 : decode cX4_load 12 = .ok (.iload_n 3, 1) := by decide +kernel
theorem dX4_load_13 : decode cX4_load 13 = .ok (.iconst 1, 1) := by decide +kernel
theorem dX4_load_14 : decode cX4_load 14 = .ok (.iload_n 2, 1) := by decide +kernel
theorem dX4_load_15 : decode cX4_load 15 = .ok (.iconst 3, 1) := by decide +kernel
theorem dX4_load_16 : decode cX4_load 16 = .ok (.iand, 1) := by decide +kernel
theorem dX4_load_17 : decode cX4_load 17 = .ok (.ishl, 1) := by decide +kernel
theorem dX4_load_18 : decode cX4_load 18 = .ok (.iconst 1, 1) := by decide +kernel
theorem dX4_load_19 : decode cX4_load 19 = .ok (.isub, 1) := by decide +kernel
theorem dX4_load_20 : decode cX4_load 20 = .ok (.iand, 1) := by decide +kernel
theorem dX4_load_21 : decode cX4_load 21 = .ok (.ifCond .eq 6, 3) := by decide +kernel
theorem dX4_load_24 : decode cX4_load 24 = .ok (.bipush 7, 2) := by decide +kernel
theorem dX4_load_26 : decode cX4_load 26 = .ok (.ireturn, 1) := by decide +kernel
theorem dX4_load_27 : decode cX4_load 27 = .ok (.aload_n 0, 1) := by decide +kernel
theorem dX4_load_28 : decode cX4_load 28 = .ok (.getfield 7, 3) := by decide +kernel
theorem dX4_load_31 : decode cX4_load 31 = .ok (.aload_n 0, 1) := by decide +kernel
theorem dX4_load_32 : decode cX4_load 32 = .ok (.getfield 20, 3) := by decide +kernel
theorem dX4_load_35 : decode cX4_load 35 = .ok (.iload_n 3, 1) := by decide +kernel
theorem dX4_load_36 : decode cX4_load 36 = .ok (.iconst 1, 1) := by decide +kernel
theorem dX4_load_37 : decode cX4_load 37 = .ok (.invokevirtual 30, 3) := by decide +kernel
theorem dX4_load_40 : decode cX4_load 40 = .ok (.ifCond .ne 6, 3) := by decide +kernel
theorem dX4_load_43 : decode cX4_load 43 = .ok (.bipush 11, 2) := by decide +kernel
theorem dX4_load_45 : decode cX4_load 45 = .ok (.ireturn, 1) := by decide +kernel
theorem dX4_load_46 : decode cX4_load 46 = .ok (.iload_n 2, 1) := by decide +kernel
theorem dX4_load_47 : decode cX4_load 47 = .ok (.tableswitch 115 0 4 #[33, 54, 75, 115, 95], 33) := by decide +kernel
theorem dX4_load_80 : decode cX4_load 80 = .ok (.aload_n 0, 1) := by decide +kernel
theorem dX4_load_81 : decode cX4_load 81 = .ok (.iload_n 1, 1) := by decide +kernel
theorem dX4_load_82 : decode cX4_load 82 = .ok (.aload_n 0, 1) := by decide +kernel
theorem dX4_load_83 : decode cX4_load 83 = .ok (.getfield 7, 3) := by decide +kernel
theorem dX4_load_86 : decode cX4_load 86 = .ok (.aload_n 0, 1) := by decide +kernel
theorem dX4_load_87 : decode cX4_load 87 = .ok (.getfield 20, 3) := by decide +kernel
theorem dX4_load_90 : decode cX4_load 90 = .ok (.iload_n 3, 1) := by decide +kernel
theorem dX4_load_91 : decode cX4_load 91 = .ok (.invokevirtual 94, 3) := by decide +kernel
theorem dX4_load_94 : decode cX4_load 94 = .ok (.i2b, 1) := by decide +kernel
theorem dX4_load_95 : decode cX4_load 95 = .ok (.invokevirtual 52, 3) := by decide +kernel
theorem dX4_load_98 : decode cX4_load 98 = .ok (.goto 81, 3) := by decide +kernel
theorem dX4_load_101 : decode cX4_load 101 = .ok (.aload_n 0, 1) := by decide +kernel
theorem dX4_load_102 : decode cX4_load 102 = .ok (.iload_n 1, 1) := by decide +kernel
theorem dX4_load_103 : decode cX4_load 103 = .ok (.aload_n 0, 1) := by decide +kernel
theorem dX4_load_104 : decode cX4_load 104 = .ok (.getfield 7, 3) := by decide +kernel
theorem dX4_load_107 : decode cX4_load 107 = .ok (.aload_n 0, 1) := by decide +kernel
theorem dX4_load_108 : decode cX4_load 108 = .ok (.getfield 20, 3) := by decide +kernel
theorem dX4_load_111 : decode cX4_load 111 = .ok (.iload_n 3, 1) := by decide +kernel
theorem dX4_load_112 : decode cX4_load 112 = .ok (.invokevirtual 34, 3) := by decide +kernel
theorem dX4_load_115 : decode cX4_load 115 = .ok (.i2s, 1) := by decide +kernel
theorem dX4_load_116 : decode cX4_load 116 = .ok (.invokevirtual 52, 3) := by decide +kernel
theorem dX4_load_119 : decode cX4_load 119 = .ok (.goto 60, 3) := by decide +kernel
theorem dX4_load_122 : decode cX4_load 122 = .ok (.aload_n 0, 1) := by decide +kernel
theorem dX4_load_123 : decode cX4_load 123 = .ok (.iload_n 1, 1) := by decide +kernel
theorem dX4_load_124 : decode cX4_load 124 = .ok (.aload_n 0, 1) := by decide +kernel
theorem dX4_load_125 : decode cX4_load 125 = .ok (.getfield 7, 3) := by decide +kernel
theorem dX4_load_128 : decode cX4_load 128 = .ok (.aload_n 0, 1) := by decide +kernel
theorem dX4_load_129 : decode cX4_load 129 = .ok (.getfield 20, 3) := by decide +kernel
theorem dX4_load_132 : decode cX4_load 132 = .ok (.iload_n 3, 1) := by decide +kernel
theorem dX4_load_133 : decode cX4_load 133 = .ok (.invokevirtual 97, 3) := by decide +kernel
theorem dX4_load_136 : decode cX4_load 136 = .ok (.invokevirtual 52, 3) := by decide +kernel
theorem dX4_load_139 : decode cX4_load 139 = .ok (.goto 40, 3) := by decide +kernel
theorem dX4_load_142 : decode cX4_load 142 = .ok (.aload_n 0, 1) := by decide +kernel
theorem dX4_load_143 : decode cX4_load 143 = .ok (.iload_n 1, 1) := by decide +kernel
theorem dX4_load_144 : decode cX4_load 144 = .ok (.aload_n 0, 1) := by decide +kernel
theorem dX4_load_145 : decode cX4_load 145 = .ok (.getfield 7, 3) := by decide +kernel
theorem dX4_load_148 : decode cX4_load 148 = .ok (.aload_n 0, 1) := by decide +kernel
theorem dX4_load_149 : decode cX4_load 149 = .ok (.getfield 20, 3) := by decide +kernel
theorem dX4_load_152 : decode cX4_load 152 = .ok (.iload_n 3, 1) := by decide +kernel
theorem dX4_load_153 : decode cX4_load 153 = .ok (.invokevirtual 94, 3) := by decide +kernel
theorem dX4_load_156 : decode cX4_load 156 = .ok (.invokevirtual 52, 3) := by decide +kernel
theorem dX4_load_159 : decode cX4_load 159 = .ok (.goto 20, 3) := by decide +kernel
theorem dX4_load_162 : decode cX4_load 162 = .ok (.aload_n 0, 1) := by decide +kernel
theorem dX4_load_163 : decode cX4_load 163 = .ok (.iload_n 1, 1) := by decide +kernel
theorem dX4_load_164 : decode cX4_load 164 = .ok (.aload_n 0, 1) := by decide +kernel
theorem dX4_load_165 : decode cX4_load 165 = .ok (.getfield 7, 3) := by decide +kernel
theorem dX4_load_168 : decode cX4_load 168 = .ok (.aload_n 0, 1) := by decide +kernel
theorem dX4_load_169 : decode cX4_load 169 = .ok (.getfield 20, 3) := by decide +kernel
theorem dX4_load_172 : decode cX4_load 172 = .ok (.iload_n 3, 1) := by decide +kernel
theorem dX4_load_173 : decode cX4_load 173 = .ok (.invokevirtual 34, 3) := by decide +kernel
theorem dX4_load_176 : decode cX4_load 176 = .ok (.invokevirtual 52, 3) := by decide +kernel
theorem dX4_load_179 : decode cX4_load 179 = .ok (.iconst 0, 1) := by decide +kernel
theorem dX4_load_180 : decode cX4_load 180 = .ok (.ireturn, 1) := by decide +kernel
theorem dX4_store_0 : decode cX4_store 0 = .ok (.iload_n 1, 1) := by decide +kernel
theorem dX4_store_1 : decode cX4_store 1 = .ok (.iconst 2, 1) := by decide +kernel
theorem dX4_store_2 : decode cX4_store 2 = .ok (.if_icmp .le 5, 3) := by decide +kernel
theorem dX4_store_5 : decode cX4_store 5 = .ok (.iconst 4, 1) := by decide +kernel
theorem dX4_store_6 : decode cX4_store 6 = .ok (.ireturn, 1) := by decide +kernel
theorem dX4_store_7 : decode cX4_store 7 = .ok (.iload_n 2, 1) := by decide +kernel
theorem dX4_store_8 : decode cX4_store 8 = .ok (.iconst 1, 1) := by decide +kernel
theorem dX4_store_9 : decode cX4_store 9 = .ok (.iload_n 1, 1) := by decide +kernel
theorem dX4_store_10 : decode cX4_store 10 = .ok (.ishl, 1) := by decide +kernel
theorem dX4_store_11 : decode cX4_store 11 = .ok (.iconst 1, 1) := by decide +kernel
theorem dX4_store_12 : decode cX4_store 12 = .ok (.isub, 1) := by decide +kernel
theorem dX4_store_13 : decode cX4_store 13 = .ok (.iand, 1) := by decide +kernel
theorem dX4_store_14 : decode cX4_store 14 = .ok (.ifCond .eq 6, 3) := by decide +kernel
theorem dX4_store_17 : decode cX4_store 17 = .ok (.bipush 7, 2) := by decide +kernel
theorem dX4_store_19 : decode cX4_store 19 = .ok (.ireturn, 1) := by decide +kernel
theorem dX4_store_20 : decode cX4_store 20 = .ok (.aload_n 0, 1) := by decide +kernel
theorem dX4_store_21 : decode cX4_store 21 = .ok (.getfield 7, 3) := by decide +kernel
theorem dX4_store_24 : decode cX4_store 24 = .ok (.aload_n 0, 1) := by decide +kernel
theorem dX4_store_25 : decode cX4_store 25 = .ok (.getfield 20, 3) := by decide +kernel
theorem dX4_store_28 : decode cX4_store 28 = .ok (.iload_n 2, 1) := by decide +kernel
theorem dX4_store_29 : decode cX4_store 29 = .ok (.iconst 2, 1) := by decide +kernel
theorem dX4_store_30 : decode cX4_store 30 = .ok (.invokevirtual 30, 3) := by decide +kernel
theorem dX4_store_33 : decode cX4_store 33 = .ok (.ifCond .ne 6, 3) := by decide +kernel
theorem dX4_store_36 : decode cX4_store 36 = .ok (.bipush 11, 2) := by decide +kernel
theorem dX4_store_38 : decode cX4_store 38 = .ok (.ireturn, 1) := by decide +kernel
theorem dX4_store_39 : decode cX4_store 39 = .ok (.aload_n 0, 1) := by decide +kernel
theorem dX4_store_40 : decode cX4_store 40 = .ok (.getfield 7, 3) := by decide +kernel
theorem dX4_store_43 : decode cX4_store 43 = .ok (.aload_n 0, 1) := by decide +kernel
theorem dX4_store_44 : decode cX4_store 44 = .ok (.getfield 20, 3) := by decide +kernel
theorem dX4_store_47 : decode cX4_store 47 = .ok (.iload_n 2, 1) := by decide +kernel
theorem dX4_store_48 : decode cX4_store 48 = .ok (.invokevirtual 100, 3) := by decide +kernel
theorem dX4_store_51 : decode cX4_store 51 = .ok (.ifCond .ne 6, 3) := by decide +kernel
theorem dX4_store_54 : decode cX4_store 54 = .ok (.bipush 7, 2) := by decide +kernel
theorem dX4_store_56 : decode cX4_store 56 = .ok (.ireturn, 1) := by decide +kernel
theorem dX4_store_57 : decode cX4_store 57 = .ok (.aload_n 0, 1) := by decide +kernel
theorem dX4_store_58 : decode cX4_store 58 = .ok (.getfield 7, 3) := by decide +kernel
theorem dX4_store_61 : decode cX4_store 61 = .ok (.aload_n 0, 1) := by decide +kernel
theorem dX4_store_62 : decode cX4_store 62 = .ok (.getfield 20, 3) := by decide +kernel
theorem dX4_store_65 : decode cX4_store 65 = .ok (.iload_n 2, 1) := by decide +kernel
theorem dX4_store_66 : decode cX4_store 66 = .ok (.iload_n 1, 1) := by decide +kernel
theorem dX4_store_67 : decode cX4_store 67 = .ok (.ifCond .ne 9, 3) := by decide +kernel
theorem dX4_store_70 : decode cX4_store 70 = .ok (.sipush 255, 3) := by decide +kernel
theorem dX4_store_73 : decode cX4_store 73 = .ok (.goto 14, 3) := by decide +kernel
theorem dX4_store_76 : decode cX4_store 76 = .ok (.iload_n 1, 1) := by decide +kernel
theorem dX4_store_77 : decode cX4_store 77 = .ok (.iconst 1, 1) := by decide +kernel
theorem dX4_store_78 : decode cX4_store 78 = .ok (.if_icmp .ne 8, 3) := by decide +kernel
theorem dX4_store_81 : decode cX4_store 81 = .ok (.ldc 104, 2) := by decide +kernel
theorem dX4_store_83 : decode cX4_store 83 = .ok (.goto 4, 3) := by decide +kernel
theorem dX4_store_86 : decode cX4_store 86 = .ok (.iconst (-1), 1) := by decide +kernel
theorem dX4_store_87 : decode cX4_store 87 = .ok (.iload_n 3, 1) := by decide +kernel
theorem dX4_store_88 : decode cX4_store 88 = .ok (.invokevirtual 105, 3) := by decide +kernel
theorem dX4_store_91 : decode cX4_store 91 = .ok (.aload_n 0, 1) := by decide +kernel
theorem dX4_store_92 : decode cX4_store 92 = .ok (.getfield 7, 3) := by decide +kernel
theorem dX4_store_95 : decode cX4_store 95 = .ok (.aload_n 0, 1) := by decide +kernel
theorem dX4_store_96 : decode cX4_store 96 = .ok (.getfield 20, 3) := by decide +kernel
theorem dX4_store_99 : decode cX4_store 99 = .ok (.iload_n 2, 1) := by decide +kernel
theorem dX4_store_100 : decode cX4_store 100 = .ok (.iconst 1, 1) := by decide +kernel
theorem dX4_store_101 : decode cX4_store 101 = .ok (.iload_n 1, 1) := by decide +kernel
theorem dX4_store_102 : decode cX4_store 102 = .ok (.ishl, 1) := by decide +kernel
theorem dX4_store_103 : decode cX4_store 103 = .ok (.invokevirtual 109, 3) := by decide +kernel
theorem dX4_store_106 : decode cX4_store 106 = .ok (.iconst 0, 1) := by decide +kernel
theorem dX4_store_107 : decode cX4_store 107 = .ok (.ireturn, 1) := by decide +kernel
theorem dX4_workWithNumber_0 : decode cX4_workWithNumber 0 = .ok (.iload_n 1, 1) := by decide +kernel
theorem dX4_workWithNumber_1 : decode cX4_workWithNumber 1 = .ok (.bipush 20, 2) := by decide +kernel
theorem dX4_workWithNumber_3 : decode cX4_workWithNumber 3 = .ok (.ishr, 1) := by decide +kernel
theorem dX4_workWithNumber_4 : decode cX4_workWithNumber 4 = .ok (.istore 4, 2) := by decide +kernel
theorem dX4_workWithNumber_6 : decode cX4_workWithNumber 6 = .ok (.iload_n 1, 1) := by decide +kernel
theorem dX4_workWithNumber_7 : decode cX4_workWithNumber 7 = .ok (.bipush 25, 2) := by decide +kernel
theorem dX4_workWithNumber_9 : decode cX4_workWithNumber 9 = .ok (.iushr, 1) := by decide +kernel
theorem dX4_workWithNumber_10 : decode cX4_workWithNumber 10 = .ok (.istore 5, 2) := by decide +kernel
theorem dX4_workWithNumber_12 : decode cX4_workWithNumber 12 = .ok (.iload_n 2, 1) := by decide +kernel
theorem dX4_workWithNumber_13 : decode cX4_workWithNumber 13 = .ok (.iconst 1, 1) := by decide +kernel
theorem dX4_workWithNumber_14 : decode cX4_workWithNumber 14 = .ok (.if_icmp .ne 8, 3) := by decide +kernel
theorem dX4_workWithNumber_17 : decode cX4_workWithNumber 17 = .ok (.iload 5, 2) := by decide +kernel
theorem dX4_workWithNumber_19 : decode cX4_workWithNumber 19 = .ok (.ifCond .ne 20, 3) := by decide +kernel
theorem dX4_workWithNumber_22 : decode cX4_workWithNumber 22 = .ok (.iload_n 2, 1) := by decide +kernel
theorem dX4_workWithNumber_23 : decode cX4_workWithNumber 23 = .ok (.iconst 5, 1) := by decide +kernel
theorem dX4_workWithNumber_24 : decode cX4_workWithNumber 24 = .ok (.if_icmp .ne 17, 3) := by decide +kernel
theorem dX4_workWithNumber_27 : decode cX4_workWithNumber 27 = .ok (.iload 5, 2) := by decide +kernel
theorem dX4_workWithNumber_29 : decode cX4_workWithNumber 29 = .ok (.ifCond .eq 12, 3) := by decide +kernel
theorem dX4_workWithNumber_32 : decode cX4_workWithNumber 32 = .ok (.iload 5, 2) := by decide +kernel
theorem dX4_workWithNumber_34 : decode cX4_workWithNumber 34 = .ok (.bipush 32, 2) := by decide +kernel
theorem dX4_workWithNumber_36 : decode cX4_workWithNumber 36 = .ok (.if_icmp .eq 5, 3) := by decide +kernel
theorem dX4_workWithNumber_39 : decode cX4_workWithNumber 39 = .ok (.iconst 4, 1) := by decide +kernel
theorem dX4_workWithNumber_40 : decode cX4_workWithNumber 40 = .ok (.ireturn, 1) := by decide +kernel
theorem dX4_workWithNumber_41 : decode cX4_workWithNumber 41 = .ok (.aload_n 0, 1) := by decide +kernel
theorem dX4_workWithNumber_42 : decode cX4_workWithNumber 42 = .ok (.iload_n 1, 1) := by decide +kernel
theorem dX4_workWithNumber_43 : decode cX4_workWithNumber 43 = .ok (.iload_n 2, 1) := by decide +kernel
theorem dX4_workWithNumber_44 : decode cX4_workWithNumber 44 = .ok (.iconst 5, 1) := by decide +kernel
theorem dX4_workWithNumber_45 : decode cX4_workWithNumber 45 = .ok (.if_icmp .ne 20, 3) := by decide +kernel
theorem dX4_workWithNumber_48 : decode cX4_workWithNumber 48 = .ok (.iload 5, 2) := by decide +kernel
theorem dX4_workWithNumber_50 : decode cX4_workWithNumber 50 = .ok (.bipush 32, 2) := by decide +kernel
theorem dX4_workWithNumber_52 : decode cX4_workWithNumber 52 = .ok (.if_icmp .ne 13, 3) := by decide +kernel
theorem dX4_workWithNumber_55 : decode cX4_workWithNumber 55 = .ok (.iload_n 3, 1) := by decide +kernel
theorem dX4_workWithNumber_56 : decode cX4_workWithNumber 56 = .ok (.iload 4, 2) := by decide +kernel
theorem dX4_workWithNumber_58 : decode cX4_workWithNumber 58 = .ok (.bipush 31, 2) := by decide +kernel
theorem dX4_workWithNumber_60 : decode cX4_workWithNumber 60 = .ok (.iand, 1) := by decide +kernel
theorem dX4_workWithNumber_61 : decode cX4_workWithNumber 61 = .ok (.ishr, 1) := by decide +kernel
theorem dX4_workWithNumber_62 : decode cX4_workWithNumber 62 = .ok (.goto 10, 3) := by decide +kernel
theorem dX4_workWithNumber_65 : decode cX4_workWithNumber 65 = .ok (.iload_n 2, 1) := by decide +kernel
theorem dX4_workWithNumber_66 : decode cX4_workWithNumber 66 = .ok (.iload_n 3, 1) := by decide +kernel
theorem dX4_workWithNumber_67 : decode cX4_workWithNumber 67 = .ok (.iload 4, 2) := by decide +kernel
theorem dX4_workWithNumber_69 : decode cX4_workWithNumber 69 = .ok (.invokestatic 113, 3) := by decide +kernel
theorem dX4_workWithNumber_72 : decode cX4_workWithNumber 72 = .ok (.invokevirtual 52, 3) := by decide +kernel
theorem dX4_workWithNumber_75 : decode cX4_workWithNumber 75 = .ok (.iconst 0, 1) := by decide +kernel
theorem dX4_workWithNumber_76 : decode cX4_workWithNumber 76 = .ok (.ireturn, 1) := by decide +kernel
theorem dX4_workWithRegister_0 : decode cX4_workWithRegister 0 = .ok (.iload_n 1, 1) := by decide +kernel
theorem dX4_workWithRegister_1 : decode cX4_workWithRegister 1 = .ok (.bipush 25, 2) := by decide +kernel
theorem dX4_workWithRegister_3 : decode cX4_workWithRegister 3 = .ok (.iushr, 1) := by decide +kernel
theorem dX4_workWithRegister_4 : decode cX4_workWithRegister 4 = .ok (.istore 5, 2) := by decide +kernel
theorem dX4_workWithRegister_6 : decode cX4_workWithRegister 6 = .ok (.iload 5, 2) := by decide +kernel
theorem dX4_workWithRegister_8 : decode cX4_workWithRegister 8 = .ok (.ifCond .ne 18, 3) := by decide +kernel
theorem dX4_workWithRegister_11 : decode cX4_workWithRegister 11 = .ok (.aload_n 0, 1) := by decide +kernel
theorem dX4_workWithRegister_12 : decode cX4_workWithRegister 12 = .ok (.iload_n 1, 1) := by decide +kernel
theorem dX4_workWithRegister_13 : decode cX4_workWithRegister 13 = .ok (.iload_n 2, 1) := by decide +kernel
theorem dX4_workWithRegister_14 : decode cX4_workWithRegister 14 = .ok (.iload_n 3, 1) := by decide +kernel
theorem dX4_workWithRegister_15 : decode cX4_workWithRegister 15 = .ok (.iload 4, 2) := by decide +kernel
theorem dX4_workWithRegister_17 : decode cX4_workWithRegister 17 = .ok (.invokestatic 113, 3) := by decide +kernel
theorem dX4_workWithRegister_20 : decode cX4_workWithRegister 20 = .ok (.invokevirtual 52, 3) := by decide +kernel
theorem dX4_workWithRegister_23 : decode cX4_workWithRegister 23 = .ok (.goto 55, 3) := by decide +kernel
theorem dX4_workWithRegister_26 : decode cX4_workWithRegister 26 = .ok (.iload 5, 2) := by decide +kernel
theorem dX4_workWithRegister_28 : decode cX4_workWithRegister 28 = .ok (.bipush 32, 2) := by decide +kernel
theorem dX4_workWithRegister_30 : decode cX4_workWithRegister 30 = .ok (.if_icmp .ne 19, 3) := by decide +kernel
theorem dX4_workWithRegister_33 : decode cX4_workWithRegister 33 = .ok (.iload_n 2, 1) := by decide +kernel
theorem dX4_workWithRegister_34 : decode cX4_workWithRegister 34 = .ok (.ifCond .ne 15, 3) := by decide +kernel
theorem dX4_workWithRegister_37 : decode cX4_workWithRegister 37 = .ok (.aload_n 0, 1) := by decide +kernel
theorem dX4_workWithRegister_38 : decode cX4_workWithRegister 38 = .ok (.iload_n 1, 1) := by decide +kernel
theorem dX4_workWithRegister_39 : decode cX4_workWithRegister 39 = .ok (.iload_n 3, 1) := by decide +kernel
theorem dX4_workWithRegister_40 : decode cX4_workWithRegister 40 = .ok (.iload 4, 2) := by decide +kernel
theorem dX4_workWithRegister_42 : decode cX4_workWithRegister 42 = .ok (.isub, 1) := by decide +kernel
theorem dX4_workWithRegister_43 : decode cX4_workWithRegister 43 = .ok (.invokevirtual 52, 3) := by decide +kernel
theorem dX4_workWithRegister_46 : decode cX4_workWithRegister 46 = .ok (.goto 32, 3) := by decide +kernel
theorem dX4_workWithRegister_49 : decode cX4_workWithRegister 49 = .ok (.iload 5, 2) := by decide +kernel
theorem dX4_workWithRegister_51 : decode cX4_workWithRegister 51 = .ok (.bipush 32, 2) := by decide +kernel
theorem dX4_workWithRegister_53 : decode cX4_workWithRegister 53 = .ok (.if_icmp .ne 23, 3) := by decide +kernel
theorem dX4_workWithRegister_56 : decode cX4_workWithRegister 56 = .ok (.iload_n 2, 1) := by decide +kernel
theorem dX4_workWithRegister_57 : decode cX4_workWithRegister 57 = .ok (.iconst 5, 1) := by decide +kernel
theorem dX4_workWithRegister_58 : decode cX4_workWithRegister 58 = .ok (.if_icmp .ne 18, 3) := by decide +kernel
theorem dX4_workWithRegister_61 : decode cX4_workWithRegister 61 = .ok (.aload_n 0, 1) := by decide +kernel
theorem dX4_workWithRegister_62 : decode cX4_workWithRegister 62 = .ok (.iload_n 1, 1) := by decide +kernel
theorem dX4_workWithRegister_63 : decode cX4_workWithRegister 63 = .ok (.iload_n 3, 1) := by decide +kernel
theorem dX4_workWithRegister_64 : decode cX4_workWithRegister 64 = .ok (.iload 4, 2) := by decide +kernel
theorem dX4_workWithRegister_66 : decode cX4_workWithRegister 66 = .ok (.bipush 31, 2) := by decide +kernel
theorem dX4_workWithRegister_68 : decode cX4_workWithRegister 68 = .ok (.iand, 1) := by decide +kernel
theorem dX4_workWithRegister_69 : decode cX4_workWithRegister 69 = .ok (.ishr, 1) := by decide +kernel
theorem dX4_workWithRegister_70 : decode cX4_workWithRegister 70 = .ok (.invokevirtual 52, 3) := by decide +kernel
theorem dX4_workWithRegister_73 : decode cX4_workWithRegister 73 = .ok (.goto 5, 3) := by decide +kernel
theorem dX4_workWithRegister_76 : decode cX4_workWithRegister 76 = .ok (.iconst 4, 1) := by decide +kernel
theorem dX4_workWithRegister_77 : decode cX4_workWithRegister 77 = .ok (.ireturn, 1) := by decide +kernel
theorem dX4_workWithRegister_78 : decode cX4_workWithRegister 78 = .ok (.iconst 0, 1) := by decide +kernel
theorem dX4_workWithRegister_79 : decode cX4_workWithRegister 79 = .ok (.ireturn, 1) := by decide +kernel
theorem dX4_reckoned_0 : decode cX4_reckoned 0 = .ok (.iload_n 0, 1) := by decide +kernel
theorem dX4_reckoned_1 : decode cX4_reckoned 1 = .ok (.tableswitch 94 0 6 #[43, 47, 54, 65, 79, 83, 90], 43) := by decide +kernel
theorem dX4_reckoned_44 : decode cX4_reckoned 44 = .ok (.iload_n 1, 1) := by decide +kernel
theorem dX4_reckoned_45 : decode cX4_reckoned 45 = .ok (.iload_n 2, 1) := by decide +kernel
theorem dX4_reckoned_46 : decode cX4_reckoned 46 = .ok (.iadd, 1) := by decide +kernel
theorem dX4_reckoned_47 : decode cX4_reckoned 47 = .ok (.ireturn, 1) := by decide +kernel
theorem dX4_reckoned_48 : decode cX4_reckoned 48 = .ok (.iload_n 1, 1) := by decide +kernel
theorem dX4_reckoned_49 : decode cX4_reckoned 49 = .ok (.iload_n 2, 1) := by decide +kernel
theorem dX4_reckoned_50 : decode cX4_reckoned 50 = .ok (.bipush 31, 2) := by decide +kernel
theorem dX4_reckoned_52 : decode cX4_reckoned 52 = .ok (.iand, 1) := by decide +kernel
theorem dX4_reckoned_53 : decode cX4_reckoned 53 = .ok (.ishl, 1) := by decide +kernel
theorem dX4_reckoned_54 : decode cX4_reckoned 54 = .ok (.ireturn, 1) := by decide +kernel
theorem dX4_reckoned_55 : decode cX4_reckoned 55 = .ok (.iload_n 1, 1) := by decide +kernel
theorem dX4_reckoned_56 : decode cX4_reckoned 56 = .ok (.iload_n 2, 1) := by decide +kernel
theorem dX4_reckoned_57 : decode cX4_reckoned 57 = .ok (.if_icmp .ge 7, 3) := by decide +kernel
theorem dX4_reckoned_60 : decode cX4_reckoned 60 = .ok (.iconst 1, 1) := by decide +kernel
theorem dX4_reckoned_61 : decode cX4_reckoned 61 = .ok (.goto 4, 3) := by decide +kernel
theorem dX4_reckoned_64 : decode cX4_reckoned 64 = .ok (.iconst 0, 1) := by decide +kernel
theorem dX4_reckoned_65 : decode cX4_reckoned 65 = .ok (.ireturn, 1) := by decide +kernel
theorem dX4_reckoned_66 : decode cX4_reckoned 66 = .ok (.iload_n 1, 1) := by decide +kernel
theorem dX4_reckoned_67 : decode cX4_reckoned 67 = .ok (.iload_n 2, 1) := by decide +kernel
theorem dX4_reckoned_68 : decode cX4_reckoned 68 = .ok (.invokestatic 89, 3) := by decide +kernel
theorem dX4_reckoned_71 : decode cX4_reckoned 71 = .ok (.ifCond .ge 7, 3) := by decide +kernel
theorem dX4_reckoned_74 : decode cX4_reckoned 74 = .ok (.iconst 1, 1) := by decide +kernel
theorem dX4_reckoned_75 : decode cX4_reckoned 75 = .ok (.goto 4, 3) := by decide +kernel
theorem dX4_reckoned_78 : decode cX4_reckoned 78 = .ok (.iconst 0, 1) := by decide +kernel
theorem dX4_reckoned_79 : decode cX4_reckoned 79 = .ok (.ireturn, 1) := by decide +kernel
theorem dX4_reckoned_80 : decode cX4_reckoned 80 = .ok (.iload_n 1, 1) := by decide +kernel
theorem dX4_reckoned_81 : decode cX4_reckoned 81 = .ok (.iload_n 2, 1) := by decide +kernel
theorem dX4_reckoned_82 : decode cX4_reckoned 82 = .ok (.ixor, 1) := by decide +kernel
theorem dX4_reckoned_83 : decode cX4_reckoned 83 = .ok (.ireturn, 1) := by decide +kernel
theorem dX4_reckoned_84 : decode cX4_reckoned 84 = .ok (.iload_n 1, 1) := by decide +kernel
theorem dX4_reckoned_85 : decode cX4_reckoned 85 = .ok (.iload_n 2, 1) := by decide +kernel
theorem dX4_reckoned_86 : decode cX4_reckoned 86 = .ok (.bipush 31, 2) := by decide +kernel
theorem dX4_reckoned_88 : decode cX4_reckoned 88 = .ok (.iand, 1) := by decide +kernel
theorem dX4_reckoned_89 : decode cX4_reckoned 89 = .ok (.iushr, 1) := by decide +kernel
theorem dX4_reckoned_90 : decode cX4_reckoned 90 = .ok (.ireturn, 1) := by decide +kernel
theorem dX4_reckoned_91 : decode cX4_reckoned 91 = .ok (.iload_n 1, 1) := by decide +kernel
theorem dX4_reckoned_92 : decode cX4_reckoned 92 = .ok (.iload_n 2, 1) := by decide +kernel
theorem dX4_reckoned_93 : decode cX4_reckoned 93 = .ok (.ior, 1) := by decide +kernel
theorem dX4_reckoned_94 : decode cX4_reckoned 94 = .ok (.ireturn, 1) := by decide +kernel
theorem dX4_reckoned_95 : decode cX4_reckoned 95 = .ok (.iload_n 1, 1) := by decide +kernel
theorem dX4_reckoned_96 : decode cX4_reckoned 96 = .ok (.iload_n 2, 1) := by decide +kernel
theorem dX4_reckoned_97 : decode cX4_reckoned 97 = .ok (.iand, 1) := by decide +kernel
theorem dX4_reckoned_98 : decode cX4_reckoned 98 = .ok (.ireturn, 1) := by decide +kernel
theorem dX4_multiply_0 : decode cX4_multiply 0 = .ok (.iload_n 3, 1) := by decide +kernel
theorem dX4_multiply_1 : decode cX4_multiply 1 = .ok (.i2l, 1) := by decide +kernel
theorem dX4_multiply_2 : decode cX4_multiply 2 = .ok (.ldc2_w 116, 3) := by decide +kernel
theorem dX4_multiply_5 : decode cX4_multiply 5 = .ok (.land, 1) := by decide +kernel
theorem dX4_multiply_6 : decode cX4_multiply 6 = .ok (.lstore 5, 2) := by decide +kernel
theorem dX4_multiply_8 : decode cX4_multiply 8 = .ok (.iload 4, 2) := by decide +kernel
theorem dX4_multiply_10 : decode cX4_multiply 10 = .ok (.i2l, 1) := by decide +kernel
theorem dX4_multiply_11 : decode cX4_multiply 11 = .ok (.ldc2_w 116, 3) := by decide +kernel
theorem dX4_multiply_14 : decode cX4_multiply 14 = .ok (.land, 1) := by decide +kernel
theorem dX4_multiply_15 : decode cX4_multiply 15 = .ok (.lstore 7, 2) := by decide +kernel
theorem dX4_multiply_17 : decode cX4_multiply 17 = .ok (.iload_n 2, 1) := by decide +kernel
theorem dX4_multiply_18 : decode cX4_multiply 18 = .ok (.tableswitch 150 0 6 #[42, 51, 66, 80, 94, 112, 132], 42) := by decide +kernel
theorem dX4_multiply_60 : decode cX4_multiply 60 = .ok (.iload_n 3, 1) := by decide +kernel
theorem dX4_multiply_61 : decode cX4_multiply 61 = .ok (.iload 4, 2) := by decide +kernel
theorem dX4_multiply_63 : decode cX4_multiply 63 = .ok (.imul, 1) := by decide +kernel
theorem dX4_multiply_64 : decode cX4_multiply 64 = .ok (.istore 9, 2) := by decide +kernel
theorem dX4_multiply_66 : decode cX4_multiply 66 = .ok (.goto 119, 3) := by decide +kernel
theorem dX4_multiply_69 : decode cX4_multiply 69 = .ok (.iload_n 3, 1) := by decide +kernel
theorem dX4_multiply_70 : decode cX4_multiply 70 = .ok (.i2l, 1) := by decide +kernel
theorem dX4_multiply_71 : decode cX4_multiply 71 = .ok (.iload 4, 2) := by decide +kernel
theorem dX4_multiply_73 : decode cX4_multiply 73 = .ok (.i2l, 1) := by decide +kernel
theorem dX4_multiply_74 : decode cX4_multiply 74 = .ok (.lmul, 1) := by decide +kernel
theorem dX4_multiply_75 : decode cX4_multiply 75 = .ok (.bipush 32, 2) := by decide +kernel
theorem dX4_multiply_77 : decode cX4_multiply 77 = .ok (.lshr, 1) := by decide +kernel
theorem dX4_multiply_78 : decode cX4_multiply 78 = .ok (.l2i, 1) := by decide +kernel
theorem dX4_multiply_79 : decode cX4_multiply 79 = .ok (.istore 9, 2) := by decide +kernel
theorem dX4_multiply_81 : decode cX4_multiply 81 = .ok (.goto 104, 3) := by decide +kernel
theorem dX4_multiply_84 : decode cX4_multiply 84 = .ok (.iload_n 3, 1) := by decide +kernel
theorem dX4_multiply_85 : decode cX4_multiply 85 = .ok (.i2l, 1) := by decide +kernel
theorem dX4_multiply_86 : decode cX4_multiply 86 = .ok (.lload 7, 2) := by decide +kernel
theorem dX4_multiply_88 : decode cX4_multiply 88 = .ok (.lmul, 1) := by decide +kernel
theorem dX4_multiply_89 : decode cX4_multiply 89 = .ok (.bipush 32, 2) := by decide +kernel
theorem dX4_multiply_91 : decode cX4_multiply 91 = .ok (.lshr, 1) := by decide +kernel
theorem dX4_multiply_92 : decode cX4_multiply 92 = .ok (.l2i, 1) := by decide +kernel
theorem dX4_multiply_93 : decode cX4_multiply 93 = .ok (.istore 9, 2) := by decide +kernel
theorem dX4_multiply_95 : decode cX4_multiply 95 = .ok (.goto 90, 3) := by decide +kernel
theorem dX4_multiply_98 : decode cX4_multiply 98 = .ok (.lload 5, 2) := by decide +kernel
theorem dX4_multiply_100 : decode cX4_multiply 100 = .ok (.lload 7, 2) := by decide +kernel
theorem dX4_multiply_102 : decode cX4_multiply 102 = .ok (.lmul, 1) := by decide +kernel
theorem dX4_multiply_103 : decode cX4_multiply 103 = .ok (.bipush 32, 2) := by decide +kernel
theorem dX4_multiply_105 : decode cX4_multiply 105 = .ok (.lushr, 1) := by decide +kernel
theorem dX4_multiply_106 : decode cX4_multiply 106 = .ok (.l2i, 1) := by decide +kernel
theorem dX4_multiply_107 : decode cX4_multiply 107 = .ok (.istore 9, 2) := by decide +kernel
theorem dX4_multiply_109 : decode cX4_multiply 109 = .ok (.goto 76, 3) := by decide +kernel
theorem dX4_multiply_112 : decode cX4_multiply 112 = .ok (.iload 4, 2) := by decide +kernel
theorem dX4_multiply_114 : decode cX4_multiply 114 = .ok (.ifCond .ne 7, 3) := by decide +kernel
theorem dX4_multiply_117 : decode cX4_multiply 117 = .ok (.iconst (-1), 1) := by decide +kernel
theorem dX4_multiply_118 : decode cX4_multiply 118 = .ok (.goto 7, 3) := by decide +kernel
theorem dX4_multiply_121 : decode cX4_multiply 121 = .ok (.iload_n 3, 1) := by decide +kernel
theorem dX4_multiply_122 : decode cX4_multiply 122 = .ok (.iload 4, 2) := by decide +kernel
theorem dX4_multiply_124 : decode cX4_multiply 124 = .ok (.idiv, 1) := by decide +kernel
theorem dX4_multiply_125 : decode cX4_multiply 125 = .ok (.istore 9, 2) := by decide +kernel
theorem dX4_multiply_127 : decode cX4_multiply 127 = .ok (.goto 58, 3) := by decide +kernel
theorem dX4_multiply_130 : decode cX4_multiply 130 = .ok (.iload 4, 2) := by decide +kernel
theorem dX4_multiply_132 : decode cX4_multiply 132 = .ok (.ifCond .ne 7, 3) := by decide +kernel
theorem dX4_multiply_135 : decode cX4_multiply 135 = .ok (.iconst (-1), 1) := by decide +kernel
theorem dX4_multiply_136 : decode cX4_multiply 136 = .ok (.goto 9, 3) := by decide +kernel
theorem dX4_multiply_139 : decode cX4_multiply 139 = .ok (.lload 5, 2) := by decide +kernel
theorem dX4_multiply_141 : decode cX4_multiply 141 = .ok (.lload 7, 2) := by decide +kernel
theorem dX4_multiply_143 : decode cX4_multiply 143 = .ok (.ldiv, 1) := by decide +kernel
theorem dX4_multiply_144 : decode cX4_multiply 144 = .ok (.l2i, 1) := by decide +kernel
theorem dX4_multiply_145 : decode cX4_multiply 145 = .ok (.istore 9, 2) := by decide +kernel
theorem dX4_multiply_147 : decode cX4_multiply 147 = .ok (.goto 38, 3) := by decide +kernel
theorem dX4_multiply_150 : decode cX4_multiply 150 = .ok (.iload 4, 2) := by decide +kernel
theorem dX4_multiply_152 : decode cX4_multiply 152 = .ok (.ifCond .ne 7, 3) := by decide +kernel
theorem dX4_multiply_155 : decode cX4_multiply 155 = .ok (.iload_n 3, 1) := by decide +kernel
theorem dX4_multiply_156 : decode cX4_multiply 156 = .ok (.goto 7, 3) := by decide +kernel
theorem dX4_multiply_159 : decode cX4_multiply 159 = .ok (.iload_n 3, 1) := by decide +kernel
theorem dX4_multiply_160 : decode cX4_multiply 160 = .ok (.iload 4, 2) := by decide +kernel
theorem dX4_multiply_162 : decode cX4_multiply 162 = .ok (.irem, 1) := by decide +kernel
theorem dX4_multiply_163 : decode cX4_multiply 163 = .ok (.istore 9, 2) := by decide +kernel
theorem dX4_multiply_165 : decode cX4_multiply 165 = .ok (.goto 20, 3) := by decide +kernel
theorem dX4_multiply_168 : decode cX4_multiply 168 = .ok (.iload 4, 2) := by decide +kernel
theorem dX4_multiply_170 : decode cX4_multiply 170 = .ok (.ifCond .ne 7, 3) := by decide +kernel
theorem dX4_multiply_173 : decode cX4_multiply 173 = .ok (.iload_n 3, 1) := by decide +kernel
theorem dX4_multiply_174 : decode cX4_multiply 174 = .ok (.goto 9, 3) := by decide +kernel
theorem dX4_multiply_177 : decode cX4_multiply 177 = .ok (.lload 5, 2) := by decide +kernel
theorem dX4_multiply_179 : decode cX4_multiply 179 = .ok (.lload 7, 2) := by decide +kernel
theorem dX4_multiply_181 : decode cX4_multiply 181 = .ok (.lrem, 1) := by decide +kernel
theorem dX4_multiply_182 : decode cX4_multiply 182 = .ok (.l2i, 1) := by decide +kernel
theorem dX4_multiply_183 : decode cX4_multiply 183 = .ok (.istore 9, 2) := by decide +kernel
theorem dX4_multiply_185 : decode cX4_multiply 185 = .ok (.aload_n 0, 1) := by decide +kernel
theorem dX4_multiply_186 : decode cX4_multiply 186 = .ok (.iload_n 1, 1) := by decide +kernel
theorem dX4_multiply_187 : decode cX4_multiply 187 = .ok (.iload 9, 2) := by decide +kernel
theorem dX4_multiply_189 : decode cX4_multiply 189 = .ok (.invokevirtual 52, 3) := by decide +kernel
theorem dX4_multiply_192 : decode cX4_multiply 192 = .ok (.iconst 0, 1) := by decide +kernel
theorem dX4_multiply_193 : decode cX4_multiply 193 = .ok (.ireturn, 1) := by decide +kernel
theorem dX4_atomic_0 : decode cX4_atomic 0 = .ok (.iload_n 1, 1) := by decide +kernel
theorem dX4_atomic_1 : decode cX4_atomic 1 = .ok (.bipush 27, 2) := by decide +kernel
theorem dX4_atomic_3 : decode cX4_atomic 3 = .ok (.iushr, 1) := by decide +kernel
theorem dX4_atomic_4 : decode cX4_atomic 4 = .ok (.istore 4, 2) := by decide +kernel
theorem dX4_atomic_6 : decode cX4_atomic 6 = .ok (.iload 4, 2) := by decide +kernel
theorem dX4_atomic_8 : decode cX4_atomic 8 = .ok (.iconst 2, 1) := by decide +kernel
theorem dX4_atomic_9 : decode cX4_atomic 9 = .ok (.if_icmp .ne 7, 3) := by decide +kernel
theorem dX4_atomic_12 : decode cX4_atomic 12 = .ok (.iconst 1, 1) := by decide +kernel
theorem dX4_atomic_13 : decode cX4_atomic 13 = .ok (.goto 4, 3) := by decide +kernel
theorem dX4_atomic_16 : decode cX4_atomic 16 = .ok (.iconst 0, 1) := by decide +kernel
theorem dX4_atomic_17 : decode cX4_atomic 17 = .ok (.istore 5, 2) := by decide +kernel
theorem dX4_atomic_19 : decode cX4_atomic 19 = .ok (.iload 5, 2) := by decide +kernel
theorem dX4_atomic_21 : decode cX4_atomic 21 = .ok (.ifCond .eq 13, 3) := by decide +kernel
theorem dX4_atomic_24 : decode cX4_atomic 24 = .ok (.iload_n 1, 1) := by decide +kernel
theorem dX4_atomic_25 : decode cX4_atomic 25 = .ok (.bipush 20, 2) := by decide +kernel
theorem dX4_atomic_27 : decode cX4_atomic 27 = .ok (.ishr, 1) := by decide +kernel
theorem dX4_atomic_28 : decode cX4_atomic 28 = .ok (.bipush 31, 2) := by decide +kernel
theorem dX4_atomic_30 : decode cX4_atomic 30 = .ok (.iand, 1) := by decide +kernel
theorem dX4_atomic_31 : decode cX4_atomic 31 = .ok (.ifCond .ne 11, 3) := by decide +kernel
theorem dX4_atomic_34 : decode cX4_atomic 34 = .ok (.iload 4, 2) := by decide +kernel
theorem dX4_atomic_36 : decode cX4_atomic 36 = .ok (.invokestatic 118, 3) := by decide +kernel
theorem dX4_atomic_39 : decode cX4_atomic 39 = .ok (.ifCond .ne 5, 3) := by decide +kernel
theorem dX4_atomic_42 : decode cX4_atomic 42 = .ok (.iconst 4, 1) := by decide +kernel
theorem dX4_atomic_43 : decode cX4_atomic 43 = .ok (.ireturn, 1) := by decide +kernel
theorem dX4_atomic_44 : decode cX4_atomic 44 = .ok (.iload_n 2, 1) := by decide +kernel
theorem dX4_atomic_45 : decode cX4_atomic 45 = .ok (.iconst 3, 1) := by decide +kernel
theorem dX4_atomic_46 : decode cX4_atomic 46 = .ok (.iand, 1) := by decide +kernel
theorem dX4_atomic_47 : decode cX4_atomic 47 = .ok (.ifCond .eq 6, 3) := by decide +kernel
theorem dX4_atomic_50 : decode cX4_atomic 50 = .ok (.bipush 7, 2) := by decide +kernel
theorem dX4_atomic_52 : decode cX4_atomic 52 = .ok (.ireturn, 1) := by decide +kernel
theorem dX4_atomic_53 : decode cX4_atomic 53 = .ok (.iload 5, 2) := by decide +kernel
theorem dX4_atomic_55 : decode cX4_atomic 55 = .ok (.ifCond .ne 19, 3) := by decide +kernel
theorem dX4_atomic_58 : decode cX4_atomic 58 = .ok (.aload_n 0, 1) := by decide +kernel
theorem dX4_atomic_59 : decode cX4_atomic 59 = .ok (.getfield 7, 3) := by decide +kernel
theorem dX4_atomic_62 : decode cX4_atomic 62 = .ok (.aload_n 0, 1) := by decide +kernel
theorem dX4_atomic_63 : decode cX4_atomic 63 = .ok (.getfield 20, 3) := by decide +kernel
theorem dX4_atomic_66 : decode cX4_atomic 66 = .ok (.iload_n 2, 1) := by decide +kernel
theorem dX4_atomic_67 : decode cX4_atomic 67 = .ok (.iconst 2, 1) := by decide +kernel
theorem dX4_atomic_68 : decode cX4_atomic 68 = .ok (.invokevirtual 30, 3) := by decide +kernel
theorem dX4_atomic_71 : decode cX4_atomic 71 = .ok (.ifCond .eq 19, 3) := by decide +kernel
theorem dX4_atomic_74 : decode cX4_atomic 74 = .ok (.aload_n 0, 1) := by decide +kernel
theorem dX4_atomic_75 : decode cX4_atomic 75 = .ok (.getfield 7, 3) := by decide +kernel
theorem dX4_atomic_78 : decode cX4_atomic 78 = .ok (.aload_n 0, 1) := by decide +kernel
theorem dX4_atomic_79 : decode cX4_atomic 79 = .ok (.getfield 20, 3) := by decide +kernel
theorem dX4_atomic_82 : decode cX4_atomic 82 = .ok (.iload_n 2, 1) := by decide +kernel
theorem dX4_atomic_83 : decode cX4_atomic 83 = .ok (.iconst 1, 1) := by decide +kernel
theorem dX4_atomic_84 : decode cX4_atomic 84 = .ok (.invokevirtual 30, 3) := by decide +kernel
theorem dX4_atomic_87 : decode cX4_atomic 87 = .ok (.ifCond .ne 6, 3) := by decide +kernel
theorem dX4_atomic_90 : decode cX4_atomic 90 = .ok (.bipush 11, 2) := by decide +kernel
theorem dX4_atomic_92 : decode cX4_atomic 92 = .ok (.ireturn, 1) := by decide +kernel
theorem dX4_atomic_93 : decode cX4_atomic 93 = .ok (.iload 5, 2) := by decide +kernel
theorem dX4_atomic_95 : decode cX4_atomic 95 = .ok (.ifCond .eq 30, 3) := by decide +kernel
theorem dX4_atomic_98 : decode cX4_atomic 98 = .ok (.aload_n 0, 1) := by decide +kernel
theorem dX4_atomic_99 : decode cX4_atomic 99 = .ok (.iload_n 1, 1) := by decide +kernel
theorem dX4_atomic_100 : decode cX4_atomic 100 = .ok (.aload_n 0, 1) := by decide +kernel
theorem dX4_atomic_101 : decode cX4_atomic 101 = .ok (.getfield 7, 3) := by decide +kernel
theorem dX4_atomic_104 : decode cX4_atomic 104 = .ok (.aload_n 0, 1) := by decide +kernel
theorem dX4_atomic_105 : decode cX4_atomic 105 = .ok (.getfield 20, 3) := by decide +kernel
theorem dX4_atomic_108 : decode cX4_atomic 108 = .ok (.iload_n 2, 1) := by decide +kernel
theorem dX4_atomic_109 : decode cX4_atomic 109 = .ok (.invokevirtual 97, 3) := by decide +kernel
theorem dX4_atomic_112 : decode cX4_atomic 112 = .ok (.invokevirtual 52, 3) := by decide +kernel
theorem dX4_atomic_115 : decode cX4_atomic 115 = .ok (.aload_n 0, 1) := by decide +kernel
theorem dX4_atomic_116 : decode cX4_atomic 116 = .ok (.getfield 7, 3) := by decide +kernel
theorem dX4_atomic_119 : decode cX4_atomic 119 = .ok (.iload_n 2, 1) := by decide +kernel
theorem dX4_atomic_120 : decode cX4_atomic 120 = .ok (.putfield 122, 3) := by decide +kernel
theorem dX4_atomic_123 : decode cX4_atomic 123 = .ok (.iconst 0, 1) := by decide +kernel
theorem dX4_atomic_124 : decode cX4_atomic 124 = .ok (.ireturn, 1) := by decide +kernel
theorem dX4_atomic_125 : decode cX4_atomic 125 = .ok (.iload 4, 2) := by decide +kernel
theorem dX4_atomic_127 : decode cX4_atomic 127 = .ok (.iconst 3, 1) := by decide +kernel
theorem dX4_atomic_128 : decode cX4_atomic 128 = .ok (.if_icmp .ne 7, 3) := by decide +kernel
theorem dX4_atomic_131 : decode cX4_atomic 131 = .ok (.iconst 1, 1) := by decide +kernel
theorem dX4_atomic_132 : decode cX4_atomic 132 = .ok (.goto 4, 3) := by decide +kernel
theorem dX4_atomic_135 : decode cX4_atomic 135 = .ok (.iconst 0, 1) := by decide +kernel
theorem dX4_atomic_136 : decode cX4_atomic 136 = .ok (.istore 6, 2) := by decide +kernel
theorem dX4_atomic_138 : decode cX4_atomic 138 = .ok (.iload 6, 2) := by decide +kernel
theorem dX4_atomic_140 : decode cX4_atomic 140 = .ok (.ifCond .eq 30, 3) := by decide +kernel
theorem dX4_atomic_143 : decode cX4_atomic 143 = .ok (.aload_n 0, 1) := by decide +kernel
theorem dX4_atomic_144 : decode cX4_atomic 144 = .ok (.getfield 7, 3) := by decide +kernel
theorem dX4_atomic_147 : decode cX4_atomic 147 = .ok (.getfield 122, 3) := by decide +kernel
theorem dX4_atomic_150 : decode cX4_atomic 150 = .ok (.iload_n 2, 1) := by decide +kernel
theorem dX4_atomic_151 : decode cX4_atomic 151 = .ok (.if_icmp .eq 19, 3) := by decide +kernel
theorem dX4_atomic_154 : decode cX4_atomic 154 = .ok (.aload_n 0, 1) := by decide +kernel
theorem dX4_atomic_155 : decode cX4_atomic 155 = .ok (.iload_n 1, 1) := by decide +kernel
theorem dX4_atomic_156 : decode cX4_atomic 156 = .ok (.iconst 1, 1) := by decide +kernel
theorem dX4_atomic_157 : decode cX4_atomic 157 = .ok (.invokevirtual 52, 3) := by decide +kernel
theorem dX4_atomic_160 : decode cX4_atomic 160 = .ok (.aload_n 0, 1) := by decide +kernel
theorem dX4_atomic_161 : decode cX4_atomic 161 = .ok (.getfield 7, 3) := by decide +kernel
theorem dX4_atomic_164 : decode cX4_atomic 164 = .ok (.iconst (-1), 1) := by decide +kernel
theorem dX4_atomic_165 : decode cX4_atomic 165 = .ok (.putfield 122, 3) := by decide +kernel
theorem dX4_atomic_168 : decode cX4_atomic 168 = .ok (.iconst 0, 1) := by decide +kernel
theorem dX4_atomic_169 : decode cX4_atomic 169 = .ok (.ireturn, 1) := by decide +kernel
theorem dX4_atomic_170 : decode cX4_atomic 170 = .ok (.aload_n 0, 1) := by decide +kernel
theorem dX4_atomic_171 : decode cX4_atomic 171 = .ok (.getfield 7, 3) := by decide +kernel
theorem dX4_atomic_174 : decode cX4_atomic 174 = .ok (.aload_n 0, 1) := by decide +kernel
theorem dX4_atomic_175 : decode cX4_atomic 175 = .ok (.getfield 20, 3) := by decide +kernel
theorem dX4_atomic_178 : decode cX4_atomic 178 = .ok (.iload_n 2, 1) := by decide +kernel
theorem dX4_atomic_179 : decode cX4_atomic 179 = .ok (.invokevirtual 100, 3) := by decide +kernel
theorem dX4_atomic_182 : decode cX4_atomic 182 = .ok (.ifCond .ne 6, 3) := by decide +kernel
theorem dX4_atomic_185 : decode cX4_atomic 185 = .ok (.bipush 7, 2) := by decide +kernel
theorem dX4_atomic_187 : decode cX4_atomic 187 = .ok (.ireturn, 1) := by decide +kernel
theorem dX4_atomic_188 : decode cX4_atomic 188 = .ok (.aload_n 0, 1) := by decide +kernel
theorem dX4_atomic_189 : decode cX4_atomic 189 = .ok (.getfield 7, 3) := by decide +kernel
theorem dX4_atomic_192 : decode cX4_atomic 192 = .ok (.aload_n 0, 1) := by decide +kernel
theorem dX4_atomic_193 : decode cX4_atomic 193 = .ok (.getfield 20, 3) := by decide +kernel
theorem dX4_atomic_196 : decode cX4_atomic 196 = .ok (.iload_n 2, 1) := by decide +kernel
theorem dX4_atomic_197 : decode cX4_atomic 197 = .ok (.invokevirtual 97, 3) := by decide +kernel
theorem dX4_atomic_200 : decode cX4_atomic 200 = .ok (.istore 7, 2) := by decide +kernel
theorem dX4_atomic_202 : decode cX4_atomic 202 = .ok (.aload_n 0, 1) := by decide +kernel
theorem dX4_atomic_203 : decode cX4_atomic 203 = .ok (.getfield 7, 3) := by decide +kernel
theorem dX4_atomic_206 : decode cX4_atomic 206 = .ok (.aload_n 0, 1) := by decide +kernel
theorem dX4_atomic_207 : decode cX4_atomic 207 = .ok (.getfield 20, 3) := by decide +kernel
theorem dX4_atomic_210 : decode cX4_atomic 210 = .ok (.iload_n 2, 1) := by decide +kernel
theorem dX4_atomic_211 : decode cX4_atomic 211 = .ok (.iconst (-1), 1) := by decide +kernel
theorem dX4_atomic_212 : decode cX4_atomic 212 = .ok (.iload 6, 2) := by decide +kernel
theorem dX4_atomic_214 : decode cX4_atomic 214 = .ok (.ifCond .eq 7, 3) := by decide +kernel
theorem dX4_atomic_217 : decode cX4_atomic 217 = .ok (.iload_n 3, 1) := by decide +kernel
theorem dX4_atomic_218 : decode cX4_atomic 218 = .ok (.goto 11, 3) := by decide +kernel
theorem dX4_atomic_221 : decode cX4_atomic 221 = .ok (.iload 4, 2) := by decide +kernel
theorem dX4_atomic_223 : decode cX4_atomic 223 = .ok (.iload 7, 2) := by decide +kernel
theorem dX4_atomic_225 : decode cX4_atomic 225 = .ok (.iload_n 3, 1) := by decide +kernel
theorem dX4_atomic_226 : decode cX4_atomic 226 = .ok (.invokestatic 125, 3) := by decide +kernel
theorem dX4_atomic_229 : decode cX4_atomic 229 = .ok (.invokevirtual 105, 3) := by decide +kernel
theorem dX4_atomic_232 : decode cX4_atomic 232 = .ok (.aload_n 0, 1) := by decide +kernel
theorem dX4_atomic_233 : decode cX4_atomic 233 = .ok (.getfield 7, 3) := by decide +kernel
theorem dX4_atomic_236 : decode cX4_atomic 236 = .ok (.aload_n 0, 1) := by decide +kernel
theorem dX4_atomic_237 : decode cX4_atomic 237 = .ok (.getfield 20, 3) := by decide +kernel
theorem dX4_atomic_240 : decode cX4_atomic 240 = .ok (.iload_n 2, 1) := by decide +kernel
theorem dX4_atomic_241 : decode cX4_atomic 241 = .ok (.iconst 4, 1) := by decide +kernel
theorem dX4_atomic_242 : decode cX4_atomic 242 = .ok (.invokevirtual 109, 3) := by decide +kernel
theorem dX4_atomic_245 : decode cX4_atomic 245 = .ok (.aload_n 0, 1) := by decide +kernel
theorem dX4_atomic_246 : decode cX4_atomic 246 = .ok (.iload_n 1, 1) := by decide +kernel
theorem dX4_atomic_247 : decode cX4_atomic 247 = .ok (.iload 6, 2) := by decide +kernel
theorem dX4_atomic_249 : decode cX4_atomic 249 = .ok (.ifCond .eq 7, 3) := by decide +kernel
theorem dX4_atomic_252 : decode cX4_atomic 252 = .ok (.iconst 0, 1) := by decide +kernel
theorem dX4_atomic_253 : decode cX4_atomic 253 = .ok (.goto 5, 3) := by decide +kernel
theorem dX4_atomic_256 : decode cX4_atomic 256 = .ok (.iload 7, 2) := by decide +kernel
theorem dX4_atomic_258 : decode cX4_atomic 258 = .ok (.invokevirtual 52, 3) := by decide +kernel
