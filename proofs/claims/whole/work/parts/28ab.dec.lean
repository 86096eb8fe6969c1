theorem dX4_step_0 : decode cX4_step 0 = .ok (.aload_n 0, 1) := by decide +kernel
theorem dX4_step_1 : decode cX4_step 1 = .ok (.iload_n 1, 1) := by decide +kernel
theorem dX4_step_2 : decode cX4_step 2 = .ok (.putfield 20, 3) := by decide +kernel
theorem dX4_step_5 : decode cX4_step 5 = .ok (.aload_n 0, 1) := by decide +kernel
theorem dX4_step_6 : decode cX4_step 6 = .ok (.iload_n 1, 1) := by decide +kernel
theorem dX4_step_7 : decode cX4_step 7 = .ok (.bipush 33, 2) := by decide +kernel
theorem dX4_step_9 : decode cX4_step 9 = .ok (.imul, 1) := by decide +kernel
theorem dX4_step_10 : decode cX4_step 10 = .ok (.putfield 24, 3) := by decide +kernel
theorem dX4_step_13 : decode cX4_step 13 = .ok (.aload_n 0, 1) := by decide +kernel
theorem dX4_step_14 : decode cX4_step 14 = .ok (.aload_n 0, 1) := by decide +kernel
theorem dX4_step_15 : decode cX4_step 15 = .ok (.getfield 19, 3) := by decide +kernel
theorem dX4_step_18 : decode cX4_step 18 = .ok (.aload_n 0, 1) := by decide +kernel
theorem dX4_step_19 : decode cX4_step 19 = .ok (.getfield 24, 3) := by decide +kernel
theorem dX4_step_22 : decode cX4_step 22 = .ok (.bipush 32, 2) := by decide +kernel
theorem dX4_step_24 : decode cX4_step 24 = .ok (.iadd, 1) := by decide +kernel
theorem dX4_step_25 : decode cX4_step 25 = .ok (.iaload, 1) := by decide +kernel
theorem dX4_step_26 : decode cX4_step 26 = .ok (.putfield 27, 3) := by decide +kernel
theorem dX4_step_29 : decode cX4_step 29 = .ok (.aload_n 0, 1) := by decide +kernel
theorem dX4_step_30 : decode cX4_step 30 = .ok (.getfield 27, 3) := by decide +kernel
theorem dX4_step_33 : decode cX4_step 33 = .ok (.iconst 1, 1) := by decide +kernel
theorem dX4_step_34 : decode cX4_step 34 = .ok (.iand, 1) := by decide +kernel
theorem dX4_step_35 : decode cX4_step 35 = .ok (.ifCond .ne 19, 3) := by decide +kernel
theorem dX4_step_38 : decode cX4_step 38 = .ok (.aload_n 0, 1) := by decide +kernel
theorem dX4_step_39 : decode cX4_step 39 = .ok (.getfield 7, 3) := by decide +kernel
theorem dX4_step_42 : decode cX4_step 42 = .ok (.iload_n 1, 1) := by decide +kernel
theorem dX4_step_43 : decode cX4_step 43 = .ok (.aload_n 0, 1) := by decide +kernel
theorem dX4_step_44 : decode cX4_step 44 = .ok (.getfield 27, 3) := by decide +kernel
theorem dX4_step_47 : decode cX4_step 47 = .ok (.iconst 4, 1) := by decide +kernel
theorem dX4_step_48 : decode cX4_step 48 = .ok (.invokevirtual 30, 3) := by decide +kernel
theorem dX4_step_51 : decode cX4_step 51 = .ok (.ifCond .ne 6, 3) := by decide +kernel
theorem dX4_step_54 : decode cX4_step 54 = .ok (.bipush 11, 2) := by decide +kernel
theorem dX4_step_56 : decode cX4_step 56 = .ok (.ireturn, 1) := by decide +kernel
theorem dX4_step_57 : decode cX4_step 57 = .ok (.aload_n 0, 1) := by decide +kernel
theorem dX4_step_58 : decode cX4_step 58 = .ok (.getfield 7, 3) := by decide +kernel
theorem dX4_step_61 : decode cX4_step 61 = .ok (.iload_n 1, 1) := by decide +kernel
theorem dX4_step_62 : decode cX4_step 62 = .ok (.aload_n 0, 1) := by decide +kernel
theorem dX4_step_63 : decode cX4_step 63 = .ok (.getfield 27, 3) := by decide +kernel
theorem dX4_step_66 : decode cX4_step 66 = .ok (.invokevirtual 34, 3) := by decide +kernel
theorem dX4_step_69 : decode cX4_step 69 = .ok (.istore_n 2, 1) := by decide +kernel
theorem dX4_step_70 : decode cX4_step 70 = .ok (.iload_n 2, 1) := by decide +kernel
theorem dX4_step_71 : decode cX4_step 71 = .ok (.iconst 3, 1) := by decide +kernel
theorem dX4_step_72 : decode cX4_step 72 = .ok (.iand, 1) := by decide +kernel
theorem dX4_step_73 : decode cX4_step 73 = .ok (.iconst 3, 1) := by decide +kernel
theorem dX4_step_74 : decode cX4_step 74 = .ok (.if_icmp .ne 57, 3) := by decide +kernel
theorem dX4_step_77 : decode cX4_step 77 = .ok (.aload_n 0, 1) := by decide +kernel
theorem dX4_step_78 : decode cX4_step 78 = .ok (.getfield 7, 3) := by decide +kernel
theorem dX4_step_81 : decode cX4_step 81 = .ok (.iload_n 1, 1) := by decide +kernel
theorem dX4_step_82 : decode cX4_step 82 = .ok (.aload_n 0, 1) := by decide +kernel
theorem dX4_step_83 : decode cX4_step 83 = .ok (.getfield 27, 3) := by decide +kernel
theorem dX4_step_86 : decode cX4_step 86 = .ok (.iconst 2, 1) := by decide +kernel
theorem dX4_step_87 : decode cX4_step 87 = .ok (.iadd, 1) := by decide +kernel
theorem dX4_step_88 : decode cX4_step 88 = .ok (.iconst 4, 1) := by decide +kernel
theorem dX4_step_89 : decode cX4_step 89 = .ok (.invokevirtual 30, 3) := by decide +kernel
theorem dX4_step_92 : decode cX4_step 92 = .ok (.ifCond .ne 6, 3) := by decide +kernel
theorem dX4_step_95 : decode cX4_step 95 = .ok (.bipush 11, 2) := by decide +kernel
theorem dX4_step_97 : decode cX4_step 97 = .ok (.ireturn, 1) := by decide +kernel
theorem dX4_step_98 : decode cX4_step 98 = .ok (.iload_n 2, 1) := by decide +kernel
theorem dX4_step_99 : decode cX4_step 99 = .ok (.aload_n 0, 1) := by decide +kernel
theorem dX4_step_100 : decode cX4_step 100 = .ok (.getfield 7, 3) := by decide +kernel
theorem dX4_step_103 : decode cX4_step 103 = .ok (.iload_n 1, 1) := by decide +kernel
theorem dX4_step_104 : decode cX4_step 104 = .ok (.aload_n 0, 1) := by decide +kernel
theorem dX4_step_105 : decode cX4_step 105 = .ok (.getfield 27, 3) := by decide +kernel
theorem dX4_step_108 : decode cX4_step 108 = .ok (.iconst 2, 1) := by decide +kernel
theorem dX4_step_109 : decode cX4_step 109 = .ok (.iadd, 1) := by decide +kernel
theorem dX4_step_110 : decode cX4_step 110 = .ok (.invokevirtual 34, 3) := by decide +kernel
theorem dX4_step_113 : decode cX4_step 113 = .ok (.bipush 16, 2) := by decide +kernel
theorem dX4_step_115 : decode cX4_step 115 = .ok (.ishl, 1) := by decide +kernel
theorem dX4_step_116 : decode cX4_step 116 = .ok (.ior, 1) := by decide +kernel
theorem dX4_step_117 : decode cX4_step 117 = .ok (.istore_n 2, 1) := by decide +kernel
theorem dX4_step_118 : decode cX4_step 118 = .ok (.aload_n 0, 1) := by decide +kernel
theorem dX4_step_119 : decode cX4_step 119 = .ok (.aload_n 0, 1) := by decide +kernel
theorem dX4_step_120 : decode cX4_step 120 = .ok (.getfield 27, 3) := by decide +kernel
theorem dX4_step_123 : decode cX4_step 123 = .ok (.iconst 4, 1) := by decide +kernel
theorem dX4_step_124 : decode cX4_step 124 = .ok (.iadd, 1) := by decide +kernel
theorem dX4_step_125 : decode cX4_step 125 = .ok (.putfield 38, 3) := by decide +kernel
theorem dX4_step_128 : decode cX4_step 128 = .ok (.goto 18, 3) := by decide +kernel
theorem dX4_step_131 : decode cX4_step 131 = .ok (.iload_n 2, 1) := by decide +kernel
theorem dX4_step_132 : decode cX4_step 132 = .ok (.invokestatic 41, 3) := by decide +kernel
theorem dX4_step_135 : decode cX4_step 135 = .ok (.istore_n 2, 1) := by decide +kernel
theorem dX4_step_136 : decode cX4_step 136 = .ok (.aload_n 0, 1) := by decide +kernel
theorem dX4_step_137 : decode cX4_step 137 = .ok (.aload_n 0, 1) := by decide +kernel
theorem dX4_step_138 : decode cX4_step 138 = .ok (.getfield 27, 3) := by decide +kernel
theorem dX4_step_141 : decode cX4_step 141 = .ok (.iconst 2, 1) := by decide +kernel
theorem dX4_step_142 : decode cX4_step 142 = .ok (.iadd, 1) := by decide +kernel
theorem dX4_step_143 : decode cX4_step 143 = .ok (.putfield 38, 3) := by decide +kernel
theorem dX4_step_146 : decode cX4_step 146 = .ok (.aload_n 0, 1) := by decide +kernel
theorem dX4_step_147 : decode cX4_step 147 = .ok (.iload_n 2, 1) := by decide +kernel
theorem dX4_step_148 : decode cX4_step 148 = .ok (.invokevirtual 45, 3) := by decide +kernel
theorem dX4_step_151 : decode cX4_step 151 = .ok (.istore_n 3, 1) := by decide +kernel
theorem dX4_step_152 : decode cX4_step 152 = .ok (.iload_n 3, 1) := by decide +kernel
theorem dX4_step_153 : decode cX4_step 153 = .ok (.ifCond .ne 32, 3) := by decide +kernel
theorem dX4_step_156 : decode cX4_step 156 = .ok (.aload_n 0, 1) := by decide +kernel
theorem dX4_step_157 : decode cX4_step 157 = .ok (.getfield 19, 3) := by decide +kernel
theorem dX4_step_160 : decode cX4_step 160 = .ok (.aload_n 0, 1) := by decide +kernel
theorem dX4_step_161 : decode cX4_step 161 = .ok (.getfield 24, 3) := by decide +kernel
theorem dX4_step_164 : decode cX4_step 164 = .ok (.bipush 32, 2) := by decide +kernel
theorem dX4_step_166 : decode cX4_step 166 = .ok (.iadd, 1) := by decide +kernel
theorem dX4_step_167 : decode cX4_step 167 = .ok (.aload_n 0, 1) := by decide +kernel
theorem dX4_step_168 : decode cX4_step 168 = .ok (.getfield 38, 3) := by decide +kernel
theorem dX4_step_171 : decode cX4_step 171 = .ok (.iastore, 1) := by decide +kernel
theorem dX4_step_172 : decode cX4_step 172 = .ok (.aload_n 0, 1) := by decide +kernel
theorem dX4_step_173 : decode cX4_step 173 = .ok (.getfield 7, 3) := by decide +kernel
theorem dX4_step_176 : decode cX4_step 176 = .ok (.dup, 1) := by decide +kernel
theorem dX4_step_177 : decode cX4_step 177 = .ok (.getfield 48, 3) := by decide +kernel
theorem dX4_step_180 : decode cX4_step 180 = .ok (.lconst 1, 1) := by decide +kernel
theorem dX4_step_181 : decode cX4_step 181 = .ok (.ladd, 1) := by decide +kernel
theorem dX4_step_182 : decode cX4_step 182 = .ok (.putfield 48, 3) := by decide +kernel
theorem dX4_step_185 : decode cX4_step 185 = .ok (.iload_n 3, 1) := by decide +kernel
theorem dX4_step_186 : decode cX4_step 186 = .ok (.ireturn, 1) := by decide +kernel
theorem dX4_set_0 : decode cX4_set 0 = .ok (.iload_n 1, 1) := by decide +kernel
theorem dX4_set_1 : decode cX4_set 1 = .ok (.bipush 7, 2) := by decide +kernel
theorem dX4_set_3 : decode cX4_set 3 = .ok (.ishr, 1) := by decide +kernel
theorem dX4_set_4 : decode cX4_set 4 = .ok (.bipush 31, 2) := by decide +kernel
theorem dX4_set_6 : decode cX4_set 6 = .ok (.iand, 1) := by decide +kernel
theorem dX4_set_7 : decode cX4_set 7 = .ok (.istore_n 3, 1) := by decide +kernel
theorem dX4_set_8 : decode cX4_set 8 = .ok (.iload_n 3, 1) := by decide +kernel
theorem dX4_set_9 : decode cX4_set 9 = .ok (.ifCond .eq 15, 3) := by decide +kernel
theorem dX4_set_12 : decode cX4_set 12 = .ok (.aload_n 0, 1) := by decide +kernel
theorem dX4_set_13 : decode cX4_set 13 = .ok (.getfield 19, 3) := by decide +kernel
theorem dX4_set_16 : decode cX4_set 16 = .ok (.aload_n 0, 1) := by decide +kernel
theorem dX4_set_17 : decode cX4_set 17 = .ok (.getfield 24, 3) := by decide +kernel
theorem dX4_set_20 : decode cX4_set 20 = .ok (.iload_n 3, 1) := by decide +kernel
theorem dX4_set_21 : decode cX4_set 21 = .ok (.iadd, 1) := by decide +kernel
theorem dX4_set_22 : decode cX4_set 22 = .ok (.iload_n 2, 1) := by decide +kernel
theorem dX4_set_23 : decode cX4_set 23 = .ok (.iastore, 1) := by decide +kernel
theorem dX4_set_24 : decode cX4_set 24 = .ok (.return_, 1) := by decide +kernel
theorem dX4_work_0 : decode cX4_work 0 = .ok (.aload_n 0, 1) := by decide +kernel
theorem dX4_work_1 : decode cX4_work 1 = .ok (.getfield 19, 3) := by decide +kernel
theorem dX4_work_4 : decode cX4_work 4 = .ok (.aload_n 0, 1) := by decide +kernel
theorem dX4_work_5 : decode cX4_work 5 = .ok (.getfield 24, 3) := by decide +kernel
theorem dX4_work_8 : decode cX4_work 8 = .ok (.iload_n 1, 1) := by decide +kernel
theorem dX4_work_9 : decode cX4_work 9 = .ok (.bipush 15, 2) := by decide +kernel
theorem dX4_work_11 : decode cX4_work 11 = .ok (.ishr, 1) := by decide +kernel
theorem dX4_work_12 : decode cX4_work 12 = .ok (.bipush 31, 2) := by decide +kernel
theorem dX4_work_14 : decode cX4_work 14 = .ok (.iand, 1) := by decide +kernel
theorem dX4_work_15 : decode cX4_work 15 = .ok (.iadd, 1) := by decide +kernel
theorem dX4_work_16 : decode cX4_work 16 = .ok (.iaload, 1) := by decide +kernel
theorem dX4_work_17 : decode cX4_work 17 = .ok (.istore_n 2, 1) := by decide +kernel
theorem dX4_work_18 : decode cX4_work 18 = .ok (.aload_n 0, 1) := by decide +kernel
theorem dX4_work_19 : decode cX4_work 19 = .ok (.getfield 19, 3) := by decide +kernel
theorem dX4_work_22 : decode cX4_work 22 = .ok (.aload_n 0, 1) := by decide +kernel
theorem dX4_work_23 : decode cX4_work 23 = .ok (.getfield 24, 3) := by decide +kernel
theorem dX4_work_26 : decode cX4_work 26 = .ok (.iload_n 1, 1) := by decide +kernel
theorem dX4_work_27 : decode cX4_work 27 = .ok (.bipush 20, 2) := by decide +kernel
theorem dX4_work_29 : decode cX4_work 29 = .ok (.ishr, 1) := by decide +kernel
theorem dX4_work_30 : decode cX4_work 30 = .ok (.bipush 31, 2) := by decide +kernel
theorem dX4_work_32 : decode cX4_work 32 = .ok (.iand, 1) := by decide +kernel
theorem dX4_work_33 : decode cX4_work 33 = .ok (.iadd, 1) := by decide +kernel
theorem dX4_work_34 : decode cX4_work 34 = .ok (.iaload, 1) := by decide +kernel
theorem dX4_work_35 : decode cX4_work 35 = .ok (.istore_n 3, 1) := by decide +kernel
theorem dX4_work_36 : decode cX4_work 36 = .ok (.iload_n 1, 1) := by decide +kernel
theorem dX4_work_37 : decode cX4_work 37 = .ok (.bipush 12, 2) := by decide +kernel
theorem dX4_work_39 : decode cX4_work 39 = .ok (.ishr, 1) := by decide +kernel
theorem dX4_work_40 : decode cX4_work 40 = .ok (.bipush 7, 2) := by decide +kernel
theorem dX4_work_42 : decode cX4_work 42 = .ok (.iand, 1) := by decide +kernel
theorem dX4_work_43 : decode cX4_work 43 = .ok (.istore 4, 2) := by decide +kernel
theorem dX4_work_45 : decode cX4_work 45 = .ok (.iload_n 1, 1) := by decide +kernel
theorem dX4_work_46 : decode cX4_work 46 = .ok (.bipush 127, 2) := by decide +kernel
theorem dX4_work_48 : decode cX4_work 48 = .ok (.iand, 1) := by decide +kernel
theorem dX4_work_49 : decode cX4_work 49 = .ok (.lookupswitch 306 #[(3, 191), (15, 286), (19, 229), (23, 119), (35, 205), (47, 268), (51, 238), (55, 107), (99, 181), (103, 160), (111, 136), (115, 298)], 107) := by decide +kernel
theorem dX4_work_156 : decode cX4_work 156 = .ok (.aload_n 0, 1) := by decide +kernel
theorem dX4_work_157 : decode cX4_work 157 = .ok (.iload_n 1, 1) := by decide +kernel
theorem dX4_work_158 : decode cX4_work 158 = .ok (.iload_n 1, 1) := by decide +kernel
theorem dX4_work_159 : decode cX4_work 159 = .ok (.sipush (-4096), 3) := by decide +kernel
theorem dX4_work_162 : decode cX4_work 162 = .ok (.iand, 1) := by decide +kernel
theorem dX4_work_163 : decode cX4_work 163 = .ok (.invokevirtual 52, 3) := by decide +kernel
theorem dX4_work_166 : decode cX4_work 166 = .ok (.iconst 0, 1) := by decide +kernel
theorem dX4_work_167 : decode cX4_work 167 = .ok (.ireturn, 1) := by decide +kernel
theorem dX4_work_168 : decode cX4_work 168 = .ok (.aload_n 0, 1) := by decide +kernel
theorem dX4_work_169 : decode cX4_work 169 = .ok (.iload_n 1, 1) := by decide +kernel
theorem dX4_work_170 : decode cX4_work 170 = .ok (.aload_n 0, 1) := by decide +kernel
theorem dX4_work_171 : decode cX4_work 171 = .ok (.getfield 27, 3) := by decide +kernel
theorem dX4_work_174 : decode cX4_work 174 = .ok (.iload_n 1, 1) := by decide +kernel
theorem dX4_work_175 : decode cX4_work 175 = .ok (.sipush (-4096), 3) := by decide +kernel
theorem dX4_work_178 : decode cX4_work 178 = .ok (.iand, 1) := by decide +kernel
theorem dX4_work_179 : decode cX4_work 179 = .ok (.iadd, 1) := by decide +kernel
theorem dX4_work_180 : decode cX4_work 180 = .ok (.invokevirtual 52, 3) := by decide +kernel
theorem dX4_work_183 : decode cX4_work 183 = .ok (.iconst 0, 1) := by decide +kernel
theorem dX4_work_184 : decode cX4_work 184 = .ok (.ireturn, 1) := by decide +kernel
theorem dX4_work_185 : decode cX4_work 185 = .ok (.aload_n 0, 1) := by decide +kernel
theorem dX4_work_186 : decode cX4_work 186 = .ok (.iload_n 1, 1) := by decide +kernel
theorem dX4_work_187 : decode cX4_work 187 = .ok (.aload_n 0, 1) := by decide +kernel
theorem dX4_work_188 : decode cX4_work 188 = .ok (.getfield 38, 3) := by decide +kernel
theorem dX4_work_191 : decode cX4_work 191 = .ok (.invokevirtual 52, 3) := by decide +kernel
theorem dX4_work_194 : decode cX4_work 194 = .ok (.aload_n 0, 1) := by decide +kernel
theorem dX4_work_195 : decode cX4_work 195 = .ok (.aload_n 0, 1) := by decide +kernel
theorem dX4_work_196 : decode cX4_work 196 = .ok (.getfield 27, 3) := by decide +kernel
theorem dX4_work_199 : decode cX4_work 199 = .ok (.iload_n 1, 1) := by decide +kernel
theorem dX4_work_200 : decode cX4_work 200 = .ok (.invokestatic 56, 3) := by decide +kernel
theorem dX4_work_203 : decode cX4_work 203 = .ok (.iadd, 1) := by decide +kernel
theorem dX4_work_204 : decode cX4_work 204 = .ok (.putfield 38, 3) := by decide +kernel
theorem dX4_work_207 : decode cX4_work 207 = .ok (.iconst 0, 1) := by decide +kernel
theorem dX4_work_208 : decode cX4_work 208 = .ok (.ireturn, 1) := by decide +kernel
theorem dX4_work_209 : decode cX4_work 209 = .ok (.iload 4, 2) := by decide +kernel
theorem dX4_work_211 : decode cX4_work 211 = .ok (.ifCond .ne 17, 3) := by decide +kernel
theorem dX4_work_214 : decode cX4_work 214 = .ok (.aload_n 0, 1) := by decide +kernel
theorem dX4_work_215 : decode cX4_work 215 = .ok (.iload_n 1, 1) := by decide +kernel
theorem dX4_work_216 : decode cX4_work 216 = .ok (.iload_n 2, 1) := by decide +kernel
theorem dX4_work_217 : decode cX4_work 217 = .ok (.iload_n 1, 1) := by decide +kernel
theorem dX4_work_218 : decode cX4_work 218 = .ok (.bipush 20, 2) := by decide +kernel
theorem dX4_work_220 : decode cX4_work 220 = .ok (.ishr, 1) := by decide +kernel
theorem dX4_work_221 : decode cX4_work 221 = .ok (.iadd, 1) := by decide +kernel
theorem dX4_work_222 : decode cX4_work 222 = .ok (.invokevirtual 59, 3) := by decide +kernel
theorem dX4_work_225 : decode cX4_work 225 = .ok (.goto 4, 3) := by decide +kernel
theorem dX4_work_228 : decode cX4_work 228 = .ok (.iconst 4, 1) := by decide +kernel
theorem dX4_work_229 : decode cX4_work 229 = .ok (.ireturn, 1) := by decide +kernel
theorem dX4_work_230 : decode cX4_work 230 = .ok (.aload_n 0, 1) := by decide +kernel
theorem dX4_work_231 : decode cX4_work 231 = .ok (.iload_n 1, 1) := by decide +kernel
theorem dX4_work_232 : decode cX4_work 232 = .ok (.iload 4, 2) := by decide +kernel
theorem dX4_work_234 : decode cX4_work 234 = .ok (.iload_n 2, 1) := by decide +kernel
theorem dX4_work_235 : decode cX4_work 235 = .ok (.iload_n 3, 1) := by decide +kernel
theorem dX4_work_236 : decode cX4_work 236 = .ok (.invokevirtual 62, 3) := by decide +kernel
theorem dX4_work_239 : decode cX4_work 239 = .ok (.ireturn, 1) := by decide +kernel
theorem dX4_work_240 : decode cX4_work 240 = .ok (.aload_n 0, 1) := by decide +kernel
theorem dX4_work_241 : decode cX4_work 241 = .ok (.iload_n 1, 1) := by decide +kernel
theorem dX4_work_242 : decode cX4_work 242 = .ok (.iload 4, 2) := by decide +kernel
theorem dX4_work_244 : decode cX4_work 244 = .ok (.iload_n 2, 1) := by decide +kernel
theorem dX4_work_245 : decode cX4_work 245 = .ok (.iload_n 1, 1) := by decide +kernel
theorem dX4_work_246 : decode cX4_work 246 = .ok (.bipush 20, 2) := by decide +kernel
theorem dX4_work_248 : decode cX4_work 248 = .ok (.ishr, 1) := by decide +kernel
theorem dX4_work_249 : decode cX4_work 249 = .ok (.iadd, 1) := by decide +kernel
theorem dX4_work_250 : decode cX4_work 250 = .ok (.invokevirtual 66, 3) := by decide +kernel
theorem dX4_work_253 : decode cX4_work 253 = .ok (.ireturn, 1) := by decide +kernel
theorem dX4_work_254 : decode cX4_work 254 = .ok (.aload_n 0, 1) := by decide +kernel
theorem dX4_work_255 : decode cX4_work 255 = .ok (.iload 4, 2) := by decide +kernel
theorem dX4_work_257 : decode cX4_work 257 = .ok (.iload_n 2, 1) := by decide +kernel
theorem dX4_work_258 : decode cX4_work 258 = .ok (.iload_n 1, 1) := by decide +kernel
theorem dX4_work_259 : decode cX4_work 259 = .ok (.bipush 25, 2) := by decide +kernel
theorem dX4_work_261 : decode cX4_work 261 = .ok (.ishr, 1) := by decide +kernel
theorem dX4_work_262 : decode cX4_work 262 = .ok (.iconst 5, 1) := by decide +kernel
theorem dX4_work_263 : decode cX4_work 263 = .ok (.ishl, 1) := by decide +kernel
theorem dX4_work_264 : decode cX4_work 264 = .ok (.iload_n 1, 1) := by decide +kernel
theorem dX4_work_265 : decode cX4_work 265 = .ok (.bipush 7, 2) := by decide +kernel
theorem dX4_work_267 : decode cX4_work 267 = .ok (.ishr, 1) := by decide +kernel
theorem dX4_work_268 : decode cX4_work 268 = .ok (.bipush 31, 2) := by decide +kernel
theorem dX4_work_270 : decode cX4_work 270 = .ok (.iand, 1) := by decide +kernel
theorem dX4_work_271 : decode cX4_work 271 = .ok (.ior, 1) := by decide +kernel
theorem dX4_work_272 : decode cX4_work 272 = .ok (.iadd, 1) := by decide +kernel
theorem dX4_work_273 : decode cX4_work 273 = .ok (.iload_n 3, 1) := by decide +kernel
theorem dX4_work_274 : decode cX4_work 274 = .ok (.invokevirtual 70, 3) := by decide +kernel
theorem dX4_work_277 : decode cX4_work 277 = .ok (.ireturn, 1) := by decide +kernel
theorem dX4_work_278 : decode cX4_work 278 = .ok (.aload_n 0, 1) := by decide +kernel
theorem dX4_work_279 : decode cX4_work 279 = .ok (.iload_n 1, 1) := by decide +kernel
theorem dX4_work_280 : decode cX4_work 280 = .ok (.iload 4, 2) := by decide +kernel
theorem dX4_work_282 : decode cX4_work 282 = .ok (.iload_n 2, 1) := by decide +kernel
theorem dX4_work_283 : decode cX4_work 283 = .ok (.invokevirtual 73, 3) := by decide +kernel
theorem dX4_work_286 : decode cX4_work 286 = .ok (.ireturn, 1) := by decide +kernel
theorem dX4_work_287 : decode cX4_work 287 = .ok (.iload_n 1, 1) := by decide +kernel
theorem dX4_work_288 : decode cX4_work 288 = .ok (.bipush 25, 2) := by decide +kernel
theorem dX4_work_290 : decode cX4_work 290 = .ok (.iushr, 1) := by decide +kernel
theorem dX4_work_291 : decode cX4_work 291 = .ok (.iconst 1, 1) := by decide +kernel
theorem dX4_work_292 : decode cX4_work 292 = .ok (.if_icmp .ne 15, 3) := by decide +kernel
theorem dX4_work_295 : decode cX4_work 295 = .ok (.aload_n 0, 1) := by decide +kernel
theorem dX4_work_296 : decode cX4_work 296 = .ok (.iload_n 1, 1) := by decide +kernel
theorem dX4_work_297 : decode cX4_work 297 = .ok (.iload 4, 2) := by decide +kernel
theorem dX4_work_299 : decode cX4_work 299 = .ok (.iload_n 2, 1) := by decide +kernel
theorem dX4_work_300 : decode cX4_work 300 = .ok (.iload_n 3, 1) := by decide +kernel
theorem dX4_work_301 : decode cX4_work 301 = .ok (.invokevirtual 76, 3) := by decide +kernel
theorem dX4_work_304 : decode cX4_work 304 = .ok (.goto 12, 3) := by decide +kernel
theorem dX4_work_307 : decode cX4_work 307 = .ok (.aload_n 0, 1) := by decide +kernel
theorem dX4_work_308 : decode cX4_work 308 = .ok (.iload_n 1, 1) := by decide +kernel
theorem dX4_work_309 : decode cX4_work 309 = .ok (.iload 4, 2) := by decide +kernel
theorem dX4_work_311 : decode cX4_work 311 = .ok (.iload_n 2, 1) := by decide +kernel
theorem dX4_work_312 : decode cX4_work 312 = .ok (.iload_n 3, 1) := by decide +kernel
theorem dX4_work_313 : decode cX4_work 313 = .ok (.invokevirtual 79, 3) := by decide +kernel
theorem dX4_work_316 : decode cX4_work 316 = .ok (.ireturn, 1) := by decide +kernel
theorem dX4_work_317 : decode cX4_work 317 = .ok (.iload 4, 2) := by decide +kernel
theorem dX4_work_319 : decode cX4_work 319 = .ok (.iconst 2, 1) := by decide +kernel
theorem dX4_work_320 : decode cX4_work 320 = .ok (.if_icmp .ne 13, 3) := by decide +kernel
theorem dX4_work_323 : decode cX4_work 323 = .ok (.aload_n 0, 1) := by decide +kernel
theorem dX4_work_324 : decode cX4_work 324 = .ok (.iload_n 1, 1) := by decide +kernel
theorem dX4_work_325 : decode cX4_work 325 = .ok (.iload_n 2, 1) := by decide +kernel
theorem dX4_work_326 : decode cX4_work 326 = .ok (.iload_n 3, 1) := by decide +kernel
theorem dX4_work_327 : decode cX4_work 327 = .ok (.invokevirtual 82, 3) := by decide +kernel
theorem dX4_work_330 : decode cX4_work 330 = .ok (.goto 4, 3) := by decide +kernel
theorem dX4_work_333 : decode cX4_work 333 = .ok (.iconst 4, 1) := by decide +kernel
theorem dX4_work_334 : decode cX4_work 334 = .ok (.ireturn, 1) := by decide +kernel
theorem dX4_work_335 : decode cX4_work 335 = .ok (.iload 4, 2) := by decide +kernel
theorem dX4_work_337 : decode cX4_work 337 = .ok (.iconst 1, 1) := by decide +kernel
theorem dX4_work_338 : decode cX4_work 338 = .ok (.if_icmp .gt 7, 3) := by decide +kernel
theorem dX4_work_341 : decode cX4_work 341 = .ok (.iconst 0, 1) := by decide +kernel
theorem dX4_work_342 : decode cX4_work 342 = .ok (.goto 4, 3) := by decide +kernel
theorem dX4_work_345 : decode cX4_work 345 = .ok (.iconst 4, 1) := by decide +kernel
theorem dX4_work_346 : decode cX4_work 346 = .ok (.ireturn, 1) := by decide +kernel
theorem dX4_work_347 : decode cX4_work 347 = .ok (.aload_n 0, 1) := by decide +kernel
theorem dX4_work_348 : decode cX4_work 348 = .ok (.iload_n 1, 1) := by decide +kernel
theorem dX4_work_349 : decode cX4_work 349 = .ok (.iload 4, 2) := by decide +kernel
theorem dX4_work_351 : decode cX4_work 351 = .ok (.invokevirtual 85, 3) := by decide +kernel
theorem dX4_work_354 : decode cX4_work 354 = .ok (.ireturn, 1) := by decide +kernel
theorem dX4_work_355 : decode cX4_work 355 = .ok (.iconst 4, 1) := by decide +kernel
theorem dX4_work_356 : decode cX4_work 356 = .ok (.ireturn, 1) := by decide +kernel
theorem dX4_jumpOffset_0 : decode cX4_jumpOffset 0 = .ok (.iload_n 0, 1) := by decide +kernel
theorem dX4_jumpOffset_1 : decode cX4_jumpOffset 1 = .ok (.bipush 31, 2) := by decide +kernel
theorem dX4_jumpOffset_3 : decode cX4_jumpOffset 3 = .ok (.ishr, 1) := by decide +kernel
theorem dX4_jumpOffset_4 : decode cX4_jumpOffset 4 = .ok (.bipush 20, 2) := by decide +kernel
theorem dX4_jumpOffset_6 : decode cX4_jumpOffset 6 = .ok (.ishl, 1) := by decide +kernel
theorem dX4_jumpOffset_7 : decode cX4_jumpOffset 7 = .ok (.iload_n 0, 1) := by decide +kernel
theorem dX4_jumpOffset_8 : decode cX4_jumpOffset 8 = .ok (.ldc 88, 2) := by decide +kernel
theorem dX4_jumpOffset_10 : decode cX4_jumpOffset 10 = .ok (.iand, 1) := by decide +kernel
theorem dX4_jumpOffset_11 : decode cX4_jumpOffset 11 = .ok (.ior, 1) := by decide +kernel
theorem dX4_jumpOffset_12 : decode cX4_jumpOffset 12 = .ok (.iload_n 0, 1) := by decide +kernel
theorem dX4_jumpOffset_13 : decode cX4_jumpOffset 13 = .ok (.bipush 9, 2) := by decide +kernel
theorem dX4_jumpOffset_15 : decode cX4_jumpOffset 15 = .ok (.ishr, 1) := by decide +kernel
theorem dX4_jumpOffset_16 : decode cX4_jumpOffset 16 = .ok (.sipush 2048, 3) := by decide +kernel
theorem dX4_jumpOffset_19 : decode cX4_jumpOffset 19 = .ok (.iand, 1) := by decide +kernel
theorem dX4_jumpOffset_20 : decode cX4_jumpOffset 20 = .ok (.ior, 1) := by decide +kernel
theorem dX4_jumpOffset_21 : decode cX4_jumpOffset 21 = .ok (.iload_n 0, 1) := by decide +kernel
theorem dX4_jumpOffset_22 : decode cX4_jumpOffset 22 = .ok (.bipush 20, 2) := by decide +kernel
theorem dX4_jumpOffset_24 : decode cX4_jumpOffset 24 = .ok (.ishr, 1) := by decide +kernel
theorem dX4_jumpOffset_25 : decode cX4_jumpOffset 25 = .ok (.sipush 2046, 3) := by decide +kernel
theorem dX4_jumpOffset_28 : decode cX4_jumpOffset 28 = .ok (.iand, 1) := by decide +kernel
theorem dX4_jumpOffset_29 : decode cX4_jumpOffset 29 = .ok (.ior, 1) := by decide +kernel
theorem dX4_jumpOffset_30 : decode cX4_jumpOffset 30 = .ok (.ireturn, 1) := by decide +kernel
theorem dX4_jump_0 : decode cX4_jump 0 = .ok (.aload_n 0, 1) := by decide +kernel
theorem dX4_jump_1 : decode cX4_jump 1 = .ok (.iload_n 1, 1) := by decide +kernel
theorem dX4_jump_2 : decode cX4_jump 2 = .ok (.aload_n 0, 1) := by decide +kernel
theorem dX4_jump_3 : decode cX4_jump 3 = .ok (.getfield 38, 3) := by decide +kernel
theorem dX4_jump_6 : decode cX4_jump 6 = .ok (.invokevirtual 52, 3) := by decide +kernel
theorem dX4_jump_9 : decode cX4_jump 9 = .ok (.aload_n 0, 1) := by decide +kernel
theorem dX4_jump_10 : decode cX4_jump 10 = .ok (.iload_n 2, 1) := by decide +kernel
theorem dX4_jump_11 : decode cX4_jump 11 = .ok (.bipush (-2), 2) := by decide +kernel
theorem dX4_jump_13 : decode cX4_jump 13 = .ok (.iand, 1) := by decide +kernel
theorem dX4_jump_14 : decode cX4_jump 14 = .ok (.putfield 38, 3) := by decide +kernel
theorem dX4_jump_17 : decode cX4_jump 17 = .ok (.iconst 0, 1) := by decide +kernel
theorem dX4_jump_18 : decode cX4_jump 18 = .ok (.ireturn, 1) := by decide +kernel
theorem dX4_branch_0 : decode cX4_branch 0 = .ok (.iload_n 2, 1) := by decide +kernel
theorem dX4_branch_1 : decode cX4_branch 1 = .ok (.iconst 1, 1) := by decide +kernel
theorem dX4_branch_2 : decode cX4_branch 2 = .ok (.ishr, 1) := by decide +kernel
theorem dX4_branch_3 : decode cX4_branch 3 = .ok (.tableswitch 80 0 3 #[29, 80, 45, 61], 29) := by decide +kernel
theorem dX4_branch_32 : decode cX4_branch 32 = .ok (.iload_n 3, 1) := by decide +kernel
theorem dX4_branch_33 : decode cX4_branch 33 = .ok (.iload 4, 2) := by decide +kernel
theorem dX4_branch_35 : decode cX4_branch 35 = .ok (.if_icmp .ne 7, 3) := by decide +kernel
theorem dX4_branch_38 : decode cX4_branch 38 = .ok (.iconst 1, 1) := by decide +kernel
theorem dX4_branch_39 : decode cX4_branch 39 = .ok (.goto 4, 3) := by decide +kernel
theorem dX4_branch_42 : decode cX4_branch 42 = .ok (.iconst 0, 1) := by decide +kernel
theorem dX4_branch_43 : decode cX4_branch 43 = .ok (.istore 5, 2) := by decide +kernel
theorem dX4_branch_45 : decode cX4_branch 45 = .ok (.goto 40, 3) := by decide +kernel
theorem dX4_branch_48 : decode cX4_branch 48 = .ok (.iload_n 3, 1) := by decide +kernel
theorem dX4_branch_49 : decode cX4_branch 49 = .ok (.iload 4, 2) := by decide +kernel
theorem dX4_branch_51 : decode cX4_branch 51 = .ok (.if_icmp .ge 7, 3) := by decide +kernel
theorem dX4_branch_54 : decode cX4_branch 54 = .ok (.iconst 1, 1) := by decide +kernel
theorem dX4_branch_55 : decode cX4_branch 55 = .ok (.goto 4, 3) := by decide +kernel
theorem dX4_branch_58 : decode cX4_branch 58 = .ok (.iconst 0, 1) := by decide +kernel
theorem dX4_branch_59 : decode cX4_branch 59 = .ok (.istore 5, 2) := by decide +kernel
theorem dX4_branch_61 : decode cX4_branch 61 = .ok (.goto 24, 3) := by decide +kernel
theorem dX4_branch_64 : decode cX4_branch 64 = .ok (.iload_n 3, 1) := by decide +kernel
theorem dX4_branch_65 : decode cX4_branch 65 = .ok (.iload 4, 2) := by decide +kernel
theorem dX4_branch_67 : decode cX4_branch 67 = .ok (.invokestatic 89, 3) := by decide +kernel
theorem dX4_branch_70 : decode cX4_branch 70 = .ok (.ifCond .ge 7, 3) := by decide +kernel
theorem dX4_branch_73 : decode cX4_branch 73 = .ok (.iconst 1, 1) := by decide +kernel
