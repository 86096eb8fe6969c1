theorem dX9_takeOperand_157 : decode cX9_takeOperand 157 = .ok (.aload_n 0, 1) := by decide +kernel
theorem dX9_takeOperand_158 : decode cX9_takeOperand 158 = .ok (.getfield 73, 3) := by decide +kernel
theorem dX9_takeOperand_161 : decode cX9_takeOperand 161 = .ok (.iconst 5, 1) := by decide +kernel
theorem dX9_takeOperand_162 : decode cX9_takeOperand 162 = .ok (.if_icmp .ne 72, 3) := by decide +kernel
theorem dX9_takeOperand_165 : decode cX9_takeOperand 165 = .ok (.aload_n 0, 1) := by decide +kernel
theorem dX9_takeOperand_166 : decode cX9_takeOperand 166 = .ok (.getfield 93, 3) := by decide +kernel
theorem dX9_takeOperand_169 : decode cX9_takeOperand 169 = .ok (.bipush 45, 2) := by decide +kernel
theorem dX9_takeOperand_171 : decode cX9_takeOperand 171 = .ok (.if_icmp .eq 21, 3) := by decide +kernel
theorem dX9_takeOperand_174 : decode cX9_takeOperand 174 = .ok (.aload_n 0, 1) := by decide +kernel
theorem dX9_takeOperand_175 : decode cX9_takeOperand 175 = .ok (.getfield 93, 3) := by decide +kernel
theorem dX9_takeOperand_178 : decode cX9_takeOperand 178 = .ok (.bipush 126, 2) := by decide +kernel
theorem dX9_takeOperand_180 : decode cX9_takeOperand 180 = .ok (.if_icmp .eq 12, 3) := by decide +kernel
theorem dX9_takeOperand_183 : decode cX9_takeOperand 183 = .ok (.aload_n 0, 1) := by decide +kernel
theorem dX9_takeOperand_184 : decode cX9_takeOperand 184 = .ok (.getfield 93, 3) := by decide +kernel
theorem dX9_takeOperand_187 : decode cX9_takeOperand 187 = .ok (.bipush 40, 2) := by decide +kernel
theorem dX9_takeOperand_189 : decode cX9_takeOperand 189 = .ok (.if_icmp .ne 45, 3) := by decide +kernel
theorem dX9_takeOperand_192 : decode cX9_takeOperand 192 = .ok (.aload_n 0, 1) := by decide +kernel
theorem dX9_takeOperand_193 : decode cX9_takeOperand 193 = .ok (.aload_n 0, 1) := by decide +kernel
theorem dX9_takeOperand_194 : decode cX9_takeOperand 194 = .ok (.getfield 93, 3) := by decide +kernel
theorem dX9_takeOperand_197 : decode cX9_takeOperand 197 = .ok (.bipush 45, 2) := by decide +kernel
theorem dX9_takeOperand_199 : decode cX9_takeOperand 199 = .ok (.if_icmp .ne 8, 3) := by decide +kernel
theorem dX9_takeOperand_202 : decode cX9_takeOperand 202 = .ok (.bipush 11, 2) := by decide +kernel
theorem dX9_takeOperand_204 : decode cX9_takeOperand 204 = .ok (.goto 19, 3) := by decide +kernel
theorem dX9_takeOperand_207 : decode cX9_takeOperand 207 = .ok (.aload_n 0, 1) := by decide +kernel
theorem dX9_takeOperand_208 : decode cX9_takeOperand 208 = .ok (.getfield 93, 3) := by decide +kernel
theorem dX9_takeOperand_211 : decode cX9_takeOperand 211 = .ok (.bipush 126, 2) := by decide +kernel
theorem dX9_takeOperand_213 : decode cX9_takeOperand 213 = .ok (.if_icmp .ne 8, 3) := by decide +kernel
theorem dX9_takeOperand_216 : decode cX9_takeOperand 216 = .ok (.bipush 12, 2) := by decide +kernel
theorem dX9_takeOperand_218 : decode cX9_takeOperand 218 = .ok (.goto 5, 3) := by decide +kernel
theorem dX9_takeOperand_221 : decode cX9_takeOperand 221 = .ok (.bipush 15, 2) := by decide +kernel
theorem dX9_takeOperand_223 : decode cX9_takeOperand 223 = .ok (.invokevirtual 141, 3) := by decide +kernel
theorem dX9_takeOperand_226 : decode cX9_takeOperand 226 = .ok (.aload_n 0, 1) := by decide +kernel
theorem dX9_takeOperand_227 : decode cX9_takeOperand 227 = .ok (.iconst 0, 1) := by decide +kernel
theorem dX9_takeOperand_228 : decode cX9_takeOperand 228 = .ok (.putfield 119, 3) := by decide +kernel
theorem dX9_takeOperand_231 : decode cX9_takeOperand 231 = .ok (.goto 22, 3) := by decide +kernel
theorem dX9_takeOperand_234 : decode cX9_takeOperand 234 = .ok (.aload_n 0, 1) := by decide +kernel
theorem dX9_takeOperand_235 : decode cX9_takeOperand 235 = .ok (.aload_n 0, 1) := by decide +kernel
theorem dX9_takeOperand_236 : decode cX9_takeOperand 236 = .ok (.bipush 37, 2) := by decide +kernel
theorem dX9_takeOperand_238 : decode cX9_takeOperand 238 = .ok (.invokevirtual 144, 3) := by decide +kernel
theorem dX9_takeOperand_241 : decode cX9_takeOperand 241 = .ok (.ifCond .eq 7, 3) := by decide +kernel
theorem dX9_takeOperand_244 : decode cX9_takeOperand 244 = .ok (.iconst 2, 1) := by decide +kernel
theorem dX9_takeOperand_245 : decode cX9_takeOperand 245 = .ok (.goto 5, 3) := by decide +kernel
theorem dX9_takeOperand_248 : decode cX9_takeOperand 248 = .ok (.bipush 6, 2) := by decide +kernel
theorem dX9_takeOperand_250 : decode cX9_takeOperand 250 = .ok (.putfield 119, 3) := by decide +kernel
theorem dX9_takeOperand_253 : decode cX9_takeOperand 253 = .ok (.return_, 1) := by decide +kernel
theorem dX9_takeNear_0 : decode cX9_takeNear 0 = .ok (.aload_n 0, 1) := by decide +kernel
theorem dX9_takeNear_1 : decode cX9_takeNear 1 = .ok (.iconst 0, 1) := by decide +kernel
theorem dX9_takeNear_2 : decode cX9_takeNear 2 = .ok (.putfield 115, 3) := by decide +kernel
theorem dX9_takeNear_5 : decode cX9_takeNear 5 = .ok (.aload_n 0, 1) := by decide +kernel
theorem dX9_takeNear_6 : decode cX9_takeNear 6 = .ok (.getfield 33, 3) := by decide +kernel
theorem dX9_takeNear_9 : decode cX9_takeNear 9 = .ok (.bipush 10, 2) := by decide +kernel
theorem dX9_takeNear_11 : decode cX9_takeNear 11 = .ok (.aload_n 0, 1) := by decide +kernel
theorem dX9_takeNear_12 : decode cX9_takeNear 12 = .ok (.getfield 93, 3) := by decide +kernel
theorem dX9_takeNear_15 : decode cX9_takeNear 15 = .ok (.iadd, 1) := by decide +kernel
theorem dX9_takeNear_16 : decode cX9_takeNear 16 = .ok (.iaload, 1) := by decide +kernel
theorem dX9_takeNear_17 : decode cX9_takeNear 17 = .ok (.iconst 1, 1) := by decide +kernel
theorem dX9_takeNear_18 : decode cX9_takeNear 18 = .ok (.isub, 1) := by decide +kernel
theorem dX9_takeNear_19 : decode cX9_takeNear 19 = .ok (.istore_n 1, 1) := by decide +kernel
theorem dX9_takeNear_20 : decode cX9_takeNear 20 = .ok (.aload_n 0, 1) := by decide +kernel
theorem dX9_takeNear_21 : decode cX9_takeNear 21 = .ok (.getfield 9, 3) := by decide +kernel
theorem dX9_takeNear_24 : decode cX9_takeNear 24 = .ok (.aload_n 0, 1) := by decide +kernel
theorem dX9_takeNear_25 : decode cX9_takeNear 25 = .ok (.getfield 70, 3) := by decide +kernel
theorem dX9_takeNear_28 : decode cX9_takeNear 28 = .ok (.iconst 1, 1) := by decide +kernel
theorem dX9_takeNear_29 : decode cX9_takeNear 29 = .ok (.iadd, 1) := by decide +kernel
theorem dX9_takeNear_30 : decode cX9_takeNear 30 = .ok (.baload, 1) := by decide +kernel
theorem dX9_takeNear_31 : decode cX9_takeNear 31 = .ok (.bipush 98, 2) := by decide +kernel
theorem dX9_takeNear_33 : decode cX9_takeNear 33 = .ok (.if_icmp .ne 13, 3) := by decide +kernel
theorem dX9_takeNear_36 : decode cX9_takeNear 36 = .ok (.aload_n 0, 1) := by decide +kernel
theorem dX9_takeNear_37 : decode cX9_takeNear 37 = .ok (.bipush 20, 2) := by decide +kernel
theorem dX9_takeNear_39 : decode cX9_takeNear 39 = .ok (.iload_n 1, 1) := by decide +kernel
theorem dX9_takeNear_40 : decode cX9_takeNear 40 = .ok (.invokevirtual 131, 3) := by decide +kernel
theorem dX9_takeNear_43 : decode cX9_takeNear 43 = .ok (.goto 23, 3) := by decide +kernel
theorem dX9_takeNear_46 : decode cX9_takeNear 46 = .ok (.aload_n 0, 1) := by decide +kernel
theorem dX9_takeNear_47 : decode cX9_takeNear 47 = .ok (.bipush 19, 2) := by decide +kernel
theorem dX9_takeNear_49 : decode cX9_takeNear 49 = .ok (.iload_n 1, 1) := by decide +kernel
theorem dX9_takeNear_50 : decode cX9_takeNear 50 = .ok (.ifCond .lt 7, 3) := by decide +kernel
theorem dX9_takeNear_53 : decode cX9_takeNear 53 = .ok (.iload_n 1, 1) := by decide +kernel
theorem dX9_takeNear_54 : decode cX9_takeNear 54 = .ok (.goto 9, 3) := by decide +kernel
theorem dX9_takeNear_57 : decode cX9_takeNear 57 = .ok (.iconst (-1), 1) := by decide +kernel
theorem dX9_takeNear_58 : decode cX9_takeNear 58 = .ok (.aload_n 0, 1) := by decide +kernel
theorem dX9_takeNear_59 : decode cX9_takeNear 59 = .ok (.getfield 93, 3) := by decide +kernel
theorem dX9_takeNear_62 : decode cX9_takeNear 62 = .ok (.isub, 1) := by decide +kernel
theorem dX9_takeNear_63 : decode cX9_takeNear 63 = .ok (.invokevirtual 131, 3) := by decide +kernel
theorem dX9_takeNear_66 : decode cX9_takeNear 66 = .ok (.return_, 1) := by decide +kernel
theorem dX9_takeHalf_0 : decode cX9_takeHalf 0 = .ok (.aload_n 0, 1) := by decide +kernel
theorem dX9_takeHalf_1 : decode cX9_takeHalf 1 = .ok (.getfield 119, 3) := by decide +kernel
theorem dX9_takeHalf_4 : decode cX9_takeHalf 4 = .ok (.iconst 2, 1) := by decide +kernel
theorem dX9_takeHalf_5 : decode cX9_takeHalf 5 = .ok (.if_icmp .eq 44, 3) := by decide +kernel
theorem dX9_takeHalf_8 : decode cX9_takeHalf 8 = .ok (.aload_n 0, 1) := by decide +kernel
theorem dX9_takeHalf_9 : decode cX9_takeHalf 9 = .ok (.aload_n 0, 1) := by decide +kernel
theorem dX9_takeHalf_10 : decode cX9_takeHalf 10 = .ok (.getfield 119, 3) := by decide +kernel
theorem dX9_takeHalf_13 : decode cX9_takeHalf 13 = .ok (.iconst 3, 1) := by decide +kernel
theorem dX9_takeHalf_14 : decode cX9_takeHalf 14 = .ok (.if_icmp .ne 8, 3) := by decide +kernel
theorem dX9_takeHalf_17 : decode cX9_takeHalf 17 = .ok (.bipush 13, 2) := by decide +kernel
theorem dX9_takeHalf_19 : decode cX9_takeHalf 19 = .ok (.goto 5, 3) := by decide +kernel
theorem dX9_takeHalf_22 : decode cX9_takeHalf 22 = .ok (.bipush 14, 2) := by decide +kernel
theorem dX9_takeHalf_24 : decode cX9_takeHalf 24 = .ok (.invokevirtual 141, 3) := by decide +kernel
theorem dX9_takeHalf_27 : decode cX9_takeHalf 27 = .ok (.aload_n 0, 1) := by decide +kernel
theorem dX9_takeHalf_28 : decode cX9_takeHalf 28 = .ok (.aload_n 0, 1) := by decide +kernel
theorem dX9_takeHalf_29 : decode cX9_takeHalf 29 = .ok (.bipush 40, 2) := by decide +kernel
theorem dX9_takeHalf_31 : decode cX9_takeHalf 31 = .ok (.invokevirtual 144, 3) := by decide +kernel
theorem dX9_takeHalf_34 : decode cX9_takeHalf 34 = .ok (.ifCond .eq 7, 3) := by decide +kernel
theorem dX9_takeHalf_37 : decode cX9_takeHalf 37 = .ok (.iconst 0, 1) := by decide +kernel
theorem dX9_takeHalf_38 : decode cX9_takeHalf 38 = .ok (.goto 5, 3) := by decide +kernel
theorem dX9_takeHalf_41 : decode cX9_takeHalf 41 = .ok (.bipush 6, 2) := by decide +kernel
theorem dX9_takeHalf_43 : decode cX9_takeHalf 43 = .ok (.putfield 119, 3) := by decide +kernel
theorem dX9_takeHalf_46 : decode cX9_takeHalf 46 = .ok (.goto 87, 3) := by decide +kernel
theorem dX9_takeHalf_49 : decode cX9_takeHalf 49 = .ok (.aload_n 0, 1) := by decide +kernel
theorem dX9_takeHalf_50 : decode cX9_takeHalf 50 = .ok (.getfield 73, 3) := by decide +kernel
theorem dX9_takeHalf_53 : decode cX9_takeHalf 53 = .ok (.iconst 1, 1) := by decide +kernel
theorem dX9_takeHalf_54 : decode cX9_takeHalf 54 = .ok (.if_icmp .ne 36, 3) := by decide +kernel
theorem dX9_takeHalf_57 : decode cX9_takeHalf 57 = .ok (.ldc 147, 2) := by decide +kernel
theorem dX9_takeHalf_59 : decode cX9_takeHalf 59 = .ok (.aload_n 0, 1) := by decide +kernel
theorem dX9_takeHalf_60 : decode cX9_takeHalf 60 = .ok (.getfield 9, 3) := by decide +kernel
theorem dX9_takeHalf_63 : decode cX9_takeHalf 63 = .ok (.aload_n 0, 1) := by decide +kernel
theorem dX9_takeHalf_64 : decode cX9_takeHalf 64 = .ok (.getfield 70, 3) := by decide +kernel
theorem dX9_takeHalf_67 : decode cX9_takeHalf 67 = .ok (.aload_n 0, 1) := by decide +kernel
theorem dX9_takeHalf_68 : decode cX9_takeHalf 68 = .ok (.getfield 55, 3) := by decide +kernel
theorem dX9_takeHalf_71 : decode cX9_takeHalf 71 = .ok (.aload_n 0, 1) := by decide +kernel
theorem dX9_takeHalf_72 : decode cX9_takeHalf 72 = .ok (.getfield 70, 3) := by decide +kernel
theorem dX9_takeHalf_75 : decode cX9_takeHalf 75 = .ok (.isub, 1) := by decide +kernel
theorem dX9_takeHalf_76 : decode cX9_takeHalf 76 = .ok (.invokestatic 149, 3) := by decide +kernel
theorem dX9_takeHalf_79 : decode cX9_takeHalf 79 = .ok (.ifCond .eq 11, 3) := by decide +kernel
theorem dX9_takeHalf_82 : decode cX9_takeHalf 82 = .ok (.aload_n 0, 1) := by decide +kernel
theorem dX9_takeHalf_83 : decode cX9_takeHalf 83 = .ok (.iconst 3, 1) := by decide +kernel
theorem dX9_takeHalf_84 : decode cX9_takeHalf 84 = .ok (.putfield 119, 3) := by decide +kernel
theorem dX9_takeHalf_87 : decode cX9_takeHalf 87 = .ok (.goto 46, 3) := by decide +kernel
theorem dX9_takeHalf_90 : decode cX9_takeHalf 90 = .ok (.aload_n 0, 1) := by decide +kernel
theorem dX9_takeHalf_91 : decode cX9_takeHalf 91 = .ok (.aload_n 0, 1) := by decide +kernel
theorem dX9_takeHalf_92 : decode cX9_takeHalf 92 = .ok (.getfield 73, 3) := by decide +kernel
theorem dX9_takeHalf_95 : decode cX9_takeHalf 95 = .ok (.iconst 1, 1) := by decide +kernel
theorem dX9_takeHalf_96 : decode cX9_takeHalf 96 = .ok (.if_icmp .ne 32, 3) := by decide +kernel
theorem dX9_takeHalf_99 : decode cX9_takeHalf 99 = .ok (.ldc 155, 2) := by decide +kernel
theorem dX9_takeHalf_101 : decode cX9_takeHalf 101 = .ok (.aload_n 0, 1) := by decide +kernel
theorem dX9_takeHalf_102 : decode cX9_takeHalf 102 = .ok (.getfield 9, 3) := by decide +kernel
theorem dX9_takeHalf_105 : decode cX9_takeHalf 105 = .ok (.aload_n 0, 1) := by decide +kernel
theorem dX9_takeHalf_106 : decode cX9_takeHalf 106 = .ok (.getfield 70, 3) := by decide +kernel
theorem dX9_takeHalf_109 : decode cX9_takeHalf 109 = .ok (.aload_n 0, 1) := by decide +kernel
theorem dX9_takeHalf_110 : decode cX9_takeHalf 110 = .ok (.getfield 55, 3) := by decide +kernel
theorem dX9_takeHalf_113 : decode cX9_takeHalf 113 = .ok (.aload_n 0, 1) := by decide +kernel
theorem dX9_takeHalf_114 : decode cX9_takeHalf 114 = .ok (.getfield 70, 3) := by decide +kernel
theorem dX9_takeHalf_117 : decode cX9_takeHalf 117 = .ok (.isub, 1) := by decide +kernel
theorem dX9_takeHalf_118 : decode cX9_takeHalf 118 = .ok (.invokestatic 149, 3) := by decide +kernel
theorem dX9_takeHalf_121 : decode cX9_takeHalf 121 = .ok (.ifCond .eq 7, 3) := by decide +kernel
theorem dX9_takeHalf_124 : decode cX9_takeHalf 124 = .ok (.iconst 4, 1) := by decide +kernel
theorem dX9_takeHalf_125 : decode cX9_takeHalf 125 = .ok (.goto 5, 3) := by decide +kernel
theorem dX9_takeHalf_128 : decode cX9_takeHalf 128 = .ok (.bipush 6, 2) := by decide +kernel
theorem dX9_takeHalf_130 : decode cX9_takeHalf 130 = .ok (.putfield 119, 3) := by decide +kernel
theorem dX9_takeHalf_133 : decode cX9_takeHalf 133 = .ok (.return_, 1) := by decide +kernel
theorem dX9_takeOperator_0 : decode cX9_takeOperator 0 = .ok (.aload_n 0, 1) := by decide +kernel
theorem dX9_takeOperator_1 : decode cX9_takeOperator 1 = .ok (.getfield 73, 3) := by decide +kernel
theorem dX9_takeOperator_4 : decode cX9_takeOperator 4 = .ok (.iconst 5, 1) := by decide +kernel
theorem dX9_takeOperator_5 : decode cX9_takeOperator 5 = .ok (.if_icmp .ne 13, 3) := by decide +kernel
theorem dX9_takeOperator_8 : decode cX9_takeOperator 8 = .ok (.aload_n 0, 1) := by decide +kernel
theorem dX9_takeOperator_9 : decode cX9_takeOperator 9 = .ok (.getfield 93, 3) := by decide +kernel
theorem dX9_takeOperator_12 : decode cX9_takeOperator 12 = .ok (.invokestatic 157, 3) := by decide +kernel
theorem dX9_takeOperator_15 : decode cX9_takeOperator 15 = .ok (.goto 4, 3) := by decide +kernel
theorem dX9_takeOperator_18 : decode cX9_takeOperator 18 = .ok (.iconst 0, 1) := by decide +kernel
theorem dX9_takeOperator_19 : decode cX9_takeOperator 19 = .ok (.istore_n 1, 1) := by decide +kernel
theorem dX9_takeOperator_20 : decode cX9_takeOperator 20 = .ok (.iload_n 1, 1) := by decide +kernel
theorem dX9_takeOperator_21 : decode cX9_takeOperator 21 = .ok (.ifCond .eq 23, 3) := by decide +kernel
theorem dX9_takeOperator_24 : decode cX9_takeOperator 24 = .ok (.aload_n 0, 1) := by decide +kernel
theorem dX9_takeOperator_25 : decode cX9_takeOperator 25 = .ok (.getstatic 160, 3) := by decide +kernel
theorem dX9_takeOperator_28 : decode cX9_takeOperator 28 = .ok (.iload_n 1, 1) := by decide +kernel
theorem dX9_takeOperator_29 : decode cX9_takeOperator 29 = .ok (.iaload, 1) := by decide +kernel
theorem dX9_takeOperator_30 : decode cX9_takeOperator 30 = .ok (.invokevirtual 163, 3) := by decide +kernel
theorem dX9_takeOperator_33 : decode cX9_takeOperator 33 = .ok (.aload_n 0, 1) := by decide +kernel
theorem dX9_takeOperator_34 : decode cX9_takeOperator 34 = .ok (.iload_n 1, 1) := by decide +kernel
theorem dX9_takeOperator_35 : decode cX9_takeOperator 35 = .ok (.invokevirtual 141, 3) := by decide +kernel
theorem dX9_takeOperator_38 : decode cX9_takeOperator 38 = .ok (.aload_n 0, 1) := by decide +kernel
theorem dX9_takeOperator_39 : decode cX9_takeOperator 39 = .ok (.iconst 0, 1) := by decide +kernel
theorem dX9_takeOperator_40 : decode cX9_takeOperator 40 = .ok (.putfield 119, 3) := by decide +kernel
theorem dX9_takeOperator_43 : decode cX9_takeOperator 43 = .ok (.return_, 1) := by decide +kernel
theorem dX9_takeOperator_44 : decode cX9_takeOperator 44 = .ok (.aload_n 0, 1) := by decide +kernel
theorem dX9_takeOperator_45 : decode cX9_takeOperator 45 = .ok (.iconst 0, 1) := by decide +kernel
theorem dX9_takeOperator_46 : decode cX9_takeOperator 46 = .ok (.invokevirtual 163, 3) := by decide +kernel
theorem dX9_takeOperator_49 : decode cX9_takeOperator 49 = .ok (.aload_n 0, 1) := by decide +kernel
theorem dX9_takeOperator_50 : decode cX9_takeOperator 50 = .ok (.getfield 112, 3) := by decide +kernel
theorem dX9_takeOperator_53 : decode cX9_takeOperator 53 = .ok (.ifCond .ne 11, 3) := by decide +kernel
theorem dX9_takeOperator_56 : decode cX9_takeOperator 56 = .ok (.aload_n 0, 1) := by decide +kernel
theorem dX9_takeOperator_57 : decode cX9_takeOperator 57 = .ok (.iconst 5, 1) := by decide +kernel
theorem dX9_takeOperator_58 : decode cX9_takeOperator 58 = .ok (.putfield 119, 3) := by decide +kernel
theorem dX9_takeOperator_61 : decode cX9_takeOperator 61 = .ok (.goto 59, 3) := by decide +kernel
theorem dX9_takeOperator_64 : decode cX9_takeOperator 64 = .ok (.aload_n 0, 1) := by decide +kernel
theorem dX9_takeOperator_65 : decode cX9_takeOperator 65 = .ok (.bipush 41, 2) := by decide +kernel
theorem dX9_takeOperator_67 : decode cX9_takeOperator 67 = .ok (.invokevirtual 144, 3) := by decide +kernel
theorem dX9_takeOperator_70 : decode cX9_takeOperator 70 = .ok (.ifCond .eq 44, 3) := by decide +kernel
theorem dX9_takeOperator_73 : decode cX9_takeOperator 73 = .ok (.aload_n 0, 1) := by decide +kernel
theorem dX9_takeOperator_74 : decode cX9_takeOperator 74 = .ok (.dup, 1) := by decide +kernel
theorem dX9_takeOperator_75 : decode cX9_takeOperator 75 = .ok (.getfield 112, 3) := by decide +kernel
theorem dX9_takeOperator_78 : decode cX9_takeOperator 78 = .ok (.iconst 1, 1) := by decide +kernel
theorem dX9_takeOperator_79 : decode cX9_takeOperator 79 = .ok (.isub, 1) := by decide +kernel
theorem dX9_takeOperator_80 : decode cX9_takeOperator 80 = .ok (.putfield 112, 3) := by decide +kernel
theorem dX9_takeOperator_83 : decode cX9_takeOperator 83 = .ok (.aload_n 0, 1) := by decide +kernel
theorem dX9_takeOperator_84 : decode cX9_takeOperator 84 = .ok (.getfield 23, 3) := by decide +kernel
theorem dX9_takeOperator_87 : decode cX9_takeOperator 87 = .ok (.aload_n 0, 1) := by decide +kernel
theorem dX9_takeOperator_88 : decode cX9_takeOperator 88 = .ok (.getfield 112, 3) := by decide +kernel
theorem dX9_takeOperator_91 : decode cX9_takeOperator 91 = .ok (.iaload, 1) := by decide +kernel
theorem dX9_takeOperator_92 : decode cX9_takeOperator 92 = .ok (.bipush 15, 2) := by decide +kernel
theorem dX9_takeOperator_94 : decode cX9_takeOperator 94 = .ok (.if_icmp .eq 26, 3) := by decide +kernel
theorem dX9_takeOperator_97 : decode cX9_takeOperator 97 = .ok (.aload_n 0, 1) := by decide +kernel
theorem dX9_takeOperator_98 : decode cX9_takeOperator 98 = .ok (.aload_n 0, 1) := by decide +kernel
theorem dX9_takeOperator_99 : decode cX9_takeOperator 99 = .ok (.getfield 23, 3) := by decide +kernel
theorem dX9_takeOperator_102 : decode cX9_takeOperator 102 = .ok (.aload_n 0, 1) := by decide +kernel
theorem dX9_takeOperator_103 : decode cX9_takeOperator 103 = .ok (.getfield 112, 3) := by decide +kernel
theorem dX9_takeOperator_106 : decode cX9_takeOperator 106 = .ok (.iaload, 1) := by decide +kernel
theorem dX9_takeOperator_107 : decode cX9_takeOperator 107 = .ok (.iconst 0, 1) := by decide +kernel
theorem dX9_takeOperator_108 : decode cX9_takeOperator 108 = .ok (.invokevirtual 131, 3) := by decide +kernel
theorem dX9_takeOperator_111 : decode cX9_takeOperator 111 = .ok (.goto 9, 3) := by decide +kernel
theorem dX9_takeOperator_114 : decode cX9_takeOperator 114 = .ok (.aload_n 0, 1) := by decide +kernel
theorem dX9_takeOperator_115 : decode cX9_takeOperator 115 = .ok (.bipush 6, 2) := by decide +kernel
theorem dX9_takeOperator_117 : decode cX9_takeOperator 117 = .ok (.putfield 119, 3) := by decide +kernel
theorem dX9_takeOperator_120 : decode cX9_takeOperator 120 = .ok (.return_, 1) := by decide +kernel
theorem dX9_binary_0 : decode cX9_binary 0 = .ok (.iload_n 0, 1) := by decide +kernel
theorem dX9_binary_1 : decode cX9_binary 1 = .ok (.lookupswitch 116 #[(37, 95), (38, 107), (42, 91), (43, 97), (45, 99), (47, 93), (94, 110), (124, 113), (256, 101), (257, 104)], 91) := by decide +kernel
theorem dX9_binary_92 : decode cX9_binary 92 = .ok (.iconst 1, 1) := by decide +kernel
theorem dX9_binary_93 : decode cX9_binary 93 = .ok (.ireturn, 1) := by decide +kernel
theorem dX9_binary_94 : decode cX9_binary 94 = .ok (.iconst 2, 1) := by decide +kernel
theorem dX9_binary_95 : decode cX9_binary 95 = .ok (.ireturn, 1) := by decide +kernel
theorem dX9_binary_96 : decode cX9_binary 96 = .ok (.iconst 3, 1) := by decide +kernel
theorem dX9_binary_97 : decode cX9_binary 97 = .ok (.ireturn, 1) := by decide +kernel
theorem dX9_binary_98 : decode cX9_binary 98 = .ok (.iconst 4, 1) := by decide +kernel
theorem dX9_binary_99 : decode cX9_binary 99 = .ok (.ireturn, 1) := by decide +kernel
theorem dX9_binary_100 : decode cX9_binary 100 = .ok (.iconst 5, 1) := by decide +kernel
theorem dX9_binary_101 : decode cX9_binary 101 = .ok (.ireturn, 1) := by decide +kernel
theorem dX9_binary_102 : decode cX9_binary 102 = .ok (.bipush 6, 2) := by decide +kernel
theorem dX9_binary_104 : decode cX9_binary 104 = .ok (.ireturn, 1) := by decide +kernel
theorem dX9_binary_105 : decode cX9_binary 105 = .ok (.bipush 7, 2) := by decide +kernel
theorem dX9_binary_107 : decode cX9_binary 107 = .ok (.ireturn, 1) := by decide +kernel
theorem dX9_binary_108 : decode cX9_binary 108 = .ok (.bipush 8, 2) := by decide +kernel
theorem dX9_binary_110 : decode cX9_binary 110 = .ok (.ireturn, 1) := by decide +kernel
theorem dX9_binary_111 : decode cX9_binary 111 = .ok (.bipush 9, 2) := by decide +kernel
theorem dX9_binary_113 : decode cX9_binary 113 = .ok (.ireturn, 1) := by decide +kernel
theorem dX9_binary_114 : decode cX9_binary 114 = .ok (.bipush 10, 2) := by decide +kernel
theorem dX9_binary_116 : decode cX9_binary 116 = .ok (.ireturn, 1) := by decide +kernel
theorem dX9_binary_117 : decode cX9_binary 117 = .ok (.iconst 0, 1) := by decide +kernel
theorem dX9_binary_118 : decode cX9_binary 118 = .ok (.ireturn, 1) := by decide +kernel
theorem dX9_push_0 : decode cX9_push 0 = .ok (.aload_n 0, 1) := by decide +kernel
theorem dX9_push_1 : decode cX9_push 1 = .ok (.getfield 112, 3) := by decide +kernel
theorem dX9_push_4 : decode cX9_push 4 = .ok (.aload_n 0, 1) := by decide +kernel
theorem dX9_push_5 : decode cX9_push 5 = .ok (.getfield 23, 3) := by decide +kernel
theorem dX9_push_8 : decode cX9_push 8 = .ok (.arraylength, 1) := by decide +kernel
theorem dX9_push_9 : decode cX9_push 9 = .ok (.if_icmp .ge 23, 3) := by decide +kernel
theorem dX9_push_12 : decode cX9_push 12 = .ok (.aload_n 0, 1) := by decide +kernel
theorem dX9_push_13 : decode cX9_push 13 = .ok (.getfield 23, 3) := by decide +kernel
theorem dX9_push_16 : decode cX9_push 16 = .ok (.aload_n 0, 1) := by decide +kernel
theorem dX9_push_17 : decode cX9_push 17 = .ok (.getfield 112, 3) := by decide +kernel
theorem dX9_push_20 : decode cX9_push 20 = .ok (.iload_n 1, 1) := by decide +kernel
theorem dX9_push_21 : decode cX9_push 21 = .ok (.iastore, 1) := by decide +kernel
theorem dX9_push_22 : decode cX9_push 22 = .ok (.aload_n 0, 1) := by decide +kernel
theorem dX9_push_23 : decode cX9_push 23 = .ok (.dup, 1) := by decide +kernel
theorem dX9_push_24 : decode cX9_push 24 = .ok (.getfield 112, 3) := by decide +kernel
theorem dX9_push_27 : decode cX9_push 27 = .ok (.iconst 1, 1) := by decide +kernel
theorem dX9_push_28 : decode cX9_push 28 = .ok (.iadd, 1) := by decide +kernel
theorem dX9_push_29 : decode cX9_push 29 = .ok (.putfield 112, 3) := by decide +kernel
theorem dX9_push_32 : decode cX9_push 32 = .ok (.return_, 1) := by decide +kernel
theorem dX9_popTo_0 : decode cX9_popTo 0 = .ok (.aload_n 0, 1) := by decide +kernel
theorem dX9_popTo_1 : decode cX9_popTo 1 = .ok (.getfield 112, 3) := by decide +kernel
theorem dX9_popTo_4 : decode cX9_popTo 4 = .ok (.ifCond .le 65, 3) := by decide +kernel
theorem dX9_popTo_7 : decode cX9_popTo 7 = .ok (.aload_n 0, 1) := by decide +kernel
theorem dX9_popTo_8 : decode cX9_popTo 8 = .ok (.getfield 23, 3) := by decide +kernel
theorem dX9_popTo_11 : decode cX9_popTo 11 = .ok (.aload_n 0, 1) := by decide +kernel
theorem dX9_popTo_12 : decode cX9_popTo 12 = .ok (.getfield 112, 3) := by decide +kernel
theorem dX9_popTo_15 : decode cX9_popTo 15 = .ok (.iconst 1, 1) := by decide +kernel
theorem dX9_popTo_16 : decode cX9_popTo 16 = .ok (.isub, 1) := by decide +kernel
theorem dX9_popTo_17 : decode cX9_popTo 17 = .ok (.iaload, 1) := by decide +kernel
theorem dX9_popTo_18 : decode cX9_popTo 18 = .ok (.bipush 13, 2) := by decide +kernel
theorem dX9_popTo_20 : decode cX9_popTo 20 = .ok (.if_icmp .ge 49, 3) := by decide +kernel
theorem dX9_popTo_23 : decode cX9_popTo 23 = .ok (.getstatic 160, 3) := by decide +kernel
theorem dX9_popTo_26 : decode cX9_popTo 26 = .ok (.aload_n 0, 1) := by decide +kernel
theorem dX9_popTo_27 : decode cX9_popTo 27 = .ok (.getfield 23, 3) := by decide +kernel
theorem dX9_popTo_30 : decode cX9_popTo 30 = .ok (.aload_n 0, 1) := by decide +kernel
theorem dX9_popTo_31 : decode cX9_popTo 31 = .ok (.getfield 112, 3) := by decide +kernel
theorem dX9_popTo_34 : decode cX9_popTo 34 = .ok (.iconst 1, 1) := by decide +kernel
theorem dX9_popTo_35 : decode cX9_popTo 35 = .ok (.isub, 1) := by decide +kernel
theorem dX9_popTo_36 : decode cX9_popTo 36 = .ok (.iaload, 1) := by decide +kernel
theorem dX9_popTo_37 : decode cX9_popTo 37 = .ok (.iaload, 1) := by decide +kernel
theorem dX9_popTo_38 : decode cX9_popTo 38 = .ok (.iload_n 1, 1) := by decide +kernel
theorem dX9_popTo_39 : decode cX9_popTo 39 = .ok (.if_icmp .lt 30, 3) := by decide +kernel
theorem dX9_popTo_42 : decode cX9_popTo 42 = .ok (.aload_n 0, 1) := by decide +kernel
theorem dX9_popTo_43 : decode cX9_popTo 43 = .ok (.dup, 1) := by decide +kernel
theorem dX9_popTo_44 : decode cX9_popTo 44 = .ok (.getfield 112, 3) := by decide +kernel
theorem dX9_popTo_47 : decode cX9_popTo 47 = .ok (.iconst 1, 1) := by decide +kernel
theorem dX9_popTo_48 : decode cX9_popTo 48 = .ok (.isub, 1) := by decide +kernel
theorem dX9_popTo_49 : decode cX9_popTo 49 = .ok (.putfield 112, 3) := by decide +kernel
theorem dX9_popTo_52 : decode cX9_popTo 52 = .ok (.aload_n 0, 1) := by decide +kernel
theorem dX9_popTo_53 : decode cX9_popTo 53 = .ok (.aload_n 0, 1) := by decide +kernel
theorem dX9_popTo_54 : decode cX9_popTo 54 = .ok (.getfield 23, 3) := by decide +kernel
theorem dX9_popTo_57 : decode cX9_popTo 57 = .ok (.aload_n 0, 1) := by decide +kernel
theorem dX9_popTo_58 : decode cX9_popTo 58 = .ok (.getfield 112, 3) := by decide +kernel
theorem dX9_popTo_61 : decode cX9_popTo 61 = .ok (.iaload, 1) := by decide +kernel
theorem dX9_popTo_62 : decode cX9_popTo 62 = .ok (.iconst 0, 1) := by decide +kernel
theorem dX9_popTo_63 : decode cX9_popTo 63 = .ok (.invokevirtual 131, 3) := by decide +kernel
theorem dX9_popTo_66 : decode cX9_popTo 66 = .ok (.goto (-66), 3) := by decide +kernel
theorem dX9_popTo_69 : decode cX9_popTo 69 = .ok (.return_, 1) := by decide +kernel
theorem dX9_emit_0 : decode cX9_emit 0 = .ok (.aload_n 0, 1) := by decide +kernel
theorem dX9_emit_1 : decode cX9_emit 1 = .ok (.getfield 39, 3) := by decide +kernel
theorem dX9_emit_4 : decode cX9_emit 4 = .ok (.aload_n 0, 1) := by decide +kernel
theorem dX9_emit_5 : decode cX9_emit 5 = .ok (.getfield 16, 3) := by decide +kernel
theorem dX9_emit_8 : decode cX9_emit 8 = .ok (.arraylength, 1) := by decide +kernel
theorem dX9_emit_9 : decode cX9_emit 9 = .ok (.if_icmp .ge 33, 3) := by decide +kernel
theorem dX9_emit_12 : decode cX9_emit 12 = .ok (.aload_n 0, 1) := by decide +kernel
theorem dX9_emit_13 : decode cX9_emit 13 = .ok (.getfield 16, 3) := by decide +kernel
theorem dX9_emit_16 : decode cX9_emit 16 = .ok (.aload_n 0, 1) := by decide +kernel
theorem dX9_emit_17 : decode cX9_emit 17 = .ok (.getfield 39, 3) := by decide +kernel
theorem dX9_emit_20 : decode cX9_emit 20 = .ok (.iload_n 1, 1) := by decide +kernel
theorem dX9_emit_21 : decode cX9_emit 21 = .ok (.iastore, 1) := by decide +kernel
theorem dX9_emit_22 : decode cX9_emit 22 = .ok (.aload_n 0, 1) := by decide +kernel
theorem dX9_emit_23 : decode cX9_emit 23 = .ok (.getfield 20, 3) := by decide +kernel
theorem dX9_emit_26 : decode cX9_emit 26 = .ok (.aload_n 0, 1) := by decide +kernel
theorem dX9_emit_27 : decode cX9_emit 27 = .ok (.getfield 39, 3) := by decide +kernel
theorem dX9_emit_30 : decode cX9_emit 30 = .ok (.iload_n 2, 1) := by decide +kernel
theorem dX9_emit_31 : decode cX9_emit 31 = .ok (.iastore, 1) := by decide +kernel
theorem dX9_emit_32 : decode cX9_emit 32 = .ok (.aload_n 0, 1) := by decide +kernel
theorem dX9_emit_33 : decode cX9_emit 33 = .ok (.dup, 1) := by decide +kernel
theorem dX9_emit_34 : decode cX9_emit 34 = .ok (.getfield 39, 3) := by decide +kernel
theorem dX9_emit_37 : decode cX9_emit 37 = .ok (.iconst 1, 1) := by decide +kernel
theorem dX9_emit_38 : decode cX9_emit 38 = .ok (.iadd, 1) := by decide +kernel
theorem dX9_emit_39 : decode cX9_emit 39 = .ok (.putfield 39, 3) := by decide +kernel
theorem dX9_emit_42 : decode cX9_emit 42 = .ok (.return_, 1) := by decide +kernel
theorem dX9_evaluate_0 : decode cX9_evaluate 0 = .ok (.aload_n 0, 1) := by decide +kernel
theorem dX9_evaluate_1 : decode cX9_evaluate 1 = .ok (.iconst 0, 1) := by decide +kernel
theorem dX9_evaluate_2 : decode cX9_evaluate 2 = .ok (.putfield 166, 3) := by decide +kernel
theorem dX9_evaluate_5 : decode cX9_evaluate 5 = .ok (.aload_n 0, 1) := by decide +kernel
theorem dX9_evaluate_6 : decode cX9_evaluate 6 = .ok (.iconst 0, 1) := by decide +kernel
theorem dX9_evaluate_7 : decode cX9_evaluate 7 = .ok (.putfield 112, 3) := by decide +kernel
theorem dX9_evaluate_10 : decode cX9_evaluate 10 = .ok (.iconst 0, 1) := by decide +kernel
theorem dX9_evaluate_11 : decode cX9_evaluate 11 = .ok (.iload_n 1, 1) := by decide +kernel
theorem dX9_evaluate_12 : decode cX9_evaluate 12 = .ok (.invokestatic 169, 3) := by decide +kernel
theorem dX9_evaluate_15 : decode cX9_evaluate 15 = .ok (.istore_n 3, 1) := by decide +kernel
theorem dX9_evaluate_16 : decode cX9_evaluate 16 = .ok (.iload_n 3, 1) := by decide +kernel
theorem dX9_evaluate_17 : decode cX9_evaluate 17 = .ok (.aload_n 0, 1) := by decide +kernel
theorem dX9_evaluate_18 : decode cX9_evaluate 18 = .ok (.getfield 39, 3) := by decide +kernel
theorem dX9_evaluate_21 : decode cX9_evaluate 21 = .ok (.if_icmp .ge 166, 3) := by decide +kernel
theorem dX9_evaluate_24 : decode cX9_evaluate 24 = .ok (.aload_n 0, 1) := by decide +kernel
theorem dX9_evaluate_25 : decode cX9_evaluate 25 = .ok (.getfield 16, 3) := by decide +kernel
theorem dX9_evaluate_28 : decode cX9_evaluate 28 = .ok (.iload_n 3, 1) := by decide +kernel
theorem dX9_evaluate_29 : decode cX9_evaluate 29 = .ok (.iaload, 1) := by decide +kernel
theorem dX9_evaluate_30 : decode cX9_evaluate 30 = .ok (.bipush 21, 2) := by decide +kernel
theorem dX9_evaluate_32 : decode cX9_evaluate 32 = .ok (.if_icmp .eq 155, 3) := by decide +kernel
theorem dX9_evaluate_35 : decode cX9_evaluate 35 = .ok (.aload_n 0, 1) := by decide +kernel
theorem dX9_evaluate_36 : decode cX9_evaluate 36 = .ok (.getfield 16, 3) := by decide +kernel
theorem dX9_evaluate_39 : decode cX9_evaluate 39 = .ok (.iload_n 3, 1) := by decide +kernel
theorem dX9_evaluate_40 : decode cX9_evaluate 40 = .ok (.iaload, 1) := by decide +kernel
theorem dX9_evaluate_41 : decode cX9_evaluate 41 = .ok (.bipush 16, 2) := by decide +kernel
theorem dX9_evaluate_43 : decode cX9_evaluate 43 = .ok (.if_icmp .lt 27, 3) := by decide +kernel
theorem dX9_evaluate_46 : decode cX9_evaluate 46 = .ok (.aload_n 0, 1) := by decide +kernel
theorem dX9_evaluate_47 : decode cX9_evaluate 47 = .ok (.aload_n 0, 1) := by decide +kernel
theorem dX9_evaluate_48 : decode cX9_evaluate 48 = .ok (.aload_n 0, 1) := by decide +kernel
theorem dX9_evaluate_49 : decode cX9_evaluate 49 = .ok (.getfield 16, 3) := by decide +kernel
theorem dX9_evaluate_52 : decode cX9_evaluate 52 = .ok (.iload_n 3, 1) := by decide +kernel
theorem dX9_evaluate_53 : decode cX9_evaluate 53 = .ok (.iaload, 1) := by decide +kernel
theorem dX9_evaluate_54 : decode cX9_evaluate 54 = .ok (.aload_n 0, 1) := by decide +kernel
theorem dX9_evaluate_55 : decode cX9_evaluate 55 = .ok (.getfield 20, 3) := by decide +kernel
theorem dX9_evaluate_58 : decode cX9_evaluate 58 = .ok (.iload_n 3, 1) := by decide +kernel
theorem dX9_evaluate_59 : decode cX9_evaluate 59 = .ok (.iaload, 1) := by decide +kernel
theorem dX9_evaluate_60 : decode cX9_evaluate 60 = .ok (.iload_n 2, 1) := by decide +kernel
theorem dX9_evaluate_61 : decode cX9_evaluate 61 = .ok (.invokevirtual 172, 3) := by decide +kernel
theorem dX9_evaluate_64 : decode cX9_evaluate 64 = .ok (.invokevirtual 141, 3) := by decide +kernel
theorem dX9_evaluate_67 : decode cX9_evaluate 67 = .ok (.goto 114, 3) := by decide +kernel
theorem dX9_evaluate_70 : decode cX9_evaluate 70 = .ok (.aload_n 0, 1) := by decide +kernel
theorem dX9_evaluate_71 : decode cX9_evaluate 71 = .ok (.getfield 16, 3) := by decide +kernel
theorem dX9_evaluate_74 : decode cX9_evaluate 74 = .ok (.iload_n 3, 1) := by decide +kernel
theorem dX9_evaluate_75 : decode cX9_evaluate 75 = .ok (.iaload, 1) := by decide +kernel
theorem dX9_evaluate_76 : decode cX9_evaluate 76 = .ok (.bipush 11, 2) := by decide +kernel
theorem dX9_evaluate_78 : decode cX9_evaluate 78 = .ok (.if_icmp .lt 44, 3) := by decide +kernel
theorem dX9_evaluate_81 : decode cX9_evaluate 81 = .ok (.aload_n 0, 1) := by decide +kernel
theorem dX9_evaluate_82 : decode cX9_evaluate 82 = .ok (.getfield 112, 3) := by decide +kernel
theorem dX9_evaluate_85 : decode cX9_evaluate 85 = .ok (.ifCond .le 37, 3) := by decide +kernel
theorem dX9_evaluate_88 : decode cX9_evaluate 88 = .ok (.aload_n 0, 1) := by decide +kernel
theorem dX9_evaluate_89 : decode cX9_evaluate 89 = .ok (.getfield 23, 3) := by decide +kernel
theorem dX9_evaluate_92 : decode cX9_evaluate 92 = .ok (.aload_n 0, 1) := by decide +kernel
theorem dX9_evaluate_93 : decode cX9_evaluate 93 = .ok (.getfield 112, 3) := by decide +kernel
theorem dX9_evaluate_96 : decode cX9_evaluate 96 = .ok (.iconst 1, 1) := by decide +kernel
theorem dX9_evaluate_97 : decode cX9_evaluate 97 = .ok (.isub, 1) := by decide +kernel
theorem dX9_evaluate_98 : decode cX9_evaluate 98 = .ok (.aload_n 0, 1) := by decide +kernel
theorem dX9_evaluate_99 : decode cX9_evaluate 99 = .ok (.getfield 16, 3) := by decide +kernel
theorem dX9_evaluate_102 : decode cX9_evaluate 102 = .ok (.iload_n 3, 1) := by decide +kernel
theorem dX9_evaluate_103 : decode cX9_evaluate 103 = .ok (.iaload, 1) := by decide +kernel
theorem dX9_evaluate_104 : decode cX9_evaluate 104 = .ok (.aload_n 0, 1) := by decide +kernel
theorem dX9_evaluate_105 : decode cX9_evaluate 105 = .ok (.getfield 23, 3) := by decide +kernel
theorem dX9_evaluate_108 : decode cX9_evaluate 108 = .ok (.aload_n 0, 1) := by decide +kernel
theorem dX9_evaluate_109 : decode cX9_evaluate 109 = .ok (.getfield 112, 3) := by decide +kernel
theorem dX9_evaluate_112 : decode cX9_evaluate 112 = .ok (.iconst 1, 1) := by decide +kernel
theorem dX9_evaluate_113 : decode cX9_evaluate 113 = .ok (.isub, 1) := by decide +kernel
theorem dX9_evaluate_114 : decode cX9_evaluate 114 = .ok (.iaload, 1) := by decide +kernel
theorem dX9_evaluate_115 : decode cX9_evaluate 115 = .ok (.invokestatic 176, 3) := by decide +kernel
theorem dX9_evaluate_118 : decode cX9_evaluate 118 = .ok (.iastore, 1) := by decide +kernel
theorem dX9_evaluate_119 : decode cX9_evaluate 119 = .ok (.goto 62, 3) := by decide +kernel
theorem dX9_evaluate_122 : decode cX9_evaluate 122 = .ok (.aload_n 0, 1) := by decide +kernel
theorem dX9_evaluate_123 : decode cX9_evaluate 123 = .ok (.getfield 112, 3) := by decide +kernel
theorem dX9_evaluate_126 : decode cX9_evaluate 126 = .ok (.iconst 1, 1) := by decide +kernel
theorem dX9_evaluate_127 : decode cX9_evaluate 127 = .ok (.if_icmp .le 54, 3) := by decide +kernel
theorem dX9_evaluate_130 : decode cX9_evaluate 130 = .ok (.aload_n 0, 1) := by decide +kernel
theorem dX9_evaluate_131 : decode cX9_evaluate 131 = .ok (.dup, 1) := by decide +kernel
theorem dX9_evaluate_132 : decode cX9_evaluate 132 = .ok (.getfield 112, 3) := by decide +kernel
theorem dX9_evaluate_135 : decode cX9_evaluate 135 = .ok (.iconst 1, 1) := by decide +kernel
theorem dX9_evaluate_136 : decode cX9_evaluate 136 = .ok (.isub, 1) := by decide +kernel
theorem dX9_evaluate_137 : decode cX9_evaluate 137 = .ok (.putfield 112, 3) := by decide +kernel
theorem dX9_evaluate_140 : decode cX9_evaluate 140 = .ok (.aload_n 0, 1) := by decide +kernel
theorem dX9_evaluate_141 : decode cX9_evaluate 141 = .ok (.getfield 23, 3) := by decide +kernel
theorem dX9_evaluate_144 : decode cX9_evaluate 144 = .ok (.aload_n 0, 1) := by decide +kernel
theorem dX9_evaluate_145 : decode cX9_evaluate 145 = .ok (.getfield 112, 3) := by decide +kernel
theorem dX9_evaluate_148 : decode cX9_evaluate 148 = .ok (.iconst 1, 1) := by decide +kernel
theorem dX9_evaluate_149 : decode cX9_evaluate 149 = .ok (.isub, 1) := by decide +kernel
theorem dX9_evaluate_150 : decode cX9_evaluate 150 = .ok (.aload_n 0, 1) := by decide +kernel
theorem dX9_evaluate_151 : decode cX9_evaluate 151 = .ok (.aload_n 0, 1) := by decide +kernel
theorem dX9_evaluate_152 : decode cX9_evaluate 152 = .ok (.getfield 16, 3) := by decide +kernel
theorem dX9_evaluate_155 : decode cX9_evaluate 155 = .ok (.iload_n 3, 1) := by decide +kernel
theorem dX9_evaluate_156 : decode cX9_evaluate 156 = .ok (.iaload, 1) := by decide +kernel
theorem dX9_evaluate_157 : decode cX9_evaluate 157 = .ok (.aload_n 0, 1) := by decide +kernel
theorem dX9_evaluate_158 : decode cX9_evaluate 158 = .ok (.getfield 23, 3) := by decide +kernel
theorem dX9_evaluate_161 : decode cX9_evaluate 161 = .ok (.aload_n 0, 1) := by decide +kernel
theorem dX9_evaluate_162 : decode cX9_evaluate 162 = .ok (.getfield 112, 3) := by decide +kernel
theorem dX9_evaluate_165 : decode cX9_evaluate 165 = .ok (.iconst 1, 1) := by decide +kernel
theorem dX9_evaluate_166 : decode cX9_evaluate 166 = .ok (.isub, 1) := by decide +kernel
theorem dX9_evaluate_167 : decode cX9_evaluate 167 = .ok (.iaload, 1) := by decide +kernel
theorem dX9_evaluate_168 : decode cX9_evaluate 168 = .ok (.aload_n 0, 1) := by decide +kernel
theorem dX9_evaluate_169 : decode cX9_evaluate 169 = .ok (.getfield 23, 3) := by decide +kernel
theorem dX9_evaluate_172 : decode cX9_evaluate 172 = .ok (.aload_n 0, 1) := by decide +kernel
theorem dX9_evaluate_173 : decode cX9_evaluate 173 = .ok (.getfield 112, 3) := by decide +kernel
theorem dX9_evaluate_176 : decode cX9_evaluate 176 = .ok (.iaload, 1) := by decide +kernel
theorem dX9_evaluate_177 : decode cX9_evaluate 177 = .ok (.invokevirtual 179, 3) := by decide +kernel
theorem dX9_evaluate_180 : decode cX9_evaluate 180 = .ok (.iastore, 1) := by decide +kernel
theorem dX9_evaluate_181 : decode cX9_evaluate 181 = .ok (.iinc 3 1, 3) := by decide +kernel
theorem dX9_evaluate_184 : decode cX9_evaluate 184 = .ok (.goto (-168), 3) := by decide +kernel
theorem dX9_evaluate_187 : decode cX9_evaluate 187 = .ok (.aload_n 0, 1) := by decide +kernel
theorem dX9_evaluate_188 : decode cX9_evaluate 188 = .ok (.getfield 112, 3) := by decide +kernel
theorem dX9_evaluate_191 : decode cX9_evaluate 191 = .ok (.ifCond .le 12, 3) := by decide +kernel
theorem dX9_evaluate_194 : decode cX9_evaluate 194 = .ok (.aload_n 0, 1) := by decide +kernel
theorem dX9_evaluate_195 : decode cX9_evaluate 195 = .ok (.getfield 23, 3) := by decide +kernel
theorem dX9_evaluate_198 : decode cX9_evaluate 198 = .ok (.iconst 0, 1) := by decide +kernel
theorem dX9_evaluate_199 : decode cX9_evaluate 199 = .ok (.iaload, 1) := by decide +kernel
theorem dX9_evaluate_200 : decode cX9_evaluate 200 = .ok (.goto 4, 3) := by decide +kernel
theorem dX9_evaluate_203 : decode cX9_evaluate 203 = .ok (.iconst 0, 1) := by decide +kernel
theorem dX9_evaluate_204 : decode cX9_evaluate 204 = .ok (.ireturn, 1) := by decide +kernel
theorem dX9_behind_0 : decode cX9_behind 0 = .ok (.iconst 0, 1) := by decide +kernel
theorem dX9_behind_1 : decode cX9_behind 1 = .ok (.iload_n 1, 1) := by decide +kernel
theorem dX9_behind_2 : decode cX9_behind 2 = .ok (.invokestatic 169, 3) := by decide +kernel
theorem dX9_behind_5 : decode cX9_behind 5 = .ok (.istore_n 2, 1) := by decide +kernel
theorem dX9_behind_6 : decode cX9_behind 6 = .ok (.iload_n 2, 1) := by decide +kernel
theorem dX9_behind_7 : decode cX9_behind 7 = .ok (.aload_n 0, 1) := by decide +kernel
theorem dX9_behind_8 : decode cX9_behind 8 = .ok (.getfield 39, 3) := by decide +kernel
theorem dX9_behind_11 : decode cX9_behind 11 = .ok (.if_icmp .ge 20, 3) := by decide +kernel
theorem dX9_behind_14 : decode cX9_behind 14 = .ok (.aload_n 0, 1) := by decide +kernel
theorem dX9_behind_15 : decode cX9_behind 15 = .ok (.getfield 16, 3) := by decide +kernel
theorem dX9_behind_18 : decode cX9_behind 18 = .ok (.iload_n 2, 1) := by decide +kernel
theorem dX9_behind_19 : decode cX9_behind 19 = .ok (.iaload, 1) := by decide +kernel
theorem dX9_behind_20 : decode cX9_behind 20 = .ok (.bipush 21, 2) := by decide +kernel
theorem dX9_behind_22 : decode cX9_behind 22 = .ok (.if_icmp .eq 9, 3) := by decide +kernel
theorem dX9_behind_25 : decode cX9_behind 25 = .ok (.iinc 2 1, 3) := by decide +kernel
theorem dX9_behind_28 : decode cX9_behind 28 = .ok (.goto (-22), 3) := by decide +kernel
theorem dX9_behind_31 : decode cX9_behind 31 = .ok (.iload_n 2, 1) := by decide +kernel
theorem dX9_behind_32 : decode cX9_behind 32 = .ok (.iconst 1, 1) := by decide +kernel
theorem dX9_behind_33 : decode cX9_behind 33 = .ok (.iadd, 1) := by decide +kernel
theorem dX9_behind_34 : decode cX9_behind 34 = .ok (.ireturn, 1) := by decide +kernel
theorem dX9_operand_0 : decode cX9_operand 0 = .ok (.iload_n 1, 1) := by decide +kernel
theorem dX9_operand_1 : decode cX9_operand 1 = .ok (.bipush 16, 2) := by decide +kernel
theorem dX9_operand_3 : decode cX9_operand 3 = .ok (.if_icmp .ne 5, 3) := by decide +kernel
theorem dX9_operand_6 : decode cX9_operand 6 = .ok (.iload_n 2, 1) := by decide +kernel
theorem dX9_operand_7 : decode cX9_operand 7 = .ok (.ireturn, 1) := by decide +kernel
theorem dX9_operand_8 : decode cX9_operand 8 = .ok (.iload_n 1, 1) := by decide +kernel
theorem dX9_operand_9 : decode cX9_operand 9 = .ok (.bipush 18, 2) := by decide +kernel
theorem dX9_operand_11 : decode cX9_operand 11 = .ok (.if_icmp .ne 5, 3) := by decide +kernel
theorem dX9_operand_14 : decode cX9_operand 14 = .ok (.iload_n 3, 1) := by decide +kernel
theorem dX9_operand_15 : decode cX9_operand 15 = .ok (.ireturn, 1) := by decide +kernel
theorem dX9_operand_16 : decode cX9_operand 16 = .ok (.iload_n 1, 1) := by decide +kernel
theorem dX9_operand_17 : decode cX9_operand 17 = .ok (.bipush 17, 2) := by decide +kernel
theorem dX9_operand_19 : decode cX9_operand 19 = .ok (.if_icmp .ne 57, 3) := by decide +kernel
theorem dX9_operand_22 : decode cX9_operand 22 = .ok (.aload_n 0, 1) := by decide +kernel
theorem dX9_operand_23 : decode cX9_operand 23 = .ok (.getfield 27, 3) := by decide +kernel
theorem dX9_operand_26 : decode cX9_operand 26 = .ok (.iload_n 2, 1) := by decide +kernel
theorem dX9_operand_27 : decode cX9_operand 27 = .ok (.iconst 5, 1) := by decide +kernel
theorem dX9_operand_28 : decode cX9_operand 28 = .ok (.imul, 1) := by decide +kernel
theorem dX9_operand_29 : decode cX9_operand 29 = .ok (.iconst 2, 1) := by decide +kernel
theorem dX9_operand_30 : decode cX9_operand 30 = .ok (.iadd, 1) := by decide +kernel
theorem dX9_operand_31 : decode cX9_operand 31 = .ok (.iaload, 1) := by decide +kernel
theorem dX9_operand_32 : decode cX9_operand 32 = .ok (.istore 5, 2) := by decide +kernel
theorem dX9_operand_34 : decode cX9_operand 34 = .ok (.iload 5, 2) := by decide +kernel
theorem dX9_operand_36 : decode cX9_operand 36 = .ok (.iconst 1, 1) := by decide +kernel
theorem dX9_operand_37 : decode cX9_operand 37 = .ok (.if_icmp .ne 14, 3) := by decide +kernel
theorem dX9_operand_40 : decode cX9_operand 40 = .ok (.aload_n 0, 1) := by decide +kernel
theorem dX9_operand_41 : decode cX9_operand 41 = .ok (.getfield 27, 3) := by decide +kernel
theorem dX9_operand_44 : decode cX9_operand 44 = .ok (.iload_n 2, 1) := by decide +kernel
theorem dX9_operand_45 : decode cX9_operand 45 = .ok (.iconst 5, 1) := by decide +kernel
theorem dX9_operand_46 : decode cX9_operand 46 = .ok (.imul, 1) := by decide +kernel
theorem dX9_operand_47 : decode cX9_operand 47 = .ok (.iconst 3, 1) := by decide +kernel
theorem dX9_operand_48 : decode cX9_operand 48 = .ok (.iadd, 1) := by decide +kernel
theorem dX9_operand_49 : decode cX9_operand 49 = .ok (.iaload, 1) := by decide +kernel
theorem dX9_operand_50 : decode cX9_operand 50 = .ok (.ireturn, 1) := by decide +kernel
theorem dX9_operand_51 : decode cX9_operand 51 = .ok (.iload 5, 2) := by decide +kernel
theorem dX9_operand_53 : decode cX9_operand 53 = .ok (.iconst 2, 1) := by decide +kernel
theorem dX9_operand_54 : decode cX9_operand 54 = .ok (.if_icmp .ne 16, 3) := by decide +kernel
theorem dX9_operand_57 : decode cX9_operand 57 = .ok (.aload_n 0, 1) := by decide +kernel
theorem dX9_operand_58 : decode cX9_operand 58 = .ok (.getfield 27, 3) := by decide +kernel
theorem dX9_operand_61 : decode cX9_operand 61 = .ok (.iload_n 2, 1) := by decide +kernel
theorem dX9_operand_62 : decode cX9_operand 62 = .ok (.iconst 5, 1) := by decide +kernel
theorem dX9_operand_63 : decode cX9_operand 63 = .ok (.imul, 1) := by decide +kernel
theorem dX9_operand_64 : decode cX9_operand 64 = .ok (.iconst 3, 1) := by decide +kernel
theorem dX9_operand_65 : decode cX9_operand 65 = .ok (.iadd, 1) := by decide +kernel
theorem dX9_operand_66 : decode cX9_operand 66 = .ok (.iaload, 1) := by decide +kernel
theorem dX9_operand_67 : decode cX9_operand 67 = .ok (.goto 4, 3) := by decide +kernel
theorem dX9_operand_70 : decode cX9_operand 70 = .ok (.iconst (-1), 1) := by decide +kernel
theorem dX9_operand_71 : decode cX9_operand 71 = .ok (.istore 4, 2) := by decide +kernel
theorem dX9_operand_73 : decode cX9_operand 73 = .ok (.goto 44, 3) := by decide +kernel
theorem dX9_operand_76 : decode cX9_operand 76 = .ok (.iload_n 1, 1) := by decide +kernel
theorem dX9_operand_77 : decode cX9_operand 77 = .ok (.bipush 20, 2) := by decide +kernel
theorem dX9_operand_79 : decode cX9_operand 79 = .ok (.if_icmp .ne 9, 3) := by decide +kernel
theorem dX9_operand_82 : decode cX9_operand 82 = .ok (.iload_n 2, 1) := by decide +kernel
theorem dX9_operand_83 : decode cX9_operand 83 = .ok (.istore 4, 2) := by decide +kernel
theorem dX9_operand_85 : decode cX9_operand 85 = .ok (.goto 32, 3) := by decide +kernel
theorem dX9_operand_88 : decode cX9_operand 88 = .ok (.iload_n 2, 1) := by decide +kernel
theorem dX9_operand_89 : decode cX9_operand 89 = .ok (.ifCond .ge 14, 3) := by decide +kernel
theorem dX9_operand_92 : decode cX9_operand 92 = .ok (.aload_n 0, 1) := by decide +kernel
theorem dX9_operand_93 : decode cX9_operand 93 = .ok (.getfield 33, 3) := by decide +kernel
theorem dX9_operand_96 : decode cX9_operand 96 = .ok (.iconst (-1), 1) := by decide +kernel
theorem dX9_operand_97 : decode cX9_operand 97 = .ok (.iload_n 2, 1) := by decide +kernel
theorem dX9_operand_98 : decode cX9_operand 98 = .ok (.isub, 1) := by decide +kernel
theorem dX9_operand_99 : decode cX9_operand 99 = .ok (.iaload, 1) := by decide +kernel
theorem dX9_operand_100 : decode cX9_operand 100 = .ok (.goto 13, 3) := by decide +kernel
theorem dX9_operand_103 : decode cX9_operand 103 = .ok (.aload_n 0, 1) := by decide +kernel
theorem dX9_operand_104 : decode cX9_operand 104 = .ok (.getfield 36, 3) := by decide +kernel
theorem dX9_operand_107 : decode cX9_operand 107 = .ok (.iload_n 2, 1) := by decide +kernel
theorem dX9_operand_108 : decode cX9_operand 108 = .ok (.iconst 5, 1) := by decide +kernel
theorem dX9_operand_109 : decode cX9_operand 109 = .ok (.imul, 1) := by decide +kernel
theorem dX9_operand_110 : decode cX9_operand 110 = .ok (.iconst 3, 1) := by decide +kernel
theorem dX9_operand_111 : decode cX9_operand 111 = .ok (.iadd, 1) := by decide +kernel
theorem dX9_operand_112 : decode cX9_operand 112 = .ok (.iaload, 1) := by decide +kernel
theorem dX9_operand_113 : decode cX9_operand 113 = .ok (.iconst 1, 1) := by decide +kernel
theorem dX9_operand_114 : decode cX9_operand 114 = .ok (.isub, 1) := by decide +kernel
theorem dX9_operand_115 : decode cX9_operand 115 = .ok (.istore 4, 2) := by decide +kernel
theorem dX9_operand_117 : decode cX9_operand 117 = .ok (.iload 4, 2) := by decide +kernel
theorem dX9_operand_119 : decode cX9_operand 119 = .ok (.ifCond .ge 11, 3) := by decide +kernel
theorem dX9_operand_122 : decode cX9_operand 122 = .ok (.aload_n 0, 1) := by decide +kernel
theorem dX9_operand_123 : decode cX9_operand 123 = .ok (.bipush 8, 2) := by decide +kernel
theorem dX9_operand_125 : decode cX9_operand 125 = .ok (.putfield 166, 3) := by decide +kernel
theorem dX9_operand_128 : decode cX9_operand 128 = .ok (.iconst 0, 1) := by decide +kernel
theorem dX9_operand_129 : decode cX9_operand 129 = .ok (.ireturn, 1) := by decide +kernel
theorem dX9_operand_130 : decode cX9_operand 130 = .ok (.aload_n 0, 1) := by decide +kernel
theorem dX9_operand_131 : decode cX9_operand 131 = .ok (.getfield 36, 3) := by decide +kernel
theorem dX9_operand_134 : decode cX9_operand 134 = .ok (.iload 4, 2) := by decide +kernel
theorem dX9_operand_136 : decode cX9_operand 136 = .ok (.iconst 5, 1) := by decide +kernel
theorem dX9_operand_137 : decode cX9_operand 137 = .ok (.imul, 1) := by decide +kernel
theorem dX9_operand_138 : decode cX9_operand 138 = .ok (.iconst 2, 1) := by decide +kernel
theorem dX9_operand_139 : decode cX9_operand 139 = .ok (.iadd, 1) := by decide +kernel
theorem dX9_operand_140 : decode cX9_operand 140 = .ok (.iaload, 1) := by decide +kernel
theorem dX9_operand_141 : decode cX9_operand 141 = .ok (.ireturn, 1) := by decide +kernel
theorem dX9_single_0 : decode cX9_single 0 = .ok (.iload_n 0, 1) := by decide +kernel
theorem dX9_single_1 : decode cX9_single 1 = .ok (.tableswitch 39 11 13 #[27, 30, 34], 27) := by decide +kernel
theorem dX9_single_28 : decode cX9_single 28 = .ok (.iload_n 1, 1) := by decide +kernel
theorem dX9_single_29 : decode cX9_single 29 = .ok (.ineg, 1) := by decide +kernel
theorem dX9_single_30 : decode cX9_single 30 = .ok (.ireturn, 1) := by decide +kernel
theorem dX9_single_31 : decode cX9_single 31 = .ok (.iload_n 1, 1) := by decide +kernel
theorem dX9_single_32 : decode cX9_single 32 = .ok (.iconst (-1), 1) := by decide +kernel
theorem dX9_single_33 : decode cX9_single 33 = .ok (.ixor, 1) := by decide +kernel
theorem dX9_single_34 : decode cX9_single 34 = .ok (.ireturn, 1) := by decide +kernel
theorem dX9_single_35 : decode cX9_single 35 = .ok (.iload_n 1, 1) := by decide +kernel
theorem dX9_single_36 : decode cX9_single 36 = .ok (.invokestatic 182, 3) := by decide +kernel
theorem dX9_single_39 : decode cX9_single 39 = .ok (.ireturn, 1) := by decide +kernel
theorem dX9_single_40 : decode cX9_single 40 = .ok (.iload_n 1, 1) := by decide +kernel
theorem dX9_single_41 : decode cX9_single 41 = .ok (.invokestatic 185, 3) := by decide +kernel
theorem dX9_single_44 : decode cX9_single 44 = .ok (.ireturn, 1) := by decide +kernel
theorem dX9_high_0 : decode cX9_high 0 = .ok (.iload_n 0, 1) := by decide +kernel
theorem dX9_high_1 : decode cX9_high 1 = .ok (.sipush 2048, 3) := by decide +kernel
theorem dX9_high_4 : decode cX9_high 4 = .ok (.iadd, 1) := by decide +kernel
theorem dX9_high_5 : decode cX9_high 5 = .ok (.bipush 12, 2) := by decide +kernel
theorem dX9_high_7 : decode cX9_high 7 = .ok (.iushr, 1) := by decide +kernel
theorem dX9_high_8 : decode cX9_high 8 = .ok (.ireturn, 1) := by decide +kernel
theorem dX9_low_0 : decode cX9_low 0 = .ok (.iload_n 0, 1) := by decide +kernel
theorem dX9_low_1 : decode cX9_low 1 = .ok (.bipush 20, 2) := by decide +kernel
theorem dX9_low_3 : decode cX9_low 3 = .ok (.ishl, 1) := by decide +kernel
theorem dX9_low_4 : decode cX9_low 4 = .ok (.bipush 20, 2) := by decide +kernel
theorem dX9_low_6 : decode cX9_low 6 = .ok (.ishr, 1) := by decide +kernel
theorem dX9_low_7 : decode cX9_low 7 = .ok (.ireturn, 1) := by decide +kernel
theorem dX9_joined_0 : decode cX9_joined 0 = .ok (.iload_n 1, 1) := by decide +kernel
theorem dX9_joined_1 : decode cX9_joined 1 = .ok (.tableswitch 126 1 9 #[51, 55, 55, 102, 106, 110, 114, 118, 122], 51) := by decide +kernel
theorem dX9_joined_52 : decode cX9_joined 52 = .ok (.iload_n 2, 1) := by decide +kernel
theorem dX9_joined_53 : decode cX9_joined 53 = .ok (.iload_n 3, 1) := by decide +kernel
theorem dX9_joined_54 : decode cX9_joined 54 = .ok (.imul, 1) := by decide +kernel
theorem dX9_joined_55 : decode cX9_joined 55 = .ok (.ireturn, 1) := by decide +kernel
theorem dX9_joined_56 : decode cX9_joined 56 = .ok (.iload_n 3, 1) := by decide +kernel
theorem dX9_joined_57 : decode cX9_joined 57 = .ok (.ifCond .ne 23, 3) := by decide +kernel
theorem dX9_joined_60 : decode cX9_joined 60 = .ok (.aload_n 0, 1) := by decide +kernel
theorem dX9_joined_61 : decode cX9_joined 61 = .ok (.aload_n 0, 1) := by decide +kernel
theorem dX9_joined_62 : decode cX9_joined 62 = .ok (.getfield 166, 3) := by decide +kernel
theorem dX9_joined_65 : decode cX9_joined 65 = .ok (.ifCond .ne 8, 3) := by decide +kernel
theorem dX9_joined_68 : decode cX9_joined 68 = .ok (.bipush 9, 2) := by decide +kernel
theorem dX9_joined_70 : decode cX9_joined 70 = .ok (.goto 7, 3) := by decide +kernel
theorem dX9_joined_73 : decode cX9_joined 73 = .ok (.aload_n 0, 1) := by decide +kernel
theorem dX9_joined_74 : decode cX9_joined 74 = .ok (.getfield 166, 3) := by decide +kernel
theorem dX9_joined_77 : decode cX9_joined 77 = .ok (.putfield 166, 3) := by decide +kernel
theorem dX9_joined_80 : decode cX9_joined 80 = .ok (.iload_n 3, 1) := by decide +kernel
theorem dX9_joined_81 : decode cX9_joined 81 = .ok (.ifCond .ne 7, 3) := by decide +kernel
theorem dX9_joined_84 : decode cX9_joined 84 = .ok (.iconst 0, 1) := by decide +kernel
theorem dX9_joined_85 : decode cX9_joined 85 = .ok (.goto 17, 3) := by decide +kernel
theorem dX9_joined_88 : decode cX9_joined 88 = .ok (.iload_n 1, 1) := by decide +kernel
theorem dX9_joined_89 : decode cX9_joined 89 = .ok (.iconst 2, 1) := by decide +kernel
theorem dX9_joined_90 : decode cX9_joined 90 = .ok (.if_icmp .ne 9, 3) := by decide +kernel
theorem dX9_joined_93 : decode cX9_joined 93 = .ok (.iload_n 2, 1) := by decide +kernel
theorem dX9_joined_94 : decode cX9_joined 94 = .ok (.iload_n 3, 1) := by decide +kernel
theorem dX9_joined_95 : decode cX9_joined 95 = .ok (.idiv, 1) := by decide +kernel
theorem dX9_joined_96 : decode cX9_joined 96 = .ok (.goto 6, 3) := by decide +kernel
theorem dX9_joined_99 : decode cX9_joined 99 = .ok (.iload_n 2, 1) := by decide +kernel
theorem dX9_joined_100 : decode cX9_joined 100 = .ok (.iload_n 3, 1) := by decide +kernel
theorem dX9_joined_101 : decode cX9_joined 101 = .ok (.irem, 1) := by decide +kernel
theorem dX9_joined_102 : decode cX9_joined 102 = .ok (.ireturn, 1) := by decide +kernel
theorem dX9_joined_103 : decode cX9_joined 103 = .ok (.iload_n 2, 1) := by decide +kernel
theorem dX9_joined_104 : decode cX9_joined 104 = .ok (.iload_n 3, 1) := by decide +kernel
theorem dX9_joined_105 : decode cX9_joined 105 = .ok (.iadd, 1) := by decide +kernel
theorem dX9_joined_106 : decode cX9_joined 106 = .ok (.ireturn, 1) := by decide +kernel
theorem dX9_joined_107 : decode cX9_joined 107 = .ok (.iload_n 2, 1) := by decide +kernel
theorem dX9_joined_108 : decode cX9_joined 108 = .ok (.iload_n 3, 1) := by decide +kernel
theorem dX9_joined_109 : decode cX9_joined 109 = .ok (.isub, 1) := by decide +kernel
theorem dX9_joined_110 : decode cX9_joined 110 = .ok (.ireturn, 1) := by decide +kernel
theorem dX9_joined_111 : decode cX9_joined 111 = .ok (.iload_n 2, 1) := by decide +kernel
theorem dX9_joined_112 : decode cX9_joined 112 = .ok (.iload_n 3, 1) := by decide +kernel
theorem dX9_joined_113 : decode cX9_joined 113 = .ok (.ishl, 1) := by decide +kernel
theorem dX9_joined_114 : decode cX9_joined 114 = .ok (.ireturn, 1) := by decide +kernel
theorem dX9_joined_115 : decode cX9_joined 115 = .ok (.iload_n 2, 1) := by decide +kernel
theorem dX9_joined_116 : decode cX9_joined 116 = .ok (.iload_n 3, 1) := by decide +kernel
theorem dX9_joined_117 : decode cX9_joined 117 = .ok (.ishr, 1) := by decide +kernel
theorem dX9_joined_118 : decode cX9_joined 118 = .ok (.ireturn, 1) := by decide +kernel
theorem dX9_joined_119 : decode cX9_joined 119 = .ok (.iload_n 2, 1) := by decide +kernel
theorem dX9_joined_120 : decode cX9_joined 120 = .ok (.iload_n 3, 1) := by decide +kernel
theorem dX9_joined_121 : decode cX9_joined 121 = .ok (.iand, 1) := by decide +kernel
theorem dX9_joined_122 : decode cX9_joined 122 = .ok (.ireturn, 1) := by decide +kernel
theorem dX9_joined_123 : decode cX9_joined 123 = .ok (.iload_n 2, 1) := by decide +kernel
theorem dX9_joined_124 : decode cX9_joined 124 = .ok (.iload_n 3, 1) := by decide +kernel
theorem dX9_joined_125 : decode cX9_joined 125 = .ok (.ixor, 1) := by decide +kernel
theorem dX9_joined_126 : decode cX9_joined 126 = .ok (.ireturn, 1) := by decide +kernel
theorem dX9_joined_127 : decode cX9_joined 127 = .ok (.iload_n 2, 1) := by decide +kernel
theorem dX9_joined_128 : decode cX9_joined 128 = .ok (.iload_n 3, 1) := by decide +kernel
theorem dX9_joined_129 : decode cX9_joined 129 = .ok (.ior, 1) := by decide +kernel
theorem dX9_joined_130 : decode cX9_joined 130 = .ok (.ireturn, 1) := by decide +kernel
