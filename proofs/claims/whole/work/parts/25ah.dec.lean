theorem dX9_takeOperand_120 : decode cX9_takeOperand 120 = .ok (.iconst 1, 1) := by decide +kernel
theorem dX9_takeOperand_121 : decode cX9_takeOperand 121 = .ok (.if_icmp .ne 7, 3) := by decide +kernel
theorem dX9_takeOperand_124 : decode cX9_takeOperand 124 = .ok (.iconst 1, 1) := by decide +kernel
theorem dX9_takeOperand_125 : decode cX9_takeOperand 125 = .ok (.goto 4, 3) := by decide +kernel
theorem dX9_takeOperand_128 : decode cX9_takeOperand 128 = .ok (.iconst 0, 1) := by decide +kernel
theorem dX9_takeOperand_129 : decode cX9_takeOperand 129 = .ok (.putfield 115, 3) := by decide +kernel
theorem dX9_takeOperand_132 : decode cX9_takeOperand 132 = .ok (.aload_n 0, 1) := by decide +kernel
theorem dX9_takeOperand_133 : decode cX9_takeOperand 133 = .ok (.bipush 17, 2) := by decide +kernel
theorem dX9_takeOperand_135 : decode cX9_takeOperand 135 = .ok (.iload_n 1, 1) := by decide +kernel
theorem dX9_takeOperand_136 : decode cX9_takeOperand 136 = .ok (.invokevirtual 131, 3) := by decide +kernel
theorem dX9_takeOperand_139 : decode cX9_takeOperand 139 = .ok (.goto 114, 3) := by decide +kernel
theorem dX9_takeOperand_142 : decode cX9_takeOperand 142 = .ok (.aload_n 0, 1) := by decide +kernel
theorem dX9_takeOperand_143 : decode cX9_takeOperand 143 = .ok (.getfield 73, 3) := by decide +kernel
theorem dX9_takeOperand_146 : decode cX9_takeOperand 146 = .ok (.iconst 3, 1) := by decide +kernel
theorem dX9_takeOperand_147 : decode cX9_takeOperand 147 = .ok (.if_icmp .ne 10, 3) := by decide +kernel
theorem dX9_takeOperand_150 : decode cX9_takeOperand 150 = .ok (.aload_n 0, 1) := by decide +kernel
theorem dX9_takeOperand_151 : decode cX9_takeOperand 151 = .ok (.invokevirtual 138, 3) := by decide +kernel
theorem dX9_takeOperand_154 : decode cX9_takeOperand 154 = .ok (.goto 99, 3) := by decide +kernel
theorem dX9_takeOperand_157 : decode cX9_takeOperand 157 = .ok (.aload_n 0, 1) := by decide +kernel
theorem dX9_takeOperand_158 : decode cX9_takeOperand 158 = .ok (.getfield 73, 3) := by decide +kernel
theorem dX9_takeOperand_161 : decode cX9_takeOperand 161 = .ok (.iconst 5, 1) := by decide +kernel
theorem dX9_takeOperand_162 : decode cX9_takeOperand 162 = .ok (.if_icmp .ne 72, 3) := by decide +kernel
theorem dX9_takeOperand_165 : decode cX9_takeOperand 165 = .ok (.aload_n 0, 1) := by decide +kernel
theorem dX9_takeOperand_166 : decode cX9_takeOperand 166 = .ok (.getfield 93, 3) := by decide +kernel
theorem dX9_takeOperand_169 : decode cX9_takeOperand 169 = .ok (.bipush 45, 2) := by decide +kernel
theorem dX9_takeOperand_171 : decode cX9_takeOperand 171 = .ok (.if_icmp .eq 21, 3) := by decide +kernel
theorem dX9_takeOperand_174 : decode cX9_takeOperand 174 = .ok (.aload_n 0, 1) := by decide +kernel
theorem dX9_takeOperand_175 : decode cX9_takeOperand 175 = .ok (.getfield 93, 3) := by decide +kernel
theorem dX9_takeOperand_178 : decode cX9_takeOperand 178 = .ok (.bipush 126, 2) := by decide +kernel
theorem dX9_takeOperand_180 : decode cX9_takeOperand 180 = .ok (.if_icmp .eq 12, 3) := by decide +kernel
theorem dX9_takeOperand_183 : decode cX9_takeOperand 183 = .ok (.aload_n 0, 1) := by decide +kernel
theorem dX9_takeOperand_184 : decode cX9_takeOperand 184 = .ok (.getfield 93, 3) := by decide +kernel
theorem dX9_takeOperand_187 : decode cX9_takeOperand 187 = .ok (.bipush 40, 2) := by decide +kernel
theorem dX9_takeOperand_189 : decode cX9_takeOperand 189 = .ok (.if_icmp .ne 45, 3) := by decide +kernel
theorem dX9_takeOperand_192 : decode cX9_takeOperand 192 = .ok (.aload_n 0, 1) := by decide +kernel
theorem dX9_takeOperand_193 : decode cX9_takeOperand 193 = .ok (.aload_n 0, 1) := by decide +kernel
theorem dX9_takeOperand_194 : decode cX9_takeOperand 194 = .ok (.getfield 93, 3) := by decide +kernel
theorem dX9_takeOperand_197 : decode cX9_takeOperand 197 = .ok (.bipush 45, 2) := by decide +kernel
theorem dX9_takeOperand_199 : decode cX9_takeOperand 199 = .ok (.if_icmp .ne 8, 3) := by decide +kernel
theorem dX9_takeOperand_202 : decode cX9_takeOperand 202 = .ok (.bipush 11, 2) := by decide +kernel
theorem dX9_takeOperand_204 : decode cX9_takeOperand 204 = .ok (.goto 19, 3) := by decide +kernel
theorem dX9_takeOperand_207 : decode cX9_takeOperand 207 = .ok (.aload_n 0, 1) := by decide +kernel
theorem dX9_takeOperand_208 : decode cX9_takeOperand 208 = .ok (.getfield 93, 3) := by decide +kernel
theorem dX9_takeOperand_211 : decode cX9_takeOperand 211 = .ok (.bipush 126, 2) := by decide +kernel
theorem dX9_takeOperand_213 : decode cX9_takeOperand 213 = .ok (.if_icmp .ne 8, 3) := by decide +kernel
theorem dX9_takeOperand_216 : decode cX9_takeOperand 216 = .ok (.bipush 12, 2) := by decide +kernel
theorem dX9_takeOperand_218 : decode cX9_takeOperand 218 = .ok (.goto 5, 3) := by decide +kernel
theorem dX9_takeOperand_221 : decode cX9_takeOperand 221 = .ok (.bipush 15, 2) := by decide +kernel
theorem dX9_takeOperand_223 : decode cX9_takeOperand 223 = .ok (.invokevirtual 141, 3) := by decide +kernel
theorem dX9_takeOperand_226 : decode cX9_takeOperand 226 = .ok (.aload_n 0, 1) := by decide +kernel
theorem dX9_takeOperand_227 : decode cX9_takeOperand 227 = .ok (.iconst 0, 1) := by decide +kernel
theorem dX9_takeOperand_228 : decode cX9_takeOperand 228 = .ok (.putfield 119, 3) := by decide +kernel
theorem dX9_takeOperand_231 : decode cX9_takeOperand 231 = .ok (.goto 22, 3) := by decide +kernel
theorem dX9_takeOperand_234 : decode cX9_takeOperand 234 = .ok (.aload_n 0, 1) := by decide +kernel
theorem dX9_takeOperand_235 : decode cX9_takeOperand 235 = .ok (.aload_n 0, 1) := by decide +kernel
theorem dX9_takeOperand_236 : decode cX9_takeOperand 236 = .ok (.bipush 37, 2) := by decide +kernel
theorem dX9_takeOperand_238 : decode cX9_takeOperand 238 = .ok (.invokevirtual 144, 3) := by decide +kernel
theorem dX9_takeOperand_241 : decode cX9_takeOperand 241 = .ok (.ifCond .eq 7, 3) := by decide +kernel
theorem dX9_takeOperand_244 : decode cX9_takeOperand 244 = .ok (.iconst 2, 1) := by decide +kernel
theorem dX9_takeOperand_245 : decode cX9_takeOperand 245 = .ok (.goto 5, 3) := by decide +kernel
theorem dX9_takeOperand_248 : decode cX9_takeOperand 248 = .ok (.bipush 6, 2) := by decide +kernel
theorem dX9_takeOperand_250 : decode cX9_takeOperand 250 = .ok (.putfield 119, 3) := by decide +kernel
theorem dX9_takeOperand_253 : decode cX9_takeOperand 253 = .ok (.return_, 1) := by decide +kernel
theorem dX9_takeNear_0 : decode cX9_takeNear 0 = .ok (.aload_n 0, 1) := by decide +kernel
theorem dX9_takeNear_1 : decode cX9_takeNear 1 = .ok (.iconst 0, 1) := by decide +kernel
theorem dX9_takeNear_2 : decode cX9_takeNear 2 = .ok (.putfield 115, 3) := by decide +kernel
theorem dX9_takeNear_5 : decode cX9_takeNear 5 = .ok (.aload_n 0, 1) := by decide +kernel
theorem dX9_takeNear_6 : decode cX9_takeNear 6 = .ok (.getfield 33, 3) := by decide +kernel
theorem dX9_takeNear_9 : decode cX9_takeNear 9 = .ok (.bipush 10, 2) := by decide +kernel
theorem dX9_takeNear_11 : decode cX9_takeNear 11 = .ok (.aload_n 0, 1) := by decide +kernel
theorem dX9_takeNear_12 : decode cX9_takeNear 12 = .ok (.getfield 93, 3) := by decide +kernel
theorem dX9_takeNear_15 : decode cX9_takeNear 15 = .ok (.iadd, 1) := by decide +kernel
theorem dX9_takeNear_16 : decode cX9_takeNear 16 = .ok (.iaload, 1) := by decide +kernel
theorem dX9_takeNear_17 : decode cX9_takeNear 17 = .ok (.iconst 1, 1) := by decide +kernel
theorem dX9_takeNear_18 : decode cX9_takeNear 18 = .ok (.isub, 1) := by decide +kernel
theorem dX9_takeNear_19 : decode cX9_takeNear 19 = .ok (.istore_n 1, 1) := by decide +kernel
theorem dX9_takeNear_20 : decode cX9_takeNear 20 = .ok (.aload_n 0, 1) := by decide +kernel
theorem dX9_takeNear_21 : decode cX9_takeNear 21 = .ok (.getfield 9, 3) := by decide +kernel
theorem dX9_takeNear_24 : decode cX9_takeNear 24 = .ok (.aload_n 0, 1) := by decide +kernel
theorem dX9_takeNear_25 : decode cX9_takeNear 25 = .ok (.getfield 70, 3) := by decide +kernel
theorem dX9_takeNear_28 : decode cX9_takeNear 28 = .ok (.iconst 1, 1) := by decide +kernel
theorem dX9_takeNear_29 : decode cX9_takeNear 29 = .ok (.iadd, 1) := by decide +kernel
theorem dX9_takeNear_30 : decode cX9_takeNear 30 = .ok (.baload, 1) := by decide +kernel
theorem dX9_takeNear_31 : decode cX9_takeNear 31 = .ok (.bipush 98, 2) := by decide +kernel
theorem dX9_takeNear_33 : decode cX9_takeNear 33 = .ok (.if_icmp .ne 13, 3) := by decide +kernel
theorem dX9_takeNear_36 : decode cX9_takeNear 36 = .ok (.aload_n 0, 1) := by decide +kernel
theorem dX9_takeNear_37 : decode cX9_takeNear 37 = .ok (.bipush 20, 2) := by decide +kernel
theorem dX9_takeNear_39 : decode cX9_takeNear 39 = .ok (.iload_n 1, 1) := by decide +kernel
theorem dX9_takeNear_40 : decode cX9_takeNear 40 = .ok (.invokevirtual 131, 3) := by decide +kernel
theorem dX9_takeNear_43 : decode cX9_takeNear 43 = .ok (.goto 23, 3) := by decide +kernel
theorem dX9_takeNear_46 : decode cX9_takeNear 46 = .ok (.aload_n 0, 1) := by decide +kernel
theorem dX9_takeNear_47 : decode cX9_takeNear 47 = .ok (.bipush 19, 2) := by decide +kernel
theorem dX9_takeNear_49 : decode cX9_takeNear 49 = .ok (.iload_n 1, 1) := by decide +kernel
theorem dX9_takeNear_50 : decode cX9_takeNear 50 = .ok (.ifCond .lt 7, 3) := by decide +kernel
theorem dX9_takeNear_53 : decode cX9_takeNear 53 = .ok (.iload_n 1, 1) := by decide +kernel
theorem dX9_takeNear_54 : decode cX9_takeNear 54 = .ok (.goto 9, 3) := by decide +kernel
theorem dX9_takeNear_57 : decode cX9_takeNear 57 = .ok (.iconst (-1), 1) := by decide +kernel
theorem dX9_takeNear_58 : decode cX9_takeNear 58 = .ok (.aload_n 0, 1) := by decide +kernel
theorem dX9_takeNear_59 : decode cX9_takeNear 59 = .ok (.getfield 93, 3) := by decide +kernel
theorem dX9_takeNear_62 : decode cX9_takeNear 62 = .ok (.isub, 1) := by decide +kernel
theorem dX9_takeNear_63 : decode cX9_takeNear 63 = .ok (.invokevirtual 131, 3) := by decide +kernel
theorem dX9_takeNear_66 : decode cX9_takeNear 66 = .ok (.return_, 1) := by decide +kernel
theorem dX9_binary_0 : decode cX9_binary 0 = .ok (.iload_n 0, 1) := by decide +kernel
theorem dX9_binary_1 : decode cX9_binary 1 = .ok (.lookupswitch 116 #[(37, 95), (38, 107), (42, 91), (43, 97), (45, 99), (47, 93), (94, 110), (124, 113), (256, 101), (257, 104)], 91) := by decide +kernel
theorem dX9_binary_92 : decode cX9_binary 92 = .ok (.iconst 1, 1) := by decide +kernel
theorem dX9_binary_93 : decode cX9_binary 93 = .ok (.ireturn, 1) := by decide +kernel
theorem dX9_binary_94 : decode cX9_binary 94 = .ok (.iconst 2, 1) := by decide +kernel
theorem dX9_binary_95 : decode cX9_binary 95 = .ok (.ireturn, 1) := by decide +kernel
theorem dX9_binary_96 : decode cX9_binary 96 = .ok (.iconst 3, 1) := by decide +kernel
theorem dX9_binary_97 : decode cX9_binary 97 = .ok (.ireturn, 1) := by decide +kernel
theorem dX9_binary_98 : decode cX9_binary 98 = .ok (.iconst 4, 1) := by decide +kernel
theorem dX9_binary_99 : decode cX9_binary 99 = .ok (.ireturn, 1) := by decide +kernel
theorem dX9_binary_100 : decode cX9_binary 100 = .ok (.iconst 5, 1) := by decide +kernel
theorem dX9_binary_101 : decode cX9_binary 101 = .ok (.ireturn, 1) := by decide +kernel
theorem dX9_binary_102 : decode cX9_binary 102 = .ok (.bipush 6, 2) := by decide +kernel
theorem dX9_binary_104 : decode cX9_binary 104 = .ok (.ireturn, 1) := by decide +kernel
theorem dX9_binary_105 : decode cX9_binary 105 = .ok (.bipush 7, 2) := by decide +kernel
theorem dX9_binary_107 : decode cX9_binary 107 = .ok (.ireturn, 1) := by decide +kernel
theorem dX9_binary_108 : decode cX9_binary 108 = .ok (.bipush 8, 2) := by decide +kernel
theorem dX9_binary_110 : decode cX9_binary 110 = .ok (.ireturn, 1) := by decide +kernel
theorem dX9_binary_111 : decode cX9_binary 111 = .ok (.bipush 9, 2) := by decide +kernel
theorem dX9_binary_113 : decode cX9_binary 113 = .ok (.ireturn, 1) := by decide +kernel
theorem dX9_binary_114 : decode cX9_binary 114 = .ok (.bipush 10, 2) := by decide +kernel
theorem dX9_binary_116 : decode cX9_binary 116 = .ok (.ireturn, 1) := by decide +kernel
theorem dX9_binary_117 : decode cX9_binary 117 = .ok (.iconst 0, 1) := by decide +kernel
theorem dX9_binary_118 : decode cX9_binary 118 = .ok (.ireturn, 1) := by decide +kernel
theorem dX9_push_0 : decode cX9_push 0 = .ok (.aload_n 0, 1) := by decide +kernel
theorem dX9_push_1 : decode cX9_push 1 = .ok (.getfield 112, 3) := by decide +kernel
theorem dX9_push_4 : decode cX9_push 4 = .ok (.aload_n 0, 1) := by decide +kernel
theorem dX9_push_5 : decode cX9_push 5 = .ok (.getfield 23, 3) := by decide +kernel
theorem dX9_push_8 : decode cX9_push 8 = .ok (.arraylength, 1) := by decide +kernel
theorem dX9_push_9 : decode cX9_push 9 = .ok (.if_icmp .ge 23, 3) := by decide +kernel
theorem dX9_push_12 : decode cX9_push 12 = .ok (.aload_n 0, 1) := by decide +kernel
theorem dX9_push_13 : decode cX9_push 13 = .ok (.getfield 23, 3) := by decide +kernel
theorem dX9_push_16 : decode cX9_push 16 = .ok (.aload_n 0, 1) := by decide +kernel
theorem dX9_push_17 : decode cX9_push 17 = .ok (.getfield 112, 3) := by decide +kernel
theorem dX9_push_20 : decode cX9_push 20 = .ok (.iload_n 1, 1) := by decide +kernel
theorem dX9_push_21 : decode cX9_push 21 = .ok (.iastore, 1) := by decide +kernel
theorem dX9_push_22 : decode cX9_push 22 = .ok (.aload_n 0, 1) := by decide +kernel
theorem dX9_push_23 : decode cX9_push 23 = .ok (.dup, 1) := by decide +kernel
theorem dX9_push_24 : decode cX9_push 24 = .ok (.getfield 112, 3) := by decide +kernel
theorem dX9_push_27 : decode cX9_push 27 = .ok (.iconst 1, 1) := by decide +kernel
theorem dX9_push_28 : decode cX9_push 28 = .ok (.iadd, 1) := by decide +kernel
theorem dX9_push_29 : decode cX9_push 29 = .ok (.putfield 112, 3) := by decide +kernel
theorem dX9_push_32 : decode cX9_push 32 = .ok (.return_, 1) := by decide +kernel
theorem dX9_emit_0 : decode cX9_emit 0 = .ok (.aload_n 0, 1) := by decide +kernel
theorem dX9_emit_1 : decode cX9_emit 1 = .ok (.getfield 39, 3) := by decide +kernel
theorem dX9_emit_4 : decode cX9_emit 4 = .ok (.aload_n 0, 1) := by decide +kernel
theorem dX9_emit_5 : decode cX9_emit 5 = .ok (.getfield 16, 3) := by decide +kernel
theorem dX9_emit_8 : decode cX9_emit 8 = .ok (.arraylength, 1) := by decide +kernel
theorem dX9_emit_9 : decode cX9_emit 9 = .ok (.if_icmp .ge 33, 3) := by decide +kernel
theorem dX9_emit_12 : decode cX9_emit 12 = .ok (.aload_n 0, 1) := by decide +kernel
theorem dX9_emit_13 : decode cX9_emit 13 = .ok (.getfield 16, 3) := by decide +kernel
theorem dX9_emit_16 : decode cX9_emit 16 = .ok (.aload_n 0, 1) := by decide +kernel
theorem dX9_emit_17 : decode cX9_emit 17 = .ok (.getfield 39, 3) := by decide +kernel
theorem dX9_emit_20 : decode cX9_emit 20 = .ok (.iload_n 1, 1) := by decide +kernel
theorem dX9_emit_21 : decode cX9_emit 21 = .ok (.iastore, 1) := by decide +kernel
theorem dX9_emit_22 : decode cX9_emit 22 = .ok (.aload_n 0, 1) := by decide +kernel
theorem dX9_emit_23 : decode cX9_emit 23 = .ok (.getfield 20, 3) := by decide +kernel
theorem dX9_emit_26 : decode cX9_emit 26 = .ok (.aload_n 0, 1) := by decide +kernel
theorem dX9_emit_27 : decode cX9_emit 27 = .ok (.getfield 39, 3) := by decide +kernel
theorem dX9_emit_30 : decode cX9_emit 30 = .ok (.iload_n 2, 1) := by decide +kernel
theorem dX9_emit_31 : decode cX9_emit 31 = .ok (.iastore, 1) := by decide +kernel
theorem dX9_emit_32 : decode cX9_emit 32 = .ok (.aload_n 0, 1) := by decide +kernel
theorem dX9_emit_33 : decode cX9_emit 33 = .ok (.dup, 1) := by decide +kernel
theorem dX9_emit_34 : decode cX9_emit 34 = .ok (.getfield 39, 3) := by decide +kernel
theorem dX9_emit_37 : decode cX9_emit 37 = .ok (.iconst 1, 1) := by decide +kernel
theorem dX9_emit_38 : decode cX9_emit 38 = .ok (.iadd, 1) := by decide +kernel
theorem dX9_emit_39 : decode cX9_emit 39 = .ok (.putfield 39, 3) := by decide +kernel
theorem dX9_emit_42 : decode cX9_emit 42 = .ok (.return_, 1) := by decide +kernel
theorem dX9_evaluate_0 : decode cX9_evaluate 0 = .ok (.aload_n 0, 1) := by decide +kernel
theorem dX9_evaluate_1 : decode cX9_evaluate 1 = .ok (.iconst 0, 1) := by decide +kernel
theorem dX9_evaluate_2 : decode cX9_evaluate 2 = .ok (.putfield 166, 3) := by decide +kernel
theorem dX9_evaluate_5 : decode cX9_evaluate 5 = .ok (.aload_n 0, 1) := by decide +kernel
theorem dX9_evaluate_6 : decode cX9_evaluate 6 = .ok (.iconst 0, 1) := by decide +kernel
theorem dX9_evaluate_7 : decode cX9_evaluate 7 = .ok (.putfield 112, 3) := by decide +kernel
theorem dX9_evaluate_10 : decode cX9_evaluate 10 = .ok (.iconst 0, 1) := by decide +kernel
theorem dX9_evaluate_11 : decode cX9_evaluate 11 = .ok (.iload_n 1, 1) := by decide +kernel
theorem dX9_evaluate_12 : decode cX9_evaluate 12 = .ok (.invokestatic 169, 3) := by decide +kernel
theorem dX9_evaluate_15 : decode cX9_evaluate 15 = .ok (.istore_n 3, 1) := by decide +kernel
theorem dX9_evaluate_16 : decode cX9_evaluate 16 = .ok (.iload_n 3, 1) := by decide +kernel
theorem dX9_evaluate_17 : decode cX9_evaluate 17 = .ok (.aload_n 0, 1) := by decide +kernel
theorem dX9_evaluate_18 : decode cX9_evaluate 18 = .ok (.getfield 39, 3) := by decide +kernel
theorem dX9_evaluate_21 : decode cX9_evaluate 21 = .ok (.if_icmp .ge 166, 3) := by decide +kernel
theorem dX9_evaluate_24 : decode cX9_evaluate 24 = .ok (.aload_n 0, 1) := by decide +kernel
theorem dX9_evaluate_25 : decode cX9_evaluate 25 = .ok (.getfield 16, 3) := by decide +kernel
theorem dX9_evaluate_28 : decode cX9_evaluate 28 = .ok (.iload_n 3, 1) := by decide +kernel
theorem dX9_evaluate_29 : decode cX9_evaluate 29 = .ok (.iaload, 1) := by decide +kernel
theorem dX9_evaluate_30 : decode cX9_evaluate 30 = .ok (.bipush 21, 2) := by decide +kernel
theorem dX9_evaluate_32 : decode cX9_evaluate 32 = .ok (.if_icmp .eq 155, 3) := by decide +kernel
theorem dX9_evaluate_35 : decode cX9_evaluate 35 = .ok (.aload_n 0, 1) := by decide +kernel
theorem dX9_evaluate_36 : decode cX9_evaluate 36 = .ok (.getfield 16, 3) := by decide +kernel
theorem dX9_evaluate_39 : decode cX9_evaluate 39 = .ok (.iload_n 3, 1) := by decide +kernel
theorem dX9_evaluate_40 : decode cX9_evaluate 40 = .ok (.iaload, 1) := by decide +kernel
theorem dX9_evaluate_41 : decode cX9_evaluate 41 = .ok (.bipush 16, 2) := by decide +kernel
theorem dX9_evaluate_43 : decode cX9_evaluate 43 = .ok (.if_icmp .lt 27, 3) := by decide +kernel
theorem dX9_evaluate_46 : decode cX9_evaluate 46 = .ok (.aload_n 0, 1) := by decide +kernel
theorem dX9_evaluate_47 : decode cX9_evaluate 47 = .ok (.aload_n 0, 1) := by decide +kernel
theorem dX9_evaluate_48 : decode cX9_evaluate 48 = .ok (.aload_n 0, 1) := by decide +kernel
theorem dX9_evaluate_49 : decode cX9_evaluate 49 = .ok (.getfield 16, 3) := by decide +kernel
theorem dX9_evaluate_52 : decode cX9_evaluate 52 = .ok (.iload_n 3, 1) := by decide +kernel
theorem dX9_evaluate_53 : decode cX9_evaluate 53 = .ok (.iaload, 1) := by decide +kernel
theorem dX9_evaluate_54 : decode cX9_evaluate 54 = .ok (.aload_n 0, 1) := by decide +kernel
theorem dX9_evaluate_55 : decode cX9_evaluate 55 = .ok (.getfield 20, 3) := by decide +kernel
theorem dX9_evaluate_58 : decode cX9_evaluate 58 = .ok (.iload_n 3, 1) := by decide +kernel
theorem dX9_evaluate_59 : decode cX9_evaluate 59 = .ok (.iaload, 1) := by decide +kernel
theorem dX9_evaluate_60 : decode cX9_evaluate 60 = .ok (.iload_n 2, 1) := by decide +kernel
theorem dX9_evaluate_61 : decode cX9_evaluate 61 = .ok (.invokevirtual 172, 3) := by decide +kernel
theorem dX9_evaluate_64 : decode cX9_evaluate 64 = .ok (.invokevirtual 141, 3) := by decide +kernel
theorem dX9_evaluate_67 : decode cX9_evaluate 67 = .ok (.goto 114, 3) := by decide +kernel
theorem dX9_evaluate_70 : decode cX9_evaluate 70 = .ok (.aload_n 0, 1) := by decide +kernel
theorem dX9_evaluate_71 : decode cX9_evaluate 71 = .ok (.getfield 16, 3) := by decide +kernel
theorem dX9_evaluate_74 : decode cX9_evaluate 74 = .ok (.iload_n 3, 1) := by decide +kernel
theorem dX9_evaluate_75 : decode cX9_evaluate 75 = .ok (.iaload, 1) := by decide +kernel
theorem dX9_evaluate_76 : decode cX9_evaluate 76 = .ok (.bipush 11, 2) := by decide +kernel
theorem dX9_evaluate_78 : decode cX9_evaluate 78 = .ok (.if_icmp .lt 44, 3) := by decide +kernel
theorem dX9_evaluate_81 : decode cX9_evaluate 81 = .ok (.aload_n 0, 1) := by decide +kernel
theorem dX9_evaluate_82 : decode cX9_evaluate 82 = .ok (.getfield 112, 3) := by decide +kernel
theorem dX9_evaluate_85 : decode cX9_evaluate 85 = .ok (.ifCond .le 37, 3) := by decide +kernel
theorem dX9_evaluate_88 : decode cX9_evaluate 88 = .ok (.aload_n 0, 1) := by decide +kernel
theorem dX9_evaluate_89 : decode cX9_evaluate 89 = .ok (.getfield 23, 3) := by decide +kernel
theorem dX9_evaluate_92 : decode cX9_evaluate 92 = .ok (.aload_n 0, 1) := by decide +kernel
theorem dX9_evaluate_93 : decode cX9_evaluate 93 = .ok (.getfield 112, 3) := by decide +kernel
theorem dX9_evaluate_96 : decode cX9_evaluate 96 = .ok (.iconst 1, 1) := by decide +kernel
theorem dX9_evaluate_97 : decode cX9_evaluate 97 = .ok (.isub, 1) := by decide +kernel
theorem dX9_evaluate_98 : decode cX9_evaluate 98 = .ok (.aload_n 0, 1) := by decide +kernel
theorem dX9_evaluate_99 : decode cX9_evaluate 99 = .ok (.getfield 16, 3) := by decide +kernel
theorem dX9_evaluate_102 : decode cX9_evaluate 102 = .ok (.iload_n 3, 1) := by decide +kernel
theorem dX9_evaluate_103 : decode cX9_evaluate 103 = .ok (.iaload, 1) := by decide +kernel
theorem dX9_evaluate_104 : decode cX9_evaluate 104 = .ok (.aload_n 0, 1) := by decide +kernel
theorem dX9_evaluate_105 : decode cX9_evaluate 105 = .ok (.getfield 23, 3) := by decide +kernel
theorem dX9_evaluate_108 : decode cX9_evaluate 108 = .ok (.aload_n 0, 1) := by decide +kernel
theorem dX9_evaluate_109 : decode cX9_evaluate 109 = .ok (.getfield 112, 3) := by decide +kernel
theorem dX9_evaluate_112 : decode cX9_evaluate 112 = .ok (.iconst 1, 1) := by decide +kernel
theorem dX9_evaluate_113 : decode cX9_evaluate 113 = .ok (.isub, 1) := by decide +kernel
theorem dX9_evaluate_114 : decode cX9_evaluate 114 = .ok (.iaload, 1) := by decide +kernel
theorem dX9_evaluate_115 : decode cX9_evaluate 115 = .ok (.invokestatic 176, 3) := by decide +kernel
theorem dX9_evaluate_118 : decode cX9_evaluate 118 = .ok (.iastore, 1) := by decide +kernel
theorem dX9_evaluate_119 : decode cX9_evaluate 119 = .ok (.goto 62, 3) := by decide +kernel
theorem dX9_evaluate_122 : decode cX9_evaluate 122 = .ok (.aload_n 0, 1) := by decide +kernel
theorem dX9_evaluate_123 : decode cX9_evaluate 123 = .ok (.getfield 112, 3) := by decide +kernel
theorem dX9_evaluate_126 : decode cX9_evaluate 126 = .ok (.iconst 1, 1) := by decide +kernel
theorem dX9_evaluate_127 : decode cX9_evaluate 127 = .ok (.if_icmp .le 54, 3) := by decide +kernel
theorem dX9_evaluate_130 : decode cX9_evaluate 130 = .ok (.aload_n 0, 1) := by decide +kernel
theorem dX9_evaluate_131 : decode cX9_evaluate 131 = .ok (.dup, 1) := by decide +kernel
theorem dX9_evaluate_132 : decode cX9_evaluate 132 = .ok (.getfield 112, 3) := by decide +kernel
theorem dX9_evaluate_135 : decode cX9_evaluate 135 = .ok (.iconst 1, 1) := by decide +kernel
theorem dX9_evaluate_136 : decode cX9_evaluate 136 = .ok (.isub, 1) := by decide +kernel
theorem dX9_evaluate_137 : decode cX9_evaluate 137 = .ok (.putfield 112, 3) := by decide +kernel
theorem dX9_evaluate_140 : decode cX9_evaluate 140 = .ok (.aload_n 0, 1) := by decide +kernel
theorem dX9_evaluate_141 : decode cX9_evaluate 141 = .ok (.getfield 23, 3) := by decide +kernel
theorem dX9_evaluate_144 : decode cX9_evaluate 144 = .ok (.aload_n 0, 1) := by decide +kernel
theorem dX9_evaluate_145 : decode cX9_evaluate 145 = .ok (.getfield 112, 3) := by decide +kernel
theorem dX9_evaluate_148 : decode cX9_evaluate 148 = .ok (.iconst 1, 1) := by decide +kernel
theorem dX9_evaluate_149 : decode cX9_evaluate 149 = .ok (.isub, 1) := by decide +kernel
theorem dX9_evaluate_150 : decode cX9_evaluate 150 = .ok (.aload_n 0, 1) := by decide +kernel
theorem dX9_evaluate_151 : decode cX9_evaluate 151 = .ok (.aload_n 0, 1) := by decide +kernel
theorem dX9_evaluate_152 : decode cX9_evaluate 152 = .ok (.getfield 16, 3) := by decide +kernel
theorem dX9_evaluate_155 : decode cX9_evaluate 155 = .ok (.iload_n 3, 1) := by decide +kernel
theorem dX9_evaluate_156 : decode cX9_evaluate 156 = .ok (.iaload, 1) := by decide +kernel
theorem dX9_evaluate_157 : decode cX9_evaluate 157 = .ok (.aload_n 0, 1) := by decide +kernel
theorem dX9_evaluate_158 : decode cX9_evaluate 158 = .ok (.getfield 23, 3) := by decide +kernel
theorem dX9_evaluate_161 : decode cX9_evaluate 161 = .ok (.aload_n 0, 1) := by decide +kernel
theorem dX9_evaluate_162 : decode cX9_evaluate 162 = .ok (.getfield 112, 3) := by decide +kernel
theorem dX9_evaluate_165 : decode cX9_evaluate 165 = .ok (.iconst 1, 1) := by decide +kernel
theorem dX9_evaluate_166 : decode cX9_evaluate 166 = .ok (.isub, 1) := by decide +kernel
theorem dX9_evaluate_167 : decode cX9_evaluate 167 = .ok (.iaload, 1) := by decide +kernel
theorem dX9_evaluate_168 : decode cX9_evaluate 168 = .ok (.aload_n 0, 1) := by decide +kernel
theorem dX9_evaluate_169 : decode cX9_evaluate 169 = .ok (.getfield 23, 3) := by decide +kernel
theorem dX9_evaluate_172 : decode cX9_evaluate 172 = .ok (.aload_n 0, 1) := by decide +kernel
theorem dX9_evaluate_173 : decode cX9_evaluate 173 = .ok (.getfield 112, 3) := by decide +kernel
theorem dX9_evaluate_176 : decode cX9_evaluate 176 = .ok (.iaload, 1) := by decide +kernel
theorem dX9_evaluate_177 : decode cX9_evaluate 177 = .ok (.invokevirtual 179, 3) := by decide +kernel
theorem dX9_evaluate_180 : decode cX9_evaluate 180 = .ok (.iastore, 1) := by decide +kernel
theorem dX9_evaluate_181 : decode cX9_evaluate 181 = .ok (.iinc 3 1, 3) := by decide +kernel
theorem dX9_evaluate_184 : decode cX9_evaluate 184 = .ok (.goto (-168), 3) := by decide +kernel
theorem dX9_evaluate_187 : decode cX9_evaluate 187 = .ok (.aload_n 0, 1) := by decide +kernel
theorem dX9_evaluate_188 : decode cX9_evaluate 188 = .ok (.getfield 112, 3) := by decide +kernel
theorem dX9_evaluate_191 : decode cX9_evaluate 191 = .ok (.ifCond .le 12, 3) := by decide +kernel
theorem dX9_evaluate_194 : decode cX9_evaluate 194 = .ok (.aload_n 0, 1) := by decide +kernel
theorem dX9_evaluate_195 : decode cX9_evaluate 195 = .ok (.getfield 23, 3) := by decide +kernel
theorem dX9_evaluate_198 : decode cX9_evaluate 198 = .ok (.iconst 0, 1) := by decide +kernel
theorem dX9_evaluate_199 : decode cX9_evaluate 199 = .ok (.iaload, 1) := by decide +kernel
theorem dX9_evaluate_200 : decode cX9_evaluate 200 = .ok (.goto 4, 3) := by decide +kernel
theorem dX9_evaluate_203 : decode cX9_evaluate 203 = .ok (.iconst 0, 1) := by decide +kernel
theorem dX9_evaluate_204 : decode cX9_evaluate 204 = .ok (.ireturn, 1) := by decide +kernel
theorem dX9_behind_0 : decode cX9_behind 0 = .ok (.iconst 0, 1) := by decide +kernel
theorem dX9_behind_1 : decode cX9_behind 1 = .ok (.iload_n 1, 1) := by decide +kernel
theorem dX9_behind_2 : decode cX9_behind 2 = .ok (.invokestatic 169, 3) := by decide +kernel
theorem dX9_behind_5 : decode cX9_behind 5 = .ok (.istore_n 2, 1) := by decide +kernel
theorem dX9_behind_6 : decode cX9_behind 6 = .ok (.iload_n 2, 1) := by decide +kernel
theorem dX9_behind_7 : decode cX9_behind 7 = .ok (.aload_n 0, 1) := by decide +kernel
theorem dX9_behind_8 : decode cX9_behind 8 = .ok (.getfield 39, 3) := by decide +kernel
theorem dX9_behind_11 : decode cX9_behind 11 = .ok (.if_icmp .ge 20, 3) := by decide +kernel
theorem dX9_behind_14 : decode cX9_behind 14 = .ok (.aload_n 0, 1) := by decide +kernel
theorem dX9_behind_15 : decode cX9_behind 15 = .ok (.getfield 16, 3) := by decide +kernel
theorem dX9_behind_18 : decode cX9_behind 18 = .ok (.iload_n 2, 1) := by decide +kernel
theorem dX9_behind_19 : decode cX9_behind 19 = .ok (.iaload, 1) := by decide +kernel
theorem dX9_behind_20 : decode cX9_behind 20 = .ok (.bipush 21, 2) := by decide +kernel
theorem dX9_behind_22 : decode cX9_behind 22 = .ok (.if_icmp .eq 9, 3) := by decide +kernel
theorem dX9_behind_25 : decode cX9_behind 25 = .ok (.iinc 2 1, 3) := by decide +kernel
theorem dX9_behind_28 : decode cX9_behind 28 = .ok (.goto (-22), 3) := by decide +kernel
theorem dX9_behind_31 : decode cX9_behind 31 = .ok (.iload_n 2, 1) := by decide +kernel
theorem dX9_behind_32 : decode cX9_behind 32 = .ok (.iconst 1, 1) := by decide +kernel
theorem dX9_behind_33 : decode cX9_behind 33 = .ok (.iadd, 1) := by decide +kernel
theorem dX9_behind_34 : decode cX9_behind 34 = .ok (.ireturn, 1) := by decide +kernel
theorem dX9_operand_0 : decode cX9_operand 0 = .ok (.iload_n 1, 1) := by decide +kernel
theorem dX9_operand_1 : decode cX9_operand 1 = .ok (.bipush 16, 2) := by decide +kernel
theorem dX9_operand_3 : decode cX9_operand 3 = .ok (.if_icmp .ne 5, 3) := by decide +kernel
theorem dX9_operand_6 : decode cX9_operand 6 = .ok (.iload_n 2, 1) := by decide +kernel
theorem dX9_operand_7 : decode cX9_operand 7 = .ok (.ireturn, 1) := by decide +kernel
theorem dX9_operand_8 : decode cX9_operand 8 = .ok (.iload_n 1, 1) := by decide +kernel
theorem dX9_operand_9 : decode cX9_operand 9 = .ok (.bipush 18, 2) := by decide +kernel
theorem dX9_operand_11 : decode cX9_operand 11 = .ok (.if_icmp .ne 5, 3) := by decide +kernel
theorem dX9_operand_14 : decode cX9_operand 14 = .ok (.iload_n 3, 1) := by decide +kernel
theorem dX9_operand_15 : decode cX9_operand 15 = .ok (.ireturn, 1) := by decide +kernel
theorem dX9_operand_16 : decode cX9_operand 16 = .ok (.iload_n 1, 1) := by decide +kernel
theorem dX9_operand_17 : decode cX9_operand 17 = .ok (.bipush 17, 2) := by decide +kernel
theorem dX9_operand_19 : decode cX9_operand 19 = .ok (.if_icmp .ne 57, 3) := by decide +kernel
theorem dX9_operand_22 : decode cX9_operand 22 = .ok (.aload_n 0, 1) := by decide +kernel
theorem dX9_operand_23 : decode cX9_operand 23 = .ok (.getfield 27, 3) := by decide +kernel
theorem dX9_operand_26 : decode cX9_operand 26 = .ok (.iload_n 2, 1) := by decide +kernel
theorem dX9_operand_27 : decode cX9_operand 27 = .ok (.iconst 5, 1) := by decide +kernel
theorem dX9_operand_28 : decode cX9_operand 28 = .ok (.imul, 1) := by decide +kernel
theorem dX9_operand_29 : decode cX9_operand 29 = .ok (.iconst 2, 1) := by decide +kernel
theorem dX9_operand_30 : decode cX9_operand 30 = .ok (.iadd, 1) := by decide +kernel
theorem dX9_operand_31 : decode cX9_operand 31 = .ok (.iaload, 1) := by decide +kernel
theorem dX9_operand_32 : decode cX9_operand 32 = .ok (.istore 5, 2) := by decide +kernel
theorem dX9_operand_34 : decode cX9_operand 34 = .ok (.iload 5, 2) := by decide +kernel
theorem dX9_operand_36 : decode cX9_operand 36 = .ok (.iconst 1, 1) := by decide +kernel
theorem dX9_operand_37 : decode cX9_operand 37 = .ok (.if_icmp .ne 14, 3) := by decide +kernel
theorem dX9_operand_40 : decode cX9_operand 40 = .ok (.aload_n 0, 1) := by decide +kernel
theorem dX9_operand_41 : decode cX9_operand 41 = .ok (.getfield 27, 3) := by decide +kernel
theorem dX9_operand_44 : decode cX9_operand 44 = .ok (.iload_n 2, 1) := by decide +kernel
theorem dX9_operand_45 : decode cX9_operand 45 = .ok (.iconst 5, 1) := by decide +kernel
theorem dX9_operand_46 : decode cX9_operand 46 = .ok (.imul, 1) := by decide +kernel
theorem dX9_operand_47 : decode cX9_operand 47 = .ok (.iconst 3, 1) := by decide +kernel
theorem dX9_operand_48 : decode cX9_operand 48 = .ok (.iadd, 1) := by decide +kernel
theorem dX9_operand_49 : decode cX9_operand 49 = .ok (.iaload, 1) := by decide +kernel
theorem dX9_operand_50 : decode cX9_operand 50 = .ok (.ireturn, 1) := by decide +kernel
theorem dX9_operand_51 : decode cX9_operand 51 = .ok (.iload 5, 2) := by decide +kernel
theorem dX9_operand_53 : decode cX9_operand 53 = .ok (.iconst 2, 1) := by decide +kernel
theorem dX9_operand_54 : decode cX9_operand 54 = .ok (.if_icmp .ne 16, 3) := by decide +kernel
theorem dX9_operand_57 : decode cX9_operand 57 = .ok (.aload_n 0, 1) := by decide +kernel
theorem dX9_operand_58 : decode cX9_operand 58 = .ok (.getfield 27, 3) := by decide +kernel
theorem dX9_operand_61 : decode cX9_operand 61 = .ok (.iload_n 2, 1) := by decide +kernel
theorem dX9_operand_62 : decode cX9_operand 62 = .ok (.iconst 5, 1) := by decide +kernel
theorem dX9_operand_63 : decode cX9_operand 63 = .ok (.imul, 1) := by decide +kernel
theorem dX9_operand_64 : decode cX9_operand 64 = .ok (.iconst 3, 1) := by decide +kernel
theorem dX9_operand_65 : decode cX9_operand 65 = .ok (.iadd, 1) := by decide +kernel
