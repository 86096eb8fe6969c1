theorem dX1_findAddresses_78 : decode cX1_findAddresses 78 = .ok (.iload 5, 2) := by decide +kernel
theorem dX1_findAddresses_80 : decode cX1_findAddresses 80 = .ok (.iconst 1, 1) := by decide +kernel
theorem dX1_findAddresses_81 : decode cX1_findAddresses 81 = .ok (.iadd, 1) := by decide +kernel
theorem dX1_findAddresses_82 : decode cX1_findAddresses 82 = .ok (.iaload, 1) := by decide +kernel
theorem dX1_findAddresses_83 : decode cX1_findAddresses 83 = .ok (.ifCond .ne 7, 3) := by decide +kernel
theorem dX1_findAddresses_86 : decode cX1_findAddresses 86 = .ok (.iload_n 1, 1) := by decide +kernel
theorem dX1_findAddresses_87 : decode cX1_findAddresses 87 = .ok (.goto 4, 3) := by decide +kernel
theorem dX1_findAddresses_90 : decode cX1_findAddresses 90 = .ok (.iload_n 2, 1) := by decide +kernel
theorem dX1_findAddresses_91 : decode cX1_findAddresses 91 = .ok (.istore 6, 2) := by decide +kernel
theorem dX1_findAddresses_93 : decode cX1_findAddresses 93 = .ok (.aload_n 0, 1) := by decide +kernel
theorem dX1_findAddresses_94 : decode cX1_findAddresses 94 = .ok (.getfield 19, 3) := by decide +kernel
theorem dX1_findAddresses_97 : decode cX1_findAddresses 97 = .ok (.iload 5, 2) := by decide +kernel
theorem dX1_findAddresses_99 : decode cX1_findAddresses 99 = .ok (.iconst 2, 1) := by decide +kernel
theorem dX1_findAddresses_100 : decode cX1_findAddresses 100 = .ok (.iadd, 1) := by decide +kernel
theorem dX1_findAddresses_101 : decode cX1_findAddresses 101 = .ok (.iload 6, 2) := by decide +kernel
theorem dX1_findAddresses_103 : decode cX1_findAddresses 103 = .ok (.iastore, 1) := by decide +kernel
theorem dX1_findAddresses_104 : decode cX1_findAddresses 104 = .ok (.aload_n 0, 1) := by decide +kernel
theorem dX1_findAddresses_105 : decode cX1_findAddresses 105 = .ok (.getfield 19, 3) := by decide +kernel
theorem dX1_findAddresses_108 : decode cX1_findAddresses 108 = .ok (.iload 5, 2) := by decide +kernel
theorem dX1_findAddresses_110 : decode cX1_findAddresses 110 = .ok (.iconst 4, 1) := by decide +kernel
theorem dX1_findAddresses_111 : decode cX1_findAddresses 111 = .ok (.iadd, 1) := by decide +kernel
theorem dX1_findAddresses_112 : decode cX1_findAddresses 112 = .ok (.iaload, 1) := by decide +kernel
theorem dX1_findAddresses_113 : decode cX1_findAddresses 113 = .ok (.bipush 8, 2) := by decide +kernel
theorem dX1_findAddresses_115 : decode cX1_findAddresses 115 = .ok (.if_icmp .ne 27, 3) := by decide +kernel
theorem dX1_findAddresses_118 : decode cX1_findAddresses 118 = .ok (.aload_n 0, 1) := by decide +kernel
theorem dX1_findAddresses_119 : decode cX1_findAddresses 119 = .ok (.getfield 19, 3) := by decide +kernel
theorem dX1_findAddresses_122 : decode cX1_findAddresses 122 = .ok (.iload 5, 2) := by decide +kernel
theorem dX1_findAddresses_124 : decode cX1_findAddresses 124 = .ok (.iconst 3, 1) := by decide +kernel
theorem dX1_findAddresses_125 : decode cX1_findAddresses 125 = .ok (.iadd, 1) := by decide +kernel
theorem dX1_findAddresses_126 : decode cX1_findAddresses 126 = .ok (.iload 6, 2) := by decide +kernel
theorem dX1_findAddresses_128 : decode cX1_findAddresses 128 = .ok (.ineg, 1) := by decide +kernel
theorem dX1_findAddresses_129 : decode cX1_findAddresses 129 = .ok (.aload_n 0, 1) := by decide +kernel
theorem dX1_findAddresses_130 : decode cX1_findAddresses 130 = .ok (.getfield 19, 3) := by decide +kernel
theorem dX1_findAddresses_133 : decode cX1_findAddresses 133 = .ok (.iload 5, 2) := by decide +kernel
theorem dX1_findAddresses_135 : decode cX1_findAddresses 135 = .ok (.iconst 5, 1) := by decide +kernel
theorem dX1_findAddresses_136 : decode cX1_findAddresses 136 = .ok (.iadd, 1) := by decide +kernel
theorem dX1_findAddresses_137 : decode cX1_findAddresses 137 = .ok (.iaload, 1) := by decide +kernel
theorem dX1_findAddresses_138 : decode cX1_findAddresses 138 = .ok (.iconst 1, 1) := by decide +kernel
theorem dX1_findAddresses_139 : decode cX1_findAddresses 139 = .ok (.isub, 1) := by decide +kernel
theorem dX1_findAddresses_140 : decode cX1_findAddresses 140 = .ok (.iand, 1) := by decide +kernel
theorem dX1_findAddresses_141 : decode cX1_findAddresses 141 = .ok (.iastore, 1) := by decide +kernel
theorem dX1_findAddresses_142 : decode cX1_findAddresses 142 = .ok (.aload_n 0, 1) := by decide +kernel
theorem dX1_findAddresses_143 : decode cX1_findAddresses 143 = .ok (.getfield 19, 3) := by decide +kernel
theorem dX1_findAddresses_146 : decode cX1_findAddresses 146 = .ok (.iload 5, 2) := by decide +kernel
theorem dX1_findAddresses_148 : decode cX1_findAddresses 148 = .ok (.iconst 1, 1) := by decide +kernel
theorem dX1_findAddresses_149 : decode cX1_findAddresses 149 = .ok (.iadd, 1) := by decide +kernel
theorem dX1_findAddresses_150 : decode cX1_findAddresses 150 = .ok (.iaload, 1) := by decide +kernel
theorem dX1_findAddresses_151 : decode cX1_findAddresses 151 = .ok (.ifCond .ne 18, 3) := by decide +kernel
theorem dX1_findAddresses_154 : decode cX1_findAddresses 154 = .ok (.iload_n 1, 1) := by decide +kernel
theorem dX1_findAddresses_155 : decode cX1_findAddresses 155 = .ok (.aload_n 0, 1) := by decide +kernel
theorem dX1_findAddresses_156 : decode cX1_findAddresses 156 = .ok (.getfield 19, 3) := by decide +kernel
theorem dX1_findAddresses_159 : decode cX1_findAddresses 159 = .ok (.iload 5, 2) := by decide +kernel
theorem dX1_findAddresses_161 : decode cX1_findAddresses 161 = .ok (.iconst 3, 1) := by decide +kernel
theorem dX1_findAddresses_162 : decode cX1_findAddresses 162 = .ok (.iadd, 1) := by decide +kernel
theorem dX1_findAddresses_163 : decode cX1_findAddresses 163 = .ok (.iaload, 1) := by decide +kernel
theorem dX1_findAddresses_164 : decode cX1_findAddresses 164 = .ok (.iadd, 1) := by decide +kernel
theorem dX1_findAddresses_165 : decode cX1_findAddresses 165 = .ok (.istore_n 1, 1) := by decide +kernel
theorem dX1_findAddresses_166 : decode cX1_findAddresses 166 = .ok (.goto 15, 3) := by decide +kernel
theorem dX1_findAddresses_169 : decode cX1_findAddresses 169 = .ok (.iload_n 2, 1) := by decide +kernel
theorem dX1_findAddresses_170 : decode cX1_findAddresses 170 = .ok (.aload_n 0, 1) := by decide +kernel
theorem dX1_findAddresses_171 : decode cX1_findAddresses 171 = .ok (.getfield 19, 3) := by decide +kernel
theorem dX1_findAddresses_174 : decode cX1_findAddresses 174 = .ok (.iload 5, 2) := by decide +kernel
theorem dX1_findAddresses_176 : decode cX1_findAddresses 176 = .ok (.iconst 3, 1) := by decide +kernel
theorem dX1_findAddresses_177 : decode cX1_findAddresses 177 = .ok (.iadd, 1) := by decide +kernel
theorem dX1_findAddresses_178 : decode cX1_findAddresses 178 = .ok (.iaload, 1) := by decide +kernel
theorem dX1_findAddresses_179 : decode cX1_findAddresses 179 = .ok (.iadd, 1) := by decide +kernel
theorem dX1_findAddresses_180 : decode cX1_findAddresses 180 = .ok (.istore_n 2, 1) := by decide +kernel
theorem dX1_findAddresses_181 : decode cX1_findAddresses 181 = .ok (.iinc 4 1, 3) := by decide +kernel
theorem dX1_findAddresses_184 : decode cX1_findAddresses 184 = .ok (.goto (-175), 3) := by decide +kernel
theorem dX1_findAddresses_187 : decode cX1_findAddresses 187 = .ok (.aload_n 0, 1) := by decide +kernel
theorem dX1_findAddresses_188 : decode cX1_findAddresses 188 = .ok (.iload_n 1, 1) := by decide +kernel
theorem dX1_findAddresses_189 : decode cX1_findAddresses 189 = .ok (.putfield 284, 3) := by decide +kernel
theorem dX1_findAddresses_192 : decode cX1_findAddresses 192 = .ok (.aload_n 0, 1) := by decide +kernel
theorem dX1_findAddresses_193 : decode cX1_findAddresses 193 = .ok (.iload_n 1, 1) := by decide +kernel
theorem dX1_findAddresses_194 : decode cX1_findAddresses 194 = .ok (.sipush 1024, 3) := by decide +kernel
theorem dX1_findAddresses_197 : decode cX1_findAddresses 197 = .ok (.iadd, 1) := by decide +kernel
theorem dX1_findAddresses_198 : decode cX1_findAddresses 198 = .ok (.iconst 1, 1) := by decide +kernel
theorem dX1_findAddresses_199 : decode cX1_findAddresses 199 = .ok (.isub, 1) := by decide +kernel
theorem dX1_findAddresses_200 : decode cX1_findAddresses 200 = .ok (.sipush 1024, 3) := by decide +kernel
theorem dX1_findAddresses_203 : decode cX1_findAddresses 203 = .ok (.idiv, 1) := by decide +kernel
theorem dX1_findAddresses_204 : decode cX1_findAddresses 204 = .ok (.sipush 1024, 3) := by decide +kernel
theorem dX1_findAddresses_207 : decode cX1_findAddresses 207 = .ok (.imul, 1) := by decide +kernel
theorem dX1_findAddresses_208 : decode cX1_findAddresses 208 = .ok (.putfield 287, 3) := by decide +kernel
theorem dX1_findAddresses_211 : decode cX1_findAddresses 211 = .ok (.aload_n 0, 1) := by decide +kernel
theorem dX1_findAddresses_212 : decode cX1_findAddresses 212 = .ok (.iload_n 2, 1) := by decide +kernel
theorem dX1_findAddresses_213 : decode cX1_findAddresses 213 = .ok (.ifCond .le 12, 3) := by decide +kernel
theorem dX1_findAddresses_216 : decode cX1_findAddresses 216 = .ok (.aload_n 0, 1) := by decide +kernel
theorem dX1_findAddresses_217 : decode cX1_findAddresses 217 = .ok (.getfield 287, 3) := by decide +kernel
theorem dX1_findAddresses_220 : decode cX1_findAddresses 220 = .ok (.iload_n 2, 1) := by decide +kernel
theorem dX1_findAddresses_221 : decode cX1_findAddresses 221 = .ok (.iadd, 1) := by decide +kernel
theorem dX1_findAddresses_222 : decode cX1_findAddresses 222 = .ok (.goto 4, 3) := by decide +kernel
theorem dX1_findAddresses_225 : decode cX1_findAddresses 225 = .ok (.iload_n 1, 1) := by decide +kernel
theorem dX1_findAddresses_226 : decode cX1_findAddresses 226 = .ok (.putfield 50, 3) := by decide +kernel
theorem dX1_findAddresses_229 : decode cX1_findAddresses 229 = .ok (.aload_n 0, 1) := by decide +kernel
theorem dX1_findAddresses_230 : decode cX1_findAddresses 230 = .ok (.invokevirtual 290, 3) := by decide +kernel
theorem dX1_findAddresses_233 : decode cX1_findAddresses 233 = .ok (.return_, 1) := by decide +kernel
theorem dX1_moveData_0 : decode cX1_moveData 0 = .ok (.iconst 0, 1) := by decide +kernel
theorem dX1_moveData_1 : decode cX1_moveData 1 = .ok (.istore_n 1, 1) := by decide +kernel
theorem dX1_moveData_2 : decode cX1_moveData 2 = .ok (.iload_n 1, 1) := by decide +kernel
theorem dX1_moveData_3 : decode cX1_moveData 3 = .ok (.aload_n 0, 1) := by decide +kernel
theorem dX1_moveData_4 : decode cX1_moveData 4 = .ok (.getfield 65, 3) := by decide +kernel
theorem dX1_moveData_7 : decode cX1_moveData 7 = .ok (.if_icmp .ge 42, 3) := by decide +kernel
theorem dX1_moveData_10 : decode cX1_moveData 10 = .ok (.aload_n 0, 1) := by decide +kernel
theorem dX1_moveData_11 : decode cX1_moveData 11 = .ok (.getfield 19, 3) := by decide +kernel
theorem dX1_moveData_14 : decode cX1_moveData 14 = .ok (.iload_n 1, 1) := by decide +kernel
theorem dX1_moveData_15 : decode cX1_moveData 15 = .ok (.bipush 8, 2) := by decide +kernel
theorem dX1_moveData_17 : decode cX1_moveData 17 = .ok (.imul, 1) := by decide +kernel
theorem dX1_moveData_18 : decode cX1_moveData 18 = .ok (.iconst 1, 1) := by decide +kernel
theorem dX1_moveData_19 : decode cX1_moveData 19 = .ok (.iadd, 1) := by decide +kernel
theorem dX1_moveData_20 : decode cX1_moveData 20 = .ok (.iaload, 1) := by decide +kernel
theorem dX1_moveData_21 : decode cX1_moveData 21 = .ok (.iconst 1, 1) := by decide +kernel
theorem dX1_moveData_22 : decode cX1_moveData 22 = .ok (.if_icmp .ne 21, 3) := by decide +kernel
theorem dX1_moveData_25 : decode cX1_moveData 25 = .ok (.aload_n 0, 1) := by decide +kernel
theorem dX1_moveData_26 : decode cX1_moveData 26 = .ok (.getfield 19, 3) := by decide +kernel
theorem dX1_moveData_29 : decode cX1_moveData 29 = .ok (.iload_n 1, 1) := by decide +kernel
theorem dX1_moveData_30 : decode cX1_moveData 30 = .ok (.bipush 8, 2) := by decide +kernel
theorem dX1_moveData_32 : decode cX1_moveData 32 = .ok (.imul, 1) := by decide +kernel
theorem dX1_moveData_33 : decode cX1_moveData 33 = .ok (.iconst 2, 1) := by decide +kernel
theorem dX1_moveData_34 : decode cX1_moveData 34 = .ok (.iadd, 1) := by decide +kernel
theorem dX1_moveData_35 : decode cX1_moveData 35 = .ok (.dup2, 1) := by decide +kernel
theorem dX1_moveData_36 : decode cX1_moveData 36 = .ok (.iaload, 1) := by decide +kernel
theorem dX1_moveData_37 : decode cX1_moveData 37 = .ok (.aload_n 0, 1) := by decide +kernel
theorem dX1_moveData_38 : decode cX1_moveData 38 = .ok (.getfield 287, 3) := by decide +kernel
theorem dX1_moveData_41 : decode cX1_moveData 41 = .ok (.iadd, 1) := by decide +kernel
theorem dX1_moveData_42 : decode cX1_moveData 42 = .ok (.iastore, 1) := by decide +kernel
theorem dX1_moveData_43 : decode cX1_moveData 43 = .ok (.iinc 1 1, 3) := by decide +kernel
theorem dX1_moveData_46 : decode cX1_moveData 46 = .ok (.goto (-44), 3) := by decide +kernel
theorem dX1_moveData_49 : decode cX1_moveData 49 = .ok (.iconst 0, 1) := by decide +kernel
theorem dX1_moveData_50 : decode cX1_moveData 50 = .ok (.istore_n 1, 1) := by decide +kernel
theorem dX1_moveData_51 : decode cX1_moveData 51 = .ok (.iload_n 1, 1) := by decide +kernel
theorem dX1_moveData_52 : decode cX1_moveData 52 = .ok (.aload_n 0, 1) := by decide +kernel
theorem dX1_moveData_53 : decode cX1_moveData 53 = .ok (.getfield 12, 3) := by decide +kernel
theorem dX1_moveData_56 : decode cX1_moveData 56 = .ok (.getfield 274, 3) := by decide +kernel
theorem dX1_moveData_59 : decode cX1_moveData 59 = .ok (.if_icmp .ge 46, 3) := by decide +kernel
theorem dX1_moveData_62 : decode cX1_moveData 62 = .ok (.aload_n 0, 1) := by decide +kernel
theorem dX1_moveData_63 : decode cX1_moveData 63 = .ok (.getfield 12, 3) := by decide +kernel
theorem dX1_moveData_66 : decode cX1_moveData 66 = .ok (.getfield 293, 3) := by decide +kernel
theorem dX1_moveData_69 : decode cX1_moveData 69 = .ok (.iload_n 1, 1) := by decide +kernel
theorem dX1_moveData_70 : decode cX1_moveData 70 = .ok (.iconst 5, 1) := by decide +kernel
theorem dX1_moveData_71 : decode cX1_moveData 71 = .ok (.imul, 1) := by decide +kernel
theorem dX1_moveData_72 : decode cX1_moveData 72 = .ok (.iconst 1, 1) := by decide +kernel
theorem dX1_moveData_73 : decode cX1_moveData 73 = .ok (.iadd, 1) := by decide +kernel
theorem dX1_moveData_74 : decode cX1_moveData 74 = .ok (.iaload, 1) := by decide +kernel
theorem dX1_moveData_75 : decode cX1_moveData 75 = .ok (.iconst 1, 1) := by decide +kernel
theorem dX1_moveData_76 : decode cX1_moveData 76 = .ok (.if_icmp .ne 23, 3) := by decide +kernel
theorem dX1_moveData_79 : decode cX1_moveData 79 = .ok (.aload_n 0, 1) := by decide +kernel
theorem dX1_moveData_80 : decode cX1_moveData 80 = .ok (.getfield 12, 3) := by decide +kernel
theorem dX1_moveData_83 : decode cX1_moveData 83 = .ok (.getfield 293, 3) := by decide +kernel
theorem dX1_moveData_86 : decode cX1_moveData 86 = .ok (.iload_n 1, 1) := by decide +kernel
theorem dX1_moveData_87 : decode cX1_moveData 87 = .ok (.iconst 5, 1) := by decide +kernel
theorem dX1_moveData_88 : decode cX1_moveData 88 = .ok (.imul, 1) := by decide +kernel
theorem dX1_moveData_89 : decode cX1_moveData 89 = .ok (.iconst 2, 1) := by decide +kernel
theorem dX1_moveData_90 : decode cX1_moveData 90 = .ok (.iadd, 1) := by decide +kernel
theorem dX1_moveData_91 : decode cX1_moveData 91 = .ok (.dup2, 1) := by decide +kernel
theorem dX1_moveData_92 : decode cX1_moveData 92 = .ok (.iaload, 1) := by decide +kernel
theorem dX1_moveData_93 : decode cX1_moveData 93 = .ok (.aload_n 0, 1) := by decide +kernel
theorem dX1_moveData_94 : decode cX1_moveData 94 = .ok (.getfield 287, 3) := by decide +kernel
theorem dX1_moveData_97 : decode cX1_moveData 97 = .ok (.iadd, 1) := by decide +kernel
theorem dX1_moveData_98 : decode cX1_moveData 98 = .ok (.iastore, 1) := by decide +kernel
theorem dX1_moveData_99 : decode cX1_moveData 99 = .ok (.iinc 1 1, 3) := by decide +kernel
theorem dX1_moveData_102 : decode cX1_moveData 102 = .ok (.goto (-51), 3) := by decide +kernel
theorem dX1_moveData_105 : decode cX1_moveData 105 = .ok (.return_, 1) := by decide +kernel
theorem dX1_grow_0 : decode cX1_grow 0 = .ok (.iconst 0, 1) := by decide +kernel
theorem dX1_grow_1 : decode cX1_grow 1 = .ok (.istore_n 1, 1) := by decide +kernel
theorem dX1_grow_2 : decode cX1_grow 2 = .ok (.iconst 0, 1) := by decide +kernel
theorem dX1_grow_3 : decode cX1_grow 3 = .ok (.istore_n 2, 1) := by decide +kernel
theorem dX1_grow_4 : decode cX1_grow 4 = .ok (.iload_n 2, 1) := by decide +kernel
theorem dX1_grow_5 : decode cX1_grow 5 = .ok (.aload_n 0, 1) := by decide +kernel
theorem dX1_grow_6 : decode cX1_grow 6 = .ok (.getfield 65, 3) := by decide +kernel
theorem dX1_grow_9 : decode cX1_grow 9 = .ok (.if_icmp .ge 133, 3) := by decide +kernel
theorem dX1_grow_12 : decode cX1_grow 12 = .ok (.iload_n 2, 1) := by decide +kernel
theorem dX1_grow_13 : decode cX1_grow 13 = .ok (.bipush 8, 2) := by decide +kernel
theorem dX1_grow_15 : decode cX1_grow 15 = .ok (.imul, 1) := by decide +kernel
theorem dX1_grow_16 : decode cX1_grow 16 = .ok (.istore_n 3, 1) := by decide +kernel
theorem dX1_grow_17 : decode cX1_grow 17 = .ok (.aload_n 0, 1) := by decide +kernel
theorem dX1_grow_18 : decode cX1_grow 18 = .ok (.getfield 19, 3) := by decide +kernel
theorem dX1_grow_21 : decode cX1_grow 21 = .ok (.iload_n 3, 1) := by decide +kernel
theorem dX1_grow_22 : decode cX1_grow 22 = .ok (.iconst 4, 1) := by decide +kernel
theorem dX1_grow_23 : decode cX1_grow 23 = .ok (.iadd, 1) := by decide +kernel
theorem dX1_grow_24 : decode cX1_grow 24 = .ok (.iaload, 1) := by decide +kernel
theorem dX1_grow_25 : decode cX1_grow 25 = .ok (.istore 4, 2) := by decide +kernel
theorem dX1_grow_27 : decode cX1_grow 27 = .ok (.aload_n 0, 1) := by decide +kernel
theorem dX1_grow_28 : decode cX1_grow 28 = .ok (.getfield 19, 3) := by decide +kernel
theorem dX1_grow_31 : decode cX1_grow 31 = .ok (.iload_n 3, 1) := by decide +kernel
theorem dX1_grow_32 : decode cX1_grow 32 = .ok (.iconst 3, 1) := by decide +kernel
theorem dX1_grow_33 : decode cX1_grow 33 = .ok (.iadd, 1) := by decide +kernel
theorem dX1_grow_34 : decode cX1_grow 34 = .ok (.iaload, 1) := by decide +kernel
theorem dX1_grow_35 : decode cX1_grow 35 = .ok (.istore 5, 2) := by decide +kernel
theorem dX1_grow_37 : decode cX1_grow 37 = .ok (.iload 4, 2) := by decide +kernel
theorem dX1_grow_39 : decode cX1_grow 39 = .ok (.iconst 1, 1) := by decide +kernel
theorem dX1_grow_40 : decode cX1_grow 40 = .ok (.if_icmp .ne 9, 3) := by decide +kernel
theorem dX1_grow_43 : decode cX1_grow 43 = .ok (.iload 5, 2) := by decide +kernel
theorem dX1_grow_45 : decode cX1_grow 45 = .ok (.iconst 4, 1) := by decide +kernel
theorem dX1_grow_46 : decode cX1_grow 46 = .ok (.if_icmp .lt 16, 3) := by decide +kernel
theorem dX1_grow_49 : decode cX1_grow 49 = .ok (.iload 4, 2) := by decide +kernel
theorem dX1_grow_51 : decode cX1_grow 51 = .ok (.iconst 2, 1) := by decide +kernel
theorem dX1_grow_52 : decode cX1_grow 52 = .ok (.if_icmp .ne 84, 3) := by decide +kernel
theorem dX1_grow_55 : decode cX1_grow 55 = .ok (.iload 5, 2) := by decide +kernel
theorem dX1_grow_57 : decode cX1_grow 57 = .ok (.bipush 8, 2) := by decide +kernel
theorem dX1_grow_59 : decode cX1_grow 59 = .ok (.if_icmp .ge 77, 3) := by decide +kernel
theorem dX1_grow_62 : decode cX1_grow 62 = .ok (.aload_n 0, 1) := by decide +kernel
theorem dX1_grow_63 : decode cX1_grow 63 = .ok (.getfield 12, 3) := by decide +kernel
theorem dX1_grow_66 : decode cX1_grow 66 = .ok (.aload_n 0, 1) := by decide +kernel
theorem dX1_grow_67 : decode cX1_grow 67 = .ok (.getfield 19, 3) := by decide +kernel
theorem dX1_grow_70 : decode cX1_grow 70 = .ok (.iload_n 3, 1) := by decide +kernel
theorem dX1_grow_71 : decode cX1_grow 71 = .ok (.bipush 6, 2) := by decide +kernel
theorem dX1_grow_73 : decode cX1_grow 73 = .ok (.iadd, 1) := by decide +kernel
theorem dX1_grow_74 : decode cX1_grow 74 = .ok (.iaload, 1) := by decide +kernel
theorem dX1_grow_75 : decode cX1_grow 75 = .ok (.aload_n 0, 1) := by decide +kernel
theorem dX1_grow_76 : decode cX1_grow 76 = .ok (.getfield 19, 3) := by decide +kernel
theorem dX1_grow_79 : decode cX1_grow 79 = .ok (.iload_n 3, 1) := by decide +kernel
theorem dX1_grow_80 : decode cX1_grow 80 = .ok (.iconst 2, 1) := by decide +kernel
theorem dX1_grow_81 : decode cX1_grow 81 = .ok (.iadd, 1) := by decide +kernel
theorem dX1_grow_82 : decode cX1_grow 82 = .ok (.iaload, 1) := by decide +kernel
theorem dX1_grow_83 : decode cX1_grow 83 = .ok (.invokevirtual 220, 3) := by decide +kernel
theorem dX1_grow_86 : decode cX1_grow 86 = .ok (.aload_n 0, 1) := by decide +kernel
theorem dX1_grow_87 : decode cX1_grow 87 = .ok (.getfield 19, 3) := by decide +kernel
theorem dX1_grow_90 : decode cX1_grow 90 = .ok (.iload_n 3, 1) := by decide +kernel
theorem dX1_grow_91 : decode cX1_grow 91 = .ok (.iconst 2, 1) := by decide +kernel
theorem dX1_grow_92 : decode cX1_grow 92 = .ok (.iadd, 1) := by decide +kernel
theorem dX1_grow_93 : decode cX1_grow 93 = .ok (.iaload, 1) := by decide +kernel
theorem dX1_grow_94 : decode cX1_grow 94 = .ok (.isub, 1) := by decide +kernel
theorem dX1_grow_95 : decode cX1_grow 95 = .ok (.istore 6, 2) := by decide +kernel
theorem dX1_grow_97 : decode cX1_grow 97 = .ok (.aload_n 0, 1) := by decide +kernel
theorem dX1_grow_98 : decode cX1_grow 98 = .ok (.getfield 12, 3) := by decide +kernel
theorem dX1_grow_101 : decode cX1_grow 101 = .ok (.getfield 223, 3) := by decide +kernel
theorem dX1_grow_104 : decode cX1_grow 104 = .ok (.ifCond .ne 32, 3) := by decide +kernel
theorem dX1_grow_107 : decode cX1_grow 107 = .ok (.iload 4, 2) := by decide +kernel
theorem dX1_grow_109 : decode cX1_grow 109 = .ok (.iload 5, 2) := by decide +kernel
theorem dX1_grow_111 : decode cX1_grow 111 = .ok (.invokestatic 296, 3) := by decide +kernel
theorem dX1_grow_114 : decode cX1_grow 114 = .ok (.iload 6, 2) := by decide +kernel
theorem dX1_grow_116 : decode cX1_grow 116 = .ok (.invokestatic 257, 3) := by decide +kernel
theorem dX1_grow_119 : decode cX1_grow 119 = .ok (.ifCond .ne 17, 3) := by decide +kernel
theorem dX1_grow_122 : decode cX1_grow 122 = .ok (.aload_n 0, 1) := by decide +kernel
theorem dX1_grow_123 : decode cX1_grow 123 = .ok (.getfield 19, 3) := by decide +kernel
theorem dX1_grow_126 : decode cX1_grow 126 = .ok (.iload_n 3, 1) := by decide +kernel
theorem dX1_grow_127 : decode cX1_grow 127 = .ok (.iconst 3, 1) := by decide +kernel
theorem dX1_grow_128 : decode cX1_grow 128 = .ok (.iadd, 1) := by decide +kernel
theorem dX1_grow_129 : decode cX1_grow 129 = .ok (.iload 5, 2) := by decide +kernel
theorem dX1_grow_131 : decode cX1_grow 131 = .ok (.iconst 2, 1) := by decide +kernel
theorem dX1_grow_132 : decode cX1_grow 132 = .ok (.imul, 1) := by decide +kernel
theorem dX1_grow_133 : decode cX1_grow 133 = .ok (.iastore, 1) := by decide +kernel
theorem dX1_grow_134 : decode cX1_grow 134 = .ok (.iconst 1, 1) := by decide +kernel
theorem dX1_grow_135 : decode cX1_grow 135 = .ok (.istore_n 1, 1) := by decide +kernel
theorem dX1_grow_136 : decode cX1_grow 136 = .ok (.iinc 2 1, 3) := by decide +kernel
theorem dX1_grow_139 : decode cX1_grow 139 = .ok (.goto (-135), 3) := by decide +kernel
theorem dX1_grow_142 : decode cX1_grow 142 = .ok (.iload_n 1, 1) := by decide +kernel
theorem dX1_grow_143 : decode cX1_grow 143 = .ok (.ireturn, 1) := by decide +kernel
theorem dX1_growingLetter_0 : decode cX1_growingLetter 0 = .ok (.iload_n 0, 1) := by decide +kernel
theorem dX1_growingLetter_1 : decode cX1_growingLetter 1 = .ok (.iconst 1, 1) := by decide +kernel
theorem dX1_growingLetter_2 : decode cX1_growingLetter 2 = .ok (.if_icmp .ne 16, 3) := by decide +kernel
theorem dX1_growingLetter_5 : decode cX1_growingLetter 5 = .ok (.iload_n 1, 1) := by decide +kernel
theorem dX1_growingLetter_6 : decode cX1_growingLetter 6 = .ok (.iconst 2, 1) := by decide +kernel
theorem dX1_growingLetter_7 : decode cX1_growingLetter 7 = .ok (.if_icmp .ne 8, 3) := by decide +kernel
theorem dX1_growingLetter_10 : decode cX1_growingLetter 10 = .ok (.bipush 75, 2) := by decide +kernel
theorem dX1_growingLetter_12 : decode cX1_growingLetter 12 = .ok (.goto 5, 3) := by decide +kernel
theorem dX1_growingLetter_15 : decode cX1_growingLetter 15 = .ok (.bipush 74, 2) := by decide +kernel
theorem dX1_growingLetter_17 : decode cX1_growingLetter 17 = .ok (.ireturn, 1) := by decide +kernel
theorem dX1_growingLetter_18 : decode cX1_growingLetter 18 = .ok (.iload_n 1, 1) := by decide +kernel
theorem dX1_growingLetter_19 : decode cX1_growingLetter 19 = .ok (.iconst 2, 1) := by decide +kernel
theorem dX1_growingLetter_20 : decode cX1_growingLetter 20 = .ok (.if_icmp .ne 8, 3) := by decide +kernel
theorem dX1_growingLetter_23 : decode cX1_growingLetter 23 = .ok (.bipush 76, 2) := by decide +kernel
theorem dX1_growingLetter_25 : decode cX1_growingLetter 25 = .ok (.goto 15, 3) := by decide +kernel
theorem dX1_growingLetter_28 : decode cX1_growingLetter 28 = .ok (.iload_n 1, 1) := by decide +kernel
theorem dX1_growingLetter_29 : decode cX1_growingLetter 29 = .ok (.iconst 4, 1) := by decide +kernel
theorem dX1_growingLetter_30 : decode cX1_growingLetter 30 = .ok (.if_icmp .ne 8, 3) := by decide +kernel
theorem dX1_growingLetter_33 : decode cX1_growingLetter 33 = .ok (.bipush 84, 2) := by decide +kernel
theorem dX1_growingLetter_35 : decode cX1_growingLetter 35 = .ok (.goto 5, 3) := by decide +kernel
theorem dX1_growingLetter_38 : decode cX1_growingLetter 38 = .ok (.bipush 74, 2) := by decide +kernel
theorem dX1_growingLetter_40 : decode cX1_growingLetter 40 = .ok (.ireturn, 1) := by decide +kernel
theorem dX1_putAll_0 : decode cX1_putAll 0 = .ok (.aload_n 1, 1) := by decide +kernel
theorem dX1_putAll_1 : decode cX1_putAll 1 = .ok (.getfield 300, 3) := by decide +kernel
theorem dX1_putAll_4 : decode cX1_putAll 4 = .ok (.iconst 0, 1) := by decide +kernel
theorem dX1_putAll_5 : decode cX1_putAll 5 = .ok (.invokestatic 305, 3) := by decide +kernel
theorem dX1_putAll_8 : decode cX1_putAll 8 = .ok (.iconst 0, 1) := by decide +kernel
theorem dX1_putAll_9 : decode cX1_putAll 9 = .ok (.istore_n 2, 1) := by decide +kernel
theorem dX1_putAll_10 : decode cX1_putAll 10 = .ok (.iload_n 2, 1) := by decide +kernel
theorem dX1_putAll_11 : decode cX1_putAll 11 = .ok (.aload_n 0, 1) := by decide +kernel
theorem dX1_putAll_12 : decode cX1_putAll 12 = .ok (.getfield 65, 3) := by decide +kernel
theorem dX1_putAll_15 : decode cX1_putAll 15 = .ok (.if_icmp .ge 137, 3) := by decide +kernel
theorem dX1_putAll_18 : decode cX1_putAll 18 = .ok (.aload_n 0, 1) := by decide +kernel
theorem dX1_putAll_19 : decode cX1_putAll 19 = .ok (.getfield 32, 3) := by decide +kernel
theorem dX1_putAll_22 : decode cX1_putAll 22 = .ok (.ifCond .ne 130, 3) := by decide +kernel
theorem dX1_putAll_25 : decode cX1_putAll 25 = .ok (.iload_n 2, 1) := by decide +kernel
theorem dX1_putAll_26 : decode cX1_putAll 26 = .ok (.bipush 8, 2) := by decide +kernel
theorem dX1_putAll_28 : decode cX1_putAll 28 = .ok (.imul, 1) := by decide +kernel
theorem dX1_putAll_29 : decode cX1_putAll 29 = .ok (.istore_n 3, 1) := by decide +kernel
theorem dX1_putAll_30 : decode cX1_putAll 30 = .ok (.aload_n 0, 1) := by decide +kernel
theorem dX1_putAll_31 : decode cX1_putAll 31 = .ok (.aload_n 0, 1) := by decide +kernel
theorem dX1_putAll_32 : decode cX1_putAll 32 = .ok (.getfield 19, 3) := by decide +kernel
theorem dX1_putAll_35 : decode cX1_putAll 35 = .ok (.iload_n 3, 1) := by decide +kernel
theorem dX1_putAll_36 : decode cX1_putAll 36 = .ok (.iconst 0, 1) := by decide +kernel
theorem dX1_putAll_37 : decode cX1_putAll 37 = .ok (.iadd, 1) := by decide +kernel
theorem dX1_putAll_38 : decode cX1_putAll 38 = .ok (.iaload, 1) := by decide +kernel
theorem dX1_putAll_39 : decode cX1_putAll 39 = .ok (.putfield 36, 3) := by decide +kernel
theorem dX1_putAll_42 : decode cX1_putAll 42 = .ok (.aload_n 0, 1) := by decide +kernel
theorem dX1_putAll_43 : decode cX1_putAll 43 = .ok (.getfield 19, 3) := by decide +kernel
theorem dX1_putAll_46 : decode cX1_putAll 46 = .ok (.iload_n 3, 1) := by decide +kernel
theorem dX1_putAll_47 : decode cX1_putAll 47 = .ok (.iconst 4, 1) := by decide +kernel
theorem dX1_putAll_48 : decode cX1_putAll 48 = .ok (.iadd, 1) := by decide +kernel
theorem dX1_putAll_49 : decode cX1_putAll 49 = .ok (.iaload, 1) := by decide +kernel
theorem dX1_putAll_50 : decode cX1_putAll 50 = .ok (.tableswitch 96 0 6 #[42, 51, 51, 60, 69, 78, 87], 42) := by decide +kernel
theorem dX1_putAll_92 : decode cX1_putAll 92 = .ok (.aload_n 0, 1) := by decide +kernel
theorem dX1_putAll_93 : decode cX1_putAll 93 = .ok (.aload_n 1, 1) := by decide +kernel
theorem dX1_putAll_94 : decode cX1_putAll 94 = .ok (.iload_n 3, 1) := by decide +kernel
theorem dX1_putAll_95 : decode cX1_putAll 95 = .ok (.invokevirtual 311, 3) := by decide +kernel
theorem dX1_putAll_98 : decode cX1_putAll 98 = .ok (.goto 48, 3) := by decide +kernel
theorem dX1_putAll_101 : decode cX1_putAll 101 = .ok (.aload_n 0, 1) := by decide +kernel
theorem dX1_putAll_102 : decode cX1_putAll 102 = .ok (.aload_n 1, 1) := by decide +kernel
theorem dX1_putAll_103 : decode cX1_putAll 103 = .ok (.iload_n 3, 1) := by decide +kernel
theorem dX1_putAll_104 : decode cX1_putAll 104 = .ok (.invokevirtual 315, 3) := by decide +kernel
theorem dX1_putAll_107 : decode cX1_putAll 107 = .ok (.goto 39, 3) := by decide +kernel
theorem dX1_putAll_110 : decode cX1_putAll 110 = .ok (.aload_n 0, 1) := by decide +kernel
theorem dX1_putAll_111 : decode cX1_putAll 111 = .ok (.aload_n 1, 1) := by decide +kernel
theorem dX1_putAll_112 : decode cX1_putAll 112 = .ok (.iload_n 3, 1) := by decide +kernel
theorem dX1_putAll_113 : decode cX1_putAll 113 = .ok (.invokevirtual 318, 3) := by decide +kernel
theorem dX1_putAll_116 : decode cX1_putAll 116 = .ok (.goto 30, 3) := by decide +kernel
theorem dX1_putAll_119 : decode cX1_putAll 119 = .ok (.aload_n 0, 1) := by decide +kernel
theorem dX1_putAll_120 : decode cX1_putAll 120 = .ok (.aload_n 1, 1) := by decide +kernel
theorem dX1_putAll_121 : decode cX1_putAll 121 = .ok (.iload_n 3, 1) := by decide +kernel
theorem dX1_putAll_122 : decode cX1_putAll 122 = .ok (.invokevirtual 321, 3) := by decide +kernel
theorem dX1_putAll_125 : decode cX1_putAll 125 = .ok (.goto 21, 3) := by decide +kernel
theorem dX1_putAll_128 : decode cX1_putAll 128 = .ok (.aload_n 0, 1) := by decide +kernel
theorem dX1_putAll_129 : decode cX1_putAll 129 = .ok (.aload_n 1, 1) := by decide +kernel
theorem dX1_putAll_130 : decode cX1_putAll 130 = .ok (.iload_n 3, 1) := by decide +kernel
theorem dX1_putAll_131 : decode cX1_putAll 131 = .ok (.invokevirtual 324, 3) := by decide +kernel
theorem dX1_putAll_134 : decode cX1_putAll 134 = .ok (.goto 12, 3) := by decide +kernel
theorem dX1_putAll_137 : decode cX1_putAll 137 = .ok (.aload_n 0, 1) := by decide +kernel
theorem dX1_putAll_138 : decode cX1_putAll 138 = .ok (.aload_n 1, 1) := by decide +kernel
theorem dX1_putAll_139 : decode cX1_putAll 139 = .ok (.iload_n 3, 1) := by decide +kernel
theorem dX1_putAll_140 : decode cX1_putAll 140 = .ok (.invokevirtual 327, 3) := by decide +kernel
theorem dX1_putAll_143 : decode cX1_putAll 143 = .ok (.goto 3, 3) := by decide +kernel
theorem dX1_putAll_146 : decode cX1_putAll 146 = .ok (.iinc 2 1, 3) := by decide +kernel
theorem dX1_putAll_149 : decode cX1_putAll 149 = .ok (.goto (-139), 3) := by decide +kernel
theorem dX1_putAll_152 : decode cX1_putAll 152 = .ok (.return_, 1) := by decide +kernel
theorem dX1_put_0 : decode cX1_put 0 = .ok (.iconst 0, 1) := by decide +kernel
theorem dX1_put_1 : decode cX1_put 1 = .ok (.istore 5, 2) := by decide +kernel
theorem dX1_put_3 : decode cX1_put 3 = .ok (.iload 5, 2) := by decide +kernel
theorem dX1_put_5 : decode cX1_put 5 = .ok (.iload_n 3, 1) := by decide +kernel
theorem dX1_put_6 : decode cX1_put 6 = .ok (.if_icmp .ge 46, 3) := by decide +kernel
theorem dX1_put_9 : decode cX1_put 9 = .ok (.iload_n 2, 1) := by decide +kernel
theorem dX1_put_10 : decode cX1_put 10 = .ok (.iload 5, 2) := by decide +kernel
theorem dX1_put_12 : decode cX1_put 12 = .ok (.iadd, 1) := by decide +kernel
theorem dX1_put_13 : decode cX1_put 13 = .ok (.ifCond .lt 33, 3) := by decide +kernel
theorem dX1_put_16 : decode cX1_put 16 = .ok (.iload_n 2, 1) := by decide +kernel
theorem dX1_put_17 : decode cX1_put 17 = .ok (.iload 5, 2) := by decide +kernel
theorem dX1_put_19 : decode cX1_put 19 = .ok (.iadd, 1) := by decide +kernel
theorem dX1_put_20 : decode cX1_put 20 = .ok (.aload_n 1, 1) := by decide +kernel
theorem dX1_put_21 : decode cX1_put 21 = .ok (.getfield 300, 3) := by decide +kernel
theorem dX1_put_24 : decode cX1_put 24 = .ok (.arraylength, 1) := by decide +kernel
