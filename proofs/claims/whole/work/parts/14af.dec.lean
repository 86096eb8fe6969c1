theorem dX13_assemble_77 : decode cX13_assemble 77 = .ok (.bipush 7, 2) := by decide +kernel
theorem dX13_assemble_79 : decode cX13_assemble 79 = .ok (.putfield 410, 3) := by decide +kernel
theorem dX13_assemble_82 : decode cX13_assemble 82 = .ok (.iconst 0, 1) := by decide +kernel
theorem dX13_assemble_83 : decode cX13_assemble 83 = .ok (.istore_n 3, 1) := by decide +kernel
theorem dX13_assemble_84 : decode cX13_assemble 84 = .ok (.iload_n 3, 1) := by decide +kernel
theorem dX13_assemble_85 : decode cX13_assemble 85 = .ok (.aload_n 0, 1) := by decide +kernel
theorem dX13_assemble_86 : decode cX13_assemble 86 = .ok (.getfield 673, 3) := by decide +kernel
theorem dX13_assemble_89 : decode cX13_assemble 89 = .ok (.if_icmp .ge 40, 3) := by decide +kernel
theorem dX13_assemble_92 : decode cX13_assemble 92 = .ok (.aload_n 0, 1) := by decide +kernel
theorem dX13_assemble_93 : decode cX13_assemble 93 = .ok (.getfield 410, 3) := by decide +kernel
theorem dX13_assemble_96 : decode cX13_assemble 96 = .ok (.ifCond .ne 33, 3) := by decide +kernel
theorem dX13_assemble_99 : decode cX13_assemble 99 = .ok (.aload_n 0, 1) := by decide +kernel
theorem dX13_assemble_100 : decode cX13_assemble 100 = .ok (.aload_n 0, 1) := by decide +kernel
theorem dX13_assemble_101 : decode cX13_assemble 101 = .ok (.aload_n 0, 1) := by decide +kernel
theorem dX13_assemble_102 : decode cX13_assemble 102 = .ok (.getfield 328, 3) := by decide +kernel
theorem dX13_assemble_105 : decode cX13_assemble 105 = .ok (.iload_n 3, 1) := by decide +kernel
theorem dX13_assemble_106 : decode cX13_assemble 106 = .ok (.iaload, 1) := by decide +kernel
theorem dX13_assemble_107 : decode cX13_assemble 107 = .ok (.ldc_w 442, 3) := by decide +kernel
theorem dX13_assemble_110 : decode cX13_assemble 110 = .ok (.iand, 1) := by decide +kernel
theorem dX13_assemble_111 : decode cX13_assemble 111 = .ok (.invokevirtual 716, 3) := by decide +kernel
theorem dX13_assemble_114 : decode cX13_assemble 114 = .ok (.putfield 413, 3) := by decide +kernel
theorem dX13_assemble_117 : decode cX13_assemble 117 = .ok (.aload_n 0, 1) := by decide +kernel
theorem dX13_assemble_118 : decode cX13_assemble 118 = .ok (.iload_n 3, 1) := by decide +kernel
theorem dX13_assemble_119 : decode cX13_assemble 119 = .ok (.iconst 2, 1) := by decide +kernel
theorem dX13_assemble_120 : decode cX13_assemble 120 = .ok (.invokevirtual 700, 3) := by decide +kernel
theorem dX13_assemble_123 : decode cX13_assemble 123 = .ok (.iinc 3 1, 3) := by decide +kernel
theorem dX13_assemble_126 : decode cX13_assemble 126 = .ok (.goto (-42), 3) := by decide +kernel
theorem dX13_assemble_129 : decode cX13_assemble 129 = .ok (.aload_n 0, 1) := by decide +kernel
theorem dX13_assemble_130 : decode cX13_assemble 130 = .ok (.aload_n 0, 1) := by decide +kernel
theorem dX13_assemble_131 : decode cX13_assemble 131 = .ok (.getfield 410, 3) := by decide +kernel
theorem dX13_assemble_134 : decode cX13_assemble 134 = .ok (.ifCond .ne 7, 3) := by decide +kernel
theorem dX13_assemble_137 : decode cX13_assemble 137 = .ok (.iconst 1, 1) := by decide +kernel
theorem dX13_assemble_138 : decode cX13_assemble 138 = .ok (.goto 4, 3) := by decide +kernel
theorem dX13_assemble_141 : decode cX13_assemble 141 = .ok (.iconst 0, 1) := by decide +kernel
theorem dX13_assemble_142 : decode cX13_assemble 142 = .ok (.putfield 704, 3) := by decide +kernel
theorem dX13_assemble_145 : decode cX13_assemble 145 = .ok (.aload_n 0, 1) := by decide +kernel
theorem dX13_assemble_146 : decode cX13_assemble 146 = .ok (.getfield 410, 3) := by decide +kernel
theorem dX13_assemble_149 : decode cX13_assemble 149 = .ok (.ireturn, 1) := by decide +kernel
theorem dX15_compile_0 : decode cX15_compile 0 = .ok (.iconst 0, 1) := by decide +kernel
theorem dX15_compile_1 : decode cX15_compile 1 = .ok (.istore 4, 2) := by decide +kernel
theorem dX15_compile_3 : decode cX15_compile 3 = .ok (.iload 4, 2) := by decide +kernel
theorem dX15_compile_5 : decode cX15_compile 5 = .ok (.iload_n 3, 1) := by decide +kernel
theorem dX15_compile_6 : decode cX15_compile 6 = .ok (.if_icmp .ge 54, 3) := by decide +kernel
theorem dX15_compile_9 : decode cX15_compile 9 = .ok (.iload 4, 2) := by decide +kernel
theorem dX15_compile_11 : decode cX15_compile 11 = .ok (.bipush 120, 2) := by decide +kernel
theorem dX15_compile_13 : decode cX15_compile 13 = .ok (.if_icmp .eq 21, 3) := by decide +kernel
theorem dX15_compile_16 : decode cX15_compile 16 = .ok (.aload_n 2, 1) := by decide +kernel
theorem dX15_compile_17 : decode cX15_compile 17 = .ok (.iload 4, 2) := by decide +kernel
theorem dX15_compile_19 : decode cX15_compile 19 = .ok (.iaload, 1) := by decide +kernel
theorem dX15_compile_20 : decode cX15_compile 20 = .ok (.bipush 32, 2) := by decide +kernel
theorem dX15_compile_22 : decode cX15_compile 22 = .ok (.if_icmp .lt 12, 3) := by decide +kernel
theorem dX15_compile_25 : decode cX15_compile 25 = .ok (.aload_n 2, 1) := by decide +kernel
theorem dX15_compile_26 : decode cX15_compile 26 = .ok (.iload 4, 2) := by decide +kernel
theorem dX15_compile_28 : decode cX15_compile 28 = .ok (.iaload, 1) := by decide +kernel
theorem dX15_compile_29 : decode cX15_compile 29 = .ok (.bipush 126, 2) := by decide +kernel
theorem dX15_compile_31 : decode cX15_compile 31 = .ok (.if_icmp .le 11, 3) := by decide +kernel
theorem dX15_compile_34 : decode cX15_compile 34 = .ok (.iconst 1, 1) := by decide +kernel
theorem dX15_compile_35 : decode cX15_compile 35 = .ok (.bipush 8, 2) := by decide +kernel
theorem dX15_compile_37 : decode cX15_compile 37 = .ok (.iload 4, 2) := by decide +kernel
theorem dX15_compile_39 : decode cX15_compile 39 = .ok (.imul, 1) := by decide +kernel
theorem dX15_compile_40 : decode cX15_compile 40 = .ok (.iadd, 1) := by decide +kernel
theorem dX15_compile_41 : decode cX15_compile 41 = .ok (.ireturn, 1) := by decide +kernel
theorem dX15_compile_42 : decode cX15_compile 42 = .ok (.aload_n 0, 1) := by decide +kernel
theorem dX15_compile_43 : decode cX15_compile 43 = .ok (.getfield 7, 3) := by decide +kernel
theorem dX15_compile_46 : decode cX15_compile 46 = .ok (.iload 4, 2) := by decide +kernel
theorem dX15_compile_48 : decode cX15_compile 48 = .ok (.aload_n 2, 1) := by decide +kernel
theorem dX15_compile_49 : decode cX15_compile 49 = .ok (.iload 4, 2) := by decide +kernel
theorem dX15_compile_51 : decode cX15_compile 51 = .ok (.iaload, 1) := by decide +kernel
theorem dX15_compile_52 : decode cX15_compile 52 = .ok (.i2c, 1) := by decide +kernel
theorem dX15_compile_53 : decode cX15_compile 53 = .ok (.castore, 1) := by decide +kernel
theorem dX15_compile_54 : decode cX15_compile 54 = .ok (.iinc 4 1, 3) := by decide +kernel
theorem dX15_compile_57 : decode cX15_compile 57 = .ok (.goto (-54), 3) := by decide +kernel
theorem dX15_compile_60 : decode cX15_compile 60 = .ok (.aload_n 0, 1) := by decide +kernel
theorem dX15_compile_61 : decode cX15_compile 61 = .ok (.iload_n 3, 1) := by decide +kernel
theorem dX15_compile_62 : decode cX15_compile 62 = .ok (.putfield 65, 3) := by decide +kernel
theorem dX15_compile_65 : decode cX15_compile 65 = .ok (.aload_n 0, 1) := by decide +kernel
theorem dX15_compile_66 : decode cX15_compile 66 = .ok (.invokevirtual 157, 3) := by decide +kernel
theorem dX15_compile_69 : decode cX15_compile 69 = .ok (.pop, 1) := by decide +kernel
theorem dX15_compile_70 : decode cX15_compile 70 = .ok (.aload_n 0, 1) := by decide +kernel
theorem dX15_compile_71 : decode cX15_compile 71 = .ok (.getfield 125, 3) := by decide +kernel
theorem dX15_compile_74 : decode cX15_compile 74 = .ok (.ifCond .le 8, 3) := by decide +kernel
theorem dX15_compile_77 : decode cX15_compile 77 = .ok (.aload_n 0, 1) := by decide +kernel
theorem dX15_compile_78 : decode cX15_compile 78 = .ok (.getfield 125, 3) := by decide +kernel
theorem dX15_compile_81 : decode cX15_compile 81 = .ok (.ireturn, 1) := by decide +kernel
theorem dX15_compile_82 : decode cX15_compile 82 = .ok (.aload_n 0, 1) := by decide +kernel
theorem dX15_compile_83 : decode cX15_compile 83 = .ok (.getfield 13, 3) := by decide +kernel
theorem dX15_compile_86 : decode cX15_compile 86 = .ok (.iload_n 1, 1) := by decide +kernel
theorem dX15_compile_87 : decode cX15_compile 87 = .ok (.iconst 1, 1) := by decide +kernel
theorem dX15_compile_88 : decode cX15_compile 88 = .ok (.bastore, 1) := by decide +kernel
theorem dX15_compile_89 : decode cX15_compile 89 = .ok (.aload_n 0, 1) := by decide +kernel
theorem dX15_compile_90 : decode cX15_compile 90 = .ok (.getfield 17, 3) := by decide +kernel
theorem dX15_compile_93 : decode cX15_compile 93 = .ok (.iload_n 1, 1) := by decide +kernel
theorem dX15_compile_94 : decode cX15_compile 94 = .ok (.aload_n 0, 1) := by decide +kernel
theorem dX15_compile_95 : decode cX15_compile 95 = .ok (.getfield 131, 3) := by decide +kernel
theorem dX15_compile_98 : decode cX15_compile 98 = .ok (.iastore, 1) := by decide +kernel
theorem dX15_compile_99 : decode cX15_compile 99 = .ok (.iconst 0, 1) := by decide +kernel
theorem dX15_compile_100 : decode cX15_compile 100 = .ok (.istore 4, 2) := by decide +kernel
theorem dX15_compile_102 : decode cX15_compile 102 = .ok (.iload 4, 2) := by decide +kernel
theorem dX15_compile_104 : decode cX15_compile 104 = .ok (.aload_n 0, 1) := by decide +kernel
theorem dX15_compile_105 : decode cX15_compile 105 = .ok (.getfield 131, 3) := by decide +kernel
theorem dX15_compile_108 : decode cX15_compile 108 = .ok (.if_icmp .ge 71, 3) := by decide +kernel
theorem dX15_compile_111 : decode cX15_compile 111 = .ok (.aload_n 0, 1) := by decide +kernel
theorem dX15_compile_112 : decode cX15_compile 112 = .ok (.getfield 21, 3) := by decide +kernel
theorem dX15_compile_115 : decode cX15_compile 115 = .ok (.bipush 120, 2) := by decide +kernel
theorem dX15_compile_117 : decode cX15_compile 117 = .ok (.iload_n 1, 1) := by decide +kernel
theorem dX15_compile_118 : decode cX15_compile 118 = .ok (.imul, 1) := by decide +kernel
theorem dX15_compile_119 : decode cX15_compile 119 = .ok (.iload 4, 2) := by decide +kernel
theorem dX15_compile_121 : decode cX15_compile 121 = .ok (.iadd, 1) := by decide +kernel
theorem dX15_compile_122 : decode cX15_compile 122 = .ok (.aload_n 0, 1) := by decide +kernel
theorem dX15_compile_123 : decode cX15_compile 123 = .ok (.getfield 34, 3) := by decide +kernel
theorem dX15_compile_126 : decode cX15_compile 126 = .ok (.iload 4, 2) := by decide +kernel
theorem dX15_compile_128 : decode cX15_compile 128 = .ok (.iaload, 1) := by decide +kernel
theorem dX15_compile_129 : decode cX15_compile 129 = .ok (.iastore, 1) := by decide +kernel
theorem dX15_compile_130 : decode cX15_compile 130 = .ok (.aload_n 0, 1) := by decide +kernel
theorem dX15_compile_131 : decode cX15_compile 131 = .ok (.getfield 27, 3) := by decide +kernel
theorem dX15_compile_134 : decode cX15_compile 134 = .ok (.bipush 120, 2) := by decide +kernel
theorem dX15_compile_136 : decode cX15_compile 136 = .ok (.iload_n 1, 1) := by decide +kernel
theorem dX15_compile_137 : decode cX15_compile 137 = .ok (.imul, 1) := by decide +kernel
theorem dX15_compile_138 : decode cX15_compile 138 = .ok (.iload 4, 2) := by decide +kernel
theorem dX15_compile_140 : decode cX15_compile 140 = .ok (.iadd, 1) := by decide +kernel
theorem dX15_compile_141 : decode cX15_compile 141 = .ok (.aload_n 0, 1) := by decide +kernel
theorem dX15_compile_142 : decode cX15_compile 142 = .ok (.getfield 43, 3) := by decide +kernel
theorem dX15_compile_145 : decode cX15_compile 145 = .ok (.iload 4, 2) := by decide +kernel
theorem dX15_compile_147 : decode cX15_compile 147 = .ok (.laload, 1) := by decide +kernel
theorem dX15_compile_148 : decode cX15_compile 148 = .ok (.lastore, 1) := by decide +kernel
theorem dX15_compile_149 : decode cX15_compile 149 = .ok (.aload_n 0, 1) := by decide +kernel
theorem dX15_compile_150 : decode cX15_compile 150 = .ok (.getfield 24, 3) := by decide +kernel
theorem dX15_compile_153 : decode cX15_compile 153 = .ok (.bipush 120, 2) := by decide +kernel
theorem dX15_compile_155 : decode cX15_compile 155 = .ok (.iload_n 1, 1) := by decide +kernel
theorem dX15_compile_156 : decode cX15_compile 156 = .ok (.imul, 1) := by decide +kernel
theorem dX15_compile_157 : decode cX15_compile 157 = .ok (.iload 4, 2) := by decide +kernel
theorem dX15_compile_159 : decode cX15_compile 159 = .ok (.iadd, 1) := by decide +kernel
theorem dX15_compile_160 : decode cX15_compile 160 = .ok (.bipush 120, 2) := by decide +kernel
theorem dX15_compile_162 : decode cX15_compile 162 = .ok (.iload_n 1, 1) := by decide +kernel
theorem dX15_compile_163 : decode cX15_compile 163 = .ok (.imul, 1) := by decide +kernel
theorem dX15_compile_164 : decode cX15_compile 164 = .ok (.aload_n 0, 1) := by decide +kernel
theorem dX15_compile_165 : decode cX15_compile 165 = .ok (.getfield 37, 3) := by decide +kernel
theorem dX15_compile_168 : decode cX15_compile 168 = .ok (.iload 4, 2) := by decide +kernel
theorem dX15_compile_170 : decode cX15_compile 170 = .ok (.iaload, 1) := by decide +kernel
theorem dX15_compile_171 : decode cX15_compile 171 = .ok (.iadd, 1) := by decide +kernel
theorem dX15_compile_172 : decode cX15_compile 172 = .ok (.iastore, 1) := by decide +kernel
theorem dX15_compile_173 : decode cX15_compile 173 = .ok (.iinc 4 1, 3) := by decide +kernel
theorem dX15_compile_176 : decode cX15_compile 176 = .ok (.goto (-74), 3) := by decide +kernel
theorem dX15_compile_179 : decode cX15_compile 179 = .ok (.iconst 0, 1) := by decide +kernel
theorem dX15_compile_180 : decode cX15_compile 180 = .ok (.ireturn, 1) := by decide +kernel
theorem dJ6_compare_7cf53_0 : decode cJ6_compare_7cf53 0 = .ok (.iload_n 0, 1) := by decide +kernel
theorem dJ6_compare_7cf53_1 : decode cJ6_compare_7cf53 1 = .ok (.iload_n 1, 1) := by decide +kernel
theorem dJ6_compare_7cf53_2 : decode cJ6_compare_7cf53 2 = .ok (.if_icmp .ge 7, 3) := by decide +kernel
theorem dJ6_compare_7cf53_5 : decode cJ6_compare_7cf53 5 = .ok (.iconst (-1), 1) := by decide +kernel
theorem dJ6_compare_7cf53_6 : decode cJ6_compare_7cf53 6 = .ok (.goto 13, 3) := by decide +kernel
theorem dJ6_compare_7cf53_9 : decode cJ6_compare_7cf53 9 = .ok (.iload_n 0, 1) := by decide +kernel
theorem dJ6_compare_7cf53_10 : decode cJ6_compare_7cf53 10 = .ok (.iload_n 1, 1) := by decide +kernel
theorem dJ6_compare_7cf53_11 : decode cJ6_compare_7cf53 11 = .ok (.if_icmp .ne 7, 3) := by decide +kernel
theorem dJ6_compare_7cf53_14 : decode cJ6_compare_7cf53 14 = .ok (.iconst 0, 1) := by decide +kernel
theorem dJ6_compare_7cf53_15 : decode cJ6_compare_7cf53 15 = .ok (.goto 4, 3) := by decide +kernel
theorem dJ6_compare_7cf53_18 : decode cJ6_compare_7cf53 18 = .ok (.iconst 1, 1) := by decide +kernel
theorem dJ6_compare_7cf53_19 : decode cJ6_compare_7cf53 19 = .ok (.ireturn, 1) := by decide +kernel
theorem dJ6_compareUnsigned_7cf53_0 : decode cJ6_compareUnsigned_7cf53 0 = .ok (.iload_n 0, 1) := by decide +kernel
theorem dJ6_compareUnsigned_7cf53_1 : decode cJ6_compareUnsigned_7cf53 1 = .ok (.ldc 127, 2) := by decide +kernel
theorem dJ6_compareUnsigned_7cf53_3 : decode cJ6_compareUnsigned_7cf53 3 = .ok (.iadd, 1) := by decide +kernel
theorem dJ6_compareUnsigned_7cf53_4 : decode cJ6_compareUnsigned_7cf53 4 = .ok (.iload_n 1, 1) := by decide +kernel
theorem dJ6_compareUnsigned_7cf53_5 : decode cJ6_compareUnsigned_7cf53 5 = .ok (.ldc 127, 2) := by decide +kernel
theorem dJ6_compareUnsigned_7cf53_7 : decode cJ6_compareUnsigned_7cf53 7 = .ok (.iadd, 1) := by decide +kernel
theorem dJ6_compareUnsigned_7cf53_8 : decode cJ6_compareUnsigned_7cf53 8 = .ok (.invokestatic 259, 3) := by decide +kernel
theorem dJ6_compareUnsigned_7cf53_11 : decode cJ6_compareUnsigned_7cf53 11 = .ok (.ireturn, 1) := by decide +kernel
theorem dJ6_numberOfTrailingZeros_0f7a4_0 : decode cJ6_numberOfTrailingZeros_0f7a4 0 = .ok (.iload_n 0, 1) := by decide +kernel
theorem dJ6_numberOfTrailingZeros_0f7a4_1 : decode cJ6_numberOfTrailingZeros_0f7a4 1 = .ok (.iconst (-1), 1) := by decide +kernel
theorem dJ6_numberOfTrailingZeros_0f7a4_2 : decode cJ6_numberOfTrailingZeros_0f7a4 2 = .ok (.ixor, 1) := by decide +kernel
theorem dJ6_numberOfTrailingZeros_0f7a4_3 : decode cJ6_numberOfTrailingZeros_0f7a4 3 = .ok (.iload_n 0, 1) := by decide +kernel
theorem dJ6_numberOfTrailingZeros_0f7a4_4 : decode cJ6_numberOfTrailingZeros_0f7a4 4 = .ok (.iconst 1, 1) := by decide +kernel
theorem dJ6_numberOfTrailingZeros_0f7a4_5 : decode cJ6_numberOfTrailingZeros_0f7a4 5 = .ok (.isub, 1) := by decide +kernel
theorem dJ6_numberOfTrailingZeros_0f7a4_6 : decode cJ6_numberOfTrailingZeros_0f7a4 6 = .ok (.iand, 1) := by decide +kernel
theorem dJ6_numberOfTrailingZeros_0f7a4_7 : decode cJ6_numberOfTrailingZeros_0f7a4 7 = .ok (.istore_n 0, 1) := by decide +kernel
theorem dJ6_numberOfTrailingZeros_0f7a4_8 : decode cJ6_numberOfTrailingZeros_0f7a4 8 = .ok (.iload_n 0, 1) := by decide +kernel
theorem dJ6_numberOfTrailingZeros_0f7a4_9 : decode cJ6_numberOfTrailingZeros_0f7a4 9 = .ok (.ifCond .gt 8, 3) := by decide +kernel
theorem dJ6_numberOfTrailingZeros_0f7a4_12 : decode cJ6_numberOfTrailingZeros_0f7a4 12 = .ok (.iload_n 0, 1) := by decide +kernel
theorem dJ6_numberOfTrailingZeros_0f7a4_13 : decode cJ6_numberOfTrailingZeros_0f7a4 13 = .ok (.bipush 32, 2) := by decide +kernel
theorem dJ6_numberOfTrailingZeros_0f7a4_15 : decode cJ6_numberOfTrailingZeros_0f7a4 15 = .ok (.iand, 1) := by decide +kernel
theorem dJ6_numberOfTrailingZeros_0f7a4_16 : decode cJ6_numberOfTrailingZeros_0f7a4 16 = .ok (.ireturn, 1) := by decide +kernel
theorem dJ6_numberOfTrailingZeros_0f7a4_17 : decode cJ6_numberOfTrailingZeros_0f7a4 17 = .ok (.iconst 1, 1) := by decide +kernel
theorem dJ6_numberOfTrailingZeros_0f7a4_18 : decode cJ6_numberOfTrailingZeros_0f7a4 18 = .ok (.istore_n 1, 1) := by decide +kernel
theorem dJ6_numberOfTrailingZeros_0f7a4_19 : decode cJ6_numberOfTrailingZeros_0f7a4 19 = .ok (.iload_n 0, 1) := by decide +kernel
theorem dJ6_numberOfTrailingZeros_0f7a4_20 : decode cJ6_numberOfTrailingZeros_0f7a4 20 = .ok (.ldc_w 264, 3) := by decide +kernel
theorem dJ6_numberOfTrailingZeros_0f7a4_23 : decode cJ6_numberOfTrailingZeros_0f7a4 23 = .ok (.if_icmp .le 11, 3) := by decide +kernel
theorem dJ6_numberOfTrailingZeros_0f7a4_26 : decode cJ6_numberOfTrailingZeros_0f7a4 26 = .ok (.iinc 1 16, 3) := by decide +kernel
theorem dJ6_numberOfTrailingZeros_0f7a4_29 : decode cJ6_numberOfTrailingZeros_0f7a4 29 = .ok (.iload_n 0, 1) := by decide +kernel
theorem dJ6_numberOfTrailingZeros_0f7a4_30 : decode cJ6_numberOfTrailingZeros_0f7a4 30 = .ok (.bipush 16, 2) := by decide +kernel
theorem dJ6_numberOfTrailingZeros_0f7a4_32 : decode cJ6_numberOfTrailingZeros_0f7a4 32 = .ok (.iushr, 1) := by decide +kernel
theorem dJ6_numberOfTrailingZeros_0f7a4_33 : decode cJ6_numberOfTrailingZeros_0f7a4 33 = .ok (.istore_n 0, 1) := by decide +kernel
theorem dJ6_numberOfTrailingZeros_0f7a4_34 : decode cJ6_numberOfTrailingZeros_0f7a4 34 = .ok (.iload_n 0, 1) := by decide +kernel
theorem dJ6_numberOfTrailingZeros_0f7a4_35 : decode cJ6_numberOfTrailingZeros_0f7a4 35 = .ok (.sipush 256, 3) := by decide +kernel
theorem dJ6_numberOfTrailingZeros_0f7a4_38 : decode cJ6_numberOfTrailingZeros_0f7a4 38 = .ok (.if_icmp .le 11, 3) := by decide +kernel
theorem dJ6_numberOfTrailingZeros_0f7a4_41 : decode cJ6_numberOfTrailingZeros_0f7a4 41 = .ok (.iinc 1 8, 3) := by decide +kernel
theorem dJ6_numberOfTrailingZeros_0f7a4_44 : decode cJ6_numberOfTrailingZeros_0f7a4 44 = .ok (.iload_n 0, 1) := by decide +kernel
theorem dJ6_numberOfTrailingZeros_0f7a4_45 : decode cJ6_numberOfTrailingZeros_0f7a4 45 = .ok (.bipush 8, 2) := by decide +kernel
theorem dJ6_numberOfTrailingZeros_0f7a4_47 : decode cJ6_numberOfTrailingZeros_0f7a4 47 = .ok (.iushr, 1) := by decide +kernel
theorem dJ6_numberOfTrailingZeros_0f7a4_48 : decode cJ6_numberOfTrailingZeros_0f7a4 48 = .ok (.istore_n 0, 1) := by decide +kernel
theorem dJ6_numberOfTrailingZeros_0f7a4_49 : decode cJ6_numberOfTrailingZeros_0f7a4 49 = .ok (.iload_n 0, 1) := by decide +kernel
theorem dJ6_numberOfTrailingZeros_0f7a4_50 : decode cJ6_numberOfTrailingZeros_0f7a4 50 = .ok (.bipush 16, 2) := by decide +kernel
theorem dJ6_numberOfTrailingZeros_0f7a4_52 : decode cJ6_numberOfTrailingZeros_0f7a4 52 = .ok (.if_icmp .le 10, 3) := by decide +kernel
theorem dJ6_numberOfTrailingZeros_0f7a4_55 : decode cJ6_numberOfTrailingZeros_0f7a4 55 = .ok (.iinc 1 4, 3) := by decide +kernel
theorem dJ6_numberOfTrailingZeros_0f7a4_58 : decode cJ6_numberOfTrailingZeros_0f7a4 58 = .ok (.iload_n 0, 1) := by decide +kernel
theorem dJ6_numberOfTrailingZeros_0f7a4_59 : decode cJ6_numberOfTrailingZeros_0f7a4 59 = .ok (.iconst 4, 1) := by decide +kernel
theorem dJ6_numberOfTrailingZeros_0f7a4_60 : decode cJ6_numberOfTrailingZeros_0f7a4 60 = .ok (.iushr, 1) := by decide +kernel
theorem dJ6_numberOfTrailingZeros_0f7a4_61 : decode cJ6_numberOfTrailingZeros_0f7a4 61 = .ok (.istore_n 0, 1) := by decide +kernel
theorem dJ6_numberOfTrailingZeros_0f7a4_62 : decode cJ6_numberOfTrailingZeros_0f7a4 62 = .ok (.iload_n 0, 1) := by decide +kernel
theorem dJ6_numberOfTrailingZeros_0f7a4_63 : decode cJ6_numberOfTrailingZeros_0f7a4 63 = .ok (.iconst 4, 1) := by decide +kernel
theorem dJ6_numberOfTrailingZeros_0f7a4_64 : decode cJ6_numberOfTrailingZeros_0f7a4 64 = .ok (.if_icmp .le 10, 3) := by decide +kernel
theorem dJ6_numberOfTrailingZeros_0f7a4_67 : decode cJ6_numberOfTrailingZeros_0f7a4 67 = .ok (.iinc 1 2, 3) := by decide +kernel
theorem dJ6_numberOfTrailingZeros_0f7a4_70 : decode cJ6_numberOfTrailingZeros_0f7a4 70 = .ok (.iload_n 0, 1) := by decide +kernel
theorem dJ6_numberOfTrailingZeros_0f7a4_71 : decode cJ6_numberOfTrailingZeros_0f7a4 71 = .ok (.iconst 2, 1) := by decide +kernel
theorem dJ6_numberOfTrailingZeros_0f7a4_72 : decode cJ6_numberOfTrailingZeros_0f7a4 72 = .ok (.iushr, 1) := by decide +kernel
theorem dJ6_numberOfTrailingZeros_0f7a4_73 : decode cJ6_numberOfTrailingZeros_0f7a4 73 = .ok (.istore_n 0, 1) := by decide +kernel
theorem dJ6_numberOfTrailingZeros_0f7a4_74 : decode cJ6_numberOfTrailingZeros_0f7a4 74 = .ok (.iload_n 1, 1) := by decide +kernel
theorem dJ6_numberOfTrailingZeros_0f7a4_75 : decode cJ6_numberOfTrailingZeros_0f7a4 75 = .ok (.iload_n 0, 1) := by decide +kernel
theorem dJ6_numberOfTrailingZeros_0f7a4_76 : decode cJ6_numberOfTrailingZeros_0f7a4 76 = .ok (.iconst 1, 1) := by decide +kernel
theorem dJ6_numberOfTrailingZeros_0f7a4_77 : decode cJ6_numberOfTrailingZeros_0f7a4 77 = .ok (.iushr, 1) := by decide +kernel
theorem dJ6_numberOfTrailingZeros_0f7a4_78 : decode cJ6_numberOfTrailingZeros_0f7a4 78 = .ok (.iadd, 1) := by decide +kernel
theorem dJ6_numberOfTrailingZeros_0f7a4_79 : decode cJ6_numberOfTrailingZeros_0f7a4 79 = .ok (.ireturn, 1) := by decide +kernel
theorem dJ0_length_8abf5_0 : decode cJ0_length_8abf5 0 = .ok (.aload_n 0, 1) := by decide +kernel
theorem dJ0_length_8abf5_1 : decode cJ0_length_8abf5 1 = .ok (.getfield 9, 3) := by decide +kernel
theorem dJ0_length_8abf5_4 : decode cJ0_length_8abf5 4 = .ok (.arraylength, 1) := by decide +kernel
theorem dJ0_length_8abf5_5 : decode cJ0_length_8abf5 5 = .ok (.aload_n 0, 1) := by decide +kernel
theorem dJ0_length_8abf5_6 : decode cJ0_length_8abf5 6 = .ok (.invokevirtual 335, 3) := by decide +kernel
theorem dJ0_length_8abf5_9 : decode cJ0_length_8abf5 9 = .ok (.ishr, 1) := by decide +kernel
theorem dJ0_length_8abf5_10 : decode cJ0_length_8abf5 10 = .ok (.ireturn, 1) := by decide +kernel
theorem dJ0_charAt_5068e_0 : decode cJ0_charAt_5068e 0 = .ok (.aload_n 0, 1) := by decide +kernel
theorem dJ0_charAt_5068e_1 : decode cJ0_charAt_5068e 1 = .ok (.invokevirtual 492, 3) := by decide +kernel
theorem dJ0_charAt_5068e_4 : decode cJ0_charAt_5068e 4 = .ok (.ifCond .eq 12, 3) := by decide +kernel
theorem dJ0_charAt_5068e_7 : decode cJ0_charAt_5068e 7 = .ok (.aload_n 0, 1) := by decide +kernel
theorem dJ0_charAt_5068e_8 : decode cJ0_charAt_5068e 8 = .ok (.getfield 9, 3) := by decide +kernel
theorem dJ0_charAt_5068e_11 : decode cJ0_charAt_5068e 11 = .ok (.iload_n 1, 1) := by decide +kernel
theorem dJ0_charAt_5068e_12 : decode cJ0_charAt_5068e 12 = .ok (.invokestatic 495, 3) := by decide +kernel
theorem dJ0_charAt_5068e_15 : decode cJ0_charAt_5068e 15 = .ok (.ireturn, 1) := by decide +kernel
theorem dJ0_indexOf_0f7a4_0 : decode cJ0_indexOf_0f7a4 0 = .ok (.aload_n 0, 1) := by decide +kernel
theorem dJ0_indexOf_0f7a4_1 : decode cJ0_indexOf_0f7a4 1 = .ok (.iload_n 1, 1) := by decide +kernel
theorem dJ0_indexOf_0f7a4_2 : decode cJ0_indexOf_0f7a4 2 = .ok (.iconst 0, 1) := by decide +kernel
theorem dJ0_indexOf_0f7a4_3 : decode cJ0_indexOf_0f7a4 3 = .ok (.invokevirtual 633, 3) := by decide +kernel
theorem dJ0_indexOf_0f7a4_6 : decode cJ0_indexOf_0f7a4 6 = .ok (.ireturn, 1) := by decide +kernel
theorem dJ0_indexOf_7cf53_0 : decode cJ0_indexOf_7cf53 0 = .ok (.aload_n 0, 1) := by decide +kernel
theorem dJ0_indexOf_7cf53_1 : decode cJ0_indexOf_7cf53 1 = .ok (.invokevirtual 492, 3) := by decide +kernel
theorem dJ0_indexOf_7cf53_4 : decode cJ0_indexOf_7cf53 4 = .ok (.ifCond .eq 19, 3) := by decide +kernel
theorem dJ0_indexOf_7cf53_7 : decode cJ0_indexOf_7cf53 7 = .ok (.aload_n 0, 1) := by decide +kernel
theorem dJ0_indexOf_7cf53_8 : decode cJ0_indexOf_7cf53 8 = .ok (.getfield 9, 3) := by decide +kernel
theorem dJ0_indexOf_7cf53_11 : decode cJ0_indexOf_7cf53 11 = .ok (.iload_n 1, 1) := by decide +kernel
theorem dJ0_indexOf_7cf53_12 : decode cJ0_indexOf_7cf53 12 = .ok (.iload_n 2, 1) := by decide +kernel
theorem dJ0_indexOf_7cf53_13 : decode cJ0_indexOf_7cf53 13 = .ok (.aload_n 0, 1) := by decide +kernel
theorem dJ0_indexOf_7cf53_14 : decode cJ0_indexOf_7cf53 14 = .ok (.invokevirtual 505, 3) := by decide +kernel
theorem dJ0_indexOf_7cf53_17 : decode cJ0_indexOf_7cf53 17 = .ok (.invokestatic 637, 3) := by decide +kernel
theorem dJ0_indexOf_7cf53_20 : decode cJ0_indexOf_7cf53 20 = .ok (.goto 16, 3) := by decide +kernel
theorem dJ0_indexOf_7cf53_36 : decode cJ0_indexOf_7cf53 36 = .ok (.ireturn, 1) := by decide +kernel
theorem dJ0_coder_7d493_0 : decode cJ0_coder_7d493 0 = .ok (.getstatic 38, 3) := by decide +kernel
theorem dJ0_coder_7d493_3 : decode cJ0_coder_7d493 3 = .ok (.ifCond .eq 10, 3) := by decide +kernel
theorem dJ0_coder_7d493_6 : decode cJ0_coder_7d493 6 = .ok (.aload_n 0, 1) := by decide +kernel
theorem dJ0_coder_7d493_7 : decode cJ0_coder_7d493 7 = .ok (.getfield 15, 3) := by decide +kernel
theorem dJ0_coder_7d493_10 : decode cJ0_coder_7d493 10 = .ok (.goto 4, 3) := by decide +kernel
theorem dJ0_coder_7d493_14 : decode cJ0_coder_7d493 14 = .ok (.ireturn, 1) := by decide +kernel
theorem dJ0_isLatin1_aae02_0 : decode cJ0_isLatin1_aae02 0 = .ok (.getstatic 38, 3) := by decide +kernel
theorem dJ0_isLatin1_aae02_3 : decode cJ0_isLatin1_aae02 3 = .ok (.ifCond .eq 14, 3) := by decide +kernel
theorem dJ0_isLatin1_aae02_6 : decode cJ0_isLatin1_aae02 6 = .ok (.aload_n 0, 1) := by decide +kernel
theorem dJ0_isLatin1_aae02_7 : decode cJ0_isLatin1_aae02 7 = .ok (.getfield 15, 3) := by decide +kernel
theorem dJ0_isLatin1_aae02_10 : decode cJ0_isLatin1_aae02 10 = .ok (.ifCond .ne 7, 3) := by decide +kernel
theorem dJ0_isLatin1_aae02_13 : decode cJ0_isLatin1_aae02 13 = .ok (.iconst 1, 1) := by decide +kernel
theorem dJ0_isLatin1_aae02_14 : decode cJ0_isLatin1_aae02 14 = .ok (.goto 4, 3) := by decide +kernel
theorem dJ0_isLatin1_aae02_18 : decode cJ0_isLatin1_aae02 18 = .ok (.ireturn, 1) := by decide +kernel
theorem dJ0_checkIndex_df160_0 : decode cJ0_checkIndex_df160 0 = .ok (.iload_n 0, 1) := by decide +kernel
theorem dJ0_checkIndex_df160_1 : decode cJ0_checkIndex_df160 1 = .ok (.iload_n 1, 1) := by decide +kernel
theorem dJ0_checkIndex_df160_2 : decode cJ0_checkIndex_df160 2 = .ok (.getstatic 1053, 3) := by decide +kernel
theorem dJ0_checkIndex_df160_5 : decode cJ0_checkIndex_df160 5 = .ok (.invokestatic 1059, 3) := by decide +kernel
theorem dJ0_checkIndex_df160_8 : decode cJ0_checkIndex_df160 8 = .ok (.pop, 1) := by decide +kernel
theorem dJ0_checkIndex_df160_9 : decode cJ0_checkIndex_df160 9 = .ok (.return_, 1) := by decide +kernel
theorem dJ1_charAt_3b067_0 : decode cJ1_charAt_3b067 0 = .ok (.iload_n 1, 1) := by decide +kernel
theorem dJ1_charAt_3b067_1 : decode cJ1_charAt_3b067 1 = .ok (.aload_n 0, 1) := by decide +kernel
theorem dJ1_charAt_3b067_2 : decode cJ1_charAt_3b067 2 = .ok (.arraylength, 1) := by decide +kernel
theorem dJ1_charAt_3b067_3 : decode cJ1_charAt_3b067 3 = .ok (.invokestatic 9, 3) := by decide +kernel
theorem dJ1_charAt_3b067_6 : decode cJ1_charAt_3b067 6 = .ok (.aload_n 0, 1) := by decide +kernel
theorem dJ1_charAt_3b067_7 : decode cJ1_charAt_3b067 7 = .ok (.iload_n 1, 1) := by decide +kernel
theorem dJ1_charAt_3b067_8 : decode cJ1_charAt_3b067 8 = .ok (.baload, 1) := by decide +kernel
theorem dJ1_charAt_3b067_9 : decode cJ1_charAt_3b067 9 = .ok (.sipush 255, 3) := by decide +kernel
theorem dJ1_charAt_3b067_12 : decode cJ1_charAt_3b067 12 = .ok (.iand, 1) := by decide +kernel
theorem dJ1_charAt_3b067_13 : decode cJ1_charAt_3b067 13 = .ok (.i2c, 1) := by decide +kernel
theorem dJ1_charAt_3b067_14 : decode cJ1_charAt_3b067 14 = .ok (.ireturn, 1) := by decide +kernel
theorem dJ1_canEncode_9a6ad_0 : decode cJ1_canEncode_9a6ad 0 = .ok (.iload_n 0, 1) := by decide +kernel
theorem dJ1_canEncode_9a6ad_1 : decode cJ1_canEncode_9a6ad 1 = .ok (.ifCond .lt 14, 3) := by decide +kernel
theorem dJ1_canEncode_9a6ad_4 : decode cJ1_canEncode_9a6ad 4 = .ok (.iload_n 0, 1) := by decide +kernel
theorem dJ1_canEncode_9a6ad_5 : decode cJ1_canEncode_9a6ad 5 = .ok (.sipush 255, 3) := by decide +kernel
theorem dJ1_canEncode_9a6ad_8 : decode cJ1_canEncode_9a6ad 8 = .ok (.if_icmp .gt 7, 3) := by decide +kernel
theorem dJ1_canEncode_9a6ad_11 : decode cJ1_canEncode_9a6ad 11 = .ok (.iconst 1, 1) := by decide +kernel
theorem dJ1_canEncode_9a6ad_12 : decode cJ1_canEncode_9a6ad 12 = .ok (.goto 4, 3) := by decide +kernel
theorem dJ1_canEncode_9a6ad_15 : decode cJ1_canEncode_9a6ad 15 = .ok (.iconst 0, 1) := by decide +kernel
theorem dJ1_canEncode_9a6ad_16 : decode cJ1_canEncode_9a6ad 16 = .ok (.ireturn, 1) := by decide +kernel
theorem dJ1_indexOf_4cfef_0 : decode cJ1_indexOf_4cfef 0 = .ok (.iload_n 1, 1) := by decide +kernel
theorem dJ1_indexOf_4cfef_1 : decode cJ1_indexOf_4cfef 1 = .ok (.invokestatic 88, 3) := by decide +kernel
theorem dJ1_indexOf_4cfef_4 : decode cJ1_indexOf_4cfef 4 = .ok (.ifCond .ne 5, 3) := by decide +kernel
theorem dJ1_indexOf_4cfef_7 : decode cJ1_indexOf_4cfef 7 = .ok (.iconst (-1), 1) := by decide +kernel
theorem dJ1_indexOf_4cfef_8 : decode cJ1_indexOf_4cfef 8 = .ok (.ireturn, 1) := by decide +kernel
theorem dJ1_indexOf_4cfef_9 : decode cJ1_indexOf_4cfef 9 = .ok (.iload_n 2, 1) := by decide +kernel
theorem dJ1_indexOf_4cfef_10 : decode cJ1_indexOf_4cfef 10 = .ok (.iconst 0, 1) := by decide +kernel
theorem dJ1_indexOf_4cfef_11 : decode cJ1_indexOf_4cfef 11 = .ok (.invokestatic 92, 3) := by decide +kernel
theorem dJ1_indexOf_4cfef_14 : decode cJ1_indexOf_4cfef 14 = .ok (.istore_n 2, 1) := by decide +kernel
theorem dJ1_indexOf_4cfef_15 : decode cJ1_indexOf_4cfef 15 = .ok (.iload_n 3, 1) := by decide +kernel
theorem dJ1_indexOf_4cfef_16 : decode cJ1_indexOf_4cfef 16 = .ok (.aload_n 0, 1) := by decide +kernel
theorem dJ1_indexOf_4cfef_17 : decode cJ1_indexOf_4cfef 17 = .ok (.arraylength, 1) := by decide +kernel
theorem dJ1_indexOf_4cfef_18 : decode cJ1_indexOf_4cfef 18 = .ok (.invokestatic 38, 3) := by decide +kernel
theorem dJ1_indexOf_4cfef_21 : decode cJ1_indexOf_4cfef 21 = .ok (.istore_n 3, 1) := by decide +kernel
theorem dJ1_indexOf_4cfef_22 : decode cJ1_indexOf_4cfef 22 = .ok (.iload_n 2, 1) := by decide +kernel
theorem dJ1_indexOf_4cfef_23 : decode cJ1_indexOf_4cfef 23 = .ok (.iload_n 3, 1) := by decide +kernel
theorem dJ1_indexOf_4cfef_24 : decode cJ1_indexOf_4cfef 24 = .ok (.if_icmp .lt 5, 3) := by decide +kernel
theorem dJ1_indexOf_4cfef_27 : decode cJ1_indexOf_4cfef 27 = .ok (.iconst (-1), 1) := by decide +kernel
theorem dJ1_indexOf_4cfef_28 : decode cJ1_indexOf_4cfef 28 = .ok (.ireturn, 1) := by decide +kernel
theorem dJ1_indexOf_4cfef_29 : decode cJ1_indexOf_4cfef 29 = .ok (.aload_n 0, 1) := by decide +kernel
theorem dJ1_indexOf_4cfef_30 : decode cJ1_indexOf_4cfef 30 = .ok (.iload_n 1, 1) := by decide +kernel
theorem dJ1_indexOf_4cfef_31 : decode cJ1_indexOf_4cfef 31 = .ok (.iload_n 2, 1) := by decide +kernel
theorem dJ1_indexOf_4cfef_32 : decode cJ1_indexOf_4cfef 32 = .ok (.iload_n 3, 1) := by decide +kernel
theorem dJ1_indexOf_4cfef_33 : decode cJ1_indexOf_4cfef 33 = .ok (.invokestatic 95, 3) := by decide +kernel
theorem dJ1_indexOf_4cfef_36 : decode cJ1_indexOf_4cfef 36 = .ok (.ireturn, 1) := by decide +kernel
theorem dJ1_indexOfChar_4cfef_0 : decode cJ1_indexOfChar_4cfef 0 = .ok (.iload_n 1, 1) := by decide +kernel
theorem dJ1_indexOfChar_4cfef_1 : decode cJ1_indexOfChar_4cfef 1 = .ok (.i2b, 1) := by decide +kernel
theorem dJ1_indexOfChar_4cfef_2 : decode cJ1_indexOfChar_4cfef 2 = .ok (.istore 4, 2) := by decide +kernel
theorem dJ1_indexOfChar_4cfef_4 : decode cJ1_indexOfChar_4cfef 4 = .ok (.iload_n 2, 1) := by decide +kernel
theorem dJ1_indexOfChar_4cfef_5 : decode cJ1_indexOfChar_4cfef 5 = .ok (.istore 5, 2) := by decide +kernel
theorem dJ1_indexOfChar_4cfef_7 : decode cJ1_indexOfChar_4cfef 7 = .ok (.iload 5, 2) := by decide +kernel
theorem dJ1_indexOfChar_4cfef_9 : decode cJ1_indexOfChar_4cfef 9 = .ok (.iload_n 3, 1) := by decide +kernel
theorem dJ1_indexOfChar_4cfef_10 : decode cJ1_indexOfChar_4cfef 10 = .ok (.if_icmp .ge 21, 3) := by decide +kernel
theorem dJ1_indexOfChar_4cfef_13 : decode cJ1_indexOfChar_4cfef 13 = .ok (.aload_n 0, 1) := by decide +kernel
theorem dJ1_indexOfChar_4cfef_14 : decode cJ1_indexOfChar_4cfef 14 = .ok (.iload 5, 2) := by decide +kernel
theorem dJ1_indexOfChar_4cfef_16 : decode cJ1_indexOfChar_4cfef 16 = .ok (.baload, 1) := by decide +kernel
theorem dJ1_indexOfChar_4cfef_17 : decode cJ1_indexOfChar_4cfef 17 = .ok (.iload 4, 2) := by decide +kernel
theorem dJ1_indexOfChar_4cfef_19 : decode cJ1_indexOfChar_4cfef 19 = .ok (.if_icmp .ne 6, 3) := by decide +kernel
theorem dJ1_indexOfChar_4cfef_22 : decode cJ1_indexOfChar_4cfef 22 = .ok (.iload 5, 2) := by decide +kernel
theorem dJ1_indexOfChar_4cfef_24 : decode cJ1_indexOfChar_4cfef 24 = .ok (.ireturn, 1) := by decide +kernel
theorem dJ1_indexOfChar_4cfef_25 : decode cJ1_indexOfChar_4cfef 25 = .ok (.iinc 5 1, 3) := by decide +kernel
theorem dJ1_indexOfChar_4cfef_28 : decode cJ1_indexOfChar_4cfef 28 = .ok (.goto (-21), 3) := by decide +kernel
theorem dJ1_indexOfChar_4cfef_31 : decode cJ1_indexOfChar_4cfef 31 = .ok (.iconst (-1), 1) := by decide +kernel
theorem dJ1_indexOfChar_4cfef_32 : decode cJ1_indexOfChar_4cfef 32 = .ok (.ireturn, 1) := by decide +kernel
theorem dJ7_fill_53178_0 : decode cJ7_fill_53178 0 = .ok (.iconst 0, 1) := by decide +kernel
theorem dJ7_fill_53178_1 : decode cJ7_fill_53178 1 = .ok (.istore_n 2, 1) := by decide +kernel
theorem dJ7_fill_53178_2 : decode cJ7_fill_53178 2 = .ok (.aload_n 0, 1) := by decide +kernel
theorem dJ7_fill_53178_3 : decode cJ7_fill_53178 3 = .ok (.arraylength, 1) := by decide +kernel
theorem dJ7_fill_53178_4 : decode cJ7_fill_53178 4 = .ok (.istore_n 3, 1) := by decide +kernel
theorem dJ7_fill_53178_5 : decode cJ7_fill_53178 5 = .ok (.iload_n 2, 1) := by decide +kernel
theorem dJ7_fill_53178_6 : decode cJ7_fill_53178 6 = .ok (.iload_n 3, 1) := by decide +kernel
theorem dJ7_fill_53178_7 : decode cJ7_fill_53178 7 = .ok (.if_icmp .ge 13, 3) := by decide +kernel
theorem dJ7_fill_53178_10 : decode cJ7_fill_53178 10 = .ok (.aload_n 0, 1) := by decide +kernel
theorem dJ7_fill_53178_11 : decode cJ7_fill_53178 11 = .ok (.iload_n 2, 1) := by decide +kernel
theorem dJ7_fill_53178_12 : decode cJ7_fill_53178 12 = .ok (.iload_n 1, 1) := by decide +kernel
theorem dJ7_fill_53178_13 : decode cJ7_fill_53178 13 = .ok (.iastore, 1) := by decide +kernel
theorem dJ7_fill_53178_14 : decode cJ7_fill_53178 14 = .ok (.iinc 2 1, 3) := by decide +kernel
theorem dJ7_fill_53178_17 : decode cJ7_fill_53178 17 = .ok (.goto (-12), 3) := by decide +kernel
theorem dJ7_fill_53178_20 : decode cJ7_fill_53178 20 = .ok (.return_, 1) := by decide +kernel
theorem dJ7_fill_031fb_0 : decode cJ7_fill_031fb 0 = .ok (.iconst 0, 1) := by decide +kernel
theorem dJ7_fill_031fb_1 : decode cJ7_fill_031fb 1 = .ok (.istore_n 2, 1) := by decide +kernel
theorem dJ7_fill_031fb_2 : decode cJ7_fill_031fb 2 = .ok (.aload_n 0, 1) := by decide +kernel
theorem dJ7_fill_031fb_3 : decode cJ7_fill_031fb 3 = .ok (.arraylength, 1) := by decide +kernel
theorem dJ7_fill_031fb_4 : decode cJ7_fill_031fb 4 = .ok (.istore_n 3, 1) := by decide +kernel
theorem dJ7_fill_031fb_5 : decode cJ7_fill_031fb 5 = .ok (.iload_n 2, 1) := by decide +kernel
theorem dJ7_fill_031fb_6 : decode cJ7_fill_031fb 6 = .ok (.iload_n 3, 1) := by decide +kernel
theorem dJ7_fill_031fb_7 : decode cJ7_fill_031fb 7 = .ok (.if_icmp .ge 13, 3) := by decide +kernel
theorem dJ7_fill_031fb_10 : decode cJ7_fill_031fb 10 = .ok (.aload_n 0, 1) := by decide +kernel
theorem dJ7_fill_031fb_11 : decode cJ7_fill_031fb 11 = .ok (.iload_n 2, 1) := by decide +kernel
theorem dJ7_fill_031fb_12 : decode cJ7_fill_031fb 12 = .ok (.iload_n 1, 1) := by decide +kernel
theorem dJ7_fill_031fb_13 : decode cJ7_fill_031fb 13 = .ok (.bastore, 1) := by decide +kernel
theorem dJ7_fill_031fb_14 : decode cJ7_fill_031fb 14 = .ok (.iinc 2 1, 3) := by decide +kernel
theorem dJ7_fill_031fb_17 : decode cJ7_fill_031fb 17 = .ok (.goto (-12), 3) := by decide +kernel
theorem dJ7_fill_031fb_20 : decode cJ7_fill_031fb 20 = .ok (.return_, 1) := by decide +kernel
theorem dJ3_checkIndex_8e157_0 : decode cJ3_checkIndex_8e157 0 = .ok (.iload_n 0, 1) := by decide +kernel
theorem dJ3_checkIndex_8e157_1 : decode cJ3_checkIndex_8e157 1 = .ok (.ifCond .lt 8, 3) := by decide +kernel
theorem dJ3_checkIndex_8e157_4 : decode cJ3_checkIndex_8e157 4 = .ok (.iload_n 0, 1) := by decide +kernel
theorem dJ3_checkIndex_8e157_5 : decode cJ3_checkIndex_8e157 5 = .ok (.iload_n 1, 1) := by decide +kernel
theorem dJ3_checkIndex_8e157_6 : decode cJ3_checkIndex_8e157 6 = .ok (.if_icmp .lt 10, 3) := by decide +kernel
theorem dJ3_checkIndex_8e157_16 : decode cJ3_checkIndex_8e157 16 = .ok (.iload_n 0, 1) := by decide +kernel
theorem dJ3_checkIndex_8e157_17 : decode cJ3_checkIndex_8e157 17 = .ok (.ireturn, 1) := by decide +kernel
