theorem dX16_two_1 : decode cX16_two 1 = .ok (.bipush 7, 2) := by decide +kernel
theorem dX16_two_3 : decode cX16_two 3 = .ok (.iconst 5, 1) := by decide +kernel
theorem dX16_two_4 : decode cX16_two 4 = .ok (.invokestatic 297, 3) := by decide +kernel
theorem dX16_two_7 : decode cX16_two 7 = .ok (.istore_n 2, 1) := by decide +kernel
theorem dX16_two_8 : decode cX16_two 8 = .ok (.iload_n 0, 1) := by decide +kernel
theorem dX16_two_9 : decode cX16_two 9 = .ok (.iconst 2, 1) := by decide +kernel
theorem dX16_two_10 : decode cX16_two 10 = .ok (.iconst 5, 1) := by decide +kernel
theorem dX16_two_11 : decode cX16_two 11 = .ok (.invokestatic 297, 3) := by decide +kernel
theorem dX16_two_14 : decode cX16_two 14 = .ok (.istore_n 3, 1) := by decide +kernel
theorem dX16_two_15 : decode cX16_two 15 = .ok (.iload_n 0, 1) := by decide +kernel
theorem dX16_two_16 : decode cX16_two 16 = .ok (.bipush 12, 2) := by decide +kernel
theorem dX16_two_18 : decode cX16_two 18 = .ok (.iconst 1, 1) := by decide +kernel
theorem dX16_two_19 : decode cX16_two 19 = .ok (.invokestatic 297, 3) := by decide +kernel
theorem dX16_two_22 : decode cX16_two 22 = .ok (.iconst 1, 1) := by decide +kernel
theorem dX16_two_23 : decode cX16_two 23 = .ok (.if_icmp .ne 7, 3) := by decide +kernel
theorem dX16_two_26 : decode cX16_two 26 = .ok (.iconst 1, 1) := by decide +kernel
theorem dX16_two_27 : decode cX16_two 27 = .ok (.goto 4, 3) := by decide +kernel
theorem dX16_two_30 : decode cX16_two 30 = .ok (.iconst 0, 1) := by decide +kernel
theorem dX16_two_31 : decode cX16_two 31 = .ok (.istore 4, 2) := by decide +kernel
theorem dX16_two_33 : decode cX16_two 33 = .ok (.iload_n 0, 1) := by decide +kernel
theorem dX16_two_34 : decode cX16_two 34 = .ok (.bipush 12, 2) := by decide +kernel
theorem dX16_two_36 : decode cX16_two 36 = .ok (.iconst 1, 1) := by decide +kernel
theorem dX16_two_37 : decode cX16_two 37 = .ok (.iconst 5, 1) := by decide +kernel
theorem dX16_two_38 : decode cX16_two 38 = .ok (.invokestatic 300, 3) := by decide +kernel
theorem dX16_two_41 : decode cX16_two 41 = .ok (.iload_n 0, 1) := by decide +kernel
theorem dX16_two_42 : decode cX16_two 42 = .ok (.iconst 4, 1) := by decide +kernel
theorem dX16_two_43 : decode cX16_two 43 = .ok (.iconst 3, 1) := by decide +kernel
theorem dX16_two_44 : decode cX16_two 44 = .ok (.iconst 2, 1) := by decide +kernel
theorem dX16_two_45 : decode cX16_two 45 = .ok (.invokestatic 300, 3) := by decide +kernel
theorem dX16_two_48 : decode cX16_two 48 = .ok (.ior, 1) := by decide +kernel
theorem dX16_two_49 : decode cX16_two 49 = .ok (.iload_n 0, 1) := by decide +kernel
theorem dX16_two_50 : decode cX16_two 50 = .ok (.iconst 2, 1) := by decide +kernel
theorem dX16_two_51 : decode cX16_two 51 = .ok (.iconst 2, 1) := by decide +kernel
theorem dX16_two_52 : decode cX16_two 52 = .ok (.bipush 6, 2) := by decide +kernel
theorem dX16_two_54 : decode cX16_two 54 = .ok (.invokestatic 300, 3) := by decide +kernel
theorem dX16_two_57 : decode cX16_two 57 = .ok (.ior, 1) := by decide +kernel
theorem dX16_two_58 : decode cX16_two 58 = .ok (.istore 5, 2) := by decide +kernel
theorem dX16_two_60 : decode cX16_two 60 = .ok (.iload_n 0, 1) := by decide +kernel
theorem dX16_two_61 : decode cX16_two 61 = .ok (.bipush 9, 2) := by decide +kernel
theorem dX16_two_63 : decode cX16_two 63 = .ok (.iconst 4, 1) := by decide +kernel
theorem dX16_two_64 : decode cX16_two 64 = .ok (.iconst 2, 1) := by decide +kernel
theorem dX16_two_65 : decode cX16_two 65 = .ok (.invokestatic 300, 3) := by decide +kernel
theorem dX16_two_68 : decode cX16_two 68 = .ok (.iload_n 0, 1) := by decide +kernel
theorem dX16_two_69 : decode cX16_two 69 = .ok (.bipush 7, 2) := by decide +kernel
theorem dX16_two_71 : decode cX16_two 71 = .ok (.iconst 2, 1) := by decide +kernel
theorem dX16_two_72 : decode cX16_two 72 = .ok (.bipush 6, 2) := by decide +kernel
theorem dX16_two_74 : decode cX16_two 74 = .ok (.invokestatic 300, 3) := by decide +kernel
theorem dX16_two_77 : decode cX16_two 77 = .ok (.ior, 1) := by decide +kernel
theorem dX16_two_78 : decode cX16_two 78 = .ok (.istore 6, 2) := by decide +kernel
theorem dX16_two_80 : decode cX16_two 80 = .ok (.iload_n 1, 1) := by decide +kernel
theorem dX16_two_81 : decode cX16_two 81 = .ok (.ifCond .ne 22, 3) := by decide +kernel
theorem dX16_two_84 : decode cX16_two 84 = .ok (.iload 4, 2) := by decide +kernel
theorem dX16_two_86 : decode cX16_two 86 = .ok (.ifCond .eq 7, 3) := by decide +kernel
theorem dX16_two_89 : decode cX16_two 89 = .ok (.iconst 0, 1) := by decide +kernel
theorem dX16_two_90 : decode cX16_two 90 = .ok (.goto 12, 3) := by decide +kernel
theorem dX16_two_93 : decode cX16_two 93 = .ok (.bipush 19, 2) := by decide +kernel
theorem dX16_two_95 : decode cX16_two 95 = .ok (.iconst 1, 1) := by decide +kernel
theorem dX16_two_96 : decode cX16_two 96 = .ok (.iload_n 2, 1) := by decide +kernel
theorem dX16_two_97 : decode cX16_two 97 = .ok (.iload_n 2, 1) := by decide +kernel
theorem dX16_two_98 : decode cX16_two 98 = .ok (.iload_n 3, 1) := by decide +kernel
theorem dX16_two_99 : decode cX16_two 99 = .ok (.invokestatic 313, 3) := by decide +kernel
theorem dX16_two_102 : decode cX16_two 102 = .ok (.ireturn, 1) := by decide +kernel
theorem dX16_two_103 : decode cX16_two 103 = .ok (.iload_n 1, 1) := by decide +kernel
theorem dX16_two_104 : decode cX16_two 104 = .ok (.iconst 2, 1) := by decide +kernel
theorem dX16_two_105 : decode cX16_two 105 = .ok (.if_icmp .ne 21, 3) := by decide +kernel
theorem dX16_two_108 : decode cX16_two 108 = .ok (.iload_n 2, 1) := by decide +kernel
theorem dX16_two_109 : decode cX16_two 109 = .ok (.ifCond .ne 7, 3) := by decide +kernel
theorem dX16_two_112 : decode cX16_two 112 = .ok (.iconst 0, 1) := by decide +kernel
theorem dX16_two_113 : decode cX16_two 113 = .ok (.goto 12, 3) := by decide +kernel
theorem dX16_two_116 : decode cX16_two 116 = .ok (.iconst 3, 1) := by decide +kernel
theorem dX16_two_117 : decode cX16_two 117 = .ok (.iconst 2, 1) := by decide +kernel
theorem dX16_two_118 : decode cX16_two 118 = .ok (.iload_n 2, 1) := by decide +kernel
theorem dX16_two_119 : decode cX16_two 119 = .ok (.iconst 2, 1) := by decide +kernel
theorem dX16_two_120 : decode cX16_two 120 = .ok (.iload 5, 2) := by decide +kernel
theorem dX16_two_122 : decode cX16_two 122 = .ok (.invokestatic 313, 3) := by decide +kernel
theorem dX16_two_125 : decode cX16_two 125 = .ok (.ireturn, 1) := by decide +kernel
theorem dX16_two_126 : decode cX16_two 126 = .ok (.iload_n 1, 1) := by decide +kernel
theorem dX16_two_127 : decode cX16_two 127 = .ok (.bipush 6, 2) := by decide +kernel
theorem dX16_two_129 : decode cX16_two 129 = .ok (.if_icmp .ne 11, 3) := by decide +kernel
theorem dX16_two_132 : decode cX16_two 132 = .ok (.iconst 2, 1) := by decide +kernel
theorem dX16_two_133 : decode cX16_two 133 = .ok (.iload_n 3, 1) := by decide +kernel
theorem dX16_two_134 : decode cX16_two 134 = .ok (.iload 6, 2) := by decide +kernel
theorem dX16_two_136 : decode cX16_two 136 = .ok (.invokestatic 317, 3) := by decide +kernel
theorem dX16_two_139 : decode cX16_two 139 = .ok (.ireturn, 1) := by decide +kernel
theorem dX16_two_140 : decode cX16_two 140 = .ok (.iload_n 1, 1) := by decide +kernel
theorem dX16_two_141 : decode cX16_two 141 = .ok (.iconst 4, 1) := by decide +kernel
theorem dX16_two_142 : decode cX16_two 142 = .ok (.if_icmp .eq 5, 3) := by decide +kernel
theorem dX16_two_145 : decode cX16_two 145 = .ok (.iconst 0, 1) := by decide +kernel
theorem dX16_two_146 : decode cX16_two 146 = .ok (.ireturn, 1) := by decide +kernel
theorem dX16_two_147 : decode cX16_two 147 = .ok (.iload_n 3, 1) := by decide +kernel
theorem dX16_two_148 : decode cX16_two 148 = .ok (.ifCond .le 21, 3) := by decide +kernel
theorem dX16_two_151 : decode cX16_two 151 = .ok (.iconst 0, 1) := by decide +kernel
theorem dX16_two_152 : decode cX16_two 152 = .ok (.iconst 0, 1) := by decide +kernel
theorem dX16_two_153 : decode cX16_two 153 = .ok (.iload_n 2, 1) := by decide +kernel
theorem dX16_two_154 : decode cX16_two 154 = .ok (.iload 4, 2) := by decide +kernel
theorem dX16_two_156 : decode cX16_two 156 = .ok (.ifCond .eq 7, 3) := by decide +kernel
theorem dX16_two_159 : decode cX16_two 159 = .ok (.iload_n 2, 1) := by decide +kernel
theorem dX16_two_160 : decode cX16_two 160 = .ok (.goto 4, 3) := by decide +kernel
theorem dX16_two_163 : decode cX16_two 163 = .ok (.iconst 0, 1) := by decide +kernel
theorem dX16_two_164 : decode cX16_two 164 = .ok (.iload_n 3, 1) := by decide +kernel
theorem dX16_two_165 : decode cX16_two 165 = .ok (.invokestatic 332, 3) := by decide +kernel
theorem dX16_two_168 : decode cX16_two 168 = .ok (.ireturn, 1) := by decide +kernel
theorem dX16_two_169 : decode cX16_two 169 = .ok (.iload_n 2, 1) := by decide +kernel
theorem dX16_two_170 : decode cX16_two 170 = .ok (.ifCond .ne 16, 3) := by decide +kernel
theorem dX16_two_173 : decode cX16_two 173 = .ok (.iload 4, 2) := by decide +kernel
theorem dX16_two_175 : decode cX16_two 175 = .ok (.ifCond .eq 9, 3) := by decide +kernel
theorem dX16_two_178 : decode cX16_two 178 = .ok (.ldc_w 335, 3) := by decide +kernel
theorem dX16_two_181 : decode cX16_two 181 = .ok (.goto 4, 3) := by decide +kernel
theorem dX16_two_184 : decode cX16_two 184 = .ok (.iconst 0, 1) := by decide +kernel
theorem dX16_two_185 : decode cX16_two 185 = .ok (.ireturn, 1) := by decide +kernel
theorem dX16_two_186 : decode cX16_two 186 = .ok (.bipush 103, 2) := by decide +kernel
theorem dX16_two_188 : decode cX16_two 188 = .ok (.iconst 0, 1) := by decide +kernel
theorem dX16_two_189 : decode cX16_two 189 = .ok (.iload 4, 2) := by decide +kernel
theorem dX16_two_191 : decode cX16_two 191 = .ok (.ifCond .eq 7, 3) := by decide +kernel
theorem dX16_two_194 : decode cX16_two 194 = .ok (.iconst 1, 1) := by decide +kernel
theorem dX16_two_195 : decode cX16_two 195 = .ok (.goto 4, 3) := by decide +kernel
theorem dX16_two_198 : decode cX16_two 198 = .ok (.iconst 0, 1) := by decide +kernel
theorem dX16_two_199 : decode cX16_two 199 = .ok (.iload_n 2, 1) := by decide +kernel
theorem dX16_two_200 : decode cX16_two 200 = .ok (.iconst 0, 1) := by decide +kernel
theorem dX16_two_201 : decode cX16_two 201 = .ok (.invokestatic 313, 3) := by decide +kernel
theorem dX16_two_204 : decode cX16_two 204 = .ok (.ireturn, 1) := by decide +kernel
theorem dX16_reckoned_0 : decode cX16_reckoned 0 = .ok (.iload_n 0, 1) := by decide +kernel
theorem dX16_reckoned_1 : decode cX16_reckoned 1 = .ok (.tableswitch 84 0 6 #[43, 84, 47, 58, 76, 84, 80], 43) := by decide +kernel
theorem dX16_reckoned_44 : decode cX16_reckoned 44 = .ok (.iload_n 1, 1) := by decide +kernel
theorem dX16_reckoned_45 : decode cX16_reckoned 45 = .ok (.iload_n 2, 1) := by decide +kernel
theorem dX16_reckoned_46 : decode cX16_reckoned 46 = .ok (.iadd, 1) := by decide +kernel
theorem dX16_reckoned_47 : decode cX16_reckoned 47 = .ok (.ireturn, 1) := by decide +kernel
theorem dX16_reckoned_48 : decode cX16_reckoned 48 = .ok (.iload_n 1, 1) := by decide +kernel
theorem dX16_reckoned_49 : decode cX16_reckoned 49 = .ok (.iload_n 2, 1) := by decide +kernel
theorem dX16_reckoned_50 : decode cX16_reckoned 50 = .ok (.if_icmp .ge 7, 3) := by decide +kernel
theorem dX16_reckoned_53 : decode cX16_reckoned 53 = .ok (.iconst 1, 1) := by decide +kernel
theorem dX16_reckoned_54 : decode cX16_reckoned 54 = .ok (.goto 4, 3) := by decide +kernel
theorem dX16_reckoned_57 : decode cX16_reckoned 57 = .ok (.iconst 0, 1) := by decide +kernel
theorem dX16_reckoned_58 : decode cX16_reckoned 58 = .ok (.ireturn, 1) := by decide +kernel
theorem dX16_reckoned_59 : decode cX16_reckoned 59 = .ok (.iload_n 1, 1) := by decide +kernel
theorem dX16_reckoned_60 : decode cX16_reckoned 60 = .ok (.invokestatic 390, 3) := by decide +kernel
theorem dX16_reckoned_63 : decode cX16_reckoned 63 = .ok (.iload_n 2, 1) := by decide +kernel
theorem dX16_reckoned_64 : decode cX16_reckoned 64 = .ok (.invokestatic 390, 3) := by decide +kernel
theorem dX16_reckoned_67 : decode cX16_reckoned 67 = .ok (.lcmp, 1) := by decide +kernel
theorem dX16_reckoned_68 : decode cX16_reckoned 68 = .ok (.ifCond .ge 7, 3) := by decide +kernel
theorem dX16_reckoned_71 : decode cX16_reckoned 71 = .ok (.iconst 1, 1) := by decide +kernel
theorem dX16_reckoned_72 : decode cX16_reckoned 72 = .ok (.goto 4, 3) := by decide +kernel
theorem dX16_reckoned_75 : decode cX16_reckoned 75 = .ok (.iconst 0, 1) := by decide +kernel
theorem dX16_reckoned_76 : decode cX16_reckoned 76 = .ok (.ireturn, 1) := by decide +kernel
theorem dX16_reckoned_77 : decode cX16_reckoned 77 = .ok (.iload_n 1, 1) := by decide +kernel
theorem dX16_reckoned_78 : decode cX16_reckoned 78 = .ok (.iload_n 2, 1) := by decide +kernel
theorem dX16_reckoned_79 : decode cX16_reckoned 79 = .ok (.ixor, 1) := by decide +kernel
theorem dX16_reckoned_80 : decode cX16_reckoned 80 = .ok (.ireturn, 1) := by decide +kernel
theorem dX16_reckoned_81 : decode cX16_reckoned 81 = .ok (.iload_n 1, 1) := by decide +kernel
theorem dX16_reckoned_82 : decode cX16_reckoned 82 = .ok (.iload_n 2, 1) := by decide +kernel
theorem dX16_reckoned_83 : decode cX16_reckoned 83 = .ok (.ior, 1) := by decide +kernel
theorem dX16_reckoned_84 : decode cX16_reckoned 84 = .ok (.ireturn, 1) := by decide +kernel
theorem dX16_reckoned_85 : decode cX16_reckoned 85 = .ok (.iload_n 1, 1) := by decide +kernel
theorem dX16_reckoned_86 : decode cX16_reckoned 86 = .ok (.iload_n 2, 1) := by decide +kernel
theorem dX16_reckoned_87 : decode cX16_reckoned 87 = .ok (.iand, 1) := by decide +kernel
theorem dX16_reckoned_88 : decode cX16_reckoned 88 = .ok (.ireturn, 1) := by decide +kernel
theorem dX19_thrown_0 : decode cX19_thrown 0 = .ok (.aload_n 0, 1) := by decide +kernel
theorem dX19_thrown_1 : decode cX19_thrown 1 = .ok (.getfield 113, 3) := by decide +kernel
theorem dX19_thrown_4 : decode cX19_thrown 4 = .ok (.ireturn, 1) := by decide +kernel
theorem dX19_in_0 : decode cX19_in 0 = .ok (.lload_n 0, 1) := by decide +kernel
theorem dX19_in_1 : decode cX19_in 1 = .ok (.lload_n 2, 1) := by decide +kernel
theorem dX19_in_2 : decode cX19_in 2 = .ok (.lcmp, 1) := by decide +kernel
theorem dX19_in_3 : decode cX19_in 3 = .ok (.ifCond .lt 14, 3) := by decide +kernel
theorem dX19_in_6 : decode cX19_in 6 = .ok (.lload_n 0, 1) := by decide +kernel
theorem dX19_in_7 : decode cX19_in 7 = .ok (.lload 4, 2) := by decide +kernel
theorem dX19_in_9 : decode cX19_in 9 = .ok (.lcmp, 1) := by decide +kernel
theorem dX19_in_10 : decode cX19_in 10 = .ok (.ifCond .gt 7, 3) := by decide +kernel
theorem dX19_in_13 : decode cX19_in 13 = .ok (.iconst 1, 1) := by decide +kernel
theorem dX19_in_14 : decode cX19_in 14 = .ok (.goto 4, 3) := by decide +kernel
theorem dX19_in_17 : decode cX19_in 17 = .ok (.iconst 0, 1) := by decide +kernel
theorem dX19_in_18 : decode cX19_in 18 = .ok (.ireturn, 1) := by decide +kernel
theorem dX19_end_0 : decode cX19_end 0 = .ok (.aload_n 0, 1) := by decide +kernel
theorem dX19_end_1 : decode cX19_end 1 = .ok (.iconst 0, 1) := by decide +kernel
theorem dX19_end_2 : decode cX19_end 2 = .ok (.putfield 113, 3) := by decide +kernel
theorem dX19_end_5 : decode cX19_end 5 = .ok (.aload_n 0, 1) := by decide +kernel
theorem dX19_end_6 : decode cX19_end 6 = .ok (.getfield 120, 3) := by decide +kernel
theorem dX19_end_9 : decode cX19_end 9 = .ok (.ifCond .eq 15, 3) := by decide +kernel
theorem dX19_end_12 : decode cX19_end 12 = .ok (.iload_n 1, 1) := by decide +kernel
theorem dX19_end_13 : decode cX19_end 13 = .ok (.i2l, 1) := by decide +kernel
theorem dX19_end_14 : decode cX19_end 14 = .ok (.lconst 0, 1) := by decide +kernel
theorem dX19_end_15 : decode cX19_end 15 = .ok (.ldc2_w 124, 3) := by decide +kernel
theorem dX19_end_18 : decode cX19_end 18 = .ok (.invokestatic 126, 3) := by decide +kernel
theorem dX19_end_21 : decode cX19_end 21 = .ok (.ifCond .ne 5, 3) := by decide +kernel
theorem dX19_end_24 : decode cX19_end 24 = .ok (.iconst (-1), 1) := by decide +kernel
theorem dX19_end_25 : decode cX19_end 25 = .ok (.ireturn, 1) := by decide +kernel
theorem dX19_end_26 : decode cX19_end 26 = .ok (.aload_n 0, 1) := by decide +kernel
theorem dX19_end_27 : decode cX19_end 27 = .ok (.dup, 1) := by decide +kernel
theorem dX19_end_28 : decode cX19_end 28 = .ok (.getfield 117, 3) := by decide +kernel
theorem dX19_end_31 : decode cX19_end 31 = .ok (.bipush 20, 2) := by decide +kernel
theorem dX19_end_33 : decode cX19_end 33 = .ok (.iload_n 1, 1) := by decide +kernel
theorem dX19_end_34 : decode cX19_end 34 = .ok (.isub, 1) := by decide +kernel
theorem dX19_end_35 : decode cX19_end 35 = .ok (.isub, 1) := by decide +kernel
theorem dX19_end_36 : decode cX19_end 36 = .ok (.putfield 117, 3) := by decide +kernel
theorem dX19_end_39 : decode cX19_end 39 = .ok (.aload_n 0, 1) := by decide +kernel
theorem dX19_end_40 : decode cX19_end 40 = .ok (.iconst 0, 1) := by decide +kernel
theorem dX19_end_41 : decode cX19_end 41 = .ok (.putfield 120, 3) := by decide +kernel
theorem dX19_end_44 : decode cX19_end 44 = .ok (.aload_n 0, 1) := by decide +kernel
theorem dX19_end_45 : decode cX19_end 45 = .ok (.getfield 117, 3) := by decide +kernel
theorem dX19_end_48 : decode cX19_end 48 = .ok (.ireturn, 1) := by decide +kernel
theorem dX19_isSaid_0 : decode cX19_isSaid 0 = .ok (.iload_n 0, 1) := by decide +kernel
theorem dX19_isSaid_1 : decode cX19_isSaid 1 = .ok (.ifCond .ne 14, 3) := by decide +kernel
theorem dX19_isSaid_4 : decode cX19_isSaid 4 = .ok (.lload_n 1, 1) := by decide +kernel
theorem dX19_isSaid_5 : decode cX19_isSaid 5 = .ok (.lconst 0, 1) := by decide +kernel
theorem dX19_isSaid_6 : decode cX19_isSaid 6 = .ok (.ldc2_w 255, 3) := by decide +kernel
theorem dX19_isSaid_9 : decode cX19_isSaid 9 = .ok (.invokestatic 126, 3) := by decide +kernel
theorem dX19_isSaid_12 : decode cX19_isSaid 12 = .ok (.goto 82, 3) := by decide +kernel
theorem dX19_isSaid_15 : decode cX19_isSaid 15 = .ok (.iload_n 0, 1) := by decide +kernel
theorem dX19_isSaid_16 : decode cX19_isSaid 16 = .ok (.iconst 1, 1) := by decide +kernel
theorem dX19_isSaid_17 : decode cX19_isSaid 17 = .ok (.if_icmp .ne 15, 3) := by decide +kernel
theorem dX19_isSaid_20 : decode cX19_isSaid 20 = .ok (.iload_n 3, 1) := by decide +kernel
theorem dX19_isSaid_21 : decode cX19_isSaid 21 = .ok (.i2l, 1) := by decide +kernel
theorem dX19_isSaid_22 : decode cX19_isSaid 22 = .ok (.lconst 1, 1) := by decide +kernel
theorem dX19_isSaid_23 : decode cX19_isSaid 23 = .ok (.ldc2_w 257, 3) := by decide +kernel
theorem dX19_isSaid_26 : decode cX19_isSaid 26 = .ok (.invokestatic 126, 3) := by decide +kernel
theorem dX19_isSaid_29 : decode cX19_isSaid 29 = .ok (.goto 65, 3) := by decide +kernel
theorem dX19_isSaid_32 : decode cX19_isSaid 32 = .ok (.iload_n 0, 1) := by decide +kernel
theorem dX19_isSaid_33 : decode cX19_isSaid 33 = .ok (.iconst 2, 1) := by decide +kernel
theorem dX19_isSaid_34 : decode cX19_isSaid 34 = .ok (.if_icmp .ne 34, 3) := by decide +kernel
theorem dX19_isSaid_37 : decode cX19_isSaid 37 = .ok (.lload_n 1, 1) := by decide +kernel
theorem dX19_isSaid_38 : decode cX19_isSaid 38 = .ok (.lconst 0, 1) := by decide +kernel
theorem dX19_isSaid_39 : decode cX19_isSaid 39 = .ok (.ldc2_w 255, 3) := by decide +kernel
theorem dX19_isSaid_42 : decode cX19_isSaid 42 = .ok (.invokestatic 126, 3) := by decide +kernel
theorem dX19_isSaid_45 : decode cX19_isSaid 45 = .ok (.ifCond .eq 19, 3) := by decide +kernel
theorem dX19_isSaid_48 : decode cX19_isSaid 48 = .ok (.iload_n 3, 1) := by decide +kernel
theorem dX19_isSaid_49 : decode cX19_isSaid 49 = .ok (.i2l, 1) := by decide +kernel
theorem dX19_isSaid_50 : decode cX19_isSaid 50 = .ok (.lconst 1, 1) := by decide +kernel
theorem dX19_isSaid_51 : decode cX19_isSaid 51 = .ok (.ldc2_w 259, 3) := by decide +kernel
theorem dX19_isSaid_54 : decode cX19_isSaid 54 = .ok (.invokestatic 126, 3) := by decide +kernel
theorem dX19_isSaid_57 : decode cX19_isSaid 57 = .ok (.ifCond .eq 7, 3) := by decide +kernel
theorem dX19_isSaid_60 : decode cX19_isSaid 60 = .ok (.iconst 1, 1) := by decide +kernel
theorem dX19_isSaid_61 : decode cX19_isSaid 61 = .ok (.goto 33, 3) := by decide +kernel
theorem dX19_isSaid_64 : decode cX19_isSaid 64 = .ok (.iconst 0, 1) := by decide +kernel
theorem dX19_isSaid_65 : decode cX19_isSaid 65 = .ok (.goto 29, 3) := by decide +kernel
theorem dX19_isSaid_68 : decode cX19_isSaid 68 = .ok (.iload_n 0, 1) := by decide +kernel
theorem dX19_isSaid_69 : decode cX19_isSaid 69 = .ok (.iconst 3, 1) := by decide +kernel
theorem dX19_isSaid_70 : decode cX19_isSaid 70 = .ok (.if_icmp .ne 14, 3) := by decide +kernel
theorem dX19_isSaid_73 : decode cX19_isSaid 73 = .ok (.lload_n 1, 1) := by decide +kernel
theorem dX19_isSaid_74 : decode cX19_isSaid 74 = .ok (.lconst 0, 1) := by decide +kernel
theorem dX19_isSaid_75 : decode cX19_isSaid 75 = .ok (.ldc2_w 261, 3) := by decide +kernel
theorem dX19_isSaid_78 : decode cX19_isSaid 78 = .ok (.invokestatic 126, 3) := by decide +kernel
theorem dX19_isSaid_81 : decode cX19_isSaid 81 = .ok (.goto 13, 3) := by decide +kernel
theorem dX19_isSaid_84 : decode cX19_isSaid 84 = .ok (.iload_n 0, 1) := by decide +kernel
theorem dX19_isSaid_85 : decode cX19_isSaid 85 = .ok (.iconst 4, 1) := by decide +kernel
theorem dX19_isSaid_86 : decode cX19_isSaid 86 = .ok (.if_icmp .ne 7, 3) := by decide +kernel
theorem dX19_isSaid_89 : decode cX19_isSaid 89 = .ok (.iconst 1, 1) := by decide +kernel
theorem dX19_isSaid_90 : decode cX19_isSaid 90 = .ok (.goto 4, 3) := by decide +kernel
theorem dX19_isSaid_93 : decode cX19_isSaid 93 = .ok (.iconst 0, 1) := by decide +kernel
theorem dX19_isSaid_94 : decode cX19_isSaid 94 = .ok (.ireturn, 1) := by decide +kernel
theorem dX19_low_0 : decode cX19_low 0 = .ok (.iload_n 2, 1) := by decide +kernel
theorem dX19_low_1 : decode cX19_low 1 = .ok (.bipush 7, 2) := by decide +kernel
theorem dX19_low_3 : decode cX19_low 3 = .ok (.if_icmp .le 7, 3) := by decide +kernel
theorem dX19_low_6 : decode cX19_low 6 = .ok (.lload_n 0, 1) := by decide +kernel
theorem dX19_low_7 : decode cX19_low 7 = .ok (.goto 13, 3) := by decide +kernel
theorem dX19_low_10 : decode cX19_low 10 = .ok (.lload_n 0, 1) := by decide +kernel
theorem dX19_low_11 : decode cX19_low 11 = .ok (.lconst 1, 1) := by decide +kernel
theorem dX19_low_12 : decode cX19_low 12 = .ok (.bipush 8, 2) := by decide +kernel
theorem dX19_low_14 : decode cX19_low 14 = .ok (.iload_n 2, 1) := by decide +kernel
theorem dX19_low_15 : decode cX19_low 15 = .ok (.imul, 1) := by decide +kernel
theorem dX19_low_16 : decode cX19_low 16 = .ok (.lshl, 1) := by decide +kernel
theorem dX19_low_17 : decode cX19_low 17 = .ok (.lconst 1, 1) := by decide +kernel
theorem dX19_low_18 : decode cX19_low 18 = .ok (.lsub, 1) := by decide +kernel
theorem dX19_low_19 : decode cX19_low 19 = .ok (.land, 1) := by decide +kernel
theorem dX19_low_20 : decode cX19_low 20 = .ok (.lreturn, 1) := by decide +kernel
theorem dX19_reason_0 : decode cX19_reason 0 = .ok (.aload_n 0, 1) := by decide +kernel
theorem dX19_reason_1 : decode cX19_reason 1 = .ok (.iconst 0, 1) := by decide +kernel
theorem dX19_reason_2 : decode cX19_reason 2 = .ok (.putfield 113, 3) := by decide +kernel
theorem dX19_reason_5 : decode cX19_reason 5 = .ok (.aload_n 0, 1) := by decide +kernel
theorem dX19_reason_6 : decode cX19_reason 6 = .ok (.getfield 285, 3) := by decide +kernel
theorem dX19_reason_9 : decode cX19_reason 9 = .ok (.ireturn, 1) := by decide +kernel
theorem dJ5_init_d00df_0 : decode cJ5_init_d00df 0 = .ok (.aload_n 0, 1) := by decide +kernel
theorem dJ5_init_d00df_1 : decode cJ5_init_d00df 1 = .ok (.invokespecial 3, 3) := by decide +kernel
theorem dJ5_init_d00df_4 : decode cJ5_init_d00df 4 = .ok (.getstatic 18, 3) := by decide +kernel
theorem dJ5_init_d00df_7 : decode cJ5_init_d00df 7 = .ok (.ifCond .eq 18, 3) := by decide +kernel
theorem dJ5_init_d00df_10 : decode cJ5_init_d00df 10 = .ok (.aload_n 0, 1) := by decide +kernel
theorem dJ5_init_d00df_11 : decode cJ5_init_d00df 11 = .ok (.iload_n 1, 1) := by decide +kernel
theorem dJ5_init_d00df_12 : decode cJ5_init_d00df 12 = .ok (.newarray .byte, 2) := by decide +kernel
theorem dJ5_init_d00df_14 : decode cJ5_init_d00df 14 = .ok (.putfield 15, 3) := by decide +kernel
theorem dJ5_init_d00df_17 : decode cJ5_init_d00df 17 = .ok (.aload_n 0, 1) := by decide +kernel
theorem dJ5_init_d00df_18 : decode cJ5_init_d00df 18 = .ok (.iconst 0, 1) := by decide +kernel
theorem dJ5_init_d00df_19 : decode cJ5_init_d00df 19 = .ok (.putfield 22, 3) := by decide +kernel
theorem dJ5_init_d00df_22 : decode cJ5_init_d00df 22 = .ok (.goto 16, 3) := by decide +kernel
theorem dJ5_init_d00df_38 : decode cJ5_init_d00df 38 = .ok (.return_, 1) := by decide +kernel
theorem dJ6_compare_7cf53_0 : decode cJ6_compare_7cf53 0 = .ok (.iload_n 0, 1) := by decide +kernel
theorem dJ6_compare_7cf53_1 : decode cJ6_compare_7cf53 1 = .ok (.iload_n 1, 1) := by decide +kernel
theorem dJ6_compare_7cf53_2 : decode cJ6_compare_7cf53 2 = .ok (.if_icmp .ge 7, 3) := by decide +kernel
theorem dJ6_compare_7cf53_5 : decode cJ6_compare_7cf53 5 = .ok (.iconst (-1), 1) := by decide +kernel
theorem dJ6_compare_7cf53_6 : decode cJ6_compare_7cf53 6 = .ok (.goto 13, 3) := by decide +kernel
theorem dJ6_compare_7cf53_9 : decode cJ6_compare_7cf53 9 = .ok (.iload_n 0, 1) := by decide +kernel
theorem dJ6_compare_7cf53_10 : decode cJ6_compare_7cf53 10 = .ok (.iload_n 1, 1) := by decide +kernel
theorem dJ6_compare_7cf53_11 : decode cJ6_compare_7cf53 11 = .ok (.if_icmp .ne 7, 3) := by decide +kernel
theorem dJ6_compare_7cf53_14 : decode cJ6_compare_7cf53 14 = .ok (.iconst 0, 1) := by decide +kernel
theorem dJ6_compare_7cf53_15 : decode cJ6_compare_7cf53 15 = .ok (.goto 4, 3) := by decide +kernel
theorem dJ6_compare_7cf53_18 : decode cJ6_compare_7cf53 18 = .ok (.iconst 1, 1) := by decide +kernel
theorem dJ6_compare_7cf53_19 : decode cJ6_compare_7cf53 19 = .ok (.ireturn, 1) := by decide +kernel
theorem dJ6_compareUnsigned_7cf53_0 : decode cJ6_compareUnsigned_7cf53 0 = .ok (.iload_n 0, 1) := by decide +kernel
theorem dJ6_compareUnsigned_7cf53_1 : decode cJ6_compareUnsigned_7cf53 1 = .ok (.ldc 127, 2) := by decide +kernel
theorem dJ6_compareUnsigned_7cf53_3 : decode cJ6_compareUnsigned_7cf53 3 = .ok (.iadd, 1) := by decide +kernel
theorem dJ6_compareUnsigned_7cf53_4 : decode cJ6_compareUnsigned_7cf53 4 = .ok (.iload_n 1, 1) := by decide +kernel
theorem dJ6_compareUnsigned_7cf53_5 : decode cJ6_compareUnsigned_7cf53 5 = .ok (.ldc 127, 2) := by decide +kernel
theorem dJ6_compareUnsigned_7cf53_7 : decode cJ6_compareUnsigned_7cf53 7 = .ok (.iadd, 1) := by decide +kernel
theorem dJ6_compareUnsigned_7cf53_8 : decode cJ6_compareUnsigned_7cf53 8 = .ok (.invokestatic 259, 3) := by decide +kernel
theorem dJ6_compareUnsigned_7cf53_11 : decode cJ6_compareUnsigned_7cf53 11 = .ok (.ireturn, 1) := by decide +kernel
theorem dJ4_init_da8c8_0 : decode cJ4_init_da8c8 0 = .ok (.aload_n 0, 1) := by decide +kernel
theorem dJ4_init_da8c8_1 : decode cJ4_init_da8c8 1 = .ok (.bipush 16, 2) := by decide +kernel
theorem dJ4_init_da8c8_3 : decode cJ4_init_da8c8 3 = .ok (.invokespecial 1, 3) := by decide +kernel
theorem dJ4_init_da8c8_6 : decode cJ4_init_da8c8 6 = .ok (.return_, 1) := by decide +kernel
