theorem dX13_target_128 : decode cX13_target 128 = .ok (.isub, 1) := by decide +kernel
theorem dX13_target_129 : decode cX13_target 129 = .ok (.iload 6, 2) := by decide +kernel
theorem dX13_target_131 : decode cX13_target 131 = .ok (.iconst 2, 1) := by decide +kernel
theorem dX13_target_132 : decode cX13_target 132 = .ok (.invokevirtual 528, 3) := by decide +kernel
theorem dX13_target_135 : decode cX13_target 135 = .ok (.aload_n 0, 1) := by decide +kernel
theorem dX13_target_136 : decode cX13_target 136 = .ok (.aload_n 0, 1) := by decide +kernel
theorem dX13_target_137 : decode cX13_target 137 = .ok (.getfield 522, 3) := by decide +kernel
theorem dX13_target_140 : decode cX13_target 140 = .ok (.iconst 1, 1) := by decide +kernel
theorem dX13_target_141 : decode cX13_target 141 = .ok (.if_icmp .ne 60, 3) := by decide +kernel
theorem dX13_target_144 : decode cX13_target 144 = .ok (.aload_n 0, 1) := by decide +kernel
theorem dX13_target_145 : decode cX13_target 145 = .ok (.getfield 457, 3) := by decide +kernel
theorem dX13_target_148 : decode cX13_target 148 = .ok (.ifCond .ne 53, 3) := by decide +kernel
theorem dX13_target_151 : decode cX13_target 151 = .ok (.aload_n 0, 1) := by decide +kernel
theorem dX13_target_152 : decode cX13_target 152 = .ok (.getfield 470, 3) := by decide +kernel
theorem dX13_target_155 : decode cX13_target 155 = .ok (.ifCond .ne 46, 3) := by decide +kernel
theorem dX13_target_158 : decode cX13_target 158 = .ok (.iload 4, 2) := by decide +kernel
theorem dX13_target_160 : decode cX13_target 160 = .ok (.iload_n 1, 1) := by decide +kernel
theorem dX13_target_161 : decode cX13_target 161 = .ok (.iconst 1, 1) := by decide +kernel
theorem dX13_target_162 : decode cX13_target 162 = .ok (.if_icmp .ne 7, 3) := by decide +kernel
theorem dX13_target_165 : decode cX13_target 165 = .ok (.iconst 1, 1) := by decide +kernel
theorem dX13_target_166 : decode cX13_target 166 = .ok (.goto 4, 3) := by decide +kernel
theorem dX13_target_169 : decode cX13_target 169 = .ok (.iconst 2, 1) := by decide +kernel
theorem dX13_target_170 : decode cX13_target 170 = .ok (.if_icmp .ge 31, 3) := by decide +kernel
theorem dX13_target_173 : decode cX13_target 173 = .ok (.iload 5, 2) := by decide +kernel
theorem dX13_target_175 : decode cX13_target 175 = .ok (.iload 6, 2) := by decide +kernel
theorem dX13_target_177 : decode cX13_target 177 = .ok (.ineg, 1) := by decide +kernel
theorem dX13_target_178 : decode cX13_target 178 = .ok (.iconst 2, 1) := by decide +kernel
theorem dX13_target_179 : decode cX13_target 179 = .ok (.isub, 1) := by decide +kernel
theorem dX13_target_180 : decode cX13_target 180 = .ok (.if_icmp .lt 17, 3) := by decide +kernel
theorem dX13_target_183 : decode cX13_target 183 = .ok (.iload 5, 2) := by decide +kernel
theorem dX13_target_185 : decode cX13_target 185 = .ok (.iload 6, 2) := by decide +kernel
theorem dX13_target_187 : decode cX13_target 187 = .ok (.if_icmp .gt 10, 3) := by decide +kernel
theorem dX13_target_190 : decode cX13_target 190 = .ok (.iload 5, 2) := by decide +kernel
theorem dX13_target_192 : decode cX13_target 192 = .ok (.iconst 2, 1) := by decide +kernel
theorem dX13_target_193 : decode cX13_target 193 = .ok (.irem, 1) := by decide +kernel
theorem dX13_target_194 : decode cX13_target 194 = .ok (.ifCond .eq 7, 3) := by decide +kernel
theorem dX13_target_197 : decode cX13_target 197 = .ok (.iconst 1, 1) := by decide +kernel
theorem dX13_target_198 : decode cX13_target 198 = .ok (.goto 4, 3) := by decide +kernel
theorem dX13_target_201 : decode cX13_target 201 = .ok (.iconst 0, 1) := by decide +kernel
theorem dX13_target_202 : decode cX13_target 202 = .ok (.putfield 558, 3) := by decide +kernel
theorem dX13_target_205 : decode cX13_target 205 = .ok (.iload_n 3, 1) := by decide +kernel
theorem dX13_target_206 : decode cX13_target 206 = .ok (.ireturn, 1) := by decide +kernel
theorem dX13_jump_0 : decode cX13_jump 0 = .ok (.aload_n 0, 1) := by decide +kernel
theorem dX13_jump_1 : decode cX13_jump 1 = .ok (.iconst 1, 1) := by decide +kernel
theorem dX13_jump_2 : decode cX13_jump 2 = .ok (.iconst 0, 1) := by decide +kernel
theorem dX13_jump_3 : decode cX13_jump 3 = .ok (.invokevirtual 561, 3) := by decide +kernel
theorem dX13_jump_6 : decode cX13_jump 6 = .ok (.istore_n 2, 1) := by decide +kernel
theorem dX13_jump_7 : decode cX13_jump 7 = .ok (.aload_n 0, 1) := by decide +kernel
theorem dX13_jump_8 : decode cX13_jump 8 = .ok (.invokevirtual 554, 3) := by decide +kernel
theorem dX13_jump_11 : decode cX13_jump 11 = .ok (.ifCond .ne 30, 3) := by decide +kernel
theorem dX13_jump_14 : decode cX13_jump 14 = .ok (.aload_n 0, 1) := by decide +kernel
theorem dX13_jump_15 : decode cX13_jump 15 = .ok (.iconst 1, 1) := by decide +kernel
theorem dX13_jump_16 : decode cX13_jump 16 = .ok (.iload_n 1, 1) := by decide +kernel
theorem dX13_jump_17 : decode cX13_jump 17 = .ok (.iconst 1, 1) := by decide +kernel
theorem dX13_jump_18 : decode cX13_jump 18 = .ok (.if_icmp .ne 7, 3) := by decide +kernel
theorem dX13_jump_21 : decode cX13_jump 21 = .ok (.iconst 1, 1) := by decide +kernel
theorem dX13_jump_22 : decode cX13_jump 22 = .ok (.goto 4, 3) := by decide +kernel
theorem dX13_jump_25 : decode cX13_jump 25 = .ok (.iconst 5, 1) := by decide +kernel
theorem dX13_jump_26 : decode cX13_jump 26 = .ok (.bipush 13, 2) := by decide +kernel
theorem dX13_jump_28 : decode cX13_jump 28 = .ok (.ishl, 1) := by decide +kernel
theorem dX13_jump_29 : decode cX13_jump 29 = .ok (.ior, 1) := by decide +kernel
theorem dX13_jump_30 : decode cX13_jump 30 = .ok (.iload_n 2, 1) := by decide +kernel
theorem dX13_jump_31 : decode cX13_jump 31 = .ok (.invokestatic 564, 3) := by decide +kernel
theorem dX13_jump_34 : decode cX13_jump 34 = .ok (.ior, 1) := by decide +kernel
theorem dX13_jump_35 : decode cX13_jump 35 = .ok (.invokevirtual 547, 3) := by decide +kernel
theorem dX13_jump_38 : decode cX13_jump 38 = .ok (.goto 19, 3) := by decide +kernel
theorem dX13_jump_41 : decode cX13_jump 41 = .ok (.aload_n 0, 1) := by decide +kernel
theorem dX13_jump_42 : decode cX13_jump 42 = .ok (.bipush 111, 2) := by decide +kernel
theorem dX13_jump_44 : decode cX13_jump 44 = .ok (.iload_n 1, 1) := by decide +kernel
theorem dX13_jump_45 : decode cX13_jump 45 = .ok (.bipush 7, 2) := by decide +kernel
theorem dX13_jump_47 : decode cX13_jump 47 = .ok (.ishl, 1) := by decide +kernel
theorem dX13_jump_48 : decode cX13_jump 48 = .ok (.ior, 1) := by decide +kernel
theorem dX13_jump_49 : decode cX13_jump 49 = .ok (.iload_n 2, 1) := by decide +kernel
theorem dX13_jump_50 : decode cX13_jump 50 = .ok (.invokestatic 567, 3) := by decide +kernel
theorem dX13_jump_53 : decode cX13_jump 53 = .ok (.ior, 1) := by decide +kernel
theorem dX13_jump_54 : decode cX13_jump 54 = .ok (.invokevirtual 570, 3) := by decide +kernel
theorem dX13_jump_57 : decode cX13_jump 57 = .ok (.return_, 1) := by decide +kernel
theorem dX13_branch_0 : decode cX13_branch 0 = .ok (.aload_n 0, 1) := by decide +kernel
theorem dX13_branch_1 : decode cX13_branch 1 = .ok (.iload 4, 2) := by decide +kernel
theorem dX13_branch_3 : decode cX13_branch 3 = .ok (.ifCond .eq 7, 3) := by decide +kernel
theorem dX13_branch_6 : decode cX13_branch 6 = .ok (.iconst 2, 1) := by decide +kernel
theorem dX13_branch_7 : decode cX13_branch 7 = .ok (.goto 4, 3) := by decide +kernel
theorem dX13_branch_10 : decode cX13_branch 10 = .ok (.iconst 3, 1) := by decide +kernel
theorem dX13_branch_11 : decode cX13_branch 11 = .ok (.iload 4, 2) := by decide +kernel
theorem dX13_branch_13 : decode cX13_branch 13 = .ok (.ifCond .eq 7, 3) := by decide +kernel
theorem dX13_branch_16 : decode cX13_branch 16 = .ok (.iconst 0, 1) := by decide +kernel
theorem dX13_branch_17 : decode cX13_branch 17 = .ok (.goto 4, 3) := by decide +kernel
theorem dX13_branch_20 : decode cX13_branch 20 = .ok (.iconst 1, 1) := by decide +kernel
theorem dX13_branch_21 : decode cX13_branch 21 = .ok (.invokevirtual 561, 3) := by decide +kernel
theorem dX13_branch_24 : decode cX13_branch 24 = .ok (.istore 5, 2) := by decide +kernel
theorem dX13_branch_26 : decode cX13_branch 26 = .ok (.aload_n 0, 1) := by decide +kernel
theorem dX13_branch_27 : decode cX13_branch 27 = .ok (.invokevirtual 554, 3) := by decide +kernel
theorem dX13_branch_30 : decode cX13_branch 30 = .ok (.istore 6, 2) := by decide +kernel
theorem dX13_branch_32 : decode cX13_branch 32 = .ok (.iload_n 2, 1) := by decide +kernel
theorem dX13_branch_33 : decode cX13_branch 33 = .ok (.bipush 15, 2) := by decide +kernel
theorem dX13_branch_35 : decode cX13_branch 35 = .ok (.ishl, 1) := by decide +kernel
theorem dX13_branch_36 : decode cX13_branch 36 = .ok (.iload_n 3, 1) := by decide +kernel
theorem dX13_branch_37 : decode cX13_branch 37 = .ok (.bipush 20, 2) := by decide +kernel
theorem dX13_branch_39 : decode cX13_branch 39 = .ok (.ishl, 1) := by decide +kernel
theorem dX13_branch_40 : decode cX13_branch 40 = .ok (.ior, 1) := by decide +kernel
theorem dX13_branch_41 : decode cX13_branch 41 = .ok (.istore 7, 2) := by decide +kernel
theorem dX13_branch_43 : decode cX13_branch 43 = .ok (.iload 6, 2) := by decide +kernel
theorem dX13_branch_45 : decode cX13_branch 45 = .ok (.ifCond .ne 46, 3) := by decide +kernel
theorem dX13_branch_48 : decode cX13_branch 48 = .ok (.aload_n 0, 1) := by decide +kernel
theorem dX13_branch_49 : decode cX13_branch 49 = .ok (.iconst 1, 1) := by decide +kernel
theorem dX13_branch_50 : decode cX13_branch 50 = .ok (.iload_n 1, 1) := by decide +kernel
theorem dX13_branch_51 : decode cX13_branch 51 = .ok (.bipush 12, 2) := by decide +kernel
theorem dX13_branch_53 : decode cX13_branch 53 = .ok (.ishr, 1) := by decide +kernel
theorem dX13_branch_54 : decode cX13_branch 54 = .ok (.bipush 7, 2) := by decide +kernel
theorem dX13_branch_56 : decode cX13_branch 56 = .ok (.iand, 1) := by decide +kernel
theorem dX13_branch_57 : decode cX13_branch 57 = .ok (.ifCond .ne 8, 3) := by decide +kernel
theorem dX13_branch_60 : decode cX13_branch 60 = .ok (.bipush 6, 2) := by decide +kernel
theorem dX13_branch_62 : decode cX13_branch 62 = .ok (.goto 5, 3) := by decide +kernel
theorem dX13_branch_65 : decode cX13_branch 65 = .ok (.bipush 7, 2) := by decide +kernel
theorem dX13_branch_67 : decode cX13_branch 67 = .ok (.bipush 13, 2) := by decide +kernel
theorem dX13_branch_69 : decode cX13_branch 69 = .ok (.ishl, 1) := by decide +kernel
theorem dX13_branch_70 : decode cX13_branch 70 = .ok (.ior, 1) := by decide +kernel
theorem dX13_branch_71 : decode cX13_branch 71 = .ok (.iload_n 2, 1) := by decide +kernel
theorem dX13_branch_72 : decode cX13_branch 72 = .ok (.bipush 8, 2) := by decide +kernel
theorem dX13_branch_74 : decode cX13_branch 74 = .ok (.isub, 1) := by decide +kernel
theorem dX13_branch_75 : decode cX13_branch 75 = .ok (.bipush 7, 2) := by decide +kernel
theorem dX13_branch_77 : decode cX13_branch 77 = .ok (.iand, 1) := by decide +kernel
theorem dX13_branch_78 : decode cX13_branch 78 = .ok (.bipush 7, 2) := by decide +kernel
theorem dX13_branch_80 : decode cX13_branch 80 = .ok (.ishl, 1) := by decide +kernel
theorem dX13_branch_81 : decode cX13_branch 81 = .ok (.ior, 1) := by decide +kernel
theorem dX13_branch_82 : decode cX13_branch 82 = .ok (.iload 5, 2) := by decide +kernel
theorem dX13_branch_84 : decode cX13_branch 84 = .ok (.invokestatic 573, 3) := by decide +kernel
theorem dX13_branch_87 : decode cX13_branch 87 = .ok (.ior, 1) := by decide +kernel
theorem dX13_branch_88 : decode cX13_branch 88 = .ok (.invokevirtual 547, 3) := by decide +kernel
theorem dX13_branch_91 : decode cX13_branch 91 = .ok (.iload 6, 2) := by decide +kernel
theorem dX13_branch_93 : decode cX13_branch 93 = .ok (.iconst 1, 1) := by decide +kernel
theorem dX13_branch_94 : decode cX13_branch 94 = .ok (.if_icmp .ne 17, 3) := by decide +kernel
theorem dX13_branch_97 : decode cX13_branch 97 = .ok (.aload_n 0, 1) := by decide +kernel
theorem dX13_branch_98 : decode cX13_branch 98 = .ok (.iload_n 1, 1) := by decide +kernel
theorem dX13_branch_99 : decode cX13_branch 99 = .ok (.iload 7, 2) := by decide +kernel
theorem dX13_branch_101 : decode cX13_branch 101 = .ok (.ior, 1) := by decide +kernel
theorem dX13_branch_102 : decode cX13_branch 102 = .ok (.iload 5, 2) := by decide +kernel
theorem dX13_branch_104 : decode cX13_branch 104 = .ok (.invokestatic 576, 3) := by decide +kernel
theorem dX13_branch_107 : decode cX13_branch 107 = .ok (.ior, 1) := by decide +kernel
theorem dX13_branch_108 : decode cX13_branch 108 = .ok (.invokevirtual 570, 3) := by decide +kernel
theorem dX13_branch_111 : decode cX13_branch 111 = .ok (.iload 6, 2) := by decide +kernel
theorem dX13_branch_113 : decode cX13_branch 113 = .ok (.iconst 2, 1) := by decide +kernel
theorem dX13_branch_114 : decode cX13_branch 114 = .ok (.if_icmp .ge 4, 3) := by decide +kernel
theorem dX13_branch_117 : decode cX13_branch 117 = .ok (.return_, 1) := by decide +kernel
theorem dX13_branch_118 : decode cX13_branch 118 = .ok (.aload_n 0, 1) := by decide +kernel
theorem dX13_branch_119 : decode cX13_branch 119 = .ok (.iload_n 1, 1) := by decide +kernel
theorem dX13_branch_120 : decode cX13_branch 120 = .ok (.sipush 4096, 3) := by decide +kernel
theorem dX13_branch_123 : decode cX13_branch 123 = .ok (.ixor, 1) := by decide +kernel
theorem dX13_branch_124 : decode cX13_branch 124 = .ok (.iload 7, 2) := by decide +kernel
theorem dX13_branch_126 : decode cX13_branch 126 = .ok (.ior, 1) := by decide +kernel
theorem dX13_branch_127 : decode cX13_branch 127 = .ok (.bipush 8, 2) := by decide +kernel
theorem dX13_branch_129 : decode cX13_branch 129 = .ok (.invokestatic 576, 3) := by decide +kernel
theorem dX13_branch_132 : decode cX13_branch 132 = .ok (.ior, 1) := by decide +kernel
theorem dX13_branch_133 : decode cX13_branch 133 = .ok (.invokevirtual 570, 3) := by decide +kernel
theorem dX13_branch_136 : decode cX13_branch 136 = .ok (.aload_n 0, 1) := by decide +kernel
theorem dX13_branch_137 : decode cX13_branch 137 = .ok (.bipush 111, 2) := by decide +kernel
theorem dX13_branch_139 : decode cX13_branch 139 = .ok (.iload 5, 2) := by decide +kernel
theorem dX13_branch_141 : decode cX13_branch 141 = .ok (.iconst 4, 1) := by decide +kernel
theorem dX13_branch_142 : decode cX13_branch 142 = .ok (.isub, 1) := by decide +kernel
theorem dX13_branch_143 : decode cX13_branch 143 = .ok (.invokestatic 567, 3) := by decide +kernel
theorem dX13_branch_146 : decode cX13_branch 146 = .ok (.ior, 1) := by decide +kernel
theorem dX13_branch_147 : decode cX13_branch 147 = .ok (.invokevirtual 570, 3) := by decide +kernel
theorem dX13_branch_150 : decode cX13_branch 150 = .ok (.return_, 1) := by decide +kernel
theorem dX13_comma_0 : decode cX13_comma 0 = .ok (.aload_n 0, 1) := by decide +kernel
theorem dX13_comma_1 : decode cX13_comma 1 = .ok (.getfield 410, 3) := by decide +kernel
theorem dX13_comma_4 : decode cX13_comma 4 = .ok (.ifCond .ne 16, 3) := by decide +kernel
theorem dX13_comma_7 : decode cX13_comma 7 = .ok (.aload_n 0, 1) := by decide +kernel
theorem dX13_comma_8 : decode cX13_comma 8 = .ok (.bipush 44, 2) := by decide +kernel
theorem dX13_comma_10 : decode cX13_comma 10 = .ok (.invokevirtual 506, 3) := by decide +kernel
theorem dX13_comma_13 : decode cX13_comma 13 = .ok (.ifCond .eq 7, 3) := by decide +kernel
theorem dX13_comma_16 : decode cX13_comma 16 = .ok (.iconst 1, 1) := by decide +kernel
theorem dX13_comma_17 : decode cX13_comma 17 = .ok (.goto 4, 3) := by decide +kernel
theorem dX13_comma_20 : decode cX13_comma 20 = .ok (.iconst 0, 1) := by decide +kernel
theorem dX13_comma_21 : decode cX13_comma 21 = .ok (.ireturn, 1) := by decide +kernel
theorem dX13_longs_0 : decode cX13_longs 0 = .ok (.aload_n 0, 1) := by decide +kernel
theorem dX13_longs_1 : decode cX13_longs 1 = .ok (.invokevirtual 532, 3) := by decide +kernel
theorem dX13_longs_4 : decode cX13_longs 4 = .ok (.istore_n 3, 1) := by decide +kernel
theorem dX13_longs_5 : decode cX13_longs 5 = .ok (.iload_n 1, 1) := by decide +kernel
theorem dX13_longs_6 : decode cX13_longs 6 = .ok (.bipush 30, 2) := by decide +kernel
theorem dX13_longs_8 : decode cX13_longs 8 = .ok (.if_icmp .ne 32, 3) := by decide +kernel
theorem dX13_longs_11 : decode cX13_longs 11 = .ok (.aload_n 0, 1) := by decide +kernel
theorem dX13_longs_12 : decode cX13_longs 12 = .ok (.getfield 410, 3) := by decide +kernel
theorem dX13_longs_15 : decode cX13_longs 15 = .ok (.ifCond .ne 25, 3) := by decide +kernel
theorem dX13_longs_18 : decode cX13_longs 18 = .ok (.aload_n 0, 1) := by decide +kernel
theorem dX13_longs_19 : decode cX13_longs 19 = .ok (.invokevirtual 579, 3) := by decide +kernel
theorem dX13_longs_22 : decode cX13_longs 22 = .ok (.ifCond .eq 18, 3) := by decide +kernel
theorem dX13_longs_25 : decode cX13_longs 25 = .ok (.aload_n 0, 1) := by decide +kernel
theorem dX13_longs_26 : decode cX13_longs 26 = .ok (.iload_n 2, 1) := by decide +kernel
theorem dX13_longs_27 : decode cX13_longs 27 = .ok (.sipush 128, 3) := by decide +kernel
theorem dX13_longs_30 : decode cX13_longs 30 = .ok (.ior, 1) := by decide +kernel
theorem dX13_longs_31 : decode cX13_longs 31 = .ok (.iload_n 3, 1) := by decide +kernel
theorem dX13_longs_32 : decode cX13_longs 32 = .ok (.bipush 15, 2) := by decide +kernel
theorem dX13_longs_34 : decode cX13_longs 34 = .ok (.ishl, 1) := by decide +kernel
theorem dX13_longs_35 : decode cX13_longs 35 = .ok (.ior, 1) := by decide +kernel
theorem dX13_longs_36 : decode cX13_longs 36 = .ok (.invokevirtual 570, 3) := by decide +kernel
theorem dX13_longs_39 : decode cX13_longs 39 = .ok (.return_, 1) := by decide +kernel
theorem dX13_longs_40 : decode cX13_longs 40 = .ok (.iload_n 1, 1) := by decide +kernel
theorem dX13_longs_41 : decode cX13_longs 41 = .ok (.bipush 11, 2) := by decide +kernel
theorem dX13_longs_43 : decode cX13_longs 43 = .ok (.if_icmp .ne 14, 3) := by decide +kernel
theorem dX13_longs_46 : decode cX13_longs 46 = .ok (.aload_n 0, 1) := by decide +kernel
theorem dX13_longs_47 : decode cX13_longs 47 = .ok (.iload_n 2, 1) := by decide +kernel
theorem dX13_longs_48 : decode cX13_longs 48 = .ok (.iload_n 3, 1) := by decide +kernel
theorem dX13_longs_49 : decode cX13_longs 49 = .ok (.bipush 7, 2) := by decide +kernel
theorem dX13_longs_51 : decode cX13_longs 51 = .ok (.ishl, 1) := by decide +kernel
theorem dX13_longs_52 : decode cX13_longs 52 = .ok (.ior, 1) := by decide +kernel
theorem dX13_longs_53 : decode cX13_longs 53 = .ok (.invokevirtual 570, 3) := by decide +kernel
theorem dX13_longs_56 : decode cX13_longs 56 = .ok (.return_, 1) := by decide +kernel
theorem dX13_longs_57 : decode cX13_longs 57 = .ok (.aload_n 0, 1) := by decide +kernel
theorem dX13_longs_58 : decode cX13_longs 58 = .ok (.invokevirtual 582, 3) := by decide +kernel
theorem dX13_longs_61 : decode cX13_longs 61 = .ok (.ifCond .ne 4, 3) := by decide +kernel
theorem dX13_longs_64 : decode cX13_longs 64 = .ok (.return_, 1) := by decide +kernel
theorem dX13_longs_65 : decode cX13_longs 65 = .ok (.iload_n 1, 1) := by decide +kernel
theorem dX13_longs_66 : decode cX13_longs 66 = .ok (.iconst 4, 1) := by decide +kernel
theorem dX13_longs_67 : decode cX13_longs 67 = .ok (.if_icmp .eq 14, 3) := by decide +kernel
theorem dX13_longs_70 : decode cX13_longs 70 = .ok (.iload_n 1, 1) := by decide +kernel
theorem dX13_longs_71 : decode cX13_longs 71 = .ok (.iconst 5, 1) := by decide +kernel
theorem dX13_longs_72 : decode cX13_longs 72 = .ok (.if_icmp .eq 9, 3) := by decide +kernel
theorem dX13_longs_75 : decode cX13_longs 75 = .ok (.iload_n 1, 1) := by decide +kernel
theorem dX13_longs_76 : decode cX13_longs 76 = .ok (.bipush 30, 2) := by decide +kernel
theorem dX13_longs_78 : decode cX13_longs 78 = .ok (.if_icmp .ne 99, 3) := by decide +kernel
theorem dX13_longs_81 : decode cX13_longs 81 = .ok (.aload_n 0, 1) := by decide +kernel
theorem dX13_longs_82 : decode cX13_longs 82 = .ok (.sipush (-2048), 3) := by decide +kernel
theorem dX13_longs_85 : decode cX13_longs 85 = .ok (.sipush 2047, 3) := by decide +kernel
theorem dX13_longs_88 : decode cX13_longs 88 = .ok (.iconst 1, 1) := by decide +kernel
theorem dX13_longs_89 : decode cX13_longs 89 = .ok (.invokevirtual 585, 3) := by decide +kernel
theorem dX13_longs_92 : decode cX13_longs 92 = .ok (.istore 4, 2) := by decide +kernel
theorem dX13_longs_94 : decode cX13_longs 94 = .ok (.aload_n 0, 1) := by decide +kernel
theorem dX13_longs_95 : decode cX13_longs 95 = .ok (.getfield 410, 3) := by decide +kernel
theorem dX13_longs_98 : decode cX13_longs 98 = .ok (.ifCond .ne 10, 3) := by decide +kernel
theorem dX13_longs_101 : decode cX13_longs 101 = .ok (.aload_n 0, 1) := by decide +kernel
theorem dX13_longs_102 : decode cX13_longs 102 = .ok (.invokevirtual 588, 3) := by decide +kernel
theorem dX13_longs_105 : decode cX13_longs 105 = .ok (.goto 4, 3) := by decide +kernel
theorem dX13_longs_108 : decode cX13_longs 108 = .ok (.iconst 0, 1) := by decide +kernel
theorem dX13_longs_109 : decode cX13_longs 109 = .ok (.istore 5, 2) := by decide +kernel
theorem dX13_longs_111 : decode cX13_longs 111 = .ok (.aload_n 0, 1) := by decide +kernel
theorem dX13_longs_112 : decode cX13_longs 112 = .ok (.iload_n 1, 1) := by decide +kernel
theorem dX13_longs_113 : decode cX13_longs 113 = .ok (.iconst 5, 1) := by decide +kernel
theorem dX13_longs_114 : decode cX13_longs 114 = .ok (.if_icmp .ne 39, 3) := by decide +kernel
theorem dX13_longs_117 : decode cX13_longs 117 = .ok (.iload_n 2, 1) := by decide +kernel
theorem dX13_longs_118 : decode cX13_longs 118 = .ok (.iload 4, 2) := by decide +kernel
theorem dX13_longs_120 : decode cX13_longs 120 = .ok (.bipush 11, 2) := by decide +kernel
theorem dX13_longs_122 : decode cX13_longs 122 = .ok (.iconst 5, 1) := by decide +kernel
theorem dX13_longs_123 : decode cX13_longs 123 = .ok (.bipush 25, 2) := by decide +kernel
theorem dX13_longs_125 : decode cX13_longs 125 = .ok (.invokestatic 550, 3) := by decide +kernel
theorem dX13_longs_128 : decode cX13_longs 128 = .ok (.ior, 1) := by decide +kernel
theorem dX13_longs_129 : decode cX13_longs 129 = .ok (.iload 4, 2) := by decide +kernel
theorem dX13_longs_131 : decode cX13_longs 131 = .ok (.iconst 4, 1) := by decide +kernel
theorem dX13_longs_132 : decode cX13_longs 132 = .ok (.iconst 0, 1) := by decide +kernel
theorem dX13_longs_133 : decode cX13_longs 133 = .ok (.bipush 7, 2) := by decide +kernel
theorem dX13_longs_135 : decode cX13_longs 135 = .ok (.invokestatic 550, 3) := by decide +kernel
theorem dX13_longs_138 : decode cX13_longs 138 = .ok (.ior, 1) := by decide +kernel
theorem dX13_longs_139 : decode cX13_longs 139 = .ok (.iload 5, 2) := by decide +kernel
theorem dX13_longs_141 : decode cX13_longs 141 = .ok (.bipush 15, 2) := by decide +kernel
theorem dX13_longs_143 : decode cX13_longs 143 = .ok (.ishl, 1) := by decide +kernel
theorem dX13_longs_144 : decode cX13_longs 144 = .ok (.ior, 1) := by decide +kernel
theorem dX13_longs_145 : decode cX13_longs 145 = .ok (.iload_n 3, 1) := by decide +kernel
theorem dX13_longs_146 : decode cX13_longs 146 = .ok (.bipush 20, 2) := by decide +kernel
theorem dX13_longs_148 : decode cX13_longs 148 = .ok (.ishl, 1) := by decide +kernel
theorem dX13_longs_149 : decode cX13_longs 149 = .ok (.ior, 1) := by decide +kernel
theorem dX13_longs_150 : decode cX13_longs 150 = .ok (.goto 21, 3) := by decide +kernel
theorem dX13_longs_153 : decode cX13_longs 153 = .ok (.iload_n 2, 1) := by decide +kernel
theorem dX13_longs_154 : decode cX13_longs 154 = .ok (.iload_n 3, 1) := by decide +kernel
theorem dX13_longs_155 : decode cX13_longs 155 = .ok (.bipush 7, 2) := by decide +kernel
theorem dX13_longs_157 : decode cX13_longs 157 = .ok (.ishl, 1) := by decide +kernel
theorem dX13_longs_158 : decode cX13_longs 158 = .ok (.ior, 1) := by decide +kernel
theorem dX13_longs_159 : decode cX13_longs 159 = .ok (.iload 5, 2) := by decide +kernel
theorem dX13_longs_161 : decode cX13_longs 161 = .ok (.bipush 15, 2) := by decide +kernel
theorem dX13_longs_163 : decode cX13_longs 163 = .ok (.ishl, 1) := by decide +kernel
theorem dX13_longs_164 : decode cX13_longs 164 = .ok (.ior, 1) := by decide +kernel
theorem dX13_longs_165 : decode cX13_longs 165 = .ok (.iload 4, 2) := by decide +kernel
theorem dX13_longs_167 : decode cX13_longs 167 = .ok (.bipush 20, 2) := by decide +kernel
theorem dX13_longs_169 : decode cX13_longs 169 = .ok (.ishl, 1) := by decide +kernel
theorem dX13_longs_170 : decode cX13_longs 170 = .ok (.ior, 1) := by decide +kernel
theorem dX13_longs_171 : decode cX13_longs 171 = .ok (.invokevirtual 570, 3) := by decide +kernel
theorem dX13_longs_174 : decode cX13_longs 174 = .ok (.goto 210, 3) := by decide +kernel
theorem dX13_longs_177 : decode cX13_longs 177 = .ok (.iload_n 1, 1) := by decide +kernel
theorem dX13_longs_178 : decode cX13_longs 178 = .ok (.bipush 6, 2) := by decide +kernel
theorem dX13_longs_180 : decode cX13_longs 180 = .ok (.if_icmp .ne 29, 3) := by decide +kernel
theorem dX13_longs_183 : decode cX13_longs 183 = .ok (.aload_n 0, 1) := by decide +kernel
theorem dX13_longs_184 : decode cX13_longs 184 = .ok (.iload_n 2, 1) := by decide +kernel
theorem dX13_longs_185 : decode cX13_longs 185 = .ok (.iload_n 3, 1) := by decide +kernel
theorem dX13_longs_186 : decode cX13_longs 186 = .ok (.bipush 7, 2) := by decide +kernel
theorem dX13_longs_188 : decode cX13_longs 188 = .ok (.ishl, 1) := by decide +kernel
theorem dX13_longs_189 : decode cX13_longs 189 = .ok (.ior, 1) := by decide +kernel
theorem dX13_longs_190 : decode cX13_longs 190 = .ok (.aload_n 0, 1) := by decide +kernel
theorem dX13_longs_191 : decode cX13_longs 191 = .ok (.iconst 0, 1) := by decide +kernel
theorem dX13_longs_192 : decode cX13_longs 192 = .ok (.ldc_w 591, 3) := by decide +kernel
theorem dX13_longs_195 : decode cX13_longs 195 = .ok (.iconst 1, 1) := by decide +kernel
theorem dX13_longs_196 : decode cX13_longs 196 = .ok (.invokevirtual 585, 3) := by decide +kernel
theorem dX13_longs_199 : decode cX13_longs 199 = .ok (.bipush 12, 2) := by decide +kernel
theorem dX13_longs_201 : decode cX13_longs 201 = .ok (.ishl, 1) := by decide +kernel
theorem dX13_longs_202 : decode cX13_longs 202 = .ok (.ior, 1) := by decide +kernel
theorem dX13_longs_203 : decode cX13_longs 203 = .ok (.invokevirtual 570, 3) := by decide +kernel
theorem dX13_longs_206 : decode cX13_longs 206 = .ok (.goto 178, 3) := by decide +kernel
theorem dX13_longs_209 : decode cX13_longs 209 = .ok (.iload_n 1, 1) := by decide +kernel
theorem dX13_longs_210 : decode cX13_longs 210 = .ok (.bipush 10, 2) := by decide +kernel
theorem dX13_longs_212 : decode cX13_longs 212 = .ok (.if_icmp .ne 24, 3) := by decide +kernel
theorem dX13_longs_215 : decode cX13_longs 215 = .ok (.aload_n 0, 1) := by decide +kernel
theorem dX13_longs_216 : decode cX13_longs 216 = .ok (.iload_n 2, 1) := by decide +kernel
theorem dX13_longs_217 : decode cX13_longs 217 = .ok (.iload_n 3, 1) := by decide +kernel
theorem dX13_longs_218 : decode cX13_longs 218 = .ok (.bipush 7, 2) := by decide +kernel
theorem dX13_longs_220 : decode cX13_longs 220 = .ok (.ishl, 1) := by decide +kernel
theorem dX13_longs_221 : decode cX13_longs 221 = .ok (.ior, 1) := by decide +kernel
theorem dX13_longs_222 : decode cX13_longs 222 = .ok (.aload_n 0, 1) := by decide +kernel
theorem dX13_longs_223 : decode cX13_longs 223 = .ok (.invokevirtual 588, 3) := by decide +kernel
theorem dX13_longs_226 : decode cX13_longs 226 = .ok (.bipush 15, 2) := by decide +kernel
theorem dX13_longs_228 : decode cX13_longs 228 = .ok (.ishl, 1) := by decide +kernel
theorem dX13_longs_229 : decode cX13_longs 229 = .ok (.ior, 1) := by decide +kernel
theorem dX13_longs_230 : decode cX13_longs 230 = .ok (.invokevirtual 570, 3) := by decide +kernel
theorem dX13_longs_233 : decode cX13_longs 233 = .ok (.goto 151, 3) := by decide +kernel
theorem dX13_longs_236 : decode cX13_longs 236 = .ok (.aload_n 0, 1) := by decide +kernel
theorem dX13_longs_237 : decode cX13_longs 237 = .ok (.invokevirtual 532, 3) := by decide +kernel
theorem dX13_longs_240 : decode cX13_longs 240 = .ok (.istore 4, 2) := by decide +kernel
theorem dX13_longs_242 : decode cX13_longs 242 = .ok (.aload_n 0, 1) := by decide +kernel
theorem dX13_longs_243 : decode cX13_longs 243 = .ok (.invokevirtual 582, 3) := by decide +kernel
theorem dX13_longs_246 : decode cX13_longs 246 = .ok (.ifCond .ne 4, 3) := by decide +kernel
theorem dX13_longs_249 : decode cX13_longs 249 = .ok (.return_, 1) := by decide +kernel
theorem dX13_longs_250 : decode cX13_longs 250 = .ok (.iload_n 1, 1) := by decide +kernel
theorem dX13_longs_251 : decode cX13_longs 251 = .ok (.iconst 1, 1) := by decide +kernel
theorem dX13_longs_252 : decode cX13_longs 252 = .ok (.if_icmp .ne 30, 3) := by decide +kernel
theorem dX13_longs_255 : decode cX13_longs 255 = .ok (.aload_n 0, 1) := by decide +kernel
theorem dX13_longs_256 : decode cX13_longs 256 = .ok (.iload_n 2, 1) := by decide +kernel
theorem dX13_longs_257 : decode cX13_longs 257 = .ok (.iload_n 3, 1) := by decide +kernel
theorem dX13_longs_258 : decode cX13_longs 258 = .ok (.bipush 7, 2) := by decide +kernel
theorem dX13_longs_260 : decode cX13_longs 260 = .ok (.ishl, 1) := by decide +kernel
theorem dX13_longs_261 : decode cX13_longs 261 = .ok (.ior, 1) := by decide +kernel
theorem dX13_longs_262 : decode cX13_longs 262 = .ok (.iload 4, 2) := by decide +kernel
theorem dX13_longs_264 : decode cX13_longs 264 = .ok (.bipush 15, 2) := by decide +kernel
theorem dX13_longs_266 : decode cX13_longs 266 = .ok (.ishl, 1) := by decide +kernel
theorem dX13_longs_267 : decode cX13_longs 267 = .ok (.ior, 1) := by decide +kernel
theorem dX13_longs_268 : decode cX13_longs 268 = .ok (.aload_n 0, 1) := by decide +kernel
theorem dX13_longs_269 : decode cX13_longs 269 = .ok (.invokevirtual 532, 3) := by decide +kernel
theorem dX13_longs_272 : decode cX13_longs 272 = .ok (.bipush 20, 2) := by decide +kernel
theorem dX13_longs_274 : decode cX13_longs 274 = .ok (.ishl, 1) := by decide +kernel
theorem dX13_longs_275 : decode cX13_longs 275 = .ok (.ior, 1) := by decide +kernel
theorem dX13_longs_276 : decode cX13_longs 276 = .ok (.invokevirtual 570, 3) := by decide +kernel
theorem dX13_longs_279 : decode cX13_longs 279 = .ok (.goto 105, 3) := by decide +kernel
theorem dX13_longs_282 : decode cX13_longs 282 = .ok (.iload_n 1, 1) := by decide +kernel
theorem dX13_longs_283 : decode cX13_longs 283 = .ok (.iconst 2, 1) := by decide +kernel
theorem dX13_longs_284 : decode cX13_longs 284 = .ok (.if_icmp .ne 37, 3) := by decide +kernel
theorem dX13_longs_287 : decode cX13_longs 287 = .ok (.aload_n 0, 1) := by decide +kernel
theorem dX13_longs_288 : decode cX13_longs 288 = .ok (.iload_n 2, 1) := by decide +kernel
theorem dX13_longs_289 : decode cX13_longs 289 = .ok (.iload_n 3, 1) := by decide +kernel
theorem dX13_longs_290 : decode cX13_longs 290 = .ok (.bipush 7, 2) := by decide +kernel
theorem dX13_longs_292 : decode cX13_longs 292 = .ok (.ishl, 1) := by decide +kernel
theorem dX13_longs_293 : decode cX13_longs 293 = .ok (.ior, 1) := by decide +kernel
theorem dX13_longs_294 : decode cX13_longs 294 = .ok (.iload 4, 2) := by decide +kernel
theorem dX13_longs_296 : decode cX13_longs 296 = .ok (.bipush 15, 2) := by decide +kernel
theorem dX13_longs_298 : decode cX13_longs 298 = .ok (.ishl, 1) := by decide +kernel
theorem dX13_longs_299 : decode cX13_longs 299 = .ok (.ior, 1) := by decide +kernel
