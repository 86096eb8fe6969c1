theorem dX19_replay_133 : decode cX19_replay 133 = .ok (.aload_n 0, 1) := by decide +kernel
theorem dX19_replay_134 : decode cX19_replay 134 = .ok (.getfield 94, 3) := by decide +kernel
theorem dX19_replay_137 : decode cX19_replay 137 = .ok (.iload 5, 2) := by decide +kernel
theorem dX19_replay_139 : decode cX19_replay 139 = .ok (.aload_n 0, 1) := by decide +kernel
theorem dX19_replay_140 : decode cX19_replay 140 = .ok (.getfield 74, 3) := by decide +kernel
theorem dX19_replay_143 : decode cX19_replay 143 = .ok (.getfield 249, 3) := by decide +kernel
theorem dX19_replay_146 : decode cX19_replay 146 = .ok (.iload 5, 2) := by decide +kernel
theorem dX19_replay_148 : decode cX19_replay 148 = .ok (.iaload, 1) := by decide +kernel
theorem dX19_replay_149 : decode cX19_replay 149 = .ok (.iastore, 1) := by decide +kernel
theorem dX19_replay_150 : decode cX19_replay 150 = .ok (.aload_n 0, 1) := by decide +kernel
theorem dX19_replay_151 : decode cX19_replay 151 = .ok (.getfield 104, 3) := by decide +kernel
theorem dX19_replay_154 : decode cX19_replay 154 = .ok (.iload 5, 2) := by decide +kernel
theorem dX19_replay_156 : decode cX19_replay 156 = .ok (.aload_n 0, 1) := by decide +kernel
theorem dX19_replay_157 : decode cX19_replay 157 = .ok (.getfield 74, 3) := by decide +kernel
theorem dX19_replay_160 : decode cX19_replay 160 = .ok (.getfield 250, 3) := by decide +kernel
theorem dX19_replay_163 : decode cX19_replay 163 = .ok (.iload 5, 2) := by decide +kernel
theorem dX19_replay_165 : decode cX19_replay 165 = .ok (.laload, 1) := by decide +kernel
theorem dX19_replay_166 : decode cX19_replay 166 = .ok (.lastore, 1) := by decide +kernel
theorem dX19_replay_167 : decode cX19_replay 167 = .ok (.aload_n 0, 1) := by decide +kernel
theorem dX19_replay_168 : decode cX19_replay 168 = .ok (.getfield 97, 3) := by decide +kernel
theorem dX19_replay_171 : decode cX19_replay 171 = .ok (.iload 5, 2) := by decide +kernel
theorem dX19_replay_173 : decode cX19_replay 173 = .ok (.aload_n 0, 1) := by decide +kernel
theorem dX19_replay_174 : decode cX19_replay 174 = .ok (.getfield 74, 3) := by decide +kernel
theorem dX19_replay_177 : decode cX19_replay 177 = .ok (.getfield 251, 3) := by decide +kernel
theorem dX19_replay_180 : decode cX19_replay 180 = .ok (.iload 5, 2) := by decide +kernel
theorem dX19_replay_182 : decode cX19_replay 182 = .ok (.iaload, 1) := by decide +kernel
theorem dX19_replay_183 : decode cX19_replay 183 = .ok (.iastore, 1) := by decide +kernel
theorem dX19_replay_184 : decode cX19_replay 184 = .ok (.iinc 5 1, 3) := by decide +kernel
theorem dX19_replay_187 : decode cX19_replay 187 = .ok (.goto (-84), 3) := by decide +kernel
theorem dX19_replay_190 : decode cX19_replay 190 = .ok (.aload_n 0, 1) := by decide +kernel
theorem dX19_replay_191 : decode cX19_replay 191 = .ok (.getfield 212, 3) := by decide +kernel
theorem dX19_replay_194 : decode cX19_replay 194 = .ok (.istore 5, 2) := by decide +kernel
theorem dX19_replay_196 : decode cX19_replay 196 = .ok (.aload_n 0, 1) := by decide +kernel
theorem dX19_replay_197 : decode cX19_replay 197 = .ok (.aload_n 0, 1) := by decide +kernel
theorem dX19_replay_198 : decode cX19_replay 198 = .ok (.invokevirtual 252, 3) := by decide +kernel
theorem dX19_replay_201 : decode cX19_replay 201 = .ok (.ifCond .ne 7, 3) := by decide +kernel
theorem dX19_replay_204 : decode cX19_replay 204 = .ok (.iconst 1, 1) := by decide +kernel
theorem dX19_replay_205 : decode cX19_replay 205 = .ok (.goto 4, 3) := by decide +kernel
theorem dX19_replay_208 : decode cX19_replay 208 = .ok (.iconst 0, 1) := by decide +kernel
theorem dX19_replay_209 : decode cX19_replay 209 = .ok (.putfield 236, 3) := by decide +kernel
theorem dX19_replay_212 : decode cX19_replay 212 = .ok (.iload 5, 2) := by decide +kernel
theorem dX19_replay_214 : decode cX19_replay 214 = .ok (.ireturn, 1) := by decide +kernel
theorem dX19_isSaid_0 : decode cX19_isSaid 0 = .ok (.iload_n 0, 1) := by decide +kernel
theorem dX19_isSaid_1 : decode cX19_isSaid 1 = .ok (.ifCond .ne 14, 3) := by decide +kernel
theorem dX19_isSaid_4 : decode cX19_isSaid 4 = .ok (.lload_n 1, 1) := by decide +kernel
theorem dX19_isSaid_5 : decode cX19_isSaid 5 = .ok (.lconst 0, 1) := by decide +kernel
theorem dX19_isSaid_6 : decode cX19_isSaid 6 = .ok (.ldc2_w 255, 3) := by decide +kernel
theorem dX19_isSaid_9 : decode cX19_isSaid 9 = .ok (.invokestatic 126, 3) := by decide +kernel
theorem dX19_isSaid_12 : decode cX19_isSaid 12 = .ok (.goto 82, 3) := by decide +kernel
theorem dX19_isSaid_15 : decode cX19_isSaid 15 = .ok (.iload_n 0, 1) := by decide +kernel
theorem dX19_isSaid_16 : decode cX19_isSaid 16 = .ok (.iconst 1, 1) := by decide +kernel
theorem dX19_isSaid_17 : decode cX19_isSaid 17 = .ok (.if_icmp .ne 15, 3) := by decide +kernel
theorem dX19_isSaid_20 : decode cX19_isSaid 20 = .ok (.iload_n 3, 1) := by decide +kernel
theorem dX19_isSaid_21 : decode cX19_isSaid 21 = .ok (.i2l, 1) := by decide +kernel
theorem dX19_isSaid_22 : decode cX19_isSaid 22 = .ok (.lconst 1, 1) := by decide +kernel
theorem dX19_isSaid_23 : decode cX19_isSaid 23 = .ok (.ldc2_w 257, 3) := by decide +kernel
theorem dX19_isSaid_26 : decode cX19_isSaid 26 = .ok (.invokestatic 126, 3) := by decide +kernel
theorem dX19_isSaid_29 : decode cX19_isSaid 29 = .ok (.goto 65, 3) := by decide +kernel
theorem dX19_isSaid_32 : decode cX19_isSaid 32 = .ok (.iload_n 0, 1) := by decide +kernel
theorem dX19_isSaid_33 : decode cX19_isSaid 33 = .ok (.iconst 2, 1) := by decide +kernel
theorem dX19_isSaid_34 : decode cX19_isSaid 34 = .ok (.if_icmp .ne 34, 3) := by decide +kernel
theorem dX19_isSaid_37 : decode cX19_isSaid 37 = .ok (.lload_n 1, 1) := by decide +kernel
theorem dX19_isSaid_38 : decode cX19_isSaid 38 = .ok (.lconst 0, 1) := by decide +kernel
theorem dX19_isSaid_39 : decode cX19_isSaid 39 = .ok (.ldc2_w 255, 3) := by decide +kernel
theorem dX19_isSaid_42 : decode cX19_isSaid 42 = .ok (.invokestatic 126, 3) := by decide +kernel
theorem dX19_isSaid_45 : decode cX19_isSaid 45 = .ok (.ifCond .eq 19, 3) := by decide +kernel
theorem dX19_isSaid_48 : decode cX19_isSaid 48 = .ok (.iload_n 3, 1) := by decide +kernel
theorem dX19_isSaid_49 : decode cX19_isSaid 49 = .ok (.i2l, 1) := by decide +kernel
theorem dX19_isSaid_50 : decode cX19_isSaid 50 = .ok (.lconst 1, 1) := by decide +kernel
theorem dX19_isSaid_51 : decode cX19_isSaid 51 = .ok (.ldc2_w 259, 3) := by decide +kernel
theorem dX19_isSaid_54 : decode cX19_isSaid 54 = .ok (.invokestatic 126, 3) := by decide +kernel
theorem dX19_isSaid_57 : decode cX19_isSaid 57 = .ok (.ifCond .eq 7, 3) := by decide +kernel
theorem dX19_isSaid_60 : decode cX19_isSaid 60 = .ok (.iconst 1, 1) := by decide +kernel
theorem dX19_isSaid_61 : decode cX19_isSaid 61 = .ok (.goto 33, 3) := by decide +kernel
theorem dX19_isSaid_64 : decode cX19_isSaid 64 = .ok (.iconst 0, 1) := by decide +kernel
theorem dX19_isSaid_65 : decode cX19_isSaid 65 = .ok (.goto 29, 3) := by decide +kernel
theorem dX19_isSaid_68 : decode cX19_isSaid 68 = .ok (.iload_n 0, 1) := by decide +kernel
theorem dX19_isSaid_69 : decode cX19_isSaid 69 = .ok (.iconst 3, 1) := by decide +kernel
theorem dX19_isSaid_70 : decode cX19_isSaid 70 = .ok (.if_icmp .ne 14, 3) := by decide +kernel
theorem dX19_isSaid_73 : decode cX19_isSaid 73 = .ok (.lload_n 1, 1) := by decide +kernel
theorem dX19_isSaid_74 : decode cX19_isSaid 74 = .ok (.lconst 0, 1) := by decide +kernel
theorem dX19_isSaid_75 : decode cX19_isSaid 75 = .ok (.ldc2_w 261, 3) := by decide +kernel
theorem dX19_isSaid_78 : decode cX19_isSaid 78 = .ok (.invokestatic 126, 3) := by decide +kernel
theorem dX19_isSaid_81 : decode cX19_isSaid 81 = .ok (.goto 13, 3) := by decide +kernel
theorem dX19_isSaid_84 : decode cX19_isSaid 84 = .ok (.iload_n 0, 1) := by decide +kernel
theorem dX19_isSaid_85 : decode cX19_isSaid 85 = .ok (.iconst 4, 1) := by decide +kernel
theorem dX19_isSaid_86 : decode cX19_isSaid 86 = .ok (.if_icmp .ne 7, 3) := by decide +kernel
theorem dX19_isSaid_89 : decode cX19_isSaid 89 = .ok (.iconst 1, 1) := by decide +kernel
theorem dX19_isSaid_90 : decode cX19_isSaid 90 = .ok (.goto 4, 3) := by decide +kernel
theorem dX19_isSaid_93 : decode cX19_isSaid 93 = .ok (.iconst 0, 1) := by decide +kernel
theorem dX19_isSaid_94 : decode cX19_isSaid 94 = .ok (.ireturn, 1) := by decide +kernel
theorem dX19_low_0 : decode cX19_low 0 = .ok (.iload_n 2, 1) := by decide +kernel
theorem dX19_low_1 : decode cX19_low 1 = .ok (.bipush 7, 2) := by decide +kernel
theorem dX19_low_3 : decode cX19_low 3 = .ok (.if_icmp .le 7, 3) := by decide +kernel
theorem dX19_low_6 : decode cX19_low 6 = .ok (.lload_n 0, 1) := by decide +kernel
theorem dX19_low_7 : decode cX19_low 7 = .ok (.goto 13, 3) := by decide +kernel
theorem dX19_low_10 : decode cX19_low 10 = .ok (.lload_n 0, 1) := by decide +kernel
theorem dX19_low_11 : decode cX19_low 11 = .ok (.lconst 1, 1) := by decide +kernel
theorem dX19_low_12 : decode cX19_low 12 = .ok (.bipush 8, 2) := by decide +kernel
theorem dX19_low_14 : decode cX19_low 14 = .ok (.iload_n 2, 1) := by decide +kernel
theorem dX19_low_15 : decode cX19_low 15 = .ok (.imul, 1) := by decide +kernel
theorem dX19_low_16 : decode cX19_low 16 = .ok (.lshl, 1) := by decide +kernel
theorem dX19_low_17 : decode cX19_low 17 = .ok (.lconst 1, 1) := by decide +kernel
theorem dX19_low_18 : decode cX19_low 18 = .ok (.lsub, 1) := by decide +kernel
theorem dX19_low_19 : decode cX19_low 19 = .ok (.land, 1) := by decide +kernel
theorem dX19_low_20 : decode cX19_low 20 = .ok (.lreturn, 1) := by decide +kernel
theorem dX19_outside_0 : decode cX19_outside 0 = .ok (.iload_n 1, 1) := by decide +kernel
theorem dX19_outside_1 : decode cX19_outside 1 = .ok (.lload_n 2, 1) := by decide +kernel
theorem dX19_outside_2 : decode cX19_outside 2 = .ok (.iload 4, 2) := by decide +kernel
theorem dX19_outside_4 : decode cX19_outside 4 = .ok (.invokestatic 263, 3) := by decide +kernel
theorem dX19_outside_7 : decode cX19_outside 7 = .ok (.istore 5, 2) := by decide +kernel
theorem dX19_outside_9 : decode cX19_outside 9 = .ok (.aload_n 0, 1) := by decide +kernel
theorem dX19_outside_10 : decode cX19_outside 10 = .ok (.iload 5, 2) := by decide +kernel
theorem dX19_outside_12 : decode cX19_outside 12 = .ok (.ifCond .ne 7, 3) := by decide +kernel
theorem dX19_outside_15 : decode cX19_outside 15 = .ok (.iconst 1, 1) := by decide +kernel
theorem dX19_outside_16 : decode cX19_outside 16 = .ok (.goto 4, 3) := by decide +kernel
theorem dX19_outside_19 : decode cX19_outside 19 = .ok (.iconst 0, 1) := by decide +kernel
theorem dX19_outside_20 : decode cX19_outside 20 = .ok (.iload 5, 2) := by decide +kernel
theorem dX19_outside_22 : decode cX19_outside 22 = .ok (.ifCond .eq 14, 3) := by decide +kernel
theorem dX19_outside_25 : decode cX19_outside 25 = .ok (.aload_n 0, 1) := by decide +kernel
theorem dX19_outside_26 : decode cX19_outside 26 = .ok (.getfield 231, 3) := by decide +kernel
theorem dX19_outside_29 : decode cX19_outside 29 = .ok (.ifCond .ne 7, 3) := by decide +kernel
theorem dX19_outside_32 : decode cX19_outside 32 = .ok (.iconst 1, 1) := by decide +kernel
theorem dX19_outside_33 : decode cX19_outside 33 = .ok (.goto 4, 3) := by decide +kernel
theorem dX19_outside_36 : decode cX19_outside 36 = .ok (.iconst 0, 1) := by decide +kernel
theorem dX19_outside_37 : decode cX19_outside 37 = .ok (.invokevirtual 136, 3) := by decide +kernel
theorem dX19_outside_40 : decode cX19_outside 40 = .ok (.ifCond .eq 5, 3) := by decide +kernel
theorem dX19_outside_43 : decode cX19_outside 43 = .ok (.iconst 0, 1) := by decide +kernel
theorem dX19_outside_44 : decode cX19_outside 44 = .ok (.ireturn, 1) := by decide +kernel
theorem dX19_outside_45 : decode cX19_outside 45 = .ok (.aload_n 0, 1) := by decide +kernel
theorem dX19_outside_46 : decode cX19_outside 46 = .ok (.getfield 234, 3) := by decide +kernel
theorem dX19_outside_49 : decode cX19_outside 49 = .ok (.aload_n 0, 1) := by decide +kernel
theorem dX19_outside_50 : decode cX19_outside 50 = .ok (.getfield 210, 3) := by decide +kernel
theorem dX19_outside_53 : decode cX19_outside 53 = .ok (.if_icmp .ne 10, 3) := by decide +kernel
theorem dX19_outside_56 : decode cX19_outside 56 = .ok (.aload_n 0, 1) := by decide +kernel
theorem dX19_outside_57 : decode cX19_outside 57 = .ok (.getfield 212, 3) := by decide +kernel
theorem dX19_outside_60 : decode cX19_outside 60 = .ok (.ifCond .le 5, 3) := by decide +kernel
theorem dX19_outside_63 : decode cX19_outside 63 = .ok (.iconst 2, 1) := by decide +kernel
theorem dX19_outside_64 : decode cX19_outside 64 = .ok (.ireturn, 1) := by decide +kernel
theorem dX19_outside_65 : decode cX19_outside 65 = .ok (.aload_n 0, 1) := by decide +kernel
theorem dX19_outside_66 : decode cX19_outside 66 = .ok (.getfield 192, 3) := by decide +kernel
theorem dX19_outside_69 : decode cX19_outside 69 = .ok (.sipush 2048, 3) := by decide +kernel
theorem dX19_outside_72 : decode cX19_outside 72 = .ok (.if_icmp .ne 5, 3) := by decide +kernel
theorem dX19_outside_75 : decode cX19_outside 75 = .ok (.iconst 3, 1) := by decide +kernel
theorem dX19_outside_76 : decode cX19_outside 76 = .ok (.ireturn, 1) := by decide +kernel
theorem dX19_outside_77 : decode cX19_outside 77 = .ok (.aload_n 0, 1) := by decide +kernel
theorem dX19_outside_78 : decode cX19_outside 78 = .ok (.aload_n 0, 1) := by decide +kernel
theorem dX19_outside_79 : decode cX19_outside 79 = .ok (.getfield 210, 3) := by decide +kernel
theorem dX19_outside_82 : decode cX19_outside 82 = .ok (.invokevirtual 266, 3) := by decide +kernel
theorem dX19_outside_85 : decode cX19_outside 85 = .ok (.aload_n 0, 1) := by decide +kernel
theorem dX19_outside_86 : decode cX19_outside 86 = .ok (.iload_n 1, 1) := by decide +kernel
theorem dX19_outside_87 : decode cX19_outside 87 = .ok (.iload_n 1, 1) := by decide +kernel
theorem dX19_outside_88 : decode cX19_outside 88 = .ok (.iconst 1, 1) := by decide +kernel
theorem dX19_outside_89 : decode cX19_outside 89 = .ok (.if_icmp .ne 12, 3) := by decide +kernel
theorem dX19_outside_92 : decode cX19_outside 92 = .ok (.lload_n 2, 1) := by decide +kernel
theorem dX19_outside_93 : decode cX19_outside 93 = .ok (.iload 4, 2) := by decide +kernel
theorem dX19_outside_95 : decode cX19_outside 95 = .ok (.invokestatic 269, 3) := by decide +kernel
theorem dX19_outside_98 : decode cX19_outside 98 = .ok (.goto 17, 3) := by decide +kernel
theorem dX19_outside_101 : decode cX19_outside 101 = .ok (.iload_n 1, 1) := by decide +kernel
theorem dX19_outside_102 : decode cX19_outside 102 = .ok (.iconst 4, 1) := by decide +kernel
theorem dX19_outside_103 : decode cX19_outside 103 = .ok (.if_icmp .ne 11, 3) := by decide +kernel
theorem dX19_outside_106 : decode cX19_outside 106 = .ok (.lload_n 2, 1) := by decide +kernel
theorem dX19_outside_107 : decode cX19_outside 107 = .ok (.iconst 4, 1) := by decide +kernel
theorem dX19_outside_108 : decode cX19_outside 108 = .ok (.invokestatic 269, 3) := by decide +kernel
theorem dX19_outside_111 : decode cX19_outside 111 = .ok (.goto 4, 3) := by decide +kernel
theorem dX19_outside_114 : decode cX19_outside 114 = .ok (.lload_n 2, 1) := by decide +kernel
theorem dX19_outside_115 : decode cX19_outside 115 = .ok (.iload_n 1, 1) := by decide +kernel
theorem dX19_outside_116 : decode cX19_outside 116 = .ok (.iconst 1, 1) := by decide +kernel
theorem dX19_outside_117 : decode cX19_outside 117 = .ok (.if_icmp .eq 8, 3) := by decide +kernel
theorem dX19_outside_120 : decode cX19_outside 120 = .ok (.iload_n 1, 1) := by decide +kernel
theorem dX19_outside_121 : decode cX19_outside 121 = .ok (.iconst 2, 1) := by decide +kernel
theorem dX19_outside_122 : decode cX19_outside 122 = .ok (.if_icmp .ne 8, 3) := by decide +kernel
theorem dX19_outside_125 : decode cX19_outside 125 = .ok (.iload 4, 2) := by decide +kernel
theorem dX19_outside_127 : decode cX19_outside 127 = .ok (.goto 4, 3) := by decide +kernel
theorem dX19_outside_130 : decode cX19_outside 130 = .ok (.iconst 0, 1) := by decide +kernel
theorem dX19_outside_131 : decode cX19_outside 131 = .ok (.invokevirtual 215, 3) := by decide +kernel
theorem dX19_outside_134 : decode cX19_outside 134 = .ok (.ifCond .eq 7, 3) := by decide +kernel
theorem dX19_outside_137 : decode cX19_outside 137 = .ok (.iconst 0, 1) := by decide +kernel
theorem dX19_outside_138 : decode cX19_outside 138 = .ok (.goto 4, 3) := by decide +kernel
theorem dX19_outside_141 : decode cX19_outside 141 = .ok (.iconst 1, 1) := by decide +kernel
theorem dX19_outside_142 : decode cX19_outside 142 = .ok (.ireturn, 1) := by decide +kernel
theorem dX19_hit_0 : decode cX19_hit 0 = .ok (.iconst 0, 1) := by decide +kernel
theorem dX19_hit_1 : decode cX19_hit 1 = .ok (.istore_n 1, 1) := by decide +kernel
theorem dX19_hit_2 : decode cX19_hit 2 = .ok (.iload_n 1, 1) := by decide +kernel
theorem dX19_hit_3 : decode cX19_hit 3 = .ok (.bipush 8, 2) := by decide +kernel
theorem dX19_hit_5 : decode cX19_hit 5 = .ok (.if_icmp .ge 33, 3) := by decide +kernel
theorem dX19_hit_8 : decode cX19_hit 8 = .ok (.aload_n 0, 1) := by decide +kernel
theorem dX19_hit_9 : decode cX19_hit 9 = .ok (.getfield 67, 3) := by decide +kernel
theorem dX19_hit_12 : decode cX19_hit 12 = .ok (.iload_n 1, 1) := by decide +kernel
theorem dX19_hit_13 : decode cX19_hit 13 = .ok (.invokevirtual 273, 3) := by decide +kernel
theorem dX19_hit_16 : decode cX19_hit 16 = .ok (.ifCond .eq 16, 3) := by decide +kernel
theorem dX19_hit_19 : decode cX19_hit 19 = .ok (.aload_n 0, 1) := by decide +kernel
theorem dX19_hit_20 : decode cX19_hit 20 = .ok (.getfield 67, 3) := by decide +kernel
theorem dX19_hit_23 : decode cX19_hit 23 = .ok (.iload_n 1, 1) := by decide +kernel
theorem dX19_hit_24 : decode cX19_hit 24 = .ok (.invokevirtual 276, 3) := by decide +kernel
theorem dX19_hit_27 : decode cX19_hit 27 = .ok (.lconst 0, 1) := by decide +kernel
theorem dX19_hit_28 : decode cX19_hit 28 = .ok (.lcmp, 1) := by decide +kernel
theorem dX19_hit_29 : decode cX19_hit 29 = .ok (.ifCond .ne 9, 3) := by decide +kernel
theorem dX19_hit_32 : decode cX19_hit 32 = .ok (.iinc 1 1, 3) := by decide +kernel
theorem dX19_hit_35 : decode cX19_hit 35 = .ok (.goto (-33), 3) := by decide +kernel
theorem dX19_hit_38 : decode cX19_hit 38 = .ok (.iload_n 1, 1) := by decide +kernel
theorem dX19_hit_39 : decode cX19_hit 39 = .ok (.bipush 8, 2) := by decide +kernel
theorem dX19_hit_41 : decode cX19_hit 41 = .ok (.if_icmp .ge 7, 3) := by decide +kernel
theorem dX19_hit_44 : decode cX19_hit 44 = .ok (.iload_n 1, 1) := by decide +kernel
theorem dX19_hit_45 : decode cX19_hit 45 = .ok (.goto 4, 3) := by decide +kernel
theorem dX19_hit_48 : decode cX19_hit 48 = .ok (.iconst (-1), 1) := by decide +kernel
theorem dX19_hit_49 : decode cX19_hit 49 = .ok (.ireturn, 1) := by decide +kernel
theorem dX19_remember_0 : decode cX19_remember 0 = .ok (.iconst 0, 1) := by decide +kernel
theorem dX19_remember_1 : decode cX19_remember 1 = .ok (.istore_n 1, 1) := by decide +kernel
theorem dX19_remember_2 : decode cX19_remember 2 = .ok (.iload_n 1, 1) := by decide +kernel
theorem dX19_remember_3 : decode cX19_remember 3 = .ok (.bipush 8, 2) := by decide +kernel
theorem dX19_remember_5 : decode cX19_remember 5 = .ok (.if_icmp .ge 28, 3) := by decide +kernel
theorem dX19_remember_8 : decode cX19_remember 8 = .ok (.aload_n 0, 1) := by decide +kernel
theorem dX19_remember_9 : decode cX19_remember 9 = .ok (.getfield 67, 3) := by decide +kernel
theorem dX19_remember_12 : decode cX19_remember 12 = .ok (.iload_n 1, 1) := by decide +kernel
theorem dX19_remember_13 : decode cX19_remember 13 = .ok (.invokevirtual 273, 3) := by decide +kernel
theorem dX19_remember_16 : decode cX19_remember 16 = .ok (.ifCond .eq 11, 3) := by decide +kernel
theorem dX19_remember_19 : decode cX19_remember 19 = .ok (.aload_n 0, 1) := by decide +kernel
theorem dX19_remember_20 : decode cX19_remember 20 = .ok (.getfield 67, 3) := by decide +kernel
theorem dX19_remember_23 : decode cX19_remember 23 = .ok (.iload_n 1, 1) := by decide +kernel
theorem dX19_remember_24 : decode cX19_remember 24 = .ok (.invokevirtual 280, 3) := by decide +kernel
theorem dX19_remember_27 : decode cX19_remember 27 = .ok (.iinc 1 1, 3) := by decide +kernel
theorem dX19_remember_30 : decode cX19_remember 30 = .ok (.goto (-28), 3) := by decide +kernel
theorem dX19_remember_33 : decode cX19_remember 33 = .ok (.return_, 1) := by decide +kernel
theorem dX19_run_0 : decode cX19_run 0 = .ok (.iload_n 1, 1) := by decide +kernel
theorem dX19_run_1 : decode cX19_run 1 = .ok (.i2l, 1) := by decide +kernel
theorem dX19_run_2 : decode cX19_run 2 = .ok (.lconst 0, 1) := by decide +kernel
theorem dX19_run_3 : decode cX19_run 3 = .ok (.ldc2_w 283, 3) := by decide +kernel
theorem dX19_run_6 : decode cX19_run 6 = .ok (.invokestatic 126, 3) := by decide +kernel
theorem dX19_run_9 : decode cX19_run 9 = .ok (.istore_n 2, 1) := by decide +kernel
theorem dX19_run_10 : decode cX19_run 10 = .ok (.aload_n 0, 1) := by decide +kernel
theorem dX19_run_11 : decode cX19_run 11 = .ok (.iload_n 2, 1) := by decide +kernel
theorem dX19_run_12 : decode cX19_run 12 = .ok (.ifCond .ne 7, 3) := by decide +kernel
theorem dX19_run_15 : decode cX19_run 15 = .ok (.iconst 1, 1) := by decide +kernel
theorem dX19_run_16 : decode cX19_run 16 = .ok (.goto 4, 3) := by decide +kernel
theorem dX19_run_19 : decode cX19_run 19 = .ok (.iconst 0, 1) := by decide +kernel
theorem dX19_run_20 : decode cX19_run 20 = .ok (.iload_n 2, 1) := by decide +kernel
theorem dX19_run_21 : decode cX19_run 21 = .ok (.ifCond .eq 14, 3) := by decide +kernel
theorem dX19_run_24 : decode cX19_run 24 = .ok (.aload_n 0, 1) := by decide +kernel
theorem dX19_run_25 : decode cX19_run 25 = .ok (.getfield 231, 3) := by decide +kernel
theorem dX19_run_28 : decode cX19_run 28 = .ok (.ifCond .ne 7, 3) := by decide +kernel
theorem dX19_run_31 : decode cX19_run 31 = .ok (.iconst 1, 1) := by decide +kernel
theorem dX19_run_32 : decode cX19_run 32 = .ok (.goto 4, 3) := by decide +kernel
theorem dX19_run_35 : decode cX19_run 35 = .ok (.iconst 0, 1) := by decide +kernel
theorem dX19_run_36 : decode cX19_run 36 = .ok (.invokevirtual 136, 3) := by decide +kernel
theorem dX19_run_39 : decode cX19_run 39 = .ok (.ifCond .eq 5, 3) := by decide +kernel
theorem dX19_run_42 : decode cX19_run 42 = .ok (.iconst 0, 1) := by decide +kernel
theorem dX19_run_43 : decode cX19_run 43 = .ok (.ireturn, 1) := by decide +kernel
theorem dX19_run_44 : decode cX19_run 44 = .ok (.aload_n 0, 1) := by decide +kernel
theorem dX19_run_45 : decode cX19_run 45 = .ok (.aload_n 0, 1) := by decide +kernel
theorem dX19_run_46 : decode cX19_run 46 = .ok (.getfield 234, 3) := by decide +kernel
theorem dX19_run_49 : decode cX19_run 49 = .ok (.invokevirtual 266, 3) := by decide +kernel
theorem dX19_run_52 : decode cX19_run 52 = .ok (.aload_n 0, 1) := by decide +kernel
theorem dX19_run_53 : decode cX19_run 53 = .ok (.aload_n 0, 1) := by decide +kernel
theorem dX19_run_54 : decode cX19_run 54 = .ok (.getfield 236, 3) := by decide +kernel
theorem dX19_run_57 : decode cX19_run 57 = .ok (.ifCond .eq 7, 3) := by decide +kernel
theorem dX19_run_60 : decode cX19_run 60 = .ok (.iconst 5, 1) := by decide +kernel
theorem dX19_run_61 : decode cX19_run 61 = .ok (.goto 4, 3) := by decide +kernel
theorem dX19_run_64 : decode cX19_run 64 = .ok (.iconst 0, 1) := by decide +kernel
theorem dX19_run_65 : decode cX19_run 65 = .ok (.putfield 285, 3) := by decide +kernel
theorem dX19_run_68 : decode cX19_run 68 = .ok (.aload_n 0, 1) := by decide +kernel
theorem dX19_run_69 : decode cX19_run 69 = .ok (.iconst 0, 1) := by decide +kernel
theorem dX19_run_70 : decode cX19_run 70 = .ok (.putfield 236, 3) := by decide +kernel
theorem dX19_run_73 : decode cX19_run 73 = .ok (.iconst 0, 1) := by decide +kernel
theorem dX19_run_74 : decode cX19_run 74 = .ok (.istore_n 3, 1) := by decide +kernel
theorem dX19_run_75 : decode cX19_run 75 = .ok (.iload_n 3, 1) := by decide +kernel
theorem dX19_run_76 : decode cX19_run 76 = .ok (.iload_n 1, 1) := by decide +kernel
theorem dX19_run_77 : decode cX19_run 77 = .ok (.if_icmp .ge 160, 3) := by decide +kernel
theorem dX19_run_80 : decode cX19_run 80 = .ok (.aload_n 0, 1) := by decide +kernel
theorem dX19_run_81 : decode cX19_run 81 = .ok (.getfield 285, 3) := by decide +kernel
theorem dX19_run_84 : decode cX19_run 84 = .ok (.ifCond .ne 153, 3) := by decide +kernel
theorem dX19_run_87 : decode cX19_run 87 = .ok (.aload_n 0, 1) := by decide +kernel
theorem dX19_run_88 : decode cX19_run 88 = .ok (.getfield 234, 3) := by decide +kernel
theorem dX19_run_91 : decode cX19_run 91 = .ok (.ldc_w 288, 3) := by decide +kernel
theorem dX19_run_94 : decode cX19_run 94 = .ok (.if_icmp .ne 11, 3) := by decide +kernel
theorem dX19_run_97 : decode cX19_run 97 = .ok (.aload_n 0, 1) := by decide +kernel
theorem dX19_run_98 : decode cX19_run 98 = .ok (.iconst 4, 1) := by decide +kernel
theorem dX19_run_99 : decode cX19_run 99 = .ok (.putfield 285, 3) := by decide +kernel
theorem dX19_run_102 : decode cX19_run 102 = .ok (.goto 37, 3) := by decide +kernel
theorem dX19_run_105 : decode cX19_run 105 = .ok (.aload_n 0, 1) := by decide +kernel
theorem dX19_run_106 : decode cX19_run 106 = .ok (.getfield 58, 3) := by decide +kernel
theorem dX19_run_109 : decode cX19_run 109 = .ok (.iconst 2, 1) := by decide +kernel
theorem dX19_run_110 : decode cX19_run 110 = .ok (.invokevirtual 289, 3) := by decide +kernel
theorem dX19_run_113 : decode cX19_run 113 = .ok (.ldc2_w 292, 3) := by decide +kernel
theorem dX19_run_116 : decode cX19_run 116 = .ok (.lcmp, 1) := by decide +kernel
theorem dX19_run_117 : decode cX19_run 117 = .ok (.ifCond .ne 22, 3) := by decide +kernel
theorem dX19_run_120 : decode cX19_run 120 = .ok (.aload_n 0, 1) := by decide +kernel
theorem dX19_run_121 : decode cX19_run 121 = .ok (.aload_n 0, 1) := by decide +kernel
theorem dX19_run_122 : decode cX19_run 122 = .ok (.getfield 58, 3) := by decide +kernel
theorem dX19_run_125 : decode cX19_run 125 = .ok (.invokevirtual 294, 3) := by decide +kernel
theorem dX19_run_128 : decode cX19_run 128 = .ok (.ifCond .eq 7, 3) := by decide +kernel
theorem dX19_run_131 : decode cX19_run 131 = .ok (.iconst 1, 1) := by decide +kernel
theorem dX19_run_132 : decode cX19_run 132 = .ok (.goto 4, 3) := by decide +kernel
theorem dX19_run_135 : decode cX19_run 135 = .ok (.iconst 2, 1) := by decide +kernel
theorem dX19_run_136 : decode cX19_run 136 = .ok (.putfield 285, 3) := by decide +kernel
theorem dX19_run_139 : decode cX19_run 139 = .ok (.aload_n 0, 1) := by decide +kernel
theorem dX19_run_140 : decode cX19_run 140 = .ok (.getfield 285, 3) := by decide +kernel
theorem dX19_run_143 : decode cX19_run 143 = .ok (.ifCond .le 6, 3) := by decide +kernel
theorem dX19_run_146 : decode cX19_run 146 = .ok (.goto (-71), 3) := by decide +kernel
theorem dX19_run_149 : decode cX19_run 149 = .ok (.aload_n 0, 1) := by decide +kernel
theorem dX19_run_150 : decode cX19_run 150 = .ok (.invokevirtual 297, 3) := by decide +kernel
theorem dX19_run_153 : decode cX19_run 153 = .ok (.aload_n 0, 1) := by decide +kernel
theorem dX19_run_154 : decode cX19_run 154 = .ok (.invokevirtual 209, 3) := by decide +kernel
theorem dX19_run_157 : decode cX19_run 157 = .ok (.pop, 1) := by decide +kernel
theorem dX19_run_158 : decode cX19_run 158 = .ok (.aload_n 0, 1) := by decide +kernel
theorem dX19_run_159 : decode cX19_run 159 = .ok (.dup, 1) := by decide +kernel
theorem dX19_run_160 : decode cX19_run 160 = .ok (.getfield 234, 3) := by decide +kernel
theorem dX19_run_163 : decode cX19_run 163 = .ok (.iconst 1, 1) := by decide +kernel
theorem dX19_run_164 : decode cX19_run 164 = .ok (.iadd, 1) := by decide +kernel
theorem dX19_run_165 : decode cX19_run 165 = .ok (.putfield 234, 3) := by decide +kernel
theorem dX19_run_168 : decode cX19_run 168 = .ok (.iinc 3 1, 3) := by decide +kernel
theorem dX19_run_171 : decode cX19_run 171 = .ok (.iconst 1, 1) := by decide +kernel
theorem dX19_run_172 : decode cX19_run 172 = .ok (.istore 4, 2) := by decide +kernel
theorem dX19_run_174 : decode cX19_run 174 = .ok (.aload_n 0, 1) := by decide +kernel
theorem dX19_run_175 : decode cX19_run 175 = .ok (.getfield 234, 3) := by decide +kernel
theorem dX19_run_178 : decode cX19_run 178 = .ok (.aload_n 0, 1) := by decide +kernel
theorem dX19_run_179 : decode cX19_run 179 = .ok (.getfield 210, 3) := by decide +kernel
theorem dX19_run_182 : decode cX19_run 182 = .ok (.if_icmp .le 17, 3) := by decide +kernel
theorem dX19_run_185 : decode cX19_run 185 = .ok (.aload_n 0, 1) := by decide +kernel
theorem dX19_run_186 : decode cX19_run 186 = .ok (.aload_n 0, 1) := by decide +kernel
theorem dX19_run_187 : decode cX19_run 187 = .ok (.getfield 234, 3) := by decide +kernel
theorem dX19_run_190 : decode cX19_run 190 = .ok (.putfield 210, 3) := by decide +kernel
theorem dX19_run_193 : decode cX19_run 193 = .ok (.aload_n 0, 1) := by decide +kernel
theorem dX19_run_194 : decode cX19_run 194 = .ok (.invokevirtual 252, 3) := by decide +kernel
theorem dX19_run_197 : decode cX19_run 197 = .ok (.istore 4, 2) := by decide +kernel
theorem dX19_run_199 : decode cX19_run 199 = .ok (.aload_n 0, 1) := by decide +kernel
theorem dX19_run_200 : decode cX19_run 200 = .ok (.invokevirtual 299, 3) := by decide +kernel
theorem dX19_run_203 : decode cX19_run 203 = .ok (.istore 5, 2) := by decide +kernel
theorem dX19_run_205 : decode cX19_run 205 = .ok (.aload_n 0, 1) := by decide +kernel
theorem dX19_run_206 : decode cX19_run 206 = .ok (.iload 4, 2) := by decide +kernel
theorem dX19_run_208 : decode cX19_run 208 = .ok (.ifCond .ne 7, 3) := by decide +kernel
theorem dX19_run_211 : decode cX19_run 211 = .ok (.iconst 5, 1) := by decide +kernel
theorem dX19_run_212 : decode cX19_run 212 = .ok (.goto 19, 3) := by decide +kernel
theorem dX19_run_215 : decode cX19_run 215 = .ok (.iload 5, 2) := by decide +kernel
theorem dX19_run_217 : decode cX19_run 217 = .ok (.ifCond .lt 13, 3) := by decide +kernel
theorem dX19_run_220 : decode cX19_run 220 = .ok (.iconst 3, 1) := by decide +kernel
theorem dX19_run_221 : decode cX19_run 221 = .ok (.bipush 8, 2) := by decide +kernel
theorem dX19_run_223 : decode cX19_run 223 = .ok (.iload 5, 2) := by decide +kernel
theorem dX19_run_225 : decode cX19_run 225 = .ok (.imul, 1) := by decide +kernel
theorem dX19_run_226 : decode cX19_run 226 = .ok (.iadd, 1) := by decide +kernel
theorem dX19_run_227 : decode cX19_run 227 = .ok (.goto 4, 3) := by decide +kernel
theorem dX19_run_230 : decode cX19_run 230 = .ok (.iconst 0, 1) := by decide +kernel
theorem dX19_run_231 : decode cX19_run 231 = .ok (.putfield 285, 3) := by decide +kernel
theorem dX19_run_234 : decode cX19_run 234 = .ok (.goto (-159), 3) := by decide +kernel
theorem dX19_run_237 : decode cX19_run 237 = .ok (.iload_n 3, 1) := by decide +kernel
theorem dX19_run_238 : decode cX19_run 238 = .ok (.ireturn, 1) := by decide +kernel
theorem dX19_reason_0 : decode cX19_reason 0 = .ok (.aload_n 0, 1) := by decide +kernel
theorem dX19_reason_1 : decode cX19_reason 1 = .ok (.iconst 0, 1) := by decide +kernel
theorem dX19_reason_2 : decode cX19_reason 2 = .ok (.putfield 113, 3) := by decide +kernel
theorem dX19_reason_5 : decode cX19_reason 5 = .ok (.aload_n 0, 1) := by decide +kernel
