theorem dX15_half_90 : decode cX15_half 90 = .ok (.invokevirtual 174, 3) := by decide +kernel
theorem dX15_half_93 : decode cX15_half 93 = .ok (.return_, 1) := by decide +kernel
theorem dX15_truth_0 : decode cX15_truth 0 = .ok (.iload_n 0, 1) := by decide +kernel
theorem dX15_truth_1 : decode cX15_truth 1 = .ok (.ifCond .eq 7, 3) := by decide +kernel
theorem dX15_truth_4 : decode cX15_truth 4 = .ok (.lconst 1, 1) := by decide +kernel
theorem dX15_truth_5 : decode cX15_truth 5 = .ok (.goto 4, 3) := by decide +kernel
theorem dX15_truth_8 : decode cX15_truth 8 = .ok (.lconst 0, 1) := by decide +kernel
theorem dX15_truth_9 : decode cX15_truth 9 = .ok (.lreturn, 1) := by decide +kernel
theorem dX15_join_0 : decode cX15_join 0 = .ok (.aload_n 0, 1) := by decide +kernel
theorem dX15_join_1 : decode cX15_join 1 = .ok (.getfield 52, 3) := by decide +kernel
theorem dX15_join_4 : decode cX15_join 4 = .ok (.iload_n 1, 1) := by decide +kernel
theorem dX15_join_5 : decode cX15_join 5 = .ok (.iaload, 1) := by decide +kernel
theorem dX15_join_6 : decode cX15_join 6 = .ok (.istore_n 2, 1) := by decide +kernel
theorem dX15_join_7 : decode cX15_join 7 = .ok (.aload_n 0, 1) := by decide +kernel
theorem dX15_join_8 : decode cX15_join 8 = .ok (.getfield 21, 3) := by decide +kernel
theorem dX15_join_11 : decode cX15_join 11 = .ok (.iload_n 2, 1) := by decide +kernel
theorem dX15_join_12 : decode cX15_join 12 = .ok (.iaload, 1) := by decide +kernel
theorem dX15_join_13 : decode cX15_join 13 = .ok (.istore_n 3, 1) := by decide +kernel
theorem dX15_join_14 : decode cX15_join 14 = .ok (.aload_n 0, 1) := by decide +kernel
theorem dX15_join_15 : decode cX15_join 15 = .ok (.getfield 58, 3) := by decide +kernel
theorem dX15_join_18 : decode cX15_join 18 = .ok (.iload_n 1, 1) := by decide +kernel
theorem dX15_join_19 : decode cX15_join 19 = .ok (.laload, 1) := by decide +kernel
theorem dX15_join_20 : decode cX15_join 20 = .ok (.lstore 4, 2) := by decide +kernel
theorem dX15_join_22 : decode cX15_join 22 = .ok (.aload_n 0, 1) := by decide +kernel
theorem dX15_join_23 : decode cX15_join 23 = .ok (.getfield 167, 3) := by decide +kernel
theorem dX15_join_26 : decode cX15_join 26 = .ok (.lstore 6, 2) := by decide +kernel
theorem dX15_join_28 : decode cX15_join 28 = .ok (.iload_n 2, 1) := by decide +kernel
theorem dX15_join_29 : decode cX15_join 29 = .ok (.aload_n 0, 1) := by decide +kernel
theorem dX15_join_30 : decode cX15_join 30 = .ok (.getfield 46, 3) := by decide +kernel
theorem dX15_join_33 : decode cX15_join 33 = .ok (.iload_n 1, 1) := by decide +kernel
theorem dX15_join_34 : decode cX15_join 34 = .ok (.iaload, 1) := by decide +kernel
theorem dX15_join_35 : decode cX15_join 35 = .ok (.if_icmp .ne 7, 3) := by decide +kernel
theorem dX15_join_38 : decode cX15_join 38 = .ok (.iconst 1, 1) := by decide +kernel
theorem dX15_join_39 : decode cX15_join 39 = .ok (.goto 4, 3) := by decide +kernel
theorem dX15_join_42 : decode cX15_join 42 = .ok (.iconst 0, 1) := by decide +kernel
theorem dX15_join_43 : decode cX15_join 43 = .ok (.istore 8, 2) := by decide +kernel
theorem dX15_join_45 : decode cX15_join 45 = .ok (.iload 8, 2) := by decide +kernel
theorem dX15_join_47 : decode cX15_join 47 = .ok (.ifCond .eq 19, 3) := by decide +kernel
theorem dX15_join_50 : decode cX15_join 50 = .ok (.iload_n 3, 1) := by decide +kernel
theorem dX15_join_51 : decode cX15_join 51 = .ok (.bipush 24, 2) := by decide +kernel
theorem dX15_join_53 : decode cX15_join 53 = .ok (.if_icmp .ne 13, 3) := by decide +kernel
theorem dX15_join_56 : decode cX15_join 56 = .ok (.aload_n 0, 1) := by decide +kernel
theorem dX15_join_57 : decode cX15_join 57 = .ok (.lload 6, 2) := by decide +kernel
theorem dX15_join_59 : decode cX15_join 59 = .ok (.lneg, 1) := by decide +kernel
theorem dX15_join_60 : decode cX15_join 60 = .ok (.invokevirtual 191, 3) := by decide +kernel
theorem dX15_join_63 : decode cX15_join 63 = .ok (.goto 149, 3) := by decide +kernel
theorem dX15_join_66 : decode cX15_join 66 = .ok (.iload_n 3, 1) := by decide +kernel
theorem dX15_join_67 : decode cX15_join 67 = .ok (.bipush 28, 2) := by decide +kernel
theorem dX15_join_69 : decode cX15_join 69 = .ok (.if_icmp .ne 25, 3) := by decide +kernel
theorem dX15_join_72 : decode cX15_join 72 = .ok (.aload_n 0, 1) := by decide +kernel
theorem dX15_join_73 : decode cX15_join 73 = .ok (.lload 6, 2) := by decide +kernel
theorem dX15_join_75 : decode cX15_join 75 = .ok (.lconst 0, 1) := by decide +kernel
theorem dX15_join_76 : decode cX15_join 76 = .ok (.lcmp, 1) := by decide +kernel
theorem dX15_join_77 : decode cX15_join 77 = .ok (.ifCond .ne 7, 3) := by decide +kernel
theorem dX15_join_80 : decode cX15_join 80 = .ok (.iconst 1, 1) := by decide +kernel
theorem dX15_join_81 : decode cX15_join 81 = .ok (.goto 4, 3) := by decide +kernel
theorem dX15_join_84 : decode cX15_join 84 = .ok (.iconst 0, 1) := by decide +kernel
theorem dX15_join_85 : decode cX15_join 85 = .ok (.invokestatic 207, 3) := by decide +kernel
theorem dX15_join_88 : decode cX15_join 88 = .ok (.invokevirtual 191, 3) := by decide +kernel
theorem dX15_join_91 : decode cX15_join 91 = .ok (.goto 121, 3) := by decide +kernel
theorem dX15_join_94 : decode cX15_join 94 = .ok (.iload_n 3, 1) := by decide +kernel
theorem dX15_join_95 : decode cX15_join 95 = .ok (.bipush 29, 2) := by decide +kernel
theorem dX15_join_97 : decode cX15_join 97 = .ok (.if_icmp .ne 16, 3) := by decide +kernel
theorem dX15_join_100 : decode cX15_join 100 = .ok (.aload_n 0, 1) := by decide +kernel
theorem dX15_join_101 : decode cX15_join 101 = .ok (.lload 6, 2) := by decide +kernel
theorem dX15_join_103 : decode cX15_join 103 = .ok (.ldc2_w 211, 3) := by decide +kernel
theorem dX15_join_106 : decode cX15_join 106 = .ok (.lxor, 1) := by decide +kernel
theorem dX15_join_107 : decode cX15_join 107 = .ok (.invokevirtual 191, 3) := by decide +kernel
theorem dX15_join_110 : decode cX15_join 110 = .ok (.goto 102, 3) := by decide +kernel
theorem dX15_join_113 : decode cX15_join 113 = .ok (.iload_n 3, 1) := by decide +kernel
theorem dX15_join_114 : decode cX15_join 114 = .ok (.bipush 32, 2) := by decide +kernel
theorem dX15_join_116 : decode cX15_join 116 = .ok (.if_icmp .eq 15, 3) := by decide +kernel
theorem dX15_join_119 : decode cX15_join 119 = .ok (.iload_n 3, 1) := by decide +kernel
theorem dX15_join_120 : decode cX15_join 120 = .ok (.bipush 6, 2) := by decide +kernel
theorem dX15_join_122 : decode cX15_join 122 = .ok (.if_icmp .eq 9, 3) := by decide +kernel
theorem dX15_join_125 : decode cX15_join 125 = .ok (.iload_n 3, 1) := by decide +kernel
theorem dX15_join_126 : decode cX15_join 126 = .ok (.bipush 7, 2) := by decide +kernel
theorem dX15_join_128 : decode cX15_join 128 = .ok (.if_icmp .ne 13, 3) := by decide +kernel
theorem dX15_join_131 : decode cX15_join 131 = .ok (.aload_n 0, 1) := by decide +kernel
theorem dX15_join_132 : decode cX15_join 132 = .ok (.iload_n 3, 1) := by decide +kernel
theorem dX15_join_133 : decode cX15_join 133 = .ok (.lload 6, 2) := by decide +kernel
theorem dX15_join_135 : decode cX15_join 135 = .ok (.invokevirtual 213, 3) := by decide +kernel
theorem dX15_join_138 : decode cX15_join 138 = .ok (.goto 74, 3) := by decide +kernel
theorem dX15_join_141 : decode cX15_join 141 = .ok (.iload_n 3, 1) := by decide +kernel
theorem dX15_join_142 : decode cX15_join 142 = .ok (.bipush 9, 2) := by decide +kernel
theorem dX15_join_144 : decode cX15_join 144 = .ok (.if_icmp .ne 30, 3) := by decide +kernel
theorem dX15_join_147 : decode cX15_join 147 = .ok (.aload_n 0, 1) := by decide +kernel
theorem dX15_join_148 : decode cX15_join 148 = .ok (.lload 6, 2) := by decide +kernel
theorem dX15_join_150 : decode cX15_join 150 = .ok (.aload_n 0, 1) := by decide +kernel
theorem dX15_join_151 : decode cX15_join 151 = .ok (.getfield 31, 3) := by decide +kernel
theorem dX15_join_154 : decode cX15_join 154 = .ok (.iload_n 2, 1) := by decide +kernel
theorem dX15_join_155 : decode cX15_join 155 = .ok (.laload, 1) := by decide +kernel
theorem dX15_join_156 : decode cX15_join 156 = .ok (.lcmp, 1) := by decide +kernel
theorem dX15_join_157 : decode cX15_join 157 = .ok (.ifCond .eq 7, 3) := by decide +kernel
theorem dX15_join_160 : decode cX15_join 160 = .ok (.iconst 1, 1) := by decide +kernel
theorem dX15_join_161 : decode cX15_join 161 = .ok (.goto 4, 3) := by decide +kernel
theorem dX15_join_164 : decode cX15_join 164 = .ok (.iconst 0, 1) := by decide +kernel
theorem dX15_join_165 : decode cX15_join 165 = .ok (.invokestatic 207, 3) := by decide +kernel
theorem dX15_join_168 : decode cX15_join 168 = .ok (.invokevirtual 191, 3) := by decide +kernel
theorem dX15_join_171 : decode cX15_join 171 = .ok (.goto 41, 3) := by decide +kernel
theorem dX15_join_174 : decode cX15_join 174 = .ok (.iload_n 3, 1) := by decide +kernel
theorem dX15_join_175 : decode cX15_join 175 = .ok (.bipush 26, 2) := by decide +kernel
theorem dX15_join_177 : decode cX15_join 177 = .ok (.if_icmp .eq 9, 3) := by decide +kernel
theorem dX15_join_180 : decode cX15_join 180 = .ok (.iload_n 3, 1) := by decide +kernel
theorem dX15_join_181 : decode cX15_join 181 = .ok (.bipush 27, 2) := by decide +kernel
theorem dX15_join_183 : decode cX15_join 183 = .ok (.if_icmp .ne 17, 3) := by decide +kernel
theorem dX15_join_186 : decode cX15_join 186 = .ok (.lload 6, 2) := by decide +kernel
theorem dX15_join_188 : decode cX15_join 188 = .ok (.lconst 0, 1) := by decide +kernel
theorem dX15_join_189 : decode cX15_join 189 = .ok (.lcmp, 1) := by decide +kernel
theorem dX15_join_190 : decode cX15_join 190 = .ok (.ifCond .ne 10, 3) := by decide +kernel
theorem dX15_join_193 : decode cX15_join 193 = .ok (.aload_n 0, 1) := by decide +kernel
theorem dX15_join_194 : decode cX15_join 194 = .ok (.invokevirtual 217, 3) := by decide +kernel
theorem dX15_join_197 : decode cX15_join 197 = .ok (.goto 15, 3) := by decide +kernel
theorem dX15_join_200 : decode cX15_join 200 = .ok (.aload_n 0, 1) := by decide +kernel
theorem dX15_join_201 : decode cX15_join 201 = .ok (.iload_n 3, 1) := by decide +kernel
theorem dX15_join_202 : decode cX15_join 202 = .ok (.lload 4, 2) := by decide +kernel
theorem dX15_join_204 : decode cX15_join 204 = .ok (.lload 6, 2) := by decide +kernel
theorem dX15_join_206 : decode cX15_join 206 = .ok (.invokestatic 220, 3) := by decide +kernel
theorem dX15_join_209 : decode cX15_join 209 = .ok (.invokevirtual 191, 3) := by decide +kernel
theorem dX15_join_212 : decode cX15_join 212 = .ok (.return_, 1) := by decide +kernel
theorem dX15_access_0 : decode cX15_access 0 = .ok (.iload_n 1, 1) := by decide +kernel
theorem dX15_access_1 : decode cX15_access 1 = .ok (.bipush 32, 2) := by decide +kernel
theorem dX15_access_3 : decode cX15_access 3 = .ok (.if_icmp .ne 7, 3) := by decide +kernel
theorem dX15_access_6 : decode cX15_access 6 = .ok (.iconst 4, 1) := by decide +kernel
theorem dX15_access_7 : decode cX15_access 7 = .ok (.goto 14, 3) := by decide +kernel
theorem dX15_access_10 : decode cX15_access 10 = .ok (.iload_n 1, 1) := by decide +kernel
theorem dX15_access_11 : decode cX15_access 11 = .ok (.bipush 7, 2) := by decide +kernel
theorem dX15_access_13 : decode cX15_access 13 = .ok (.if_icmp .ne 7, 3) := by decide +kernel
theorem dX15_access_16 : decode cX15_access 16 = .ok (.iconst 2, 1) := by decide +kernel
theorem dX15_access_17 : decode cX15_access 17 = .ok (.goto 4, 3) := by decide +kernel
theorem dX15_access_20 : decode cX15_access 20 = .ok (.iconst 1, 1) := by decide +kernel
theorem dX15_access_21 : decode cX15_access 21 = .ok (.istore 4, 2) := by decide +kernel
theorem dX15_access_23 : decode cX15_access 23 = .ok (.aload_n 0, 1) := by decide +kernel
theorem dX15_access_24 : decode cX15_access 24 = .ok (.getfield 61, 3) := by decide +kernel
theorem dX15_access_27 : decode cX15_access 27 = .ok (.lload_n 2, 1) := by decide +kernel
theorem dX15_access_28 : decode cX15_access 28 = .ok (.iload 4, 2) := by decide +kernel
theorem dX15_access_30 : decode cX15_access 30 = .ok (.invokevirtual 224, 3) := by decide +kernel
theorem dX15_access_33 : decode cX15_access 33 = .ok (.ifCond .ne 8, 3) := by decide +kernel
theorem dX15_access_36 : decode cX15_access 36 = .ok (.aload_n 0, 1) := by decide +kernel
theorem dX15_access_37 : decode cX15_access 37 = .ok (.invokevirtual 217, 3) := by decide +kernel
theorem dX15_access_40 : decode cX15_access 40 = .ok (.return_, 1) := by decide +kernel
theorem dX15_access_41 : decode cX15_access 41 = .ok (.iconst 0, 1) := by decide +kernel
theorem dX15_access_42 : decode cX15_access 42 = .ok (.istore 5, 2) := by decide +kernel
theorem dX15_access_44 : decode cX15_access 44 = .ok (.iconst 0, 1) := by decide +kernel
theorem dX15_access_45 : decode cX15_access 45 = .ok (.istore 6, 2) := by decide +kernel
theorem dX15_access_47 : decode cX15_access 47 = .ok (.iload 6, 2) := by decide +kernel
theorem dX15_access_49 : decode cX15_access 49 = .ok (.iload 4, 2) := by decide +kernel
theorem dX15_access_51 : decode cX15_access 51 = .ok (.if_icmp .ge 32, 3) := by decide +kernel
theorem dX15_access_54 : decode cX15_access 54 = .ok (.iload 5, 2) := by decide +kernel
theorem dX15_access_56 : decode cX15_access 56 = .ok (.aload_n 0, 1) := by decide +kernel
theorem dX15_access_57 : decode cX15_access 57 = .ok (.getfield 61, 3) := by decide +kernel
theorem dX15_access_60 : decode cX15_access 60 = .ok (.lload_n 2, 1) := by decide +kernel
theorem dX15_access_61 : decode cX15_access 61 = .ok (.l2i, 1) := by decide +kernel
theorem dX15_access_62 : decode cX15_access 62 = .ok (.iload 6, 2) := by decide +kernel
theorem dX15_access_64 : decode cX15_access 64 = .ok (.iadd, 1) := by decide +kernel
theorem dX15_access_65 : decode cX15_access 65 = .ok (.invokevirtual 228, 3) := by decide +kernel
theorem dX15_access_68 : decode cX15_access 68 = .ok (.bipush 8, 2) := by decide +kernel
theorem dX15_access_70 : decode cX15_access 70 = .ok (.iload 6, 2) := by decide +kernel
theorem dX15_access_72 : decode cX15_access 72 = .ok (.imul, 1) := by decide +kernel
theorem dX15_access_73 : decode cX15_access 73 = .ok (.ishl, 1) := by decide +kernel
theorem dX15_access_74 : decode cX15_access 74 = .ok (.ior, 1) := by decide +kernel
theorem dX15_access_75 : decode cX15_access 75 = .ok (.istore 5, 2) := by decide +kernel
theorem dX15_access_77 : decode cX15_access 77 = .ok (.iinc 6 1, 3) := by decide +kernel
theorem dX15_access_80 : decode cX15_access 80 = .ok (.goto (-33), 3) := by decide +kernel
theorem dX15_access_83 : decode cX15_access 83 = .ok (.aload_n 0, 1) := by decide +kernel
theorem dX15_access_84 : decode cX15_access 84 = .ok (.iload 4, 2) := by decide +kernel
theorem dX15_access_86 : decode cX15_access 86 = .ok (.iconst 2, 1) := by decide +kernel
theorem dX15_access_87 : decode cX15_access 87 = .ok (.if_icmp .ne 15, 3) := by decide +kernel
theorem dX15_access_90 : decode cX15_access 90 = .ok (.iload 5, 2) := by decide +kernel
theorem dX15_access_92 : decode cX15_access 92 = .ok (.bipush 16, 2) := by decide +kernel
theorem dX15_access_94 : decode cX15_access 94 = .ok (.ishl, 1) := by decide +kernel
theorem dX15_access_95 : decode cX15_access 95 = .ok (.bipush 16, 2) := by decide +kernel
theorem dX15_access_97 : decode cX15_access 97 = .ok (.ishr, 1) := by decide +kernel
theorem dX15_access_98 : decode cX15_access 98 = .ok (.i2l, 1) := by decide +kernel
theorem dX15_access_99 : decode cX15_access 99 = .ok (.goto 6, 3) := by decide +kernel
theorem dX15_access_102 : decode cX15_access 102 = .ok (.iload 5, 2) := by decide +kernel
theorem dX15_access_104 : decode cX15_access 104 = .ok (.i2l, 1) := by decide +kernel
theorem dX15_access_105 : decode cX15_access 105 = .ok (.invokevirtual 191, 3) := by decide +kernel
theorem dX15_access_108 : decode cX15_access 108 = .ok (.return_, 1) := by decide +kernel
theorem dX15_both_0 : decode cX15_both 0 = .ok (.iload_n 0, 1) := by decide +kernel
theorem dX15_both_1 : decode cX15_both 1 = .ok (.tableswitch 234 10 26 #[83, 83, 98, 113, 128, 143, 158, 173, 188, 192, 196, 200, 209, 218, 222, 226, 230], 83) := by decide +kernel
theorem dX15_both_84 : decode cX15_both 84 = .ok (.lload_n 3, 1) := by decide +kernel
theorem dX15_both_85 : decode cX15_both 85 = .ok (.lconst 0, 1) := by decide +kernel
theorem dX15_both_86 : decode cX15_both 86 = .ok (.lcmp, 1) := by decide +kernel
theorem dX15_both_87 : decode cX15_both 87 = .ok (.ifCond .eq 7, 3) := by decide +kernel
theorem dX15_both_90 : decode cX15_both 90 = .ok (.iconst 1, 1) := by decide +kernel
theorem dX15_both_91 : decode cX15_both 91 = .ok (.goto 4, 3) := by decide +kernel
theorem dX15_both_94 : decode cX15_both 94 = .ok (.iconst 0, 1) := by decide +kernel
theorem dX15_both_95 : decode cX15_both 95 = .ok (.invokestatic 207, 3) := by decide +kernel
theorem dX15_both_98 : decode cX15_both 98 = .ok (.lreturn, 1) := by decide +kernel
theorem dX15_both_99 : decode cX15_both 99 = .ok (.lload_n 1, 1) := by decide +kernel
theorem dX15_both_100 : decode cX15_both 100 = .ok (.lload_n 3, 1) := by decide +kernel
theorem dX15_both_101 : decode cX15_both 101 = .ok (.lcmp, 1) := by decide +kernel
theorem dX15_both_102 : decode cX15_both 102 = .ok (.ifCond .ne 7, 3) := by decide +kernel
theorem dX15_both_105 : decode cX15_both 105 = .ok (.iconst 1, 1) := by decide +kernel
theorem dX15_both_106 : decode cX15_both 106 = .ok (.goto 4, 3) := by decide +kernel
theorem dX15_both_109 : decode cX15_both 109 = .ok (.iconst 0, 1) := by decide +kernel
theorem dX15_both_110 : decode cX15_both 110 = .ok (.invokestatic 207, 3) := by decide +kernel
theorem dX15_both_113 : decode cX15_both 113 = .ok (.lreturn, 1) := by decide +kernel
theorem dX15_both_114 : decode cX15_both 114 = .ok (.lload_n 1, 1) := by decide +kernel
theorem dX15_both_115 : decode cX15_both 115 = .ok (.lload_n 3, 1) := by decide +kernel
theorem dX15_both_116 : decode cX15_both 116 = .ok (.lcmp, 1) := by decide +kernel
theorem dX15_both_117 : decode cX15_both 117 = .ok (.ifCond .eq 7, 3) := by decide +kernel
theorem dX15_both_120 : decode cX15_both 120 = .ok (.iconst 1, 1) := by decide +kernel
theorem dX15_both_121 : decode cX15_both 121 = .ok (.goto 4, 3) := by decide +kernel
theorem dX15_both_124 : decode cX15_both 124 = .ok (.iconst 0, 1) := by decide +kernel
theorem dX15_both_125 : decode cX15_both 125 = .ok (.invokestatic 207, 3) := by decide +kernel
theorem dX15_both_128 : decode cX15_both 128 = .ok (.lreturn, 1) := by decide +kernel
theorem dX15_both_129 : decode cX15_both 129 = .ok (.lload_n 1, 1) := by decide +kernel
theorem dX15_both_130 : decode cX15_both 130 = .ok (.lload_n 3, 1) := by decide +kernel
theorem dX15_both_131 : decode cX15_both 131 = .ok (.lcmp, 1) := by decide +kernel
theorem dX15_both_132 : decode cX15_both 132 = .ok (.ifCond .ge 7, 3) := by decide +kernel
theorem dX15_both_135 : decode cX15_both 135 = .ok (.iconst 1, 1) := by decide +kernel
theorem dX15_both_136 : decode cX15_both 136 = .ok (.goto 4, 3) := by decide +kernel
theorem dX15_both_139 : decode cX15_both 139 = .ok (.iconst 0, 1) := by decide +kernel
theorem dX15_both_140 : decode cX15_both 140 = .ok (.invokestatic 207, 3) := by decide +kernel
theorem dX15_both_143 : decode cX15_both 143 = .ok (.lreturn, 1) := by decide +kernel
theorem dX15_both_144 : decode cX15_both 144 = .ok (.lload_n 1, 1) := by decide +kernel
theorem dX15_both_145 : decode cX15_both 145 = .ok (.lload_n 3, 1) := by decide +kernel
theorem dX15_both_146 : decode cX15_both 146 = .ok (.lcmp, 1) := by decide +kernel
theorem dX15_both_147 : decode cX15_both 147 = .ok (.ifCond .gt 7, 3) := by decide +kernel
theorem dX15_both_150 : decode cX15_both 150 = .ok (.iconst 1, 1) := by decide +kernel
theorem dX15_both_151 : decode cX15_both 151 = .ok (.goto 4, 3) := by decide +kernel
theorem dX15_both_154 : decode cX15_both 154 = .ok (.iconst 0, 1) := by decide +kernel
theorem dX15_both_155 : decode cX15_both 155 = .ok (.invokestatic 207, 3) := by decide +kernel
theorem dX15_both_158 : decode cX15_both 158 = .ok (.lreturn, 1) := by decide +kernel
theorem dX15_both_159 : decode cX15_both 159 = .ok (.lload_n 1, 1) := by decide +kernel
theorem dX15_both_160 : decode cX15_both 160 = .ok (.lload_n 3, 1) := by decide +kernel
theorem dX15_both_161 : decode cX15_both 161 = .ok (.lcmp, 1) := by decide +kernel
theorem dX15_both_162 : decode cX15_both 162 = .ok (.ifCond .le 7, 3) := by decide +kernel
theorem dX15_both_165 : decode cX15_both 165 = .ok (.iconst 1, 1) := by decide +kernel
theorem dX15_both_166 : decode cX15_both 166 = .ok (.goto 4, 3) := by decide +kernel
theorem dX15_both_169 : decode cX15_both 169 = .ok (.iconst 0, 1) := by decide +kernel
theorem dX15_both_170 : decode cX15_both 170 = .ok (.invokestatic 207, 3) := by decide +kernel
theorem dX15_both_173 : decode cX15_both 173 = .ok (.lreturn, 1) := by decide +kernel
theorem dX15_both_174 : decode cX15_both 174 = .ok (.lload_n 1, 1) := by decide +kernel
theorem dX15_both_175 : decode cX15_both 175 = .ok (.lload_n 3, 1) := by decide +kernel
theorem dX15_both_176 : decode cX15_both 176 = .ok (.lcmp, 1) := by decide +kernel
theorem dX15_both_177 : decode cX15_both 177 = .ok (.ifCond .lt 7, 3) := by decide +kernel
theorem dX15_both_180 : decode cX15_both 180 = .ok (.iconst 1, 1) := by decide +kernel
theorem dX15_both_181 : decode cX15_both 181 = .ok (.goto 4, 3) := by decide +kernel
theorem dX15_both_184 : decode cX15_both 184 = .ok (.iconst 0, 1) := by decide +kernel
theorem dX15_both_185 : decode cX15_both 185 = .ok (.invokestatic 207, 3) := by decide +kernel
theorem dX15_both_188 : decode cX15_both 188 = .ok (.lreturn, 1) := by decide +kernel
theorem dX15_both_189 : decode cX15_both 189 = .ok (.lload_n 1, 1) := by decide +kernel
theorem dX15_both_190 : decode cX15_both 190 = .ok (.lload_n 3, 1) := by decide +kernel
theorem dX15_both_191 : decode cX15_both 191 = .ok (.lor, 1) := by decide +kernel
theorem dX15_both_192 : decode cX15_both 192 = .ok (.lreturn, 1) := by decide +kernel
theorem dX15_both_193 : decode cX15_both 193 = .ok (.lload_n 1, 1) := by decide +kernel
theorem dX15_both_194 : decode cX15_both 194 = .ok (.lload_n 3, 1) := by decide +kernel
theorem dX15_both_195 : decode cX15_both 195 = .ok (.lxor, 1) := by decide +kernel
theorem dX15_both_196 : decode cX15_both 196 = .ok (.lreturn, 1) := by decide +kernel
theorem dX15_both_197 : decode cX15_both 197 = .ok (.lload_n 1, 1) := by decide +kernel
theorem dX15_both_198 : decode cX15_both 198 = .ok (.lload_n 3, 1) := by decide +kernel
theorem dX15_both_199 : decode cX15_both 199 = .ok (.land, 1) := by decide +kernel
theorem dX15_both_200 : decode cX15_both 200 = .ok (.lreturn, 1) := by decide +kernel
theorem dX15_both_201 : decode cX15_both 201 = .ok (.lload_n 1, 1) := by decide +kernel
theorem dX15_both_202 : decode cX15_both 202 = .ok (.lload_n 3, 1) := by decide +kernel
theorem dX15_both_203 : decode cX15_both 203 = .ok (.ldc2_w 231, 3) := by decide +kernel
theorem dX15_both_206 : decode cX15_both 206 = .ok (.land, 1) := by decide +kernel
theorem dX15_both_207 : decode cX15_both 207 = .ok (.l2i, 1) := by decide +kernel
theorem dX15_both_208 : decode cX15_both 208 = .ok (.lshl, 1) := by decide +kernel
theorem dX15_both_209 : decode cX15_both 209 = .ok (.lreturn, 1) := by decide +kernel
theorem dX15_both_210 : decode cX15_both 210 = .ok (.lload_n 1, 1) := by decide +kernel
theorem dX15_both_211 : decode cX15_both 211 = .ok (.lload_n 3, 1) := by decide +kernel
theorem dX15_both_212 : decode cX15_both 212 = .ok (.ldc2_w 231, 3) := by decide +kernel
theorem dX15_both_215 : decode cX15_both 215 = .ok (.land, 1) := by decide +kernel
theorem dX15_both_216 : decode cX15_both 216 = .ok (.l2i, 1) := by decide +kernel
theorem dX15_both_217 : decode cX15_both 217 = .ok (.lshr, 1) := by decide +kernel
theorem dX15_both_218 : decode cX15_both 218 = .ok (.lreturn, 1) := by decide +kernel
theorem dX15_both_219 : decode cX15_both 219 = .ok (.lload_n 1, 1) := by decide +kernel
theorem dX15_both_220 : decode cX15_both 220 = .ok (.lload_n 3, 1) := by decide +kernel
theorem dX15_both_221 : decode cX15_both 221 = .ok (.ladd, 1) := by decide +kernel
theorem dX15_both_222 : decode cX15_both 222 = .ok (.lreturn, 1) := by decide +kernel
theorem dX15_both_223 : decode cX15_both 223 = .ok (.lload_n 1, 1) := by decide +kernel
theorem dX15_both_224 : decode cX15_both 224 = .ok (.lload_n 3, 1) := by decide +kernel
theorem dX15_both_225 : decode cX15_both 225 = .ok (.lsub, 1) := by decide +kernel
theorem dX15_both_226 : decode cX15_both 226 = .ok (.lreturn, 1) := by decide +kernel
theorem dX15_both_227 : decode cX15_both 227 = .ok (.lload_n 1, 1) := by decide +kernel
theorem dX15_both_228 : decode cX15_both 228 = .ok (.lload_n 3, 1) := by decide +kernel
theorem dX15_both_229 : decode cX15_both 229 = .ok (.lmul, 1) := by decide +kernel
theorem dX15_both_230 : decode cX15_both 230 = .ok (.lreturn, 1) := by decide +kernel
theorem dX15_both_231 : decode cX15_both 231 = .ok (.lload_n 1, 1) := by decide +kernel
theorem dX15_both_232 : decode cX15_both 232 = .ok (.lload_n 3, 1) := by decide +kernel
theorem dX15_both_233 : decode cX15_both 233 = .ok (.ldiv, 1) := by decide +kernel
theorem dX15_both_234 : decode cX15_both 234 = .ok (.lreturn, 1) := by decide +kernel
theorem dX15_both_235 : decode cX15_both 235 = .ok (.lload_n 1, 1) := by decide +kernel
theorem dX15_both_236 : decode cX15_both 236 = .ok (.lload_n 3, 1) := by decide +kernel
theorem dX15_both_237 : decode cX15_both 237 = .ok (.lrem, 1) := by decide +kernel
theorem dX15_both_238 : decode cX15_both 238 = .ok (.lreturn, 1) := by decide +kernel
theorem dX15_remember_0 : decode cX15_remember 0 = .ok (.bipush 120, 2) := by decide +kernel
theorem dX15_remember_2 : decode cX15_remember 2 = .ok (.iload_n 1, 1) := by decide +kernel
theorem dX15_remember_3 : decode cX15_remember 3 = .ok (.imul, 1) := by decide +kernel
theorem dX15_remember_4 : decode cX15_remember 4 = .ok (.istore_n 2, 1) := by decide +kernel
theorem dX15_remember_5 : decode cX15_remember 5 = .ok (.iconst 0, 1) := by decide +kernel
theorem dX15_remember_6 : decode cX15_remember 6 = .ok (.istore_n 3, 1) := by decide +kernel
theorem dX15_remember_7 : decode cX15_remember 7 = .ok (.iload_n 3, 1) := by decide +kernel
theorem dX15_remember_8 : decode cX15_remember 8 = .ok (.aload_n 0, 1) := by decide +kernel
theorem dX15_remember_9 : decode cX15_remember 9 = .ok (.getfield 17, 3) := by decide +kernel
theorem dX15_remember_12 : decode cX15_remember 12 = .ok (.iload_n 1, 1) := by decide +kernel
theorem dX15_remember_13 : decode cX15_remember 13 = .ok (.iaload, 1) := by decide +kernel
theorem dX15_remember_14 : decode cX15_remember 14 = .ok (.if_icmp .ge 62, 3) := by decide +kernel
theorem dX15_remember_17 : decode cX15_remember 17 = .ok (.aload_n 0, 1) := by decide +kernel
theorem dX15_remember_18 : decode cX15_remember 18 = .ok (.getfield 21, 3) := by decide +kernel
theorem dX15_remember_21 : decode cX15_remember 21 = .ok (.iload_n 2, 1) := by decide +kernel
theorem dX15_remember_22 : decode cX15_remember 22 = .ok (.iload_n 3, 1) := by decide +kernel
theorem dX15_remember_23 : decode cX15_remember 23 = .ok (.iadd, 1) := by decide +kernel
theorem dX15_remember_24 : decode cX15_remember 24 = .ok (.iaload, 1) := by decide +kernel
theorem dX15_remember_25 : decode cX15_remember 25 = .ok (.bipush 8, 2) := by decide +kernel
theorem dX15_remember_27 : decode cX15_remember 27 = .ok (.if_icmp .eq 16, 3) := by decide +kernel
theorem dX15_remember_30 : decode cX15_remember 30 = .ok (.aload_n 0, 1) := by decide +kernel
theorem dX15_remember_31 : decode cX15_remember 31 = .ok (.getfield 21, 3) := by decide +kernel
theorem dX15_remember_34 : decode cX15_remember 34 = .ok (.iload_n 2, 1) := by decide +kernel
theorem dX15_remember_35 : decode cX15_remember 35 = .ok (.iload_n 3, 1) := by decide +kernel
theorem dX15_remember_36 : decode cX15_remember 36 = .ok (.iadd, 1) := by decide +kernel
theorem dX15_remember_37 : decode cX15_remember 37 = .ok (.iaload, 1) := by decide +kernel
theorem dX15_remember_38 : decode cX15_remember 38 = .ok (.bipush 9, 2) := by decide +kernel
theorem dX15_remember_40 : decode cX15_remember 40 = .ok (.if_icmp .ne 30, 3) := by decide +kernel
theorem dX15_remember_43 : decode cX15_remember 43 = .ok (.aload_n 0, 1) := by decide +kernel
theorem dX15_remember_44 : decode cX15_remember 44 = .ok (.getfield 31, 3) := by decide +kernel
theorem dX15_remember_47 : decode cX15_remember 47 = .ok (.iload_n 2, 1) := by decide +kernel
theorem dX15_remember_48 : decode cX15_remember 48 = .ok (.iload_n 3, 1) := by decide +kernel
theorem dX15_remember_49 : decode cX15_remember 49 = .ok (.iadd, 1) := by decide +kernel
theorem dX15_remember_50 : decode cX15_remember 50 = .ok (.aload_n 0, 1) := by decide +kernel
theorem dX15_remember_51 : decode cX15_remember 51 = .ok (.iload_n 2, 1) := by decide +kernel
theorem dX15_remember_52 : decode cX15_remember 52 = .ok (.iload_n 3, 1) := by decide +kernel
theorem dX15_remember_53 : decode cX15_remember 53 = .ok (.iadd, 1) := by decide +kernel
theorem dX15_remember_54 : decode cX15_remember 54 = .ok (.iconst 2, 1) := by decide +kernel
theorem dX15_remember_55 : decode cX15_remember 55 = .ok (.iadd, 1) := by decide +kernel
theorem dX15_remember_56 : decode cX15_remember 56 = .ok (.aload_n 0, 1) := by decide +kernel
theorem dX15_remember_57 : decode cX15_remember 57 = .ok (.getfield 24, 3) := by decide +kernel
theorem dX15_remember_60 : decode cX15_remember 60 = .ok (.iload_n 2, 1) := by decide +kernel
theorem dX15_remember_61 : decode cX15_remember 61 = .ok (.iload_n 3, 1) := by decide +kernel
theorem dX15_remember_62 : decode cX15_remember 62 = .ok (.iadd, 1) := by decide +kernel
theorem dX15_remember_63 : decode cX15_remember 63 = .ok (.iconst 1, 1) := by decide +kernel
theorem dX15_remember_64 : decode cX15_remember 64 = .ok (.iadd, 1) := by decide +kernel
theorem dX15_remember_65 : decode cX15_remember 65 = .ok (.iaload, 1) := by decide +kernel
theorem dX15_remember_66 : decode cX15_remember 66 = .ok (.invokevirtual 233, 3) := by decide +kernel
theorem dX15_remember_69 : decode cX15_remember 69 = .ok (.lastore, 1) := by decide +kernel
theorem dX15_remember_70 : decode cX15_remember 70 = .ok (.iinc 3 1, 3) := by decide +kernel
theorem dX15_remember_73 : decode cX15_remember 73 = .ok (.goto (-66), 3) := by decide +kernel
theorem dX15_remember_76 : decode cX15_remember 76 = .ok (.return_, 1) := by decide +kernel
theorem dX15_value_0 : decode cX15_value 0 = .ok (.aload_n 0, 1) := by decide +kernel
theorem dX15_value_1 : decode cX15_value 1 = .ok (.bipush 120, 2) := by decide +kernel
theorem dX15_value_3 : decode cX15_value 3 = .ok (.iload_n 1, 1) := by decide +kernel
theorem dX15_value_4 : decode cX15_value 4 = .ok (.imul, 1) := by decide +kernel
theorem dX15_value_5 : decode cX15_value 5 = .ok (.bipush 120, 2) := by decide +kernel
theorem dX15_value_7 : decode cX15_value 7 = .ok (.iload_n 1, 1) := by decide +kernel
theorem dX15_value_8 : decode cX15_value 8 = .ok (.imul, 1) := by decide +kernel
theorem dX15_value_9 : decode cX15_value 9 = .ok (.aload_n 0, 1) := by decide +kernel
