theorem dX5_take_99 : decode cX5_take 99 = .ok (.iload 4, 2) := by decide +kernel
theorem dX5_take_101 : decode cX5_take 101 = .ok (.iastore, 1) := by decide +kernel
theorem dX5_take_102 : decode cX5_take 102 = .ok (.return_, 1) := by decide +kernel
theorem dX5_settle_0 : decode cX5_settle 0 = .ok (.iconst 0, 1) := by decide +kernel
theorem dX5_settle_1 : decode cX5_settle 1 = .ok (.istore_n 1, 1) := by decide +kernel
theorem dX5_settle_2 : decode cX5_settle 2 = .ok (.iload_n 1, 1) := by decide +kernel
theorem dX5_settle_3 : decode cX5_settle 3 = .ok (.bipush 16, 2) := by decide +kernel
theorem dX5_settle_5 : decode cX5_settle 5 = .ok (.if_icmp .ge 75, 3) := by decide +kernel
theorem dX5_settle_8 : decode cX5_settle 8 = .ok (.aload_n 0, 1) := by decide +kernel
theorem dX5_settle_9 : decode cX5_settle 9 = .ok (.getfield 18, 3) := by decide +kernel
theorem dX5_settle_12 : decode cX5_settle 12 = .ok (.getfield 102, 3) := by decide +kernel
theorem dX5_settle_15 : decode cX5_settle 15 = .ok (.ifCond .le 65, 3) := by decide +kernel
theorem dX5_settle_18 : decode cX5_settle 18 = .ok (.aload_n 0, 1) := by decide +kernel
theorem dX5_settle_19 : decode cX5_settle 19 = .ok (.getfield 18, 3) := by decide +kernel
theorem dX5_settle_22 : decode cX5_settle 22 = .ok (.iload_n 1, 1) := by decide +kernel
theorem dX5_settle_23 : decode cX5_settle 23 = .ok (.invokevirtual 105, 3) := by decide +kernel
theorem dX5_settle_26 : decode cX5_settle 26 = .ok (.iconst 2, 1) := by decide +kernel
theorem dX5_settle_27 : decode cX5_settle 27 = .ok (.if_icmp .ne 47, 3) := by decide +kernel
theorem dX5_settle_30 : decode cX5_settle 30 = .ok (.aload_n 0, 1) := by decide +kernel
theorem dX5_settle_31 : decode cX5_settle 31 = .ok (.getfield 18, 3) := by decide +kernel
theorem dX5_settle_34 : decode cX5_settle 34 = .ok (.iload_n 1, 1) := by decide +kernel
theorem dX5_settle_35 : decode cX5_settle 35 = .ok (.invokevirtual 64, 3) := by decide +kernel
theorem dX5_settle_38 : decode cX5_settle 38 = .ok (.ifCond .ne 11, 3) := by decide +kernel
theorem dX5_settle_41 : decode cX5_settle 41 = .ok (.aload_n 0, 1) := by decide +kernel
theorem dX5_settle_42 : decode cX5_settle 42 = .ok (.iload_n 1, 1) := by decide +kernel
theorem dX5_settle_43 : decode cX5_settle 43 = .ok (.invokevirtual 108, 3) := by decide +kernel
theorem dX5_settle_46 : decode cX5_settle 46 = .ok (.ifCond .ne 28, 3) := by decide +kernel
theorem dX5_settle_49 : decode cX5_settle 49 = .ok (.aload_n 0, 1) := by decide +kernel
theorem dX5_settle_50 : decode cX5_settle 50 = .ok (.getfield 37, 3) := by decide +kernel
theorem dX5_settle_53 : decode cX5_settle 53 = .ok (.iload_n 1, 1) := by decide +kernel
theorem dX5_settle_54 : decode cX5_settle 54 = .ok (.bipush 7, 2) := by decide +kernel
theorem dX5_settle_56 : decode cX5_settle 56 = .ok (.imul, 1) := by decide +kernel
theorem dX5_settle_57 : decode cX5_settle 57 = .ok (.iconst 0, 1) := by decide +kernel
theorem dX5_settle_58 : decode cX5_settle 58 = .ok (.iadd, 1) := by decide +kernel
theorem dX5_settle_59 : decode cX5_settle 59 = .ok (.iconst 1, 1) := by decide +kernel
theorem dX5_settle_60 : decode cX5_settle 60 = .ok (.iastore, 1) := by decide +kernel
theorem dX5_settle_61 : decode cX5_settle 61 = .ok (.aload_n 0, 1) := by decide +kernel
theorem dX5_settle_62 : decode cX5_settle 62 = .ok (.getfield 18, 3) := by decide +kernel
theorem dX5_settle_65 : decode cX5_settle 65 = .ok (.dup, 1) := by decide +kernel
theorem dX5_settle_66 : decode cX5_settle 66 = .ok (.getfield 102, 3) := by decide +kernel
theorem dX5_settle_69 : decode cX5_settle 69 = .ok (.iconst 1, 1) := by decide +kernel
theorem dX5_settle_70 : decode cX5_settle 70 = .ok (.isub, 1) := by decide +kernel
theorem dX5_settle_71 : decode cX5_settle 71 = .ok (.putfield 102, 3) := by decide +kernel
theorem dX5_settle_74 : decode cX5_settle 74 = .ok (.iinc 1 1, 3) := by decide +kernel
theorem dX5_settle_77 : decode cX5_settle 77 = .ok (.goto (-75), 3) := by decide +kernel
theorem dX5_settle_80 : decode cX5_settle 80 = .ok (.aload_n 0, 1) := by decide +kernel
theorem dX5_settle_81 : decode cX5_settle 81 = .ok (.getfield 18, 3) := by decide +kernel
theorem dX5_settle_84 : decode cX5_settle 84 = .ok (.invokevirtual 112, 3) := by decide +kernel
theorem dX5_settle_87 : decode cX5_settle 87 = .ok (.return_, 1) := by decide +kernel
theorem dX5_mustWait_0 : decode cX5_mustWait 0 = .ok (.aload_n 0, 1) := by decide +kernel
theorem dX5_mustWait_1 : decode cX5_mustWait 1 = .ok (.iload_n 1, 1) := by decide +kernel
theorem dX5_mustWait_2 : decode cX5_mustWait 2 = .ok (.bipush 10, 2) := by decide +kernel
theorem dX5_mustWait_4 : decode cX5_mustWait 4 = .ok (.invokevirtual 115, 3) := by decide +kernel
theorem dX5_mustWait_7 : decode cX5_mustWait 7 = .ok (.istore_n 2, 1) := by decide +kernel
theorem dX5_mustWait_8 : decode cX5_mustWait 8 = .ok (.aload_n 0, 1) := by decide +kernel
theorem dX5_mustWait_9 : decode cX5_mustWait 9 = .ok (.iload_n 1, 1) := by decide +kernel
theorem dX5_mustWait_10 : decode cX5_mustWait 10 = .ok (.bipush 12, 2) := by decide +kernel
theorem dX5_mustWait_12 : decode cX5_mustWait 12 = .ok (.invokevirtual 115, 3) := by decide +kernel
theorem dX5_mustWait_15 : decode cX5_mustWait 15 = .ok (.istore_n 3, 1) := by decide +kernel
theorem dX5_mustWait_16 : decode cX5_mustWait 16 = .ok (.aload_n 0, 1) := by decide +kernel
theorem dX5_mustWait_17 : decode cX5_mustWait 17 = .ok (.iload_n 1, 1) := by decide +kernel
theorem dX5_mustWait_18 : decode cX5_mustWait 18 = .ok (.bipush 17, 2) := by decide +kernel
theorem dX5_mustWait_20 : decode cX5_mustWait 20 = .ok (.invokevirtual 115, 3) := by decide +kernel
theorem dX5_mustWait_23 : decode cX5_mustWait 23 = .ok (.lookupswitch 157 #[(3, 49), (6, 79), (7, 97), (19, 115), (21, 141)], 49) := by decide +kernel
theorem dX5_mustWait_72 : decode cX5_mustWait 72 = .ok (.aload_n 0, 1) := by decide +kernel
theorem dX5_mustWait_73 : decode cX5_mustWait 73 = .ok (.getfield 18, 3) := by decide +kernel
theorem dX5_mustWait_76 : decode cX5_mustWait 76 = .ok (.iload_n 1, 1) := by decide +kernel
theorem dX5_mustWait_77 : decode cX5_mustWait 77 = .ok (.iconst 1, 1) := by decide +kernel
theorem dX5_mustWait_78 : decode cX5_mustWait 78 = .ok (.invokevirtual 119, 3) := by decide +kernel
theorem dX5_mustWait_81 : decode cX5_mustWait 81 = .ok (.ifCond .lt 19, 3) := by decide +kernel
theorem dX5_mustWait_84 : decode cX5_mustWait 84 = .ok (.aload_n 0, 1) := by decide +kernel
theorem dX5_mustWait_85 : decode cX5_mustWait 85 = .ok (.getfield 18, 3) := by decide +kernel
theorem dX5_mustWait_88 : decode cX5_mustWait 88 = .ok (.iload_n 1, 1) := by decide +kernel
theorem dX5_mustWait_89 : decode cX5_mustWait 89 = .ok (.iconst 0, 1) := by decide +kernel
theorem dX5_mustWait_90 : decode cX5_mustWait 90 = .ok (.invokevirtual 119, 3) := by decide +kernel
theorem dX5_mustWait_93 : decode cX5_mustWait 93 = .ok (.ifCond .ge 7, 3) := by decide +kernel
theorem dX5_mustWait_96 : decode cX5_mustWait 96 = .ok (.iconst 1, 1) := by decide +kernel
theorem dX5_mustWait_97 : decode cX5_mustWait 97 = .ok (.goto 4, 3) := by decide +kernel
theorem dX5_mustWait_100 : decode cX5_mustWait 100 = .ok (.iconst 0, 1) := by decide +kernel
theorem dX5_mustWait_101 : decode cX5_mustWait 101 = .ok (.ireturn, 1) := by decide +kernel
theorem dX5_mustWait_102 : decode cX5_mustWait 102 = .ok (.aload_n 0, 1) := by decide +kernel
theorem dX5_mustWait_103 : decode cX5_mustWait 103 = .ok (.getfield 28, 3) := by decide +kernel
theorem dX5_mustWait_106 : decode cX5_mustWait 106 = .ok (.aload_n 0, 1) := by decide +kernel
theorem dX5_mustWait_107 : decode cX5_mustWait 107 = .ok (.getfield 28, 3) := by decide +kernel
theorem dX5_mustWait_110 : decode cX5_mustWait 110 = .ok (.iload_n 1, 1) := by decide +kernel
theorem dX5_mustWait_111 : decode cX5_mustWait 111 = .ok (.iload_n 2, 1) := by decide +kernel
theorem dX5_mustWait_112 : decode cX5_mustWait 112 = .ok (.invokevirtual 123, 3) := by decide +kernel
theorem dX5_mustWait_115 : decode cX5_mustWait 115 = .ok (.iload_n 3, 1) := by decide +kernel
theorem dX5_mustWait_116 : decode cX5_mustWait 116 = .ok (.invokevirtual 126, 3) := by decide +kernel
theorem dX5_mustWait_119 : decode cX5_mustWait 119 = .ok (.ireturn, 1) := by decide +kernel
theorem dX5_mustWait_120 : decode cX5_mustWait 120 = .ok (.aload_n 0, 1) := by decide +kernel
theorem dX5_mustWait_121 : decode cX5_mustWait 121 = .ok (.getfield 28, 3) := by decide +kernel
theorem dX5_mustWait_124 : decode cX5_mustWait 124 = .ok (.aload_n 0, 1) := by decide +kernel
theorem dX5_mustWait_125 : decode cX5_mustWait 125 = .ok (.getfield 28, 3) := by decide +kernel
theorem dX5_mustWait_128 : decode cX5_mustWait 128 = .ok (.iload_n 1, 1) := by decide +kernel
theorem dX5_mustWait_129 : decode cX5_mustWait 129 = .ok (.iload_n 2, 1) := by decide +kernel
theorem dX5_mustWait_130 : decode cX5_mustWait 130 = .ok (.invokevirtual 123, 3) := by decide +kernel
theorem dX5_mustWait_133 : decode cX5_mustWait 133 = .ok (.iload_n 3, 1) := by decide +kernel
theorem dX5_mustWait_134 : decode cX5_mustWait 134 = .ok (.invokevirtual 130, 3) := by decide +kernel
theorem dX5_mustWait_137 : decode cX5_mustWait 137 = .ok (.ireturn, 1) := by decide +kernel
theorem dX5_mustWait_138 : decode cX5_mustWait 138 = .ok (.aload_n 0, 1) := by decide +kernel
theorem dX5_mustWait_139 : decode cX5_mustWait 139 = .ok (.getfield 18, 3) := by decide +kernel
theorem dX5_mustWait_142 : decode cX5_mustWait 142 = .ok (.getfield 133, 3) := by decide +kernel
theorem dX5_mustWait_145 : decode cX5_mustWait 145 = .ok (.aload_n 0, 1) := by decide +kernel
theorem dX5_mustWait_146 : decode cX5_mustWait 146 = .ok (.getfield 18, 3) := by decide +kernel
theorem dX5_mustWait_149 : decode cX5_mustWait 149 = .ok (.getfield 137, 3) := by decide +kernel
theorem dX5_mustWait_152 : decode cX5_mustWait 152 = .ok (.iload_n 1, 1) := by decide +kernel
theorem dX5_mustWait_153 : decode cX5_mustWait 153 = .ok (.laload, 1) := by decide +kernel
theorem dX5_mustWait_154 : decode cX5_mustWait 154 = .ok (.lcmp, 1) := by decide +kernel
theorem dX5_mustWait_155 : decode cX5_mustWait 155 = .ok (.ifCond .ge 7, 3) := by decide +kernel
theorem dX5_mustWait_158 : decode cX5_mustWait 158 = .ok (.iconst 1, 1) := by decide +kernel
theorem dX5_mustWait_159 : decode cX5_mustWait 159 = .ok (.goto 4, 3) := by decide +kernel
theorem dX5_mustWait_162 : decode cX5_mustWait 162 = .ok (.iconst 0, 1) := by decide +kernel
theorem dX5_mustWait_163 : decode cX5_mustWait 163 = .ok (.ireturn, 1) := by decide +kernel
theorem dX5_mustWait_164 : decode cX5_mustWait 164 = .ok (.aload_n 0, 1) := by decide +kernel
theorem dX5_mustWait_165 : decode cX5_mustWait 165 = .ok (.getfield 18, 3) := by decide +kernel
theorem dX5_mustWait_168 : decode cX5_mustWait 168 = .ok (.getfield 141, 3) := by decide +kernel
theorem dX5_mustWait_171 : decode cX5_mustWait 171 = .ok (.ifCond .ne 7, 3) := by decide +kernel
theorem dX5_mustWait_174 : decode cX5_mustWait 174 = .ok (.iconst 1, 1) := by decide +kernel
theorem dX5_mustWait_175 : decode cX5_mustWait 175 = .ok (.goto 4, 3) := by decide +kernel
theorem dX5_mustWait_178 : decode cX5_mustWait 178 = .ok (.iconst 0, 1) := by decide +kernel
theorem dX5_mustWait_179 : decode cX5_mustWait 179 = .ok (.ireturn, 1) := by decide +kernel
theorem dX5_mustWait_180 : decode cX5_mustWait 180 = .ok (.iconst 0, 1) := by decide +kernel
theorem dX5_mustWait_181 : decode cX5_mustWait 181 = .ok (.ireturn, 1) := by decide +kernel
theorem dX5_come_0 : decode cX5_come 0 = .ok (.lload_n 2, 1) := by decide +kernel
theorem dX5_come_1 : decode cX5_come 1 = .ok (.l2i, 1) := by decide +kernel
theorem dX5_come_2 : decode cX5_come 2 = .ok (.bipush 15, 2) := by decide +kernel
theorem dX5_come_4 : decode cX5_come 4 = .ok (.iand, 1) := by decide +kernel
theorem dX5_come_5 : decode cX5_come 5 = .ok (.istore 6, 2) := by decide +kernel
theorem dX5_come_7 : decode cX5_come 7 = .ok (.iload_n 1, 1) := by decide +kernel
theorem dX5_come_8 : decode cX5_come 8 = .ok (.tableswitch 167 0 3 #[32, 69, 84, 148], 32) := by decide +kernel
theorem dX5_come_40 : decode cX5_come 40 = .ok (.aload_n 0, 1) := by decide +kernel
theorem dX5_come_41 : decode cX5_come 41 = .ok (.getfield 18, 3) := by decide +kernel
theorem dX5_come_44 : decode cX5_come 44 = .ok (.iload 6, 2) := by decide +kernel
theorem dX5_come_46 : decode cX5_come 46 = .ok (.invokevirtual 105, 3) := by decide +kernel
theorem dX5_come_49 : decode cX5_come 49 = .ok (.iconst 1, 1) := by decide +kernel
theorem dX5_come_50 : decode cX5_come 50 = .ok (.if_icmp .ne 7, 3) := by decide +kernel
theorem dX5_come_53 : decode cX5_come 53 = .ok (.iconst 1, 1) := by decide +kernel
theorem dX5_come_54 : decode cX5_come 54 = .ok (.goto 4, 3) := by decide +kernel
theorem dX5_come_57 : decode cX5_come 57 = .ok (.iconst 0, 1) := by decide +kernel
theorem dX5_come_58 : decode cX5_come 58 = .ok (.istore 5, 2) := by decide +kernel
theorem dX5_come_60 : decode cX5_come 60 = .ok (.iload 5, 2) := by decide +kernel
theorem dX5_come_62 : decode cX5_come 62 = .ok (.ifCond .eq 124, 3) := by decide +kernel
theorem dX5_come_65 : decode cX5_come 65 = .ok (.aload_n 0, 1) := by decide +kernel
theorem dX5_come_66 : decode cX5_come 66 = .ok (.getfield 18, 3) := by decide +kernel
theorem dX5_come_69 : decode cX5_come 69 = .ok (.iload 6, 2) := by decide +kernel
theorem dX5_come_71 : decode cX5_come 71 = .ok (.invokevirtual 144, 3) := by decide +kernel
theorem dX5_come_74 : decode cX5_come 74 = .ok (.goto 112, 3) := by decide +kernel
theorem dX5_come_77 : decode cX5_come 77 = .ok (.aload_n 0, 1) := by decide +kernel
theorem dX5_come_78 : decode cX5_come 78 = .ok (.getfield 28, 3) := by decide +kernel
theorem dX5_come_81 : decode cX5_come 81 = .ok (.lload_n 2, 1) := by decide +kernel
theorem dX5_come_82 : decode cX5_come 82 = .ok (.iload 4, 2) := by decide +kernel
theorem dX5_come_84 : decode cX5_come 84 = .ok (.invokevirtual 148, 3) := by decide +kernel
theorem dX5_come_87 : decode cX5_come 87 = .ok (.istore 5, 2) := by decide +kernel
theorem dX5_come_89 : decode cX5_come 89 = .ok (.goto 97, 3) := by decide +kernel
theorem dX5_come_92 : decode cX5_come 92 = .ok (.aload_n 0, 1) := by decide +kernel
theorem dX5_come_93 : decode cX5_come 93 = .ok (.getfield 18, 3) := by decide +kernel
theorem dX5_come_96 : decode cX5_come 96 = .ok (.iload 6, 2) := by decide +kernel
theorem dX5_come_98 : decode cX5_come 98 = .ok (.invokevirtual 105, 3) := by decide +kernel
theorem dX5_come_101 : decode cX5_come 101 = .ok (.istore 7, 2) := by decide +kernel
theorem dX5_come_103 : decode cX5_come 103 = .ok (.iload 4, 2) := by decide +kernel
theorem dX5_come_105 : decode cX5_come 105 = .ok (.bipush 16, 2) := by decide +kernel
theorem dX5_come_107 : decode cX5_come 107 = .ok (.if_icmp .ge 19, 3) := by decide +kernel
theorem dX5_come_110 : decode cX5_come 110 = .ok (.iload 7, 2) := by decide +kernel
theorem dX5_come_112 : decode cX5_come 112 = .ok (.iconst 1, 1) := by decide +kernel
theorem dX5_come_113 : decode cX5_come 113 = .ok (.if_icmp .eq 9, 3) := by decide +kernel
theorem dX5_come_116 : decode cX5_come 116 = .ok (.iload 7, 2) := by decide +kernel
theorem dX5_come_118 : decode cX5_come 118 = .ok (.iconst 2, 1) := by decide +kernel
theorem dX5_come_119 : decode cX5_come 119 = .ok (.if_icmp .ne 7, 3) := by decide +kernel
theorem dX5_come_122 : decode cX5_come 122 = .ok (.iconst 1, 1) := by decide +kernel
theorem dX5_come_123 : decode cX5_come 123 = .ok (.goto 4, 3) := by decide +kernel
theorem dX5_come_126 : decode cX5_come 126 = .ok (.iconst 0, 1) := by decide +kernel
theorem dX5_come_127 : decode cX5_come 127 = .ok (.istore 5, 2) := by decide +kernel
theorem dX5_come_129 : decode cX5_come 129 = .ok (.iload 5, 2) := by decide +kernel
theorem dX5_come_131 : decode cX5_come 131 = .ok (.ifCond .eq 55, 3) := by decide +kernel
theorem dX5_come_134 : decode cX5_come 134 = .ok (.aload_n 0, 1) := by decide +kernel
theorem dX5_come_135 : decode cX5_come 135 = .ok (.getfield 37, 3) := by decide +kernel
theorem dX5_come_138 : decode cX5_come 138 = .ok (.iload 6, 2) := by decide +kernel
theorem dX5_come_140 : decode cX5_come 140 = .ok (.bipush 7, 2) := by decide +kernel
theorem dX5_come_142 : decode cX5_come 142 = .ok (.imul, 1) := by decide +kernel
theorem dX5_come_143 : decode cX5_come 143 = .ok (.iconst 3, 1) := by decide +kernel
theorem dX5_come_144 : decode cX5_come 144 = .ok (.iadd, 1) := by decide +kernel
theorem dX5_come_145 : decode cX5_come 145 = .ok (.dup2, 1) := by decide +kernel
theorem dX5_come_146 : decode cX5_come 146 = .ok (.iaload, 1) := by decide +kernel
theorem dX5_come_147 : decode cX5_come 147 = .ok (.iconst 1, 1) := by decide +kernel
theorem dX5_come_148 : decode cX5_come 148 = .ok (.iload 4, 2) := by decide +kernel
theorem dX5_come_150 : decode cX5_come 150 = .ok (.ishl, 1) := by decide +kernel
theorem dX5_come_151 : decode cX5_come 151 = .ok (.ior, 1) := by decide +kernel
theorem dX5_come_152 : decode cX5_come 152 = .ok (.iastore, 1) := by decide +kernel
theorem dX5_come_153 : decode cX5_come 153 = .ok (.goto 33, 3) := by decide +kernel
theorem dX5_come_156 : decode cX5_come 156 = .ok (.iconst 1, 1) := by decide +kernel
theorem dX5_come_157 : decode cX5_come 157 = .ok (.istore 5, 2) := by decide +kernel
theorem dX5_come_159 : decode cX5_come 159 = .ok (.aload_n 0, 1) := by decide +kernel
theorem dX5_come_160 : decode cX5_come 160 = .ok (.getfield 18, 3) := by decide +kernel
theorem dX5_come_163 : decode cX5_come 163 = .ok (.dup, 1) := by decide +kernel
theorem dX5_come_164 : decode cX5_come 164 = .ok (.getfield 133, 3) := by decide +kernel
theorem dX5_come_167 : decode cX5_come 167 = .ok (.lload_n 2, 1) := by decide +kernel
theorem dX5_come_168 : decode cX5_come 168 = .ok (.ladd, 1) := by decide +kernel
theorem dX5_come_169 : decode cX5_come 169 = .ok (.putfield 133, 3) := by decide +kernel
theorem dX5_come_172 : decode cX5_come 172 = .ok (.goto 14, 3) := by decide +kernel
theorem dX5_come_175 : decode cX5_come 175 = .ok (.aload_n 0, 1) := by decide +kernel
theorem dX5_come_176 : decode cX5_come 176 = .ok (.getfield 18, 3) := by decide +kernel
theorem dX5_come_179 : decode cX5_come 179 = .ok (.lload_n 2, 1) := by decide +kernel
theorem dX5_come_180 : decode cX5_come 180 = .ok (.l2i, 1) := by decide +kernel
theorem dX5_come_181 : decode cX5_come 181 = .ok (.invokevirtual 152, 3) := by decide +kernel
theorem dX5_come_184 : decode cX5_come 184 = .ok (.istore 5, 2) := by decide +kernel
theorem dX5_come_186 : decode cX5_come 186 = .ok (.aload_n 0, 1) := by decide +kernel
theorem dX5_come_187 : decode cX5_come 187 = .ok (.invokevirtual 83, 3) := by decide +kernel
theorem dX5_come_190 : decode cX5_come 190 = .ok (.iload 5, 2) := by decide +kernel
theorem dX5_come_192 : decode cX5_come 192 = .ok (.ireturn, 1) := by decide +kernel
theorem dX5_argument_0 : decode cX5_argument 0 = .ok (.aload_n 0, 1) := by decide +kernel
theorem dX5_argument_1 : decode cX5_argument 1 = .ok (.getfield 33, 3) := by decide +kernel
theorem dX5_argument_4 : decode cX5_argument 4 = .ok (.iload_n 1, 1) := by decide +kernel
theorem dX5_argument_5 : decode cX5_argument 5 = .ok (.bipush 33, 2) := by decide +kernel
theorem dX5_argument_7 : decode cX5_argument 7 = .ok (.imul, 1) := by decide +kernel
theorem dX5_argument_8 : decode cX5_argument 8 = .ok (.iload_n 2, 1) := by decide +kernel
theorem dX5_argument_9 : decode cX5_argument 9 = .ok (.iadd, 1) := by decide +kernel
theorem dX5_argument_10 : decode cX5_argument 10 = .ok (.iaload, 1) := by decide +kernel
theorem dX5_argument_11 : decode cX5_argument 11 = .ok (.ireturn, 1) := by decide +kernel
theorem dX5_answer_0 : decode cX5_answer 0 = .ok (.lload_n 2, 1) := by decide +kernel
theorem dX5_answer_1 : decode cX5_answer 1 = .ok (.ldc2_w 155, 3) := by decide +kernel
theorem dX5_answer_4 : decode cX5_answer 4 = .ok (.lcmp, 1) := by decide +kernel
theorem dX5_answer_5 : decode cX5_answer 5 = .ok (.ifCond .ne 6, 3) := by decide +kernel
theorem dX5_answer_8 : decode cX5_answer 8 = .ok (.bipush 7, 2) := by decide +kernel
theorem dX5_answer_10 : decode cX5_answer 10 = .ok (.ireturn, 1) := by decide +kernel
theorem dX5_answer_11 : decode cX5_answer 11 = .ok (.lload_n 2, 1) := by decide +kernel
theorem dX5_answer_12 : decode cX5_answer 12 = .ok (.ldc2_w 157, 3) := by decide +kernel
theorem dX5_answer_15 : decode cX5_answer 15 = .ok (.lcmp, 1) := by decide +kernel
theorem dX5_answer_16 : decode cX5_answer 16 = .ok (.ifCond .ne 31, 3) := by decide +kernel
theorem dX5_answer_19 : decode cX5_answer 19 = .ok (.aload_n 0, 1) := by decide +kernel
theorem dX5_answer_20 : decode cX5_answer 20 = .ok (.getfield 37, 3) := by decide +kernel
theorem dX5_answer_23 : decode cX5_answer 23 = .ok (.iload_n 1, 1) := by decide +kernel
theorem dX5_answer_24 : decode cX5_answer 24 = .ok (.bipush 7, 2) := by decide +kernel
theorem dX5_answer_26 : decode cX5_answer 26 = .ok (.imul, 1) := by decide +kernel
theorem dX5_answer_27 : decode cX5_answer 27 = .ok (.iconst 0, 1) := by decide +kernel
theorem dX5_answer_28 : decode cX5_answer 28 = .ok (.iadd, 1) := by decide +kernel
theorem dX5_answer_29 : decode cX5_answer 29 = .ok (.iconst 2, 1) := by decide +kernel
theorem dX5_answer_30 : decode cX5_answer 30 = .ok (.iastore, 1) := by decide +kernel
theorem dX5_answer_31 : decode cX5_answer 31 = .ok (.aload_n 0, 1) := by decide +kernel
theorem dX5_answer_32 : decode cX5_answer 32 = .ok (.getfield 18, 3) := by decide +kernel
theorem dX5_answer_35 : decode cX5_answer 35 = .ok (.dup, 1) := by decide +kernel
theorem dX5_answer_36 : decode cX5_answer 36 = .ok (.getfield 102, 3) := by decide +kernel
theorem dX5_answer_39 : decode cX5_answer 39 = .ok (.iconst 1, 1) := by decide +kernel
theorem dX5_answer_40 : decode cX5_answer 40 = .ok (.iadd, 1) := by decide +kernel
theorem dX5_answer_41 : decode cX5_answer 41 = .ok (.putfield 102, 3) := by decide +kernel
theorem dX5_answer_44 : decode cX5_answer 44 = .ok (.goto 41, 3) := by decide +kernel
theorem dX5_answer_47 : decode cX5_answer 47 = .ok (.lload_n 2, 1) := by decide +kernel
theorem dX5_answer_48 : decode cX5_answer 48 = .ok (.ldc2_w 159, 3) := by decide +kernel
theorem dX5_answer_51 : decode cX5_answer 51 = .ok (.lcmp, 1) := by decide +kernel
theorem dX5_answer_52 : decode cX5_answer 52 = .ok (.ifCond .eq 33, 3) := by decide +kernel
theorem dX5_answer_55 : decode cX5_answer 55 = .ok (.aload_n 0, 1) := by decide +kernel
theorem dX5_answer_56 : decode cX5_answer 56 = .ok (.getfield 33, 3) := by decide +kernel
theorem dX5_answer_59 : decode cX5_answer 59 = .ok (.iload_n 1, 1) := by decide +kernel
theorem dX5_answer_60 : decode cX5_answer 60 = .ok (.bipush 33, 2) := by decide +kernel
theorem dX5_answer_62 : decode cX5_answer 62 = .ok (.imul, 1) := by decide +kernel
theorem dX5_answer_63 : decode cX5_answer 63 = .ok (.bipush 10, 2) := by decide +kernel
theorem dX5_answer_65 : decode cX5_answer 65 = .ok (.iadd, 1) := by decide +kernel
theorem dX5_answer_66 : decode cX5_answer 66 = .ok (.lload_n 2, 1) := by decide +kernel
theorem dX5_answer_67 : decode cX5_answer 67 = .ok (.l2i, 1) := by decide +kernel
theorem dX5_answer_68 : decode cX5_answer 68 = .ok (.iastore, 1) := by decide +kernel
theorem dX5_answer_69 : decode cX5_answer 69 = .ok (.aload_n 0, 1) := by decide +kernel
theorem dX5_answer_70 : decode cX5_answer 70 = .ok (.getfield 33, 3) := by decide +kernel
theorem dX5_answer_73 : decode cX5_answer 73 = .ok (.iload_n 1, 1) := by decide +kernel
theorem dX5_answer_74 : decode cX5_answer 74 = .ok (.bipush 33, 2) := by decide +kernel
theorem dX5_answer_76 : decode cX5_answer 76 = .ok (.imul, 1) := by decide +kernel
theorem dX5_answer_77 : decode cX5_answer 77 = .ok (.bipush 32, 2) := by decide +kernel
theorem dX5_answer_79 : decode cX5_answer 79 = .ok (.iadd, 1) := by decide +kernel
theorem dX5_answer_80 : decode cX5_answer 80 = .ok (.dup2, 1) := by decide +kernel
theorem dX5_answer_81 : decode cX5_answer 81 = .ok (.iaload, 1) := by decide +kernel
theorem dX5_answer_82 : decode cX5_answer 82 = .ok (.iconst 4, 1) := by decide +kernel
theorem dX5_answer_83 : decode cX5_answer 83 = .ok (.iadd, 1) := by decide +kernel
theorem dX5_answer_84 : decode cX5_answer 84 = .ok (.iastore, 1) := by decide +kernel
theorem dX5_answer_85 : decode cX5_answer 85 = .ok (.iconst 0, 1) := by decide +kernel
theorem dX5_answer_86 : decode cX5_answer 86 = .ok (.ireturn, 1) := by decide +kernel
theorem dX5_fork_0 : decode cX5_fork 0 = .ok (.iconst 0, 1) := by decide +kernel
theorem dX5_fork_1 : decode cX5_fork 1 = .ok (.istore_n 2, 1) := by decide +kernel
theorem dX5_fork_2 : decode cX5_fork 2 = .ok (.iload_n 2, 1) := by decide +kernel
theorem dX5_fork_3 : decode cX5_fork 3 = .ok (.bipush 16, 2) := by decide +kernel
theorem dX5_fork_5 : decode cX5_fork 5 = .ok (.if_icmp .ge 41, 3) := by decide +kernel
theorem dX5_fork_8 : decode cX5_fork 8 = .ok (.aload_n 0, 1) := by decide +kernel
theorem dX5_fork_9 : decode cX5_fork 9 = .ok (.getfield 18, 3) := by decide +kernel
theorem dX5_fork_12 : decode cX5_fork 12 = .ok (.iload_n 2, 1) := by decide +kernel
theorem dX5_fork_13 : decode cX5_fork 13 = .ok (.invokevirtual 105, 3) := by decide +kernel
theorem dX5_fork_16 : decode cX5_fork 16 = .ok (.ifCond .ne 24, 3) := by decide +kernel
theorem dX5_fork_19 : decode cX5_fork 19 = .ok (.aload_n 0, 1) := by decide +kernel
theorem dX5_fork_20 : decode cX5_fork 20 = .ok (.getfield 18, 3) := by decide +kernel
theorem dX5_fork_23 : decode cX5_fork 23 = .ok (.iload_n 1, 1) := by decide +kernel
theorem dX5_fork_24 : decode cX5_fork 24 = .ok (.iload_n 2, 1) := by decide +kernel
theorem dX5_fork_25 : decode cX5_fork 25 = .ok (.invokevirtual 223, 3) := by decide +kernel
theorem dX5_fork_28 : decode cX5_fork 28 = .ok (.aload_n 0, 1) := by decide +kernel
theorem dX5_fork_29 : decode cX5_fork 29 = .ok (.getfield 28, 3) := by decide +kernel
theorem dX5_fork_32 : decode cX5_fork 32 = .ok (.iload_n 1, 1) := by decide +kernel
theorem dX5_fork_33 : decode cX5_fork 33 = .ok (.iload_n 2, 1) := by decide +kernel
theorem dX5_fork_34 : decode cX5_fork 34 = .ok (.invokevirtual 225, 3) := by decide +kernel
theorem dX5_fork_37 : decode cX5_fork 37 = .ok (.iload_n 2, 1) := by decide +kernel
theorem dX5_fork_38 : decode cX5_fork 38 = .ok (.i2l, 1) := by decide +kernel
theorem dX5_fork_39 : decode cX5_fork 39 = .ok (.lreturn, 1) := by decide +kernel
theorem dX5_fork_40 : decode cX5_fork 40 = .ok (.iinc 2 1, 3) := by decide +kernel
theorem dX5_fork_43 : decode cX5_fork 43 = .ok (.goto (-41), 3) := by decide +kernel
theorem dX5_fork_46 : decode cX5_fork 46 = .ok (.ldc2_w 228, 3) := by decide +kernel
theorem dX5_fork_49 : decode cX5_fork 49 = .ok (.lreturn, 1) := by decide +kernel
theorem dX5_waitForChild_0 : decode cX5_waitForChild 0 = .ok (.aload_n 0, 1) := by decide +kernel
theorem dX5_waitForChild_1 : decode cX5_waitForChild 1 = .ok (.getfield 18, 3) := by decide +kernel
theorem dX5_waitForChild_4 : decode cX5_waitForChild 4 = .ok (.iload_n 1, 1) := by decide +kernel
theorem dX5_waitForChild_5 : decode cX5_waitForChild 5 = .ok (.iconst 1, 1) := by decide +kernel
theorem dX5_waitForChild_6 : decode cX5_waitForChild 6 = .ok (.invokevirtual 119, 3) := by decide +kernel
theorem dX5_waitForChild_9 : decode cX5_waitForChild 9 = .ok (.ifCond .ge 7, 3) := by decide +kernel
theorem dX5_waitForChild_12 : decode cX5_waitForChild 12 = .ok (.ldc2_w 246, 3) := by decide +kernel
theorem dX5_waitForChild_15 : decode cX5_waitForChild 15 = .ok (.lreturn, 1) := by decide +kernel
theorem dX5_waitForChild_16 : decode cX5_waitForChild 16 = .ok (.aload_n 0, 1) := by decide +kernel
theorem dX5_waitForChild_17 : decode cX5_waitForChild 17 = .ok (.getfield 18, 3) := by decide +kernel
theorem dX5_waitForChild_20 : decode cX5_waitForChild 20 = .ok (.iload_n 1, 1) := by decide +kernel
theorem dX5_waitForChild_21 : decode cX5_waitForChild 21 = .ok (.iconst 0, 1) := by decide +kernel
theorem dX5_waitForChild_22 : decode cX5_waitForChild 22 = .ok (.invokevirtual 119, 3) := by decide +kernel
theorem dX5_waitForChild_25 : decode cX5_waitForChild 25 = .ok (.istore_n 2, 1) := by decide +kernel
theorem dX5_waitForChild_26 : decode cX5_waitForChild 26 = .ok (.iload_n 2, 1) := by decide +kernel
theorem dX5_waitForChild_27 : decode cX5_waitForChild 27 = .ok (.ifCond .ge 7, 3) := by decide +kernel
theorem dX5_waitForChild_30 : decode cX5_waitForChild 30 = .ok (.ldc2_w 157, 3) := by decide +kernel
theorem dX5_waitForChild_33 : decode cX5_waitForChild 33 = .ok (.lreturn, 1) := by decide +kernel
theorem dX5_waitForChild_34 : decode cX5_waitForChild 34 = .ok (.aload_n 0, 1) := by decide +kernel
theorem dX5_waitForChild_35 : decode cX5_waitForChild 35 = .ok (.getfield 37, 3) := by decide +kernel
theorem dX5_waitForChild_38 : decode cX5_waitForChild 38 = .ok (.iload_n 2, 1) := by decide +kernel
theorem dX5_waitForChild_39 : decode cX5_waitForChild 39 = .ok (.bipush 7, 2) := by decide +kernel
theorem dX5_waitForChild_41 : decode cX5_waitForChild 41 = .ok (.imul, 1) := by decide +kernel
theorem dX5_waitForChild_42 : decode cX5_waitForChild 42 = .ok (.iconst 2, 1) := by decide +kernel
theorem dX5_waitForChild_43 : decode cX5_waitForChild 43 = .ok (.iadd, 1) := by decide +kernel
theorem dX5_waitForChild_44 : decode cX5_waitForChild 44 = .ok (.iaload, 1) := by decide +kernel
theorem dX5_waitForChild_45 : decode cX5_waitForChild 45 = .ok (.istore_n 3, 1) := by decide +kernel
theorem dX5_waitForChild_46 : decode cX5_waitForChild 46 = .ok (.aload_n 0, 1) := by decide +kernel
theorem dX5_waitForChild_47 : decode cX5_waitForChild 47 = .ok (.getfield 18, 3) := by decide +kernel
theorem dX5_waitForChild_50 : decode cX5_waitForChild 50 = .ok (.iload_n 2, 1) := by decide +kernel
theorem dX5_waitForChild_51 : decode cX5_waitForChild 51 = .ok (.invokevirtual 248, 3) := by decide +kernel
theorem dX5_waitForChild_54 : decode cX5_waitForChild 54 = .ok (.iload_n 2, 1) := by decide +kernel
theorem dX5_waitForChild_55 : decode cX5_waitForChild 55 = .ok (.sipush 256, 3) := by decide +kernel
theorem dX5_waitForChild_58 : decode cX5_waitForChild 58 = .ok (.iload_n 3, 1) := by decide +kernel
theorem dX5_waitForChild_59 : decode cX5_waitForChild 59 = .ok (.imul, 1) := by decide +kernel
theorem dX5_waitForChild_60 : decode cX5_waitForChild 60 = .ok (.iadd, 1) := by decide +kernel
theorem dX5_waitForChild_61 : decode cX5_waitForChild 61 = .ok (.i2l, 1) := by decide +kernel
theorem dX5_waitForChild_62 : decode cX5_waitForChild 62 = .ok (.lreturn, 1) := by decide +kernel
theorem dX5_pipe_0 : decode cX5_pipe 0 = .ok (.iload_n 2, 1) := by decide +kernel
theorem dX5_pipe_1 : decode cX5_pipe 1 = .ok (.iconst 3, 1) := by decide +kernel
theorem dX5_pipe_2 : decode cX5_pipe 2 = .ok (.iand, 1) := by decide +kernel
theorem dX5_pipe_3 : decode cX5_pipe 3 = .ok (.ifCond .eq 7, 3) := by decide +kernel
theorem dX5_pipe_6 : decode cX5_pipe 6 = .ok (.ldc2_w 251, 3) := by decide +kernel
theorem dX5_pipe_9 : decode cX5_pipe 9 = .ok (.lreturn, 1) := by decide +kernel
theorem dX5_pipe_10 : decode cX5_pipe 10 = .ok (.aload_n 0, 1) := by decide +kernel
theorem dX5_pipe_11 : decode cX5_pipe 11 = .ok (.getfield 18, 3) := by decide +kernel
theorem dX5_pipe_14 : decode cX5_pipe 14 = .ok (.iload_n 1, 1) := by decide +kernel
theorem dX5_pipe_15 : decode cX5_pipe 15 = .ok (.iload_n 2, 1) := by decide +kernel
theorem dX5_pipe_16 : decode cX5_pipe 16 = .ok (.bipush 8, 2) := by decide +kernel
