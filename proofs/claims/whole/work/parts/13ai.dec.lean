theorem dX16_two_48 : decode cX16_two 48 = .ok (.ior, 1) := by decide +kernel
theorem dX16_two_49 : decode cX16_two 49 = .ok (.iload_n 0, 1) := by decide +kernel
theorem dX16_two_50 : decode cX16_two 50 = .ok (.iconst 2, 1) := by decide +kernel
theorem dX16_two_51 : decode cX16_two 51 = .ok (.iconst 2, 1) := by decide +kernel
theorem dX16_two_52 : decode cX16_two 52 = .ok (.bipush 6, 2) := by decide +kernel
theorem dX16_two_54 : decode cX16_two 54 = .ok (.invokestatic 300, 3) := by decide +kernel
theorem dX16_two_57 : decode cX16_two 57 = .ok (.ior, 1) := by decide +kernel
theorem dX16_two_58 : decode cX16_two 58 = .ok (.istore 5, 2) := by decide +kernel
theorem dX16_two_60 : decode cX16_two 60 = .ok (.iload_n 0, 1) := by decide +kernel
theorem dX16_two_61 : decode cX16_two 61 = .ok (.bipush 9, 2) := by decide +kernel
theorem dX16_two_63 : decode cX16_two 63 = .ok (.iconst 4, 1) := by decide +kernel
theorem dX16_two_64 : decode cX16_two 64 = .ok (.iconst 2, 1) := by decide +kernel
theorem dX16_two_65 : decode cX16_two 65 = .ok (.invokestatic 300, 3) := by decide +kernel
theorem dX16_two_68 : decode cX16_two 68 = .ok (.iload_n 0, 1) := by decide +kernel
theorem dX16_two_69 : decode cX16_two 69 = .ok (.bipush 7, 2) := by decide +kernel
theorem dX16_two_71 : decode cX16_two 71 = .ok (.iconst 2, 1) := by decide +kernel
theorem dX16_two_72 : decode cX16_two 72 = .ok (.bipush 6, 2) := by decide +kernel
theorem dX16_two_74 : decode cX16_two 74 = .ok (.invokestatic 300, 3) := by decide +kernel
theorem dX16_two_77 : decode cX16_two 77 = .ok (.ior, 1) := by decide +kernel
theorem dX16_two_78 : decode cX16_two 78 = .ok (.istore 6, 2) := by decide +kernel
theorem dX16_two_80 : decode cX16_two 80 = .ok (.iload_n 1, 1) := by decide +kernel
theorem dX16_two_81 : decode cX16_two 81 = .ok (.ifCond .ne 22, 3) := by decide +kernel
theorem dX16_two_84 : decode cX16_two 84 = .ok (.iload 4, 2) := by decide +kernel
theorem dX16_two_86 : decode cX16_two 86 = .ok (.ifCond .eq 7, 3) := by decide +kernel
theorem dX16_two_89 : decode cX16_two 89 = .ok (.iconst 0, 1) := by decide +kernel
theorem dX16_two_90 : decode cX16_two 90 = .ok (.goto 12, 3) := by decide +kernel
theorem dX16_two_93 : decode cX16_two 93 = .ok (.bipush 19, 2) := by decide +kernel
theorem dX16_two_95 : decode cX16_two 95 = .ok (.iconst 1, 1) := by decide +kernel
theorem dX16_two_96 : decode cX16_two 96 = .ok (.iload_n 2, 1) := by decide +kernel
theorem dX16_two_97 : decode cX16_two 97 = .ok (.iload_n 2, 1) := by decide +kernel
theorem dX16_two_98 : decode cX16_two 98 = .ok (.iload_n 3, 1) := by decide +kernel
theorem dX16_two_99 : decode cX16_two 99 = .ok (.invokestatic 313, 3) := by decide +kernel
theorem dX16_two_102 : decode cX16_two 102 = .ok (.ireturn, 1) := by decide +kernel
theorem dX16_two_103 : decode cX16_two 103 = .ok (.iload_n 1, 1) := by decide +kernel
theorem dX16_two_104 : decode cX16_two 104 = .ok (.iconst 2, 1) := by decide +kernel
theorem dX16_two_105 : decode cX16_two 105 = .ok (.if_icmp .ne 21, 3) := by decide +kernel
theorem dX16_two_108 : decode cX16_two 108 = .ok (.iload_n 2, 1) := by decide +kernel
theorem dX16_two_109 : decode cX16_two 109 = .ok (.ifCond .ne 7, 3) := by decide +kernel
theorem dX16_two_112 : decode cX16_two 112 = .ok (.iconst 0, 1) := by decide +kernel
theorem dX16_two_113 : decode cX16_two 113 = .ok (.goto 12, 3) := by decide +kernel
theorem dX16_two_116 : decode cX16_two 116 = .ok (.iconst 3, 1) := by decide +kernel
theorem dX16_two_117 : decode cX16_two 117 = .ok (.iconst 2, 1) := by decide +kernel
theorem dX16_two_118 : decode cX16_two 118 = .ok (.iload_n 2, 1) := by decide +kernel
theorem dX16_two_119 : decode cX16_two 119 = .ok (.iconst 2, 1) := by decide +kernel
theorem dX16_two_120 : decode cX16_two 120 = .ok (.iload 5, 2) := by decide +kernel
theorem dX16_two_122 : decode cX16_two 122 = .ok (.invokestatic 313, 3) := by decide +kernel
theorem dX16_two_125 : decode cX16_two 125 = .ok (.ireturn, 1) := by decide +kernel
theorem dX16_two_126 : decode cX16_two 126 = .ok (.iload_n 1, 1) := by decide +kernel
theorem dX16_two_127 : decode cX16_two 127 = .ok (.bipush 6, 2) := by decide +kernel
theorem dX16_two_129 : decode cX16_two 129 = .ok (.if_icmp .ne 11, 3) := by decide +kernel
theorem dX16_two_132 : decode cX16_two 132 = .ok (.iconst 2, 1) := by decide +kernel
theorem dX16_two_133 : decode cX16_two 133 = .ok (.iload_n 3, 1) := by decide +kernel
theorem dX16_two_134 : decode cX16_two 134 = .ok (.iload 6, 2) := by decide +kernel
theorem dX16_two_136 : decode cX16_two 136 = .ok (.invokestatic 317, 3) := by decide +kernel
theorem dX16_two_139 : decode cX16_two 139 = .ok (.ireturn, 1) := by decide +kernel
theorem dX16_two_140 : decode cX16_two 140 = .ok (.iload_n 1, 1) := by decide +kernel
theorem dX16_two_141 : decode cX16_two 141 = .ok (.iconst 4, 1) := by decide +kernel
theorem dX16_two_142 : decode cX16_two 142 = .ok (.if_icmp .eq 5, 3) := by decide +kernel
theorem dX16_two_145 : decode cX16_two 145 = .ok (.iconst 0, 1) := by decide +kernel
theorem dX16_two_146 : decode cX16_two 146 = .ok (.ireturn, 1) := by decide +kernel
theorem dX16_two_147 : decode cX16_two 147 = .ok (.iload_n 3, 1) := by decide +kernel
theorem dX16_two_148 : decode cX16_two 148 = .ok (.ifCond .le 21, 3) := by decide +kernel
theorem dX16_two_151 : decode cX16_two 151 = .ok (.iconst 0, 1) := by decide +kernel
theorem dX16_two_152 : decode cX16_two 152 = .ok (.iconst 0, 1) := by decide +kernel
theorem dX16_two_153 : decode cX16_two 153 = .ok (.iload_n 2, 1) := by decide +kernel
theorem dX16_two_154 : decode cX16_two 154 = .ok (.iload 4, 2) := by decide +kernel
theorem dX16_two_156 : decode cX16_two 156 = .ok (.ifCond .eq 7, 3) := by decide +kernel
theorem dX16_two_159 : decode cX16_two 159 = .ok (.iload_n 2, 1) := by decide +kernel
theorem dX16_two_160 : decode cX16_two 160 = .ok (.goto 4, 3) := by decide +kernel
theorem dX16_two_163 : decode cX16_two 163 = .ok (.iconst 0, 1) := by decide +kernel
theorem dX16_two_164 : decode cX16_two 164 = .ok (.iload_n 3, 1) := by decide +kernel
theorem dX16_two_165 : decode cX16_two 165 = .ok (.invokestatic 332, 3) := by decide +kernel
theorem dX16_two_168 : decode cX16_two 168 = .ok (.ireturn, 1) := by decide +kernel
theorem dX16_two_169 : decode cX16_two 169 = .ok (.iload_n 2, 1) := by decide +kernel
theorem dX16_two_170 : decode cX16_two 170 = .ok (.ifCond .ne 16, 3) := by decide +kernel
theorem dX16_two_173 : decode cX16_two 173 = .ok (.iload 4, 2) := by decide +kernel
theorem dX16_two_175 : decode cX16_two 175 = .ok (.ifCond .eq 9, 3) := by decide +kernel
theorem dX16_two_178 : decode cX16_two 178 = .ok (.ldc_w 335, 3) := by decide +kernel
theorem dX16_two_181 : decode cX16_two 181 = .ok (.goto 4, 3) := by decide +kernel
theorem dX16_two_184 : decode cX16_two 184 = .ok (.iconst 0, 1) := by decide +kernel
theorem dX16_two_185 : decode cX16_two 185 = .ok (.ireturn, 1) := by decide +kernel
theorem dX16_two_186 : decode cX16_two 186 = .ok (.bipush 103, 2) := by decide +kernel
theorem dX16_two_188 : decode cX16_two 188 = .ok (.iconst 0, 1) := by decide +kernel
theorem dX16_two_189 : decode cX16_two 189 = .ok (.iload 4, 2) := by decide +kernel
theorem dX16_two_191 : decode cX16_two 191 = .ok (.ifCond .eq 7, 3) := by decide +kernel
theorem dX16_two_194 : decode cX16_two 194 = .ok (.iconst 1, 1) := by decide +kernel
theorem dX16_two_195 : decode cX16_two 195 = .ok (.goto 4, 3) := by decide +kernel
theorem dX16_two_198 : decode cX16_two 198 = .ok (.iconst 0, 1) := by decide +kernel
theorem dX16_two_199 : decode cX16_two 199 = .ok (.iload_n 2, 1) := by decide +kernel
theorem dX16_two_200 : decode cX16_two 200 = .ok (.iconst 0, 1) := by decide +kernel
theorem dX16_two_201 : decode cX16_two 201 = .ok (.invokestatic 313, 3) := by decide +kernel
theorem dX16_two_204 : decode cX16_two 204 = .ok (.ireturn, 1) := by decide +kernel
theorem dX16_meet_0 : decode cX16_meet 0 = .ok (.aload_n 0, 1) := by decide +kernel
theorem dX16_meet_1 : decode cX16_meet 1 = .ok (.iload_n 1, 1) := by decide +kernel
theorem dX16_meet_2 : decode cX16_meet 2 = .ok (.putfield 336, 3) := by decide +kernel
theorem dX16_meet_5 : decode cX16_meet 5 = .ok (.iconst 0, 1) := by decide +kernel
theorem dX16_meet_6 : decode cX16_meet 6 = .ok (.ireturn, 1) := by decide +kernel
theorem dX16_illegal_0 : decode cX16_illegal 0 = .ok (.aload_n 0, 1) := by decide +kernel
theorem dX16_illegal_1 : decode cX16_illegal 1 = .ok (.iconst 2, 1) := by decide +kernel
theorem dX16_illegal_2 : decode cX16_illegal 2 = .ok (.invokevirtual 339, 3) := by decide +kernel
theorem dX16_illegal_5 : decode cX16_illegal 5 = .ok (.ireturn, 1) := by decide +kernel
theorem dX16_fetches_0 : decode cX16_fetches 0 = .ok (.aload_n 0, 1) := by decide +kernel
theorem dX16_fetches_1 : decode cX16_fetches 1 = .ok (.aload_n 0, 1) := by decide +kernel
theorem dX16_fetches_2 : decode cX16_fetches 2 = .ok (.getfield 232, 3) := by decide +kernel
theorem dX16_fetches_5 : decode cX16_fetches 5 = .ok (.iload_n 1, 1) := by decide +kernel
theorem dX16_fetches_6 : decode cX16_fetches 6 = .ok (.iconst 4, 1) := by decide +kernel
theorem dX16_fetches_7 : decode cX16_fetches 7 = .ok (.invokevirtual 218, 3) := by decide +kernel
theorem dX16_fetches_10 : decode cX16_fetches 10 = .ok (.ifCond .eq 22, 3) := by decide +kernel
theorem dX16_fetches_13 : decode cX16_fetches 13 = .ok (.aload_n 0, 1) := by decide +kernel
theorem dX16_fetches_14 : decode cX16_fetches 14 = .ok (.aload_n 0, 1) := by decide +kernel
theorem dX16_fetches_15 : decode cX16_fetches 15 = .ok (.getfield 232, 3) := by decide +kernel
theorem dX16_fetches_18 : decode cX16_fetches 18 = .ok (.iload_n 1, 1) := by decide +kernel
theorem dX16_fetches_19 : decode cX16_fetches 19 = .ok (.iconst 1, 1) := by decide +kernel
theorem dX16_fetches_20 : decode cX16_fetches 20 = .ok (.iadd, 1) := by decide +kernel
theorem dX16_fetches_21 : decode cX16_fetches 21 = .ok (.iconst 4, 1) := by decide +kernel
theorem dX16_fetches_22 : decode cX16_fetches 22 = .ok (.invokevirtual 218, 3) := by decide +kernel
theorem dX16_fetches_25 : decode cX16_fetches 25 = .ok (.ifCond .eq 7, 3) := by decide +kernel
theorem dX16_fetches_28 : decode cX16_fetches 28 = .ok (.iconst 1, 1) := by decide +kernel
theorem dX16_fetches_29 : decode cX16_fetches 29 = .ok (.goto 4, 3) := by decide +kernel
theorem dX16_fetches_32 : decode cX16_fetches 32 = .ok (.iconst 0, 1) := by decide +kernel
theorem dX16_fetches_33 : decode cX16_fetches 33 = .ok (.ireturn, 1) := by decide +kernel
theorem dX16_step_0 : decode cX16_step 0 = .ok (.aload_n 0, 1) := by decide +kernel
theorem dX16_step_1 : decode cX16_step 1 = .ok (.getfield 45, 3) := by decide +kernel
theorem dX16_step_4 : decode cX16_step 4 = .ok (.aload_n 0, 1) := by decide +kernel
theorem dX16_step_5 : decode cX16_step 5 = .ok (.getfield 232, 3) := by decide +kernel
theorem dX16_step_8 : decode cX16_step 8 = .ok (.iaload, 1) := by decide +kernel
theorem dX16_step_9 : decode cX16_step 9 = .ok (.istore_n 1, 1) := by decide +kernel
theorem dX16_step_10 : decode cX16_step 10 = .ok (.aload_n 0, 1) := by decide +kernel
theorem dX16_step_11 : decode cX16_step 11 = .ok (.iconst 0, 1) := by decide +kernel
theorem dX16_step_12 : decode cX16_step 12 = .ok (.putfield 336, 3) := by decide +kernel
theorem dX16_step_15 : decode cX16_step 15 = .ok (.iload_n 1, 1) := by decide +kernel
theorem dX16_step_16 : decode cX16_step 16 = .ok (.iconst 1, 1) := by decide +kernel
theorem dX16_step_17 : decode cX16_step 17 = .ok (.iand, 1) := by decide +kernel
theorem dX16_step_18 : decode cX16_step 18 = .ok (.iconst 1, 1) := by decide +kernel
theorem dX16_step_19 : decode cX16_step 19 = .ok (.if_icmp .eq 11, 3) := by decide +kernel
theorem dX16_step_22 : decode cX16_step 22 = .ok (.aload_n 0, 1) := by decide +kernel
theorem dX16_step_23 : decode cX16_step 23 = .ok (.iload_n 1, 1) := by decide +kernel
theorem dX16_step_24 : decode cX16_step 24 = .ok (.invokevirtual 342, 3) := by decide +kernel
theorem dX16_step_27 : decode cX16_step 27 = .ok (.ifCond .ne 5, 3) := by decide +kernel
theorem dX16_step_30 : decode cX16_step 30 = .ok (.iconst 1, 1) := by decide +kernel
theorem dX16_step_31 : decode cX16_step 31 = .ok (.ireturn, 1) := by decide +kernel
theorem dX16_step_32 : decode cX16_step 32 = .ok (.aload_n 0, 1) := by decide +kernel
theorem dX16_step_33 : decode cX16_step 33 = .ok (.aload_n 0, 1) := by decide +kernel
theorem dX16_step_34 : decode cX16_step 34 = .ok (.iload_n 1, 1) := by decide +kernel
theorem dX16_step_35 : decode cX16_step 35 = .ok (.invokevirtual 237, 3) := by decide +kernel
theorem dX16_step_38 : decode cX16_step 38 = .ok (.putfield 345, 3) := by decide +kernel
theorem dX16_step_41 : decode cX16_step 41 = .ok (.aload_n 0, 1) := by decide +kernel
theorem dX16_step_42 : decode cX16_step 42 = .ok (.aload_n 0, 1) := by decide +kernel
theorem dX16_step_43 : decode cX16_step 43 = .ok (.getfield 345, 3) := by decide +kernel
theorem dX16_step_46 : decode cX16_step 46 = .ok (.iconst 3, 1) := by decide +kernel
theorem dX16_step_47 : decode cX16_step 47 = .ok (.iand, 1) := by decide +kernel
theorem dX16_step_48 : decode cX16_step 48 = .ok (.iconst 3, 1) := by decide +kernel
theorem dX16_step_49 : decode cX16_step 49 = .ok (.if_icmp .ne 7, 3) := by decide +kernel
theorem dX16_step_52 : decode cX16_step 52 = .ok (.iconst 4, 1) := by decide +kernel
theorem dX16_step_53 : decode cX16_step 53 = .ok (.goto 4, 3) := by decide +kernel
theorem dX16_step_56 : decode cX16_step 56 = .ok (.iconst 2, 1) := by decide +kernel
theorem dX16_step_57 : decode cX16_step 57 = .ok (.putfield 348, 3) := by decide +kernel
theorem dX16_step_60 : decode cX16_step 60 = .ok (.aload_n 0, 1) := by decide +kernel
theorem dX16_step_61 : decode cX16_step 61 = .ok (.getfield 348, 3) := by decide +kernel
theorem dX16_step_64 : decode cX16_step 64 = .ok (.iconst 4, 1) := by decide +kernel
theorem dX16_step_65 : decode cX16_step 65 = .ok (.if_icmp .ne 15, 3) := by decide +kernel
theorem dX16_step_68 : decode cX16_step 68 = .ok (.aload_n 0, 1) := by decide +kernel
theorem dX16_step_69 : decode cX16_step 69 = .ok (.iload_n 1, 1) := by decide +kernel
theorem dX16_step_70 : decode cX16_step 70 = .ok (.iconst 2, 1) := by decide +kernel
theorem dX16_step_71 : decode cX16_step 71 = .ok (.iadd, 1) := by decide +kernel
theorem dX16_step_72 : decode cX16_step 72 = .ok (.invokevirtual 342, 3) := by decide +kernel
theorem dX16_step_75 : decode cX16_step 75 = .ok (.ifCond .ne 5, 3) := by decide +kernel
theorem dX16_step_78 : decode cX16_step 78 = .ok (.iconst 1, 1) := by decide +kernel
theorem dX16_step_79 : decode cX16_step 79 = .ok (.ireturn, 1) := by decide +kernel
theorem dX16_step_80 : decode cX16_step 80 = .ok (.aload_n 0, 1) := by decide +kernel
theorem dX16_step_81 : decode cX16_step 81 = .ok (.aload_n 0, 1) := by decide +kernel
theorem dX16_step_82 : decode cX16_step 82 = .ok (.getfield 348, 3) := by decide +kernel
theorem dX16_step_85 : decode cX16_step 85 = .ok (.iconst 4, 1) := by decide +kernel
theorem dX16_step_86 : decode cX16_step 86 = .ok (.if_icmp .ne 21, 3) := by decide +kernel
theorem dX16_step_89 : decode cX16_step 89 = .ok (.aload_n 0, 1) := by decide +kernel
theorem dX16_step_90 : decode cX16_step 90 = .ok (.getfield 345, 3) := by decide +kernel
theorem dX16_step_93 : decode cX16_step 93 = .ok (.aload_n 0, 1) := by decide +kernel
theorem dX16_step_94 : decode cX16_step 94 = .ok (.iload_n 1, 1) := by decide +kernel
theorem dX16_step_95 : decode cX16_step 95 = .ok (.iconst 2, 1) := by decide +kernel
theorem dX16_step_96 : decode cX16_step 96 = .ok (.iadd, 1) := by decide +kernel
theorem dX16_step_97 : decode cX16_step 97 = .ok (.invokevirtual 237, 3) := by decide +kernel
theorem dX16_step_100 : decode cX16_step 100 = .ok (.bipush 16, 2) := by decide +kernel
theorem dX16_step_102 : decode cX16_step 102 = .ok (.ishl, 1) := by decide +kernel
theorem dX16_step_103 : decode cX16_step 103 = .ok (.ior, 1) := by decide +kernel
theorem dX16_step_104 : decode cX16_step 104 = .ok (.goto 7, 3) := by decide +kernel
theorem dX16_step_107 : decode cX16_step 107 = .ok (.aload_n 0, 1) := by decide +kernel
theorem dX16_step_108 : decode cX16_step 108 = .ok (.getfield 345, 3) := by decide +kernel
theorem dX16_step_111 : decode cX16_step 111 = .ok (.putfield 345, 3) := by decide +kernel
theorem dX16_step_114 : decode cX16_step 114 = .ok (.aload_n 0, 1) := by decide +kernel
theorem dX16_step_115 : decode cX16_step 115 = .ok (.iload_n 1, 1) := by decide +kernel
theorem dX16_step_116 : decode cX16_step 116 = .ok (.aload_n 0, 1) := by decide +kernel
theorem dX16_step_117 : decode cX16_step 117 = .ok (.getfield 348, 3) := by decide +kernel
theorem dX16_step_120 : decode cX16_step 120 = .ok (.iadd, 1) := by decide +kernel
theorem dX16_step_121 : decode cX16_step 121 = .ok (.putfield 350, 3) := by decide +kernel
theorem dX16_step_124 : decode cX16_step 124 = .ok (.aload_n 0, 1) := by decide +kernel
theorem dX16_step_125 : decode cX16_step 125 = .ok (.getfield 348, 3) := by decide +kernel
theorem dX16_step_128 : decode cX16_step 128 = .ok (.iconst 4, 1) := by decide +kernel
theorem dX16_step_129 : decode cX16_step 129 = .ok (.if_icmp .ne 10, 3) := by decide +kernel
theorem dX16_step_132 : decode cX16_step 132 = .ok (.aload_n 0, 1) := by decide +kernel
theorem dX16_step_133 : decode cX16_step 133 = .ok (.getfield 345, 3) := by decide +kernel
theorem dX16_step_136 : decode cX16_step 136 = .ok (.goto 10, 3) := by decide +kernel
theorem dX16_step_139 : decode cX16_step 139 = .ok (.aload_n 0, 1) := by decide +kernel
theorem dX16_step_140 : decode cX16_step 140 = .ok (.getfield 345, 3) := by decide +kernel
theorem dX16_step_143 : decode cX16_step 143 = .ok (.invokestatic 353, 3) := by decide +kernel
theorem dX16_step_146 : decode cX16_step 146 = .ok (.istore_n 2, 1) := by decide +kernel
theorem dX16_step_147 : decode cX16_step 147 = .ok (.iload_n 2, 1) := by decide +kernel
theorem dX16_step_148 : decode cX16_step 148 = .ok (.ifCond .ne 11, 3) := by decide +kernel
theorem dX16_step_151 : decode cX16_step 151 = .ok (.aload_n 0, 1) := by decide +kernel
theorem dX16_step_152 : decode cX16_step 152 = .ok (.invokevirtual 356, 3) := by decide +kernel
theorem dX16_step_155 : decode cX16_step 155 = .ok (.pop, 1) := by decide +kernel
theorem dX16_step_156 : decode cX16_step 156 = .ok (.goto 8, 3) := by decide +kernel
theorem dX16_step_159 : decode cX16_step 159 = .ok (.aload_n 0, 1) := by decide +kernel
theorem dX16_step_160 : decode cX16_step 160 = .ok (.iload_n 2, 1) := by decide +kernel
theorem dX16_step_161 : decode cX16_step 161 = .ok (.invokevirtual 359, 3) := by decide +kernel
theorem dX16_step_164 : decode cX16_step 164 = .ok (.aload_n 0, 1) := by decide +kernel
theorem dX16_step_165 : decode cX16_step 165 = .ok (.getfield 336, 3) := by decide +kernel
theorem dX16_step_168 : decode cX16_step 168 = .ok (.ifCond .le 8, 3) := by decide +kernel
theorem dX16_step_171 : decode cX16_step 171 = .ok (.aload_n 0, 1) := by decide +kernel
theorem dX16_step_172 : decode cX16_step 172 = .ok (.getfield 336, 3) := by decide +kernel
theorem dX16_step_175 : decode cX16_step 175 = .ok (.ireturn, 1) := by decide +kernel
theorem dX16_step_176 : decode cX16_step 176 = .ok (.aload_n 0, 1) := by decide +kernel
theorem dX16_step_177 : decode cX16_step 177 = .ok (.getfield 45, 3) := by decide +kernel
theorem dX16_step_180 : decode cX16_step 180 = .ok (.aload_n 0, 1) := by decide +kernel
theorem dX16_step_181 : decode cX16_step 181 = .ok (.getfield 232, 3) := by decide +kernel
theorem dX16_step_184 : decode cX16_step 184 = .ok (.aload_n 0, 1) := by decide +kernel
theorem dX16_step_185 : decode cX16_step 185 = .ok (.getfield 350, 3) := by decide +kernel
theorem dX16_step_188 : decode cX16_step 188 = .ok (.iastore, 1) := by decide +kernel
theorem dX16_step_189 : decode cX16_step 189 = .ok (.aload_n 0, 1) := by decide +kernel
theorem dX16_step_190 : decode cX16_step 190 = .ok (.dup, 1) := by decide +kernel
theorem dX16_step_191 : decode cX16_step 191 = .ok (.getfield 154, 3) := by decide +kernel
theorem dX16_step_194 : decode cX16_step 194 = .ok (.lconst 1, 1) := by decide +kernel
theorem dX16_step_195 : decode cX16_step 195 = .ok (.ladd, 1) := by decide +kernel
theorem dX16_step_196 : decode cX16_step 196 = .ok (.putfield 154, 3) := by decide +kernel
theorem dX16_step_199 : decode cX16_step 199 = .ok (.iconst 0, 1) := by decide +kernel
theorem dX16_step_200 : decode cX16_step 200 = .ok (.ireturn, 1) := by decide +kernel
theorem dX16_become_0 : decode cX16_become 0 = .ok (.aload_n 0, 1) := by decide +kernel
theorem dX16_become_1 : decode cX16_become 1 = .ok (.getfield 336, 3) := by decide +kernel
theorem dX16_become_4 : decode cX16_become 4 = .ok (.ifCond .ne 22, 3) := by decide +kernel
theorem dX16_become_7 : decode cX16_become 7 = .ok (.iload_n 1, 1) := by decide +kernel
theorem dX16_become_8 : decode cX16_become 8 = .ok (.ifCond .le 18, 3) := by decide +kernel
theorem dX16_become_11 : decode cX16_become 11 = .ok (.aload_n 0, 1) := by decide +kernel
theorem dX16_become_12 : decode cX16_become 12 = .ok (.getfield 42, 3) := by decide +kernel
theorem dX16_become_15 : decode cX16_become 15 = .ok (.bipush 32, 2) := by decide +kernel
theorem dX16_become_17 : decode cX16_become 17 = .ok (.aload_n 0, 1) := by decide +kernel
theorem dX16_become_18 : decode cX16_become 18 = .ok (.getfield 232, 3) := by decide +kernel
theorem dX16_become_21 : decode cX16_become 21 = .ok (.imul, 1) := by decide +kernel
theorem dX16_become_22 : decode cX16_become 22 = .ok (.iload_n 1, 1) := by decide +kernel
theorem dX16_become_23 : decode cX16_become 23 = .ok (.iadd, 1) := by decide +kernel
theorem dX16_become_24 : decode cX16_become 24 = .ok (.iload_n 2, 1) := by decide +kernel
theorem dX16_become_25 : decode cX16_become 25 = .ok (.iastore, 1) := by decide +kernel
theorem dX16_become_26 : decode cX16_become 26 = .ok (.return_, 1) := by decide +kernel
theorem dX16_carry_0 : decode cX16_carry 0 = .ok (.iload_n 1, 1) := by decide +kernel
theorem dX16_carry_1 : decode cX16_carry 1 = .ok (.bipush 7, 2) := by decide +kernel
theorem dX16_carry_3 : decode cX16_carry 3 = .ok (.iconst 5, 1) := by decide +kernel
theorem dX16_carry_4 : decode cX16_carry 4 = .ok (.invokestatic 297, 3) := by decide +kernel
theorem dX16_carry_7 : decode cX16_carry 7 = .ok (.istore_n 2, 1) := by decide +kernel
theorem dX16_carry_8 : decode cX16_carry 8 = .ok (.iload_n 1, 1) := by decide +kernel
theorem dX16_carry_9 : decode cX16_carry 9 = .ok (.bipush 12, 2) := by decide +kernel
theorem dX16_carry_11 : decode cX16_carry 11 = .ok (.iconst 3, 1) := by decide +kernel
theorem dX16_carry_12 : decode cX16_carry 12 = .ok (.invokestatic 297, 3) := by decide +kernel
theorem dX16_carry_15 : decode cX16_carry 15 = .ok (.istore_n 3, 1) := by decide +kernel
theorem dX16_carry_16 : decode cX16_carry 16 = .ok (.aload_n 0, 1) := by decide +kernel
theorem dX16_carry_17 : decode cX16_carry 17 = .ok (.getfield 42, 3) := by decide +kernel
theorem dX16_carry_20 : decode cX16_carry 20 = .ok (.bipush 32, 2) := by decide +kernel
theorem dX16_carry_22 : decode cX16_carry 22 = .ok (.aload_n 0, 1) := by decide +kernel
theorem dX16_carry_23 : decode cX16_carry 23 = .ok (.getfield 232, 3) := by decide +kernel
theorem dX16_carry_26 : decode cX16_carry 26 = .ok (.imul, 1) := by decide +kernel
theorem dX16_carry_27 : decode cX16_carry 27 = .ok (.iload_n 1, 1) := by decide +kernel
theorem dX16_carry_28 : decode cX16_carry 28 = .ok (.bipush 15, 2) := by decide +kernel
theorem dX16_carry_30 : decode cX16_carry 30 = .ok (.iconst 5, 1) := by decide +kernel
theorem dX16_carry_31 : decode cX16_carry 31 = .ok (.invokestatic 297, 3) := by decide +kernel
theorem dX16_carry_34 : decode cX16_carry 34 = .ok (.iadd, 1) := by decide +kernel
theorem dX16_carry_35 : decode cX16_carry 35 = .ok (.iaload, 1) := by decide +kernel
theorem dX16_carry_36 : decode cX16_carry 36 = .ok (.istore 4, 2) := by decide +kernel
theorem dX16_carry_38 : decode cX16_carry 38 = .ok (.aload_n 0, 1) := by decide +kernel
theorem dX16_carry_39 : decode cX16_carry 39 = .ok (.getfield 42, 3) := by decide +kernel
theorem dX16_carry_42 : decode cX16_carry 42 = .ok (.bipush 32, 2) := by decide +kernel
theorem dX16_carry_44 : decode cX16_carry 44 = .ok (.aload_n 0, 1) := by decide +kernel
theorem dX16_carry_45 : decode cX16_carry 45 = .ok (.getfield 232, 3) := by decide +kernel
theorem dX16_carry_48 : decode cX16_carry 48 = .ok (.imul, 1) := by decide +kernel
theorem dX16_carry_49 : decode cX16_carry 49 = .ok (.iload_n 1, 1) := by decide +kernel
theorem dX16_carry_50 : decode cX16_carry 50 = .ok (.bipush 20, 2) := by decide +kernel
theorem dX16_carry_52 : decode cX16_carry 52 = .ok (.iconst 5, 1) := by decide +kernel
theorem dX16_carry_53 : decode cX16_carry 53 = .ok (.invokestatic 297, 3) := by decide +kernel
theorem dX16_carry_56 : decode cX16_carry 56 = .ok (.iadd, 1) := by decide +kernel
theorem dX16_carry_57 : decode cX16_carry 57 = .ok (.iaload, 1) := by decide +kernel
theorem dX16_carry_58 : decode cX16_carry 58 = .ok (.istore 5, 2) := by decide +kernel
theorem dX16_carry_60 : decode cX16_carry 60 = .ok (.iload_n 1, 1) := by decide +kernel
theorem dX16_carry_61 : decode cX16_carry 61 = .ok (.bipush 25, 2) := by decide +kernel
theorem dX16_carry_63 : decode cX16_carry 63 = .ok (.bipush 7, 2) := by decide +kernel
theorem dX16_carry_65 : decode cX16_carry 65 = .ok (.invokestatic 297, 3) := by decide +kernel
theorem dX16_carry_68 : decode cX16_carry 68 = .ok (.istore 6, 2) := by decide +kernel
theorem dX16_carry_70 : decode cX16_carry 70 = .ok (.iload_n 1, 1) := by decide +kernel
theorem dX16_carry_71 : decode cX16_carry 71 = .ok (.bipush 20, 2) := by decide +kernel
theorem dX16_carry_73 : decode cX16_carry 73 = .ok (.ishr, 1) := by decide +kernel
theorem dX16_carry_74 : decode cX16_carry 74 = .ok (.istore 7, 2) := by decide +kernel
theorem dX16_carry_76 : decode cX16_carry 76 = .ok (.iload_n 1, 1) := by decide +kernel
theorem dX16_carry_77 : decode cX16_carry 77 = .ok (.iconst 0, 1) := by decide +kernel
theorem dX16_carry_78 : decode cX16_carry 78 = .ok (.bipush 7, 2) := by decide +kernel
theorem dX16_carry_80 : decode cX16_carry 80 = .ok (.invokestatic 297, 3) := by decide +kernel
theorem dX16_carry_83 : decode cX16_carry 83 = .ok (.lookupswitch 474 #[(3, 258), (15, 447), (19, 296), (23, 118), (35, 276), (47, 425), (51, 341), (55, 105), (99, 245), (103, 212), (111, 141), (115, 460)], 105) := by decide +kernel
theorem dX16_carry_188 : decode cX16_carry 188 = .ok (.aload_n 0, 1) := by decide +kernel
theorem dX16_carry_189 : decode cX16_carry 189 = .ok (.iload_n 2, 1) := by decide +kernel
theorem dX16_carry_190 : decode cX16_carry 190 = .ok (.iload_n 1, 1) := by decide +kernel
theorem dX16_carry_191 : decode cX16_carry 191 = .ok (.sipush (-4096), 3) := by decide +kernel
theorem dX16_carry_194 : decode cX16_carry 194 = .ok (.iand, 1) := by decide +kernel
theorem dX16_carry_195 : decode cX16_carry 195 = .ok (.invokevirtual 362, 3) := by decide +kernel
theorem dX16_carry_198 : decode cX16_carry 198 = .ok (.goto 364, 3) := by decide +kernel
theorem dX16_carry_201 : decode cX16_carry 201 = .ok (.aload_n 0, 1) := by decide +kernel
theorem dX16_carry_202 : decode cX16_carry 202 = .ok (.iload_n 2, 1) := by decide +kernel
theorem dX16_carry_203 : decode cX16_carry 203 = .ok (.aload_n 0, 1) := by decide +kernel
theorem dX16_carry_204 : decode cX16_carry 204 = .ok (.getfield 45, 3) := by decide +kernel
theorem dX16_carry_207 : decode cX16_carry 207 = .ok (.aload_n 0, 1) := by decide +kernel
theorem dX16_carry_208 : decode cX16_carry 208 = .ok (.getfield 232, 3) := by decide +kernel
theorem dX16_carry_211 : decode cX16_carry 211 = .ok (.iaload, 1) := by decide +kernel
theorem dX16_carry_212 : decode cX16_carry 212 = .ok (.iload_n 1, 1) := by decide +kernel
theorem dX16_carry_213 : decode cX16_carry 213 = .ok (.sipush (-4096), 3) := by decide +kernel
theorem dX16_carry_216 : decode cX16_carry 216 = .ok (.iand, 1) := by decide +kernel
theorem dX16_carry_217 : decode cX16_carry 217 = .ok (.iadd, 1) := by decide +kernel
theorem dX16_carry_218 : decode cX16_carry 218 = .ok (.invokevirtual 362, 3) := by decide +kernel
theorem dX16_carry_221 : decode cX16_carry 221 = .ok (.goto 341, 3) := by decide +kernel
theorem dX16_carry_224 : decode cX16_carry 224 = .ok (.aload_n 0, 1) := by decide +kernel
theorem dX16_carry_225 : decode cX16_carry 225 = .ok (.iload_n 2, 1) := by decide +kernel
theorem dX16_carry_226 : decode cX16_carry 226 = .ok (.aload_n 0, 1) := by decide +kernel
theorem dX16_carry_227 : decode cX16_carry 227 = .ok (.getfield 350, 3) := by decide +kernel
theorem dX16_carry_230 : decode cX16_carry 230 = .ok (.invokevirtual 362, 3) := by decide +kernel
theorem dX16_carry_233 : decode cX16_carry 233 = .ok (.aload_n 0, 1) := by decide +kernel
theorem dX16_carry_234 : decode cX16_carry 234 = .ok (.aload_n 0, 1) := by decide +kernel
theorem dX16_carry_235 : decode cX16_carry 235 = .ok (.getfield 45, 3) := by decide +kernel
theorem dX16_carry_238 : decode cX16_carry 238 = .ok (.aload_n 0, 1) := by decide +kernel
theorem dX16_carry_239 : decode cX16_carry 239 = .ok (.getfield 232, 3) := by decide +kernel
theorem dX16_carry_242 : decode cX16_carry 242 = .ok (.iaload, 1) := by decide +kernel
theorem dX16_carry_243 : decode cX16_carry 243 = .ok (.iload_n 1, 1) := by decide +kernel
theorem dX16_carry_244 : decode cX16_carry 244 = .ok (.bipush 31, 2) := by decide +kernel
theorem dX16_carry_246 : decode cX16_carry 246 = .ok (.iconst 1, 1) := by decide +kernel
theorem dX16_carry_247 : decode cX16_carry 247 = .ok (.bipush 20, 2) := by decide +kernel
theorem dX16_carry_249 : decode cX16_carry 249 = .ok (.invokestatic 300, 3) := by decide +kernel
theorem dX16_carry_252 : decode cX16_carry 252 = .ok (.iload_n 1, 1) := by decide +kernel
theorem dX16_carry_253 : decode cX16_carry 253 = .ok (.bipush 12, 2) := by decide +kernel
theorem dX16_carry_255 : decode cX16_carry 255 = .ok (.bipush 8, 2) := by decide +kernel
theorem dX16_carry_257 : decode cX16_carry 257 = .ok (.bipush 12, 2) := by decide +kernel
theorem dX16_carry_259 : decode cX16_carry 259 = .ok (.invokestatic 300, 3) := by decide +kernel
theorem dX16_carry_262 : decode cX16_carry 262 = .ok (.ior, 1) := by decide +kernel
theorem dX16_carry_263 : decode cX16_carry 263 = .ok (.iload_n 1, 1) := by decide +kernel
theorem dX16_carry_264 : decode cX16_carry 264 = .ok (.bipush 20, 2) := by decide +kernel
theorem dX16_carry_266 : decode cX16_carry 266 = .ok (.iconst 1, 1) := by decide +kernel
theorem dX16_carry_267 : decode cX16_carry 267 = .ok (.bipush 11, 2) := by decide +kernel
theorem dX16_carry_269 : decode cX16_carry 269 = .ok (.invokestatic 300, 3) := by decide +kernel
theorem dX16_carry_272 : decode cX16_carry 272 = .ok (.ior, 1) := by decide +kernel
theorem dX16_carry_273 : decode cX16_carry 273 = .ok (.iload_n 1, 1) := by decide +kernel
