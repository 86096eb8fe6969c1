theorem dX5_come_71 : decode cX5_come 71 = .ok (.invokevirtual 144, 3) := by decide +kernel
theorem dX5_come_74 : decode cX5_come 74 = .ok (.goto 112, 3) := by decide +kernel
theorem dX5_come_77 : decode cX5_come 77 = .ok (.aload_n 0, 1) := by decide +kernel
theorem dX5_come_78 : decode cX5_come 78 = .ok (.getfield 28, 3) := by decide +kernel
theorem dX5_come_81 : decode cX5_come 81 = .ok (.lload_n 2, 1) := by decide +kernel
theorem dX5_come_82 : decode cX5_come 82 = .ok (.iload 4, 2) := by decide +kernel
theorem dX5_come_84 : decode cX5_come 84 = .ok (.invokevirtual 148, 3) := by decide +kernel
theorem dX5_come_87 : decode cX5_come 87 = .ok (.istore 5, 2) := by decide +kernel
theorem dX5_come_89 : decode cX5_come 89 = .ok (.goto 97, 3) := by decide +kernel
theorem dX5_come_92 : decode cX5_come 92 = .ok (.aload_n 0, 1) := by decide +kernel
theorem dX5_come_93 : decode cX5_come 93 = .ok (.getfield 18, 3) := by decide +kernel
theorem dX5_come_96 : decode cX5_come 96 = .ok (.iload 6, 2) := by decide +kernel
theorem dX5_come_98 : decode cX5_come 98 = .ok (.invokevirtual 105, 3) := by decide +kernel
theorem dX5_come_101 : decode cX5_come 101 = .ok (.istore 7, 2) := by decide +kernel
theorem dX5_come_103 : decode cX5_come 103 = .ok (.iload 4, 2) := by decide +kernel
theorem dX5_come_105 : decode cX5_come 105 = .ok (.bipush 16, 2) := by decide +kernel
theorem dX5_come_107 : decode cX5_come 107 = .ok (.if_icmp .ge 19, 3) := by decide +kernel
theorem dX5_come_110 : decode cX5_come 110 = .ok (.iload 7, 2) := by decide +kernel
theorem dX5_come_112 : decode cX5_come 112 = .ok (.iconst 1, 1) := by decide +kernel
theorem dX5_come_113 : decode cX5_come 113 = .ok (.if_icmp .eq 9, 3) := by decide +kernel
theorem dX5_come_116 : decode cX5_come 116 = .ok (.iload 7, 2) := by decide +kernel
theorem dX5_come_118 : decode cX5_come 118 = .ok (.iconst 2, 1) := by decide +kernel
theorem dX5_come_119 : decode cX5_come 119 = .ok (.if_icmp .ne 7, 3) := by decide +kernel
theorem dX5_come_122 : decode cX5_come 122 = .ok (.iconst 1, 1) := by decide +kernel
theorem dX5_come_123 : decode cX5_come 123 = .ok (.goto 4, 3) := by decide +kernel
theorem dX5_come_126 : decode cX5_come 126 = .ok (.iconst 0, 1) := by decide +kernel
theorem dX5_come_127 : decode cX5_come 127 = .ok (.istore 5, 2) := by decide +kernel
theorem dX5_come_129 : decode cX5_come 129 = .ok (.iload 5, 2) := by decide +kernel
theorem dX5_come_131 : decode cX5_come 131 = .ok (.ifCond .eq 55, 3) := by decide +kernel
theorem dX5_come_134 : decode cX5_come 134 = .ok (.aload_n 0, 1) := by decide +kernel
theorem dX5_come_135 : decode cX5_come 135 = .ok (.getfield 37, 3) := by decide +kernel
theorem dX5_come_138 : decode cX5_come 138 = .ok (.iload 6, 2) := by decide +kernel
theorem dX5_come_140 : decode cX5_come 140 = .ok (.bipush 7, 2) := by decide +kernel
theorem dX5_come_142 : decode cX5_come 142 = .ok (.imul, 1) := by decide +kernel
theorem dX5_come_143 : decode cX5_come 143 = .ok (.iconst 3, 1) := by decide +kernel
theorem dX5_come_144 : decode cX5_come 144 = .ok (.iadd, 1) := by decide +kernel
theorem dX5_come_145 : decode cX5_come 145 = .ok (.dup2, 1) := by decide +kernel
theorem dX5_come_146 : decode cX5_come 146 = .ok (.iaload, 1) := by decide +kernel
theorem dX5_come_147 : decode cX5_come 147 = .ok (.iconst 1, 1) := by decide +kernel
theorem dX5_come_148 : decode cX5_come 148 = .ok (.iload 4, 2) := by decide +kernel
theorem dX5_come_150 : decode cX5_come 150 = .ok (.ishl, 1) := by decide +kernel
theorem dX5_come_151 : decode cX5_come 151 = .ok (.ior, 1) := by decide +kernel
theorem dX5_come_152 : decode cX5_come 152 = .ok (.iastore, 1) := by decide +kernel
theorem dX5_come_153 : decode cX5_come 153 = .ok (.goto 33, 3) := by decide +kernel
theorem dX5_come_156 : decode cX5_come 156 = .ok (.iconst 1, 1) := by decide +kernel
theorem dX5_come_157 : decode cX5_come 157 = .ok (.istore 5, 2) := by decide +kernel
theorem dX5_come_159 : decode cX5_come 159 = .ok (.aload_n 0, 1) := by decide +kernel
theorem dX5_come_160 : decode cX5_come 160 = .ok (.getfield 18, 3) := by decide +kernel
theorem dX5_come_163 : decode cX5_come 163 = .ok (.dup, 1) := by decide +kernel
theorem dX5_come_164 : decode cX5_come 164 = .ok (.getfield 133, 3) := by decide +kernel
theorem dX5_come_167 : decode cX5_come 167 = .ok (.lload_n 2, 1) := by decide +kernel
theorem dX5_come_168 : decode cX5_come 168 = .ok (.ladd, 1) := by decide +kernel
theorem dX5_come_169 : decode cX5_come 169 = .ok (.putfield 133, 3) := by decide +kernel
theorem dX5_come_172 : decode cX5_come 172 = .ok (.goto 14, 3) := by decide +kernel
theorem dX5_come_175 : decode cX5_come 175 = .ok (.aload_n 0, 1) := by decide +kernel
theorem dX5_come_176 : decode cX5_come 176 = .ok (.getfield 18, 3) := by decide +kernel
theorem dX5_come_179 : decode cX5_come 179 = .ok (.lload_n 2, 1) := by decide +kernel
theorem dX5_come_180 : decode cX5_come 180 = .ok (.l2i, 1) := by decide +kernel
theorem dX5_come_181 : decode cX5_come 181 = .ok (.invokevirtual 152, 3) := by decide +kernel
theorem dX5_come_184 : decode cX5_come 184 = .ok (.istore 5, 2) := by decide +kernel
theorem dX5_come_186 : decode cX5_come 186 = .ok (.aload_n 0, 1) := by decide +kernel
theorem dX5_come_187 : decode cX5_come 187 = .ok (.invokevirtual 83, 3) := by decide +kernel
theorem dX5_come_190 : decode cX5_come 190 = .ok (.iload 5, 2) := by decide +kernel
theorem dX5_come_192 : decode cX5_come 192 = .ok (.ireturn, 1) := by decide +kernel
theorem dX5_argument_0 : decode cX5_argument 0 = .ok (.aload_n 0, 1) := by decide +kernel
theorem dX5_argument_1 : decode cX5_argument 1 = .ok (.getfield 33, 3) := by decide +kernel
theorem dX5_argument_4 : decode cX5_argument 4 = .ok (.iload_n 1, 1) := by decide +kernel
theorem dX5_argument_5 : decode cX5_argument 5 = .ok (.bipush 33, 2) := by decide +kernel
theorem dX5_argument_7 : decode cX5_argument 7 = .ok (.imul, 1) := by decide +kernel
theorem dX5_argument_8 : decode cX5_argument 8 = .ok (.iload_n 2, 1) := by decide +kernel
theorem dX5_argument_9 : decode cX5_argument 9 = .ok (.iadd, 1) := by decide +kernel
theorem dX5_argument_10 : decode cX5_argument 10 = .ok (.iaload, 1) := by decide +kernel
theorem dX5_argument_11 : decode cX5_argument 11 = .ok (.ireturn, 1) := by decide +kernel
theorem dX5_answer_0 : decode cX5_answer 0 = .ok (.lload_n 2, 1) := by decide +kernel
theorem dX5_answer_1 : decode cX5_answer 1 = .ok (.ldc2_w 155, 3) := by decide +kernel
theorem dX5_answer_4 : decode cX5_answer 4 = .ok (.lcmp, 1) := by decide +kernel
theorem dX5_answer_5 : decode cX5_answer 5 = .ok (.ifCond .ne 6, 3) := by decide +kernel
theorem dX5_answer_8 : decode cX5_answer 8 = .ok (.bipush 7, 2) := by decide +kernel
theorem dX5_answer_10 : decode cX5_answer 10 = .ok (.ireturn, 1) := by decide +kernel
theorem dX5_answer_11 : decode cX5_answer 11 = .ok (.lload_n 2, 1) := by decide +kernel
theorem dX5_answer_12 : decode cX5_answer 12 = .ok (.ldc2_w 157, 3) := by decide +kernel
theorem dX5_answer_15 : decode cX5_answer 15 = .ok (.lcmp, 1) := by decide +kernel
theorem dX5_answer_16 : decode cX5_answer 16 = .ok (.ifCond .ne 31, 3) := by decide +kernel
theorem dX5_answer_19 : decode cX5_answer 19 = .ok (.aload_n 0, 1) := by decide +kernel
theorem dX5_answer_20 : decode cX5_answer 20 = .ok (.getfield 37, 3) := by decide +kernel
theorem dX5_answer_23 : decode cX5_answer 23 = .ok (.iload_n 1, 1) := by decide +kernel
theorem dX5_answer_24 : decode cX5_answer 24 = .ok (.bipush 7, 2) := by decide +kernel
theorem dX5_answer_26 : decode cX5_answer 26 = .ok (.imul, 1) := by decide +kernel
theorem dX5_answer_27 : decode cX5_answer 27 = .ok (.iconst 0, 1) := by decide +kernel
theorem dX5_answer_28 : decode cX5_answer 28 = .ok (.iadd, 1) := by decide +kernel
theorem dX5_answer_29 : decode cX5_answer 29 = .ok (.iconst 2, 1) := by decide +kernel
theorem dX5_answer_30 : decode cX5_answer 30 = .ok (.iastore, 1) := by decide +kernel
theorem dX5_answer_31 : decode cX5_answer 31 = .ok (.aload_n 0, 1) := by decide +kernel
theorem dX5_answer_32 : decode cX5_answer 32 = .ok (.getfield 18, 3) := by decide +kernel
theorem dX5_answer_35 : decode cX5_answer 35 = .ok (.dup, 1) := by decide +kernel
theorem dX5_answer_36 : decode cX5_answer 36 = .ok (.getfield 102, 3) := by decide +kernel
theorem dX5_answer_39 : decode cX5_answer 39 = .ok (.iconst 1, 1) := by decide +kernel
theorem dX5_answer_40 : decode cX5_answer 40 = .ok (.iadd, 1) := by decide +kernel
theorem dX5_answer_41 : decode cX5_answer 41 = .ok (.putfield 102, 3) := by decide +kernel
theorem dX5_answer_44 : decode cX5_answer 44 = .ok (.goto 41, 3) := by decide +kernel
theorem dX5_answer_47 : decode cX5_answer 47 = .ok (.lload_n 2, 1) := by decide +kernel
theorem dX5_answer_48 : decode cX5_answer 48 = .ok (.ldc2_w 159, 3) := by decide +kernel
theorem dX5_answer_51 : decode cX5_answer 51 = .ok (.lcmp, 1) := by decide +kernel
theorem dX5_answer_52 : decode cX5_answer 52 = .ok (.ifCond .eq 33, 3) := by decide +kernel
theorem dX5_answer_55 : decode cX5_answer 55 = .ok (.aload_n 0, 1) := by decide +kernel
theorem dX5_answer_56 : decode cX5_answer 56 = .ok (.getfield 33, 3) := by decide +kernel
theorem dX5_answer_59 : decode cX5_answer 59 = .ok (.iload_n 1, 1) := by decide +kernel
theorem dX5_answer_60 : decode cX5_answer 60 = .ok (.bipush 33, 2) := by decide +kernel
theorem dX5_answer_62 : decode cX5_answer 62 = .ok (.imul, 1) := by decide +kernel
theorem dX5_answer_63 : decode cX5_answer 63 = .ok (.bipush 10, 2) := by decide +kernel
theorem dX5_answer_65 : decode cX5_answer 65 = .ok (.iadd, 1) := by decide +kernel
theorem dX5_answer_66 : decode cX5_answer 66 = .ok (.lload_n 2, 1) := by decide +kernel
theorem dX5_answer_67 : decode cX5_answer 67 = .ok (.l2i, 1) := by decide +kernel
theorem dX5_answer_68 : decode cX5_answer 68 = .ok (.iastore, 1) := by decide +kernel
theorem dX5_answer_69 : decode cX5_answer 69 = .ok (.aload_n 0, 1) := by decide +kernel
theorem dX5_answer_70 : decode cX5_answer 70 = .ok (.getfield 33, 3) := by decide +kernel
theorem dX5_answer_73 : decode cX5_answer 73 = .ok (.iload_n 1, 1) := by decide +kernel
theorem dX5_answer_74 : decode cX5_answer 74 = .ok (.bipush 33, 2) := by decide +kernel
theorem dX5_answer_76 : decode cX5_answer 76 = .ok (.imul, 1) := by decide +kernel
theorem dX5_answer_77 : decode cX5_answer 77 = .ok (.bipush 32, 2) := by decide +kernel
theorem dX5_answer_79 : decode cX5_answer 79 = .ok (.iadd, 1) := by decide +kernel
theorem dX5_answer_80 : decode cX5_answer 80 = .ok (.dup2, 1) := by decide +kernel
theorem dX5_answer_81 : decode cX5_answer 81 = .ok (.iaload, 1) := by decide +kernel
theorem dX5_answer_82 : decode cX5_answer 82 = .ok (.iconst 4, 1) := by decide +kernel
theorem dX5_answer_83 : decode cX5_answer 83 = .ok (.iadd, 1) := by decide +kernel
theorem dX5_answer_84 : decode cX5_answer 84 = .ok (.iastore, 1) := by decide +kernel
theorem dX5_answer_85 : decode cX5_answer 85 = .ok (.iconst 0, 1) := by decide +kernel
theorem dX5_answer_86 : decode cX5_answer 86 = .ok (.ireturn, 1) := by decide +kernel
theorem dX5_fork_0 : decode cX5_fork 0 = .ok (.iconst 0, 1) := by decide +kernel
theorem dX5_fork_1 : decode cX5_fork 1 = .ok (.istore_n 2, 1) := by decide +kernel
theorem dX5_fork_2 : decode cX5_fork 2 = .ok (.iload_n 2, 1) := by decide +kernel
theorem dX5_fork_3 : decode cX5_fork 3 = .ok (.bipush 16, 2) := by decide +kernel
theorem dX5_fork_5 : decode cX5_fork 5 = .ok (.if_icmp .ge 41, 3) := by decide +kernel
theorem dX5_fork_8 : decode cX5_fork 8 = .ok (.aload_n 0, 1) := by decide +kernel
theorem dX5_fork_9 : decode cX5_fork 9 = .ok (.getfield 18, 3) := by decide +kernel
theorem dX5_fork_12 : decode cX5_fork 12 = .ok (.iload_n 2, 1) := by decide +kernel
theorem dX5_fork_13 : decode cX5_fork 13 = .ok (.invokevirtual 105, 3) := by decide +kernel
theorem dX5_fork_16 : decode cX5_fork 16 = .ok (.ifCond .ne 24, 3) := by decide +kernel
theorem dX5_fork_19 : decode cX5_fork 19 = .ok (.aload_n 0, 1) := by decide +kernel
theorem dX5_fork_20 : decode cX5_fork 20 = .ok (.getfield 18, 3) := by decide +kernel
theorem dX5_fork_23 : decode cX5_fork 23 = .ok (.iload_n 1, 1) := by decide +kernel
theorem dX5_fork_24 : decode cX5_fork 24 = .ok (.iload_n 2, 1) := by decide +kernel
theorem dX5_fork_25 : decode cX5_fork 25 = .ok (.invokevirtual 223, 3) := by decide +kernel
theorem dX5_fork_28 : decode cX5_fork 28 = .ok (.aload_n 0, 1) := by decide +kernel
theorem dX5_fork_29 : decode cX5_fork 29 = .ok (.getfield 28, 3) := by decide +kernel
theorem dX5_fork_32 : decode cX5_fork 32 = .ok (.iload_n 1, 1) := by decide +kernel
theorem dX5_fork_33 : decode cX5_fork 33 = .ok (.iload_n 2, 1) := by decide +kernel
theorem dX5_fork_34 : decode cX5_fork 34 = .ok (.invokevirtual 225, 3) := by decide +kernel
theorem dX5_fork_37 : decode cX5_fork 37 = .ok (.iload_n 2, 1) := by decide +kernel
theorem dX5_fork_38 : decode cX5_fork 38 = .ok (.i2l, 1) := by decide +kernel
theorem dX5_fork_39 : decode cX5_fork 39 = .ok (.lreturn, 1) := by decide +kernel
theorem dX5_fork_40 : decode cX5_fork 40 = .ok (.iinc 2 1, 3) := by decide +kernel
theorem dX5_fork_43 : decode cX5_fork 43 = .ok (.goto (-41), 3) := by decide +kernel
theorem dX5_fork_46 : decode cX5_fork 46 = .ok (.ldc2_w 228, 3) := by decide +kernel
theorem dX5_fork_49 : decode cX5_fork 49 = .ok (.lreturn, 1) := by decide +kernel
theorem dX5_waitForChild_0 : decode cX5_waitForChild 0 = .ok (.aload_n 0, 1) := by decide +kernel
theorem dX5_waitForChild_1 : decode cX5_waitForChild 1 = .ok (.getfield 18, 3) := by decide +kernel
theorem dX5_waitForChild_4 : decode cX5_waitForChild 4 = .ok (.iload_n 1, 1) := by decide +kernel
theorem dX5_waitForChild_5 : decode cX5_waitForChild 5 = .ok (.iconst 1, 1) := by decide +kernel
theorem dX5_waitForChild_6 : decode cX5_waitForChild 6 = .ok (.invokevirtual 119, 3) := by decide +kernel
theorem dX5_waitForChild_9 : decode cX5_waitForChild 9 = .ok (.ifCond .ge 7, 3) := by decide +kernel
theorem dX5_waitForChild_12 : decode cX5_waitForChild 12 = .ok (.ldc2_w 246, 3) := by decide +kernel
theorem dX5_waitForChild_15 : decode cX5_waitForChild 15 = .ok (.lreturn, 1) := by decide +kernel
theorem dX5_waitForChild_16 : decode cX5_waitForChild 16 = .ok (.aload_n 0, 1) := by decide +kernel
theorem dX5_waitForChild_17 : decode cX5_waitForChild 17 = .ok (.getfield 18, 3) := by decide +kernel
theorem dX5_waitForChild_20 : decode cX5_waitForChild 20 = .ok (.iload_n 1, 1) := by decide +kernel
theorem dX5_waitForChild_21 : decode cX5_waitForChild 21 = .ok (.iconst 0, 1) := by decide +kernel
theorem dX5_waitForChild_22 : decode cX5_waitForChild 22 = .ok (.invokevirtual 119, 3) := by decide +kernel
theorem dX5_waitForChild_25 : decode cX5_waitForChild 25 = .ok (.istore_n 2, 1) := by decide +kernel
theorem dX5_waitForChild_26 : decode cX5_waitForChild 26 = .ok (.iload_n 2, 1) := by decide +kernel
theorem dX5_waitForChild_27 : decode cX5_waitForChild 27 = .ok (.ifCond .ge 7, 3) := by decide +kernel
theorem dX5_waitForChild_30 : decode cX5_waitForChild 30 = .ok (.ldc2_w 157, 3) := by decide +kernel
theorem dX5_waitForChild_33 : decode cX5_waitForChild 33 = .ok (.lreturn, 1) := by decide +kernel
theorem dX5_waitForChild_34 : decode cX5_waitForChild 34 = .ok (.aload_n 0, 1) := by decide +kernel
theorem dX5_waitForChild_35 : decode cX5_waitForChild 35 = .ok (.getfield 37, 3) := by decide +kernel
theorem dX5_waitForChild_38 : decode cX5_waitForChild 38 = .ok (.iload_n 2, 1) := by decide +kernel
theorem dX5_waitForChild_39 : decode cX5_waitForChild 39 = .ok (.bipush 7, 2) := by decide +kernel
theorem dX5_waitForChild_41 : decode cX5_waitForChild 41 = .ok (.imul, 1) := by decide +kernel
theorem dX5_waitForChild_42 : decode cX5_waitForChild 42 = .ok (.iconst 2, 1) := by decide +kernel
theorem dX5_waitForChild_43 : decode cX5_waitForChild 43 = .ok (.iadd, 1) := by decide +kernel
theorem dX5_waitForChild_44 : decode cX5_waitForChild 44 = .ok (.iaload, 1) := by decide +kernel
theorem dX5_waitForChild_45 : decode cX5_waitForChild 45 = .ok (.istore_n 3, 1) := by decide +kernel
theorem dX5_waitForChild_46 : decode cX5_waitForChild 46 = .ok (.aload_n 0, 1) := by decide +kernel
theorem dX5_waitForChild_47 : decode cX5_waitForChild 47 = .ok (.getfield 18, 3) := by decide +kernel
theorem dX5_waitForChild_50 : decode cX5_waitForChild 50 = .ok (.iload_n 2, 1) := by decide +kernel
theorem dX5_waitForChild_51 : decode cX5_waitForChild 51 = .ok (.invokevirtual 248, 3) := by decide +kernel
theorem dX5_waitForChild_54 : decode cX5_waitForChild 54 = .ok (.iload_n 2, 1) := by decide +kernel
theorem dX5_waitForChild_55 : decode cX5_waitForChild 55 = .ok (.sipush 256, 3) := by decide +kernel
theorem dX5_waitForChild_58 : decode cX5_waitForChild 58 = .ok (.iload_n 3, 1) := by decide +kernel
theorem dX5_waitForChild_59 : decode cX5_waitForChild 59 = .ok (.imul, 1) := by decide +kernel
theorem dX5_waitForChild_60 : decode cX5_waitForChild 60 = .ok (.iadd, 1) := by decide +kernel
theorem dX5_waitForChild_61 : decode cX5_waitForChild 61 = .ok (.i2l, 1) := by decide +kernel
theorem dX5_waitForChild_62 : decode cX5_waitForChild 62 = .ok (.lreturn, 1) := by decide +kernel
theorem dX5_pipe_0 : decode cX5_pipe 0 = .ok (.iload_n 2, 1) := by decide +kernel
theorem dX5_pipe_1 : decode cX5_pipe 1 = .ok (.iconst 3, 1) := by decide +kernel
theorem dX5_pipe_2 : decode cX5_pipe 2 = .ok (.iand, 1) := by decide +kernel
theorem dX5_pipe_3 : decode cX5_pipe 3 = .ok (.ifCond .eq 7, 3) := by decide +kernel
theorem dX5_pipe_6 : decode cX5_pipe 6 = .ok (.ldc2_w 251, 3) := by decide +kernel
theorem dX5_pipe_9 : decode cX5_pipe 9 = .ok (.lreturn, 1) := by decide +kernel
theorem dX5_pipe_10 : decode cX5_pipe 10 = .ok (.aload_n 0, 1) := by decide +kernel
theorem dX5_pipe_11 : decode cX5_pipe 11 = .ok (.getfield 18, 3) := by decide +kernel
theorem dX5_pipe_14 : decode cX5_pipe 14 = .ok (.iload_n 1, 1) := by decide +kernel
theorem dX5_pipe_15 : decode cX5_pipe 15 = .ok (.iload_n 2, 1) := by decide +kernel
theorem dX5_pipe_16 : decode cX5_pipe 16 = .ok (.bipush 8, 2) := by decide +kernel
theorem dX5_pipe_18 : decode cX5_pipe 18 = .ok (.iconst 2, 1) := by decide +kernel
theorem dX5_pipe_19 : decode cX5_pipe 19 = .ok (.invokevirtual 253, 3) := by decide +kernel
theorem dX5_pipe_22 : decode cX5_pipe 22 = .ok (.ifCond .ne 7, 3) := by decide +kernel
theorem dX5_pipe_25 : decode cX5_pipe 25 = .ok (.ldc2_w 257, 3) := by decide +kernel
theorem dX5_pipe_28 : decode cX5_pipe 28 = .ok (.lreturn, 1) := by decide +kernel
theorem dX5_pipe_29 : decode cX5_pipe 29 = .ok (.aload_n 0, 1) := by decide +kernel
theorem dX5_pipe_30 : decode cX5_pipe 30 = .ok (.getfield 28, 3) := by decide +kernel
theorem dX5_pipe_33 : decode cX5_pipe 33 = .ok (.iload_n 1, 1) := by decide +kernel
theorem dX5_pipe_34 : decode cX5_pipe 34 = .ok (.iconst 0, 1) := by decide +kernel
theorem dX5_pipe_35 : decode cX5_pipe 35 = .ok (.invokevirtual 259, 3) := by decide +kernel
theorem dX5_pipe_38 : decode cX5_pipe 38 = .ok (.istore_n 3, 1) := by decide +kernel
theorem dX5_pipe_39 : decode cX5_pipe 39 = .ok (.iload_n 3, 1) := by decide +kernel
theorem dX5_pipe_40 : decode cX5_pipe 40 = .ok (.ifCond .ge 7, 3) := by decide +kernel
theorem dX5_pipe_43 : decode cX5_pipe 43 = .ok (.iconst (-1), 1) := by decide +kernel
theorem dX5_pipe_44 : decode cX5_pipe 44 = .ok (.goto 14, 3) := by decide +kernel
theorem dX5_pipe_47 : decode cX5_pipe 47 = .ok (.aload_n 0, 1) := by decide +kernel
theorem dX5_pipe_48 : decode cX5_pipe 48 = .ok (.getfield 28, 3) := by decide +kernel
theorem dX5_pipe_51 : decode cX5_pipe 51 = .ok (.iload_n 1, 1) := by decide +kernel
theorem dX5_pipe_52 : decode cX5_pipe 52 = .ok (.iload_n 3, 1) := by decide +kernel
theorem dX5_pipe_53 : decode cX5_pipe 53 = .ok (.iconst 1, 1) := by decide +kernel
theorem dX5_pipe_54 : decode cX5_pipe 54 = .ok (.iadd, 1) := by decide +kernel
theorem dX5_pipe_55 : decode cX5_pipe 55 = .ok (.invokevirtual 259, 3) := by decide +kernel
theorem dX5_pipe_58 : decode cX5_pipe 58 = .ok (.istore 4, 2) := by decide +kernel
theorem dX5_pipe_60 : decode cX5_pipe 60 = .ok (.aload_n 0, 1) := by decide +kernel
theorem dX5_pipe_61 : decode cX5_pipe 61 = .ok (.getfield 28, 3) := by decide +kernel
theorem dX5_pipe_64 : decode cX5_pipe 64 = .ok (.invokevirtual 262, 3) := by decide +kernel
theorem dX5_pipe_67 : decode cX5_pipe 67 = .ok (.istore 5, 2) := by decide +kernel
theorem dX5_pipe_69 : decode cX5_pipe 69 = .ok (.iload 4, 2) := by decide +kernel
theorem dX5_pipe_71 : decode cX5_pipe 71 = .ok (.ifCond .lt 19, 3) := by decide +kernel
theorem dX5_pipe_74 : decode cX5_pipe 74 = .ok (.iload 5, 2) := by decide +kernel
theorem dX5_pipe_76 : decode cX5_pipe 76 = .ok (.ifCond .lt 14, 3) := by decide +kernel
theorem dX5_pipe_79 : decode cX5_pipe 79 = .ok (.aload_n 0, 1) := by decide +kernel
theorem dX5_pipe_80 : decode cX5_pipe 80 = .ok (.getfield 28, 3) := by decide +kernel
theorem dX5_pipe_83 : decode cX5_pipe 83 = .ok (.invokevirtual 265, 3) := by decide +kernel
theorem dX5_pipe_86 : decode cX5_pipe 86 = .ok (.iconst 2, 1) := by decide +kernel
theorem dX5_pipe_87 : decode cX5_pipe 87 = .ok (.if_icmp .ge 7, 3) := by decide +kernel
theorem dX5_pipe_90 : decode cX5_pipe 90 = .ok (.ldc2_w 228, 3) := by decide +kernel
theorem dX5_pipe_93 : decode cX5_pipe 93 = .ok (.lreturn, 1) := by decide +kernel
theorem dX5_pipe_94 : decode cX5_pipe 94 = .ok (.aload_n 0, 1) := by decide +kernel
theorem dX5_pipe_95 : decode cX5_pipe 95 = .ok (.getfield 18, 3) := by decide +kernel
theorem dX5_pipe_98 : decode cX5_pipe 98 = .ok (.iload_n 1, 1) := by decide +kernel
theorem dX5_pipe_99 : decode cX5_pipe 99 = .ok (.iload_n 2, 1) := by decide +kernel
theorem dX5_pipe_100 : decode cX5_pipe 100 = .ok (.bipush 8, 2) := by decide +kernel
theorem dX5_pipe_102 : decode cX5_pipe 102 = .ok (.invokevirtual 268, 3) := by decide +kernel
theorem dX5_pipe_105 : decode cX5_pipe 105 = .ok (.aload_n 0, 1) := by decide +kernel
theorem dX5_pipe_106 : decode cX5_pipe 106 = .ok (.getfield 18, 3) := by decide +kernel
theorem dX5_pipe_109 : decode cX5_pipe 109 = .ok (.invokevirtual 232, 3) := by decide +kernel
theorem dX5_pipe_112 : decode cX5_pipe 112 = .ok (.if_icmp .le 7, 3) := by decide +kernel
theorem dX5_pipe_115 : decode cX5_pipe 115 = .ok (.ldc2_w 155, 3) := by decide +kernel
theorem dX5_pipe_118 : decode cX5_pipe 118 = .ok (.lreturn, 1) := by decide +kernel
theorem dX5_pipe_119 : decode cX5_pipe 119 = .ok (.aload_n 0, 1) := by decide +kernel
theorem dX5_pipe_120 : decode cX5_pipe 120 = .ok (.getfield 18, 3) := by decide +kernel
theorem dX5_pipe_123 : decode cX5_pipe 123 = .ok (.iload_n 1, 1) := by decide +kernel
theorem dX5_pipe_124 : decode cX5_pipe 124 = .ok (.iload_n 2, 1) := by decide +kernel
theorem dX5_pipe_125 : decode cX5_pipe 125 = .ok (.invokevirtual 272, 3) := by decide +kernel
theorem dX5_pipe_128 : decode cX5_pipe 128 = .ok (.pop, 1) := by decide +kernel
theorem dX5_pipe_129 : decode cX5_pipe 129 = .ok (.aload_n 0, 1) := by decide +kernel
theorem dX5_pipe_130 : decode cX5_pipe 130 = .ok (.getfield 18, 3) := by decide +kernel
theorem dX5_pipe_133 : decode cX5_pipe 133 = .ok (.iload_n 1, 1) := by decide +kernel
theorem dX5_pipe_134 : decode cX5_pipe 134 = .ok (.iload_n 2, 1) := by decide +kernel
theorem dX5_pipe_135 : decode cX5_pipe 135 = .ok (.iconst 4, 1) := by decide +kernel
theorem dX5_pipe_136 : decode cX5_pipe 136 = .ok (.iadd, 1) := by decide +kernel
theorem dX5_pipe_137 : decode cX5_pipe 137 = .ok (.invokevirtual 272, 3) := by decide +kernel
theorem dX5_pipe_140 : decode cX5_pipe 140 = .ok (.pop, 1) := by decide +kernel
theorem dX5_pipe_141 : decode cX5_pipe 141 = .ok (.aload_n 0, 1) := by decide +kernel
theorem dX5_pipe_142 : decode cX5_pipe 142 = .ok (.getfield 28, 3) := by decide +kernel
theorem dX5_pipe_145 : decode cX5_pipe 145 = .ok (.iload 5, 2) := by decide +kernel
theorem dX5_pipe_147 : decode cX5_pipe 147 = .ok (.invokevirtual 275, 3) := by decide +kernel
theorem dX5_pipe_150 : decode cX5_pipe 150 = .ok (.aload_n 0, 1) := by decide +kernel
theorem dX5_pipe_151 : decode cX5_pipe 151 = .ok (.getfield 28, 3) := by decide +kernel
theorem dX5_pipe_154 : decode cX5_pipe 154 = .ok (.iload_n 1, 1) := by decide +kernel
theorem dX5_pipe_155 : decode cX5_pipe 155 = .ok (.iload_n 3, 1) := by decide +kernel
theorem dX5_pipe_156 : decode cX5_pipe 156 = .ok (.aload_n 0, 1) := by decide +kernel
theorem dX5_pipe_157 : decode cX5_pipe 157 = .ok (.getfield 28, 3) := by decide +kernel
theorem dX5_pipe_160 : decode cX5_pipe 160 = .ok (.iconst 1, 1) := by decide +kernel
theorem dX5_pipe_161 : decode cX5_pipe 161 = .ok (.iload 5, 2) := by decide +kernel
theorem dX5_pipe_163 : decode cX5_pipe 163 = .ok (.iconst 1, 1) := by decide +kernel
theorem dX5_pipe_164 : decode cX5_pipe 164 = .ok (.invokevirtual 278, 3) := by decide +kernel
theorem dX5_pipe_167 : decode cX5_pipe 167 = .ok (.invokevirtual 280, 3) := by decide +kernel
theorem dX5_pipe_170 : decode cX5_pipe 170 = .ok (.aload_n 0, 1) := by decide +kernel
theorem dX5_pipe_171 : decode cX5_pipe 171 = .ok (.getfield 28, 3) := by decide +kernel
theorem dX5_pipe_174 : decode cX5_pipe 174 = .ok (.iload_n 1, 1) := by decide +kernel
theorem dX5_pipe_175 : decode cX5_pipe 175 = .ok (.iload 4, 2) := by decide +kernel
theorem dX5_pipe_177 : decode cX5_pipe 177 = .ok (.aload_n 0, 1) := by decide +kernel
theorem dX5_pipe_178 : decode cX5_pipe 178 = .ok (.getfield 28, 3) := by decide +kernel
theorem dX5_pipe_181 : decode cX5_pipe 181 = .ok (.iconst 2, 1) := by decide +kernel
theorem dX5_pipe_182 : decode cX5_pipe 182 = .ok (.iload 5, 2) := by decide +kernel
theorem dX5_pipe_184 : decode cX5_pipe 184 = .ok (.iconst 2, 1) := by decide +kernel
theorem dX5_pipe_185 : decode cX5_pipe 185 = .ok (.invokevirtual 278, 3) := by decide +kernel
theorem dX5_pipe_188 : decode cX5_pipe 188 = .ok (.invokevirtual 280, 3) := by decide +kernel
theorem dX5_pipe_191 : decode cX5_pipe 191 = .ok (.aload_n 0, 1) := by decide +kernel
theorem dX5_pipe_192 : decode cX5_pipe 192 = .ok (.getfield 18, 3) := by decide +kernel
theorem dX5_pipe_195 : decode cX5_pipe 195 = .ok (.iload_n 1, 1) := by decide +kernel
theorem dX5_pipe_196 : decode cX5_pipe 196 = .ok (.iload_n 2, 1) := by decide +kernel
theorem dX5_pipe_197 : decode cX5_pipe 197 = .ok (.iconst (-1), 1) := by decide +kernel
theorem dX5_pipe_198 : decode cX5_pipe 198 = .ok (.iload_n 3, 1) := by decide +kernel
theorem dX5_pipe_199 : decode cX5_pipe 199 = .ok (.invokevirtual 284, 3) := by decide +kernel
theorem dX5_pipe_202 : decode cX5_pipe 202 = .ok (.aload_n 0, 1) := by decide +kernel
theorem dX5_pipe_203 : decode cX5_pipe 203 = .ok (.getfield 18, 3) := by decide +kernel
theorem dX5_pipe_206 : decode cX5_pipe 206 = .ok (.iload_n 1, 1) := by decide +kernel
theorem dX5_pipe_207 : decode cX5_pipe 207 = .ok (.iload_n 2, 1) := by decide +kernel
theorem dX5_pipe_208 : decode cX5_pipe 208 = .ok (.iconst 4, 1) := by decide +kernel
theorem dX5_pipe_209 : decode cX5_pipe 209 = .ok (.iadd, 1) := by decide +kernel
theorem dX5_pipe_210 : decode cX5_pipe 210 = .ok (.iconst (-1), 1) := by decide +kernel
theorem dX5_pipe_211 : decode cX5_pipe 211 = .ok (.iload 4, 2) := by decide +kernel
theorem dX5_pipe_213 : decode cX5_pipe 213 = .ok (.invokevirtual 284, 3) := by decide +kernel
theorem dX5_pipe_216 : decode cX5_pipe 216 = .ok (.aload_n 0, 1) := by decide +kernel
theorem dX5_pipe_217 : decode cX5_pipe 217 = .ok (.getfield 18, 3) := by decide +kernel
theorem dX5_pipe_220 : decode cX5_pipe 220 = .ok (.iload_n 1, 1) := by decide +kernel
theorem dX5_pipe_221 : decode cX5_pipe 221 = .ok (.iload_n 2, 1) := by decide +kernel
theorem dX5_pipe_222 : decode cX5_pipe 222 = .ok (.bipush 8, 2) := by decide +kernel
theorem dX5_pipe_224 : decode cX5_pipe 224 = .ok (.invokevirtual 288, 3) := by decide +kernel
theorem dX5_pipe_227 : decode cX5_pipe 227 = .ok (.lconst 0, 1) := by decide +kernel
theorem dX5_pipe_228 : decode cX5_pipe 228 = .ok (.lreturn, 1) := by decide +kernel
theorem dX5_read_0 : decode cX5_read 0 = .ok (.iload 4, 2) := by decide +kernel
theorem dX5_read_2 : decode cX5_read 2 = .ok (.ifCond .lt 11, 3) := by decide +kernel
theorem dX5_read_5 : decode cX5_read 5 = .ok (.iload 4, 2) := by decide +kernel
theorem dX5_read_7 : decode cX5_read 7 = .ok (.sipush 512, 3) := by decide +kernel
theorem dX5_read_10 : decode cX5_read 10 = .ok (.if_icmp .le 7, 3) := by decide +kernel
theorem dX5_read_13 : decode cX5_read 13 = .ok (.ldc2_w 251, 3) := by decide +kernel
theorem dX5_read_16 : decode cX5_read 16 = .ok (.lreturn, 1) := by decide +kernel
theorem dX5_read_17 : decode cX5_read 17 = .ok (.aload_n 0, 1) := by decide +kernel
theorem dX5_read_18 : decode cX5_read 18 = .ok (.getfield 18, 3) := by decide +kernel
theorem dX5_read_21 : decode cX5_read 21 = .ok (.iload_n 1, 1) := by decide +kernel
theorem dX5_read_22 : decode cX5_read 22 = .ok (.iload_n 3, 1) := by decide +kernel
theorem dX5_read_23 : decode cX5_read 23 = .ok (.iload 4, 2) := by decide +kernel
theorem dX5_read_25 : decode cX5_read 25 = .ok (.iconst 2, 1) := by decide +kernel
theorem dX5_read_26 : decode cX5_read 26 = .ok (.invokevirtual 253, 3) := by decide +kernel
theorem dX5_read_29 : decode cX5_read 29 = .ok (.ifCond .ne 7, 3) := by decide +kernel
theorem dX5_read_32 : decode cX5_read 32 = .ok (.ldc2_w 257, 3) := by decide +kernel
theorem dX5_read_35 : decode cX5_read 35 = .ok (.lreturn, 1) := by decide +kernel
theorem dX5_read_36 : decode cX5_read 36 = .ok (.aload_n 0, 1) := by decide +kernel
theorem dX5_read_37 : decode cX5_read 37 = .ok (.getfield 28, 3) := by decide +kernel
theorem dX5_read_40 : decode cX5_read 40 = .ok (.iload_n 1, 1) := by decide +kernel
theorem dX5_read_41 : decode cX5_read 41 = .ok (.iload_n 2, 1) := by decide +kernel
theorem dX5_read_42 : decode cX5_read 42 = .ok (.invokevirtual 123, 3) := by decide +kernel
theorem dX5_read_45 : decode cX5_read 45 = .ok (.istore 5, 2) := by decide +kernel
theorem dX5_read_47 : decode cX5_read 47 = .ok (.iload 5, 2) := by decide +kernel
theorem dX5_read_49 : decode cX5_read 49 = .ok (.ifCond .lt 18, 3) := by decide +kernel
theorem dX5_read_52 : decode cX5_read 52 = .ok (.aload_n 0, 1) := by decide +kernel
theorem dX5_read_53 : decode cX5_read 53 = .ok (.getfield 28, 3) := by decide +kernel
theorem dX5_read_56 : decode cX5_read 56 = .ok (.iload 5, 2) := by decide +kernel
theorem dX5_read_58 : decode cX5_read 58 = .ok (.iconst 4, 1) := by decide +kernel
theorem dX5_read_59 : decode cX5_read 59 = .ok (.invokevirtual 291, 3) := by decide +kernel
theorem dX5_read_62 : decode cX5_read 62 = .ok (.iconst 1, 1) := by decide +kernel
theorem dX5_read_63 : decode cX5_read 63 = .ok (.iand, 1) := by decide +kernel
theorem dX5_read_64 : decode cX5_read 64 = .ok (.ifCond .ne 7, 3) := by decide +kernel
theorem dX5_read_67 : decode cX5_read 67 = .ok (.ldc2_w 294, 3) := by decide +kernel
theorem dX5_read_70 : decode cX5_read 70 = .ok (.lreturn, 1) := by decide +kernel
theorem dX5_read_71 : decode cX5_read 71 = .ok (.aload_n 0, 1) := by decide +kernel
theorem dX5_read_72 : decode cX5_read 72 = .ok (.getfield 28, 3) := by decide +kernel
theorem dX5_read_75 : decode cX5_read 75 = .ok (.iload 5, 2) := by decide +kernel
theorem dX5_read_77 : decode cX5_read 77 = .ok (.iload 4, 2) := by decide +kernel
theorem dX5_read_79 : decode cX5_read 79 = .ok (.invokevirtual 126, 3) := by decide +kernel
theorem dX5_read_82 : decode cX5_read 82 = .ok (.ifCond .eq 7, 3) := by decide +kernel
theorem dX5_read_85 : decode cX5_read 85 = .ok (.ldc2_w 157, 3) := by decide +kernel
theorem dX5_read_88 : decode cX5_read 88 = .ok (.lreturn, 1) := by decide +kernel
theorem dX5_read_89 : decode cX5_read 89 = .ok (.aload_n 0, 1) := by decide +kernel
theorem dX5_read_90 : decode cX5_read 90 = .ok (.getfield 28, 3) := by decide +kernel
theorem dX5_read_93 : decode cX5_read 93 = .ok (.iload 5, 2) := by decide +kernel
theorem dX5_read_95 : decode cX5_read 95 = .ok (.iload 4, 2) := by decide +kernel
theorem dX5_read_97 : decode cX5_read 97 = .ok (.invokevirtual 296, 3) := by decide +kernel
theorem dX5_read_100 : decode cX5_read 100 = .ok (.istore 6, 2) := by decide +kernel
theorem dX5_read_102 : decode cX5_read 102 = .ok (.aload_n 0, 1) := by decide +kernel
theorem dX5_read_103 : decode cX5_read 103 = .ok (.getfield 18, 3) := by decide +kernel
theorem dX5_read_106 : decode cX5_read 106 = .ok (.iload_n 1, 1) := by decide +kernel
theorem dX5_read_107 : decode cX5_read 107 = .ok (.iload_n 3, 1) := by decide +kernel
theorem dX5_read_108 : decode cX5_read 108 = .ok (.iload 6, 2) := by decide +kernel
theorem dX5_read_110 : decode cX5_read 110 = .ok (.invokevirtual 268, 3) := by decide +kernel
theorem dX5_read_113 : decode cX5_read 113 = .ok (.aload_n 0, 1) := by decide +kernel
theorem dX5_read_114 : decode cX5_read 114 = .ok (.getfield 18, 3) := by decide +kernel
theorem dX5_read_117 : decode cX5_read 117 = .ok (.invokevirtual 232, 3) := by decide +kernel
theorem dX5_read_120 : decode cX5_read 120 = .ok (.if_icmp .le 7, 3) := by decide +kernel
theorem dX5_read_123 : decode cX5_read 123 = .ok (.ldc2_w 155, 3) := by decide +kernel
theorem dX5_read_126 : decode cX5_read 126 = .ok (.lreturn, 1) := by decide +kernel
theorem dX5_read_127 : decode cX5_read 127 = .ok (.iload 6, 2) := by decide +kernel
theorem dX5_read_129 : decode cX5_read 129 = .ok (.ifCond .le 28, 3) := by decide +kernel
theorem dX5_read_132 : decode cX5_read 132 = .ok (.aload_n 0, 1) := by decide +kernel
theorem dX5_read_133 : decode cX5_read 133 = .ok (.getfield 18, 3) := by decide +kernel
theorem dX5_read_136 : decode cX5_read 136 = .ok (.iload_n 1, 1) := by decide +kernel
theorem dX5_read_137 : decode cX5_read 137 = .ok (.iload_n 3, 1) := by decide +kernel
theorem dX5_read_138 : decode cX5_read 138 = .ok (.invokevirtual 272, 3) := by decide +kernel
theorem dX5_read_141 : decode cX5_read 141 = .ok (.pop, 1) := by decide +kernel
theorem dX5_read_142 : decode cX5_read 142 = .ok (.aload_n 0, 1) := by decide +kernel
theorem dX5_read_143 : decode cX5_read 143 = .ok (.getfield 18, 3) := by decide +kernel
theorem dX5_read_146 : decode cX5_read 146 = .ok (.iload_n 1, 1) := by decide +kernel
theorem dX5_read_147 : decode cX5_read 147 = .ok (.iload_n 3, 1) := by decide +kernel
theorem dX5_read_148 : decode cX5_read 148 = .ok (.iload 6, 2) := by decide +kernel
theorem dX5_read_150 : decode cX5_read 150 = .ok (.iadd, 1) := by decide +kernel
theorem dX5_read_151 : decode cX5_read 151 = .ok (.iconst 1, 1) := by decide +kernel
theorem dX5_read_152 : decode cX5_read 152 = .ok (.isub, 1) := by decide +kernel
theorem dX5_read_153 : decode cX5_read 153 = .ok (.invokevirtual 272, 3) := by decide +kernel
theorem dX5_read_156 : decode cX5_read 156 = .ok (.pop, 1) := by decide +kernel
theorem dX5_read_157 : decode cX5_read 157 = .ok (.iconst 0, 1) := by decide +kernel
theorem dX5_read_158 : decode cX5_read 158 = .ok (.istore 7, 2) := by decide +kernel
theorem dX5_read_160 : decode cX5_read 160 = .ok (.iload 7, 2) := by decide +kernel
theorem dX5_read_162 : decode cX5_read 162 = .ok (.iload 6, 2) := by decide +kernel
theorem dX5_read_164 : decode cX5_read 164 = .ok (.if_icmp .ge 35, 3) := by decide +kernel
theorem dX5_read_167 : decode cX5_read 167 = .ok (.aload_n 0, 1) := by decide +kernel
theorem dX5_read_168 : decode cX5_read 168 = .ok (.getfield 18, 3) := by decide +kernel
theorem dX5_read_171 : decode cX5_read 171 = .ok (.iload_n 1, 1) := by decide +kernel
theorem dX5_read_172 : decode cX5_read 172 = .ok (.iload_n 3, 1) := by decide +kernel
theorem dX5_read_173 : decode cX5_read 173 = .ok (.iload 7, 2) := by decide +kernel
theorem dX5_read_175 : decode cX5_read 175 = .ok (.iadd, 1) := by decide +kernel
theorem dX5_read_176 : decode cX5_read 176 = .ok (.sipush 255, 3) := by decide +kernel
theorem dX5_read_179 : decode cX5_read 179 = .ok (.aload_n 0, 1) := by decide +kernel
theorem dX5_read_180 : decode cX5_read 180 = .ok (.getfield 28, 3) := by decide +kernel
theorem dX5_read_183 : decode cX5_read 183 = .ok (.iload 5, 2) := by decide +kernel
theorem dX5_read_185 : decode cX5_read 185 = .ok (.iload 7, 2) := by decide +kernel
theorem dX5_read_187 : decode cX5_read 187 = .ok (.invokevirtual 299, 3) := by decide +kernel
theorem dX5_read_190 : decode cX5_read 190 = .ok (.invokevirtual 284, 3) := by decide +kernel
theorem dX5_read_193 : decode cX5_read 193 = .ok (.iinc 7 1, 3) := by decide +kernel
theorem dX5_read_196 : decode cX5_read 196 = .ok (.goto (-36), 3) := by decide +kernel
theorem dX5_read_199 : decode cX5_read 199 = .ok (.aload_n 0, 1) := by decide +kernel
theorem dX5_read_200 : decode cX5_read 200 = .ok (.getfield 18, 3) := by decide +kernel
theorem dX5_read_203 : decode cX5_read 203 = .ok (.iload_n 1, 1) := by decide +kernel
theorem dX5_read_204 : decode cX5_read 204 = .ok (.iload_n 3, 1) := by decide +kernel
theorem dX5_read_205 : decode cX5_read 205 = .ok (.iload 6, 2) := by decide +kernel
theorem dX5_read_207 : decode cX5_read 207 = .ok (.invokevirtual 288, 3) := by decide +kernel
theorem dX5_read_210 : decode cX5_read 210 = .ok (.aload_n 0, 1) := by decide +kernel
theorem dX5_read_211 : decode cX5_read 211 = .ok (.getfield 28, 3) := by decide +kernel
theorem dX5_read_214 : decode cX5_read 214 = .ok (.iload 5, 2) := by decide +kernel
theorem dX5_read_216 : decode cX5_read 216 = .ok (.iload 4, 2) := by decide +kernel
theorem dX5_read_218 : decode cX5_read 218 = .ok (.iload 6, 2) := by decide +kernel
theorem dX5_read_220 : decode cX5_read 220 = .ok (.invokevirtual 302, 3) := by decide +kernel
theorem dX5_read_223 : decode cX5_read 223 = .ok (.iload 6, 2) := by decide +kernel
theorem dX5_read_225 : decode cX5_read 225 = .ok (.i2l, 1) := by decide +kernel
theorem dX5_read_226 : decode cX5_read 226 = .ok (.lreturn, 1) := by decide +kernel
theorem dX5_write_0 : decode cX5_write 0 = .ok (.iload 4, 2) := by decide +kernel
theorem dX5_write_2 : decode cX5_write 2 = .ok (.ifCond .lt 11, 3) := by decide +kernel
theorem dX5_write_5 : decode cX5_write 5 = .ok (.iload 4, 2) := by decide +kernel
theorem dX5_write_7 : decode cX5_write 7 = .ok (.sipush 512, 3) := by decide +kernel
theorem dX5_write_10 : decode cX5_write 10 = .ok (.if_icmp .le 7, 3) := by decide +kernel
theorem dX5_write_13 : decode cX5_write 13 = .ok (.ldc2_w 251, 3) := by decide +kernel
theorem dX5_write_16 : decode cX5_write 16 = .ok (.lreturn, 1) := by decide +kernel
theorem dX5_write_17 : decode cX5_write 17 = .ok (.aload_n 0, 1) := by decide +kernel
theorem dX5_write_18 : decode cX5_write 18 = .ok (.getfield 18, 3) := by decide +kernel
theorem dX5_write_21 : decode cX5_write 21 = .ok (.iload_n 1, 1) := by decide +kernel
theorem dX5_write_22 : decode cX5_write 22 = .ok (.iload_n 3, 1) := by decide +kernel
theorem dX5_write_23 : decode cX5_write 23 = .ok (.iload 4, 2) := by decide +kernel
theorem dX5_write_25 : decode cX5_write 25 = .ok (.iconst 1, 1) := by decide +kernel
theorem dX5_write_26 : decode cX5_write 26 = .ok (.invokevirtual 253, 3) := by decide +kernel
theorem dX5_write_29 : decode cX5_write 29 = .ok (.ifCond .ne 7, 3) := by decide +kernel
theorem dX5_write_32 : decode cX5_write 32 = .ok (.ldc2_w 257, 3) := by decide +kernel
theorem dX5_write_35 : decode cX5_write 35 = .ok (.lreturn, 1) := by decide +kernel
theorem dX5_write_36 : decode cX5_write 36 = .ok (.aload_n 0, 1) := by decide +kernel
theorem dX5_write_37 : decode cX5_write 37 = .ok (.getfield 28, 3) := by decide +kernel
theorem dX5_write_40 : decode cX5_write 40 = .ok (.iload_n 1, 1) := by decide +kernel
theorem dX5_write_41 : decode cX5_write 41 = .ok (.iload_n 2, 1) := by decide +kernel
theorem dX5_write_42 : decode cX5_write 42 = .ok (.invokevirtual 123, 3) := by decide +kernel
theorem dX5_write_45 : decode cX5_write 45 = .ok (.istore 5, 2) := by decide +kernel
theorem dX5_write_47 : decode cX5_write 47 = .ok (.iload 5, 2) := by decide +kernel
theorem dX5_write_49 : decode cX5_write 49 = .ok (.ifCond .lt 18, 3) := by decide +kernel
theorem dX5_write_52 : decode cX5_write 52 = .ok (.aload_n 0, 1) := by decide +kernel
theorem dX5_write_53 : decode cX5_write 53 = .ok (.getfield 28, 3) := by decide +kernel
theorem dX5_write_56 : decode cX5_write 56 = .ok (.iload 5, 2) := by decide +kernel
theorem dX5_write_58 : decode cX5_write 58 = .ok (.iconst 4, 1) := by decide +kernel
theorem dX5_write_59 : decode cX5_write 59 = .ok (.invokevirtual 291, 3) := by decide +kernel
theorem dX5_write_62 : decode cX5_write 62 = .ok (.iconst 2, 1) := by decide +kernel
theorem dX5_write_63 : decode cX5_write 63 = .ok (.iand, 1) := by decide +kernel
theorem dX5_write_64 : decode cX5_write 64 = .ok (.ifCond .ne 7, 3) := by decide +kernel
theorem dX5_write_67 : decode cX5_write 67 = .ok (.ldc2_w 294, 3) := by decide +kernel
theorem dX5_write_70 : decode cX5_write 70 = .ok (.lreturn, 1) := by decide +kernel
theorem dX5_write_71 : decode cX5_write 71 = .ok (.aload_n 0, 1) := by decide +kernel
theorem dX5_write_72 : decode cX5_write 72 = .ok (.getfield 28, 3) := by decide +kernel
theorem dX5_write_75 : decode cX5_write 75 = .ok (.iload 5, 2) := by decide +kernel
theorem dX5_write_77 : decode cX5_write 77 = .ok (.iconst 0, 1) := by decide +kernel
theorem dX5_write_78 : decode cX5_write 78 = .ok (.invokevirtual 291, 3) := by decide +kernel
theorem dX5_write_81 : decode cX5_write 81 = .ok (.istore 6, 2) := by decide +kernel
theorem dX5_write_83 : decode cX5_write 83 = .ok (.aload_n 0, 1) := by decide +kernel
theorem dX5_write_84 : decode cX5_write 84 = .ok (.getfield 28, 3) := by decide +kernel
theorem dX5_write_87 : decode cX5_write 87 = .ok (.iload 5, 2) := by decide +kernel
theorem dX5_write_89 : decode cX5_write 89 = .ok (.invokevirtual 305, 3) := by decide +kernel
theorem dX5_write_92 : decode cX5_write 92 = .ok (.ifCond .eq 7, 3) := by decide +kernel
theorem dX5_write_95 : decode cX5_write 95 = .ok (.ldc2_w 308, 3) := by decide +kernel
theorem dX5_write_98 : decode cX5_write 98 = .ok (.lreturn, 1) := by decide +kernel
theorem dX5_write_99 : decode cX5_write 99 = .ok (.iload 6, 2) := by decide +kernel
theorem dX5_write_101 : decode cX5_write 101 = .ok (.iconst 3, 1) := by decide +kernel
theorem dX5_write_102 : decode cX5_write 102 = .ok (.if_icmp .ne 15, 3) := by decide +kernel
theorem dX5_write_105 : decode cX5_write 105 = .ok (.aload_n 0, 1) := by decide +kernel
theorem dX5_write_106 : decode cX5_write 106 = .ok (.getfield 28, 3) := by decide +kernel
theorem dX5_write_109 : decode cX5_write 109 = .ok (.iload 5, 2) := by decide +kernel
theorem dX5_write_111 : decode cX5_write 111 = .ok (.invokevirtual 310, 3) := by decide +kernel
theorem dX5_write_114 : decode cX5_write 114 = .ok (.goto 4, 3) := by decide +kernel
theorem dX5_write_117 : decode cX5_write 117 = .ok (.iconst 0, 1) := by decide +kernel
theorem dX5_write_118 : decode cX5_write 118 = .ok (.istore 7, 2) := by decide +kernel
theorem dX5_write_120 : decode cX5_write 120 = .ok (.iload 4, 2) := by decide +kernel
theorem dX5_write_122 : decode cX5_write 122 = .ok (.ifCond .le 18, 3) := by decide +kernel
theorem dX5_write_125 : decode cX5_write 125 = .ok (.iload 7, 2) := by decide +kernel
theorem dX5_write_127 : decode cX5_write 127 = .ok (.iload 4, 2) := by decide +kernel
theorem dX5_write_129 : decode cX5_write 129 = .ok (.iadd, 1) := by decide +kernel
theorem dX5_write_130 : decode cX5_write 130 = .ok (.sipush 512, 3) := by decide +kernel
theorem dX5_write_133 : decode cX5_write 133 = .ok (.if_icmp .le 7, 3) := by decide +kernel
theorem dX5_write_136 : decode cX5_write 136 = .ok (.ldc2_w 313, 3) := by decide +kernel
theorem dX5_write_139 : decode cX5_write 139 = .ok (.lreturn, 1) := by decide +kernel
theorem dX5_write_140 : decode cX5_write 140 = .ok (.aload_n 0, 1) := by decide +kernel
theorem dX5_write_141 : decode cX5_write 141 = .ok (.getfield 28, 3) := by decide +kernel
theorem dX5_write_144 : decode cX5_write 144 = .ok (.iload 5, 2) := by decide +kernel
theorem dX5_write_146 : decode cX5_write 146 = .ok (.iload 4, 2) := by decide +kernel
theorem dX5_write_148 : decode cX5_write 148 = .ok (.invokevirtual 130, 3) := by decide +kernel
theorem dX5_write_151 : decode cX5_write 151 = .ok (.ifCond .eq 7, 3) := by decide +kernel
theorem dX5_write_154 : decode cX5_write 154 = .ok (.ldc2_w 157, 3) := by decide +kernel
theorem dX5_write_157 : decode cX5_write 157 = .ok (.lreturn, 1) := by decide +kernel
theorem dX5_write_158 : decode cX5_write 158 = .ok (.iload 6, 2) := by decide +kernel
theorem dX5_write_160 : decode cX5_write 160 = .ok (.iconst 3, 1) := by decide +kernel
theorem dX5_write_161 : decode cX5_write 161 = .ok (.if_icmp .ne 21, 3) := by decide +kernel
theorem dX5_write_164 : decode cX5_write 164 = .ok (.iload 4, 2) := by decide +kernel
theorem dX5_write_166 : decode cX5_write 166 = .ok (.ifCond .le 16, 3) := by decide +kernel
theorem dX5_write_169 : decode cX5_write 169 = .ok (.aload_n 0, 1) := by decide +kernel
theorem dX5_write_170 : decode cX5_write 170 = .ok (.getfield 28, 3) := by decide +kernel
theorem dX5_write_173 : decode cX5_write 173 = .ok (.iload 5, 2) := by decide +kernel
theorem dX5_write_175 : decode cX5_write 175 = .ok (.iload 7, 2) := by decide +kernel
theorem dX5_write_177 : decode cX5_write 177 = .ok (.iload 4, 2) := by decide +kernel
theorem dX5_write_179 : decode cX5_write 179 = .ok (.invokevirtual 315, 3) := by decide +kernel
theorem dX5_write_182 : decode cX5_write 182 = .ok (.iconst 0, 1) := by decide +kernel
theorem dX5_write_183 : decode cX5_write 183 = .ok (.istore 8, 2) := by decide +kernel
theorem dX5_write_185 : decode cX5_write 185 = .ok (.iload 8, 2) := by decide +kernel
theorem dX5_write_187 : decode cX5_write 187 = .ok (.iload 4, 2) := by decide +kernel
theorem dX5_write_189 : decode cX5_write 189 = .ok (.if_icmp .ge 77, 3) := by decide +kernel
theorem dX5_write_192 : decode cX5_write 192 = .ok (.aload_n 0, 1) := by decide +kernel
theorem dX5_write_193 : decode cX5_write 193 = .ok (.getfield 18, 3) := by decide +kernel
theorem dX5_write_196 : decode cX5_write 196 = .ok (.iload_n 1, 1) := by decide +kernel
theorem dX5_write_197 : decode cX5_write 197 = .ok (.iload_n 3, 1) := by decide +kernel
theorem dX5_write_198 : decode cX5_write 198 = .ok (.iload 8, 2) := by decide +kernel
theorem dX5_write_200 : decode cX5_write 200 = .ok (.iadd, 1) := by decide +kernel
theorem dX5_write_201 : decode cX5_write 201 = .ok (.invokevirtual 318, 3) := by decide +kernel
theorem dX5_write_204 : decode cX5_write 204 = .ok (.istore 9, 2) := by decide +kernel
theorem dX5_write_206 : decode cX5_write 206 = .ok (.iload 6, 2) := by decide +kernel
theorem dX5_write_208 : decode cX5_write 208 = .ok (.iconst 3, 1) := by decide +kernel
theorem dX5_write_209 : decode cX5_write 209 = .ok (.if_icmp .ne 22, 3) := by decide +kernel
theorem dX5_write_212 : decode cX5_write 212 = .ok (.aload_n 0, 1) := by decide +kernel
theorem dX5_write_213 : decode cX5_write 213 = .ok (.getfield 28, 3) := by decide +kernel
theorem dX5_write_216 : decode cX5_write 216 = .ok (.iload 5, 2) := by decide +kernel
theorem dX5_write_218 : decode cX5_write 218 = .ok (.iload 7, 2) := by decide +kernel
theorem dX5_write_220 : decode cX5_write 220 = .ok (.iload 8, 2) := by decide +kernel
theorem dX5_write_222 : decode cX5_write 222 = .ok (.iadd, 1) := by decide +kernel
theorem dX5_write_223 : decode cX5_write 223 = .ok (.iload 9, 2) := by decide +kernel
theorem dX5_write_225 : decode cX5_write 225 = .ok (.invokevirtual 321, 3) := by decide +kernel
theorem dX5_write_228 : decode cX5_write 228 = .ok (.goto 32, 3) := by decide +kernel
theorem dX5_write_231 : decode cX5_write 231 = .ok (.iload 6, 2) := by decide +kernel
theorem dX5_write_233 : decode cX5_write 233 = .ok (.iconst 4, 1) := by decide +kernel
theorem dX5_write_234 : decode cX5_write 234 = .ok (.if_icmp .ne 15, 3) := by decide +kernel
theorem dX5_write_237 : decode cX5_write 237 = .ok (.aload_n 0, 1) := by decide +kernel
theorem dX5_write_238 : decode cX5_write 238 = .ok (.getfield 28, 3) := by decide +kernel
theorem dX5_write_241 : decode cX5_write 241 = .ok (.iload 9, 2) := by decide +kernel
theorem dX5_write_243 : decode cX5_write 243 = .ok (.invokevirtual 324, 3) := by decide +kernel
theorem dX5_write_246 : decode cX5_write 246 = .ok (.goto 14, 3) := by decide +kernel
theorem dX5_write_249 : decode cX5_write 249 = .ok (.aload_n 0, 1) := by decide +kernel
theorem dX5_write_250 : decode cX5_write 250 = .ok (.getfield 28, 3) := by decide +kernel
theorem dX5_write_253 : decode cX5_write 253 = .ok (.iload 5, 2) := by decide +kernel
theorem dX5_write_255 : decode cX5_write 255 = .ok (.iload 9, 2) := by decide +kernel
theorem dX5_write_257 : decode cX5_write 257 = .ok (.invokevirtual 327, 3) := by decide +kernel
theorem dX5_write_260 : decode cX5_write 260 = .ok (.iinc 8 1, 3) := by decide +kernel
theorem dX5_write_263 : decode cX5_write 263 = .ok (.goto (-78), 3) := by decide +kernel
theorem dX5_write_266 : decode cX5_write 266 = .ok (.iload 4, 2) := by decide +kernel
theorem dX5_write_268 : decode cX5_write 268 = .ok (.i2l, 1) := by decide +kernel
theorem dX5_write_269 : decode cX5_write 269 = .ok (.lreturn, 1) := by decide +kernel
theorem dX5_close_0 : decode cX5_close 0 = .ok (.aload_n 0, 1) := by decide +kernel
theorem dX5_close_1 : decode cX5_close 1 = .ok (.getfield 28, 3) := by decide +kernel
theorem dX5_close_4 : decode cX5_close 4 = .ok (.iload_n 1, 1) := by decide +kernel
theorem dX5_close_5 : decode cX5_close 5 = .ok (.iload_n 2, 1) := by decide +kernel
theorem dX5_close_6 : decode cX5_close 6 = .ok (.invokevirtual 123, 3) := by decide +kernel
theorem dX5_close_9 : decode cX5_close 9 = .ok (.ifCond .ge 7, 3) := by decide +kernel
theorem dX5_close_12 : decode cX5_close 12 = .ok (.ldc2_w 294, 3) := by decide +kernel
theorem dX5_close_15 : decode cX5_close 15 = .ok (.lreturn, 1) := by decide +kernel
theorem dX5_close_16 : decode cX5_close 16 = .ok (.aload_n 0, 1) := by decide +kernel
theorem dX5_close_17 : decode cX5_close 17 = .ok (.getfield 28, 3) := by decide +kernel
theorem dX5_close_20 : decode cX5_close 20 = .ok (.iload_n 1, 1) := by decide +kernel
theorem dX5_close_21 : decode cX5_close 21 = .ok (.iload_n 2, 1) := by decide +kernel
theorem dX5_close_22 : decode cX5_close 22 = .ok (.invokevirtual 330, 3) := by decide +kernel
theorem dX5_close_25 : decode cX5_close 25 = .ok (.lconst 0, 1) := by decide +kernel
theorem dX5_close_26 : decode cX5_close 26 = .ok (.lreturn, 1) := by decide +kernel
theorem dX5_duplicate_0 : decode cX5_duplicate 0 = .ok (.iload_n 3, 1) := by decide +kernel
theorem dX5_duplicate_1 : decode cX5_duplicate 1 = .ok (.iconst (-1), 1) := by decide +kernel
theorem dX5_duplicate_2 : decode cX5_duplicate 2 = .ok (.if_icmp .lt 9, 3) := by decide +kernel
theorem dX5_duplicate_5 : decode cX5_duplicate 5 = .ok (.iload_n 3, 1) := by decide +kernel
theorem dX5_duplicate_6 : decode cX5_duplicate 6 = .ok (.bipush 16, 2) := by decide +kernel
theorem dX5_duplicate_8 : decode cX5_duplicate 8 = .ok (.if_icmp .lt 7, 3) := by decide +kernel
theorem dX5_duplicate_11 : decode cX5_duplicate 11 = .ok (.ldc2_w 251, 3) := by decide +kernel
theorem dX5_duplicate_14 : decode cX5_duplicate 14 = .ok (.lreturn, 1) := by decide +kernel
theorem dX5_duplicate_15 : decode cX5_duplicate 15 = .ok (.aload_n 0, 1) := by decide +kernel
theorem dX5_duplicate_16 : decode cX5_duplicate 16 = .ok (.getfield 28, 3) := by decide +kernel
theorem dX5_duplicate_19 : decode cX5_duplicate 19 = .ok (.iload_n 1, 1) := by decide +kernel
theorem dX5_duplicate_20 : decode cX5_duplicate 20 = .ok (.iload_n 2, 1) := by decide +kernel
theorem dX5_duplicate_21 : decode cX5_duplicate 21 = .ok (.invokevirtual 123, 3) := by decide +kernel
theorem dX5_duplicate_24 : decode cX5_duplicate 24 = .ok (.istore 4, 2) := by decide +kernel
theorem dX5_duplicate_26 : decode cX5_duplicate 26 = .ok (.iload 4, 2) := by decide +kernel
theorem dX5_duplicate_28 : decode cX5_duplicate 28 = .ok (.ifCond .ge 7, 3) := by decide +kernel
theorem dX5_duplicate_31 : decode cX5_duplicate 31 = .ok (.ldc2_w 294, 3) := by decide +kernel
theorem dX5_duplicate_34 : decode cX5_duplicate 34 = .ok (.lreturn, 1) := by decide +kernel
theorem dX5_duplicate_35 : decode cX5_duplicate 35 = .ok (.iload_n 3, 1) := by decide +kernel
theorem dX5_duplicate_36 : decode cX5_duplicate 36 = .ok (.ifCond .ge 15, 3) := by decide +kernel
theorem dX5_duplicate_39 : decode cX5_duplicate 39 = .ok (.aload_n 0, 1) := by decide +kernel
theorem dX5_duplicate_40 : decode cX5_duplicate 40 = .ok (.getfield 28, 3) := by decide +kernel
theorem dX5_duplicate_43 : decode cX5_duplicate 43 = .ok (.iload_n 1, 1) := by decide +kernel
theorem dX5_duplicate_44 : decode cX5_duplicate 44 = .ok (.iconst 0, 1) := by decide +kernel
theorem dX5_duplicate_45 : decode cX5_duplicate 45 = .ok (.invokevirtual 259, 3) := by decide +kernel
theorem dX5_duplicate_48 : decode cX5_duplicate 48 = .ok (.goto 4, 3) := by decide +kernel
theorem dX5_duplicate_51 : decode cX5_duplicate 51 = .ok (.iload_n 3, 1) := by decide +kernel
theorem dX5_duplicate_52 : decode cX5_duplicate 52 = .ok (.istore 5, 2) := by decide +kernel
theorem dX5_duplicate_54 : decode cX5_duplicate 54 = .ok (.iload 5, 2) := by decide +kernel
theorem dX5_duplicate_56 : decode cX5_duplicate 56 = .ok (.ifCond .ge 7, 3) := by decide +kernel
theorem dX5_duplicate_59 : decode cX5_duplicate 59 = .ok (.ldc2_w 228, 3) := by decide +kernel
theorem dX5_duplicate_62 : decode cX5_duplicate 62 = .ok (.lreturn, 1) := by decide +kernel
theorem dX5_duplicate_63 : decode cX5_duplicate 63 = .ok (.iload 5, 2) := by decide +kernel
theorem dX5_duplicate_65 : decode cX5_duplicate 65 = .ok (.iload_n 2, 1) := by decide +kernel
theorem dX5_duplicate_66 : decode cX5_duplicate 66 = .ok (.if_icmp .eq 25, 3) := by decide +kernel
theorem dX5_duplicate_69 : decode cX5_duplicate 69 = .ok (.aload_n 0, 1) := by decide +kernel
theorem dX5_duplicate_70 : decode cX5_duplicate 70 = .ok (.getfield 28, 3) := by decide +kernel
theorem dX5_duplicate_73 : decode cX5_duplicate 73 = .ok (.iload_n 1, 1) := by decide +kernel
theorem dX5_duplicate_74 : decode cX5_duplicate 74 = .ok (.iload 5, 2) := by decide +kernel
theorem dX5_duplicate_76 : decode cX5_duplicate 76 = .ok (.invokevirtual 330, 3) := by decide +kernel
theorem dX5_duplicate_79 : decode cX5_duplicate 79 = .ok (.aload_n 0, 1) := by decide +kernel
theorem dX5_duplicate_80 : decode cX5_duplicate 80 = .ok (.getfield 28, 3) := by decide +kernel
theorem dX5_duplicate_83 : decode cX5_duplicate 83 = .ok (.iload_n 1, 1) := by decide +kernel
theorem dX5_duplicate_84 : decode cX5_duplicate 84 = .ok (.iload 5, 2) := by decide +kernel
theorem dX5_duplicate_86 : decode cX5_duplicate 86 = .ok (.iload 4, 2) := by decide +kernel
theorem dX5_duplicate_88 : decode cX5_duplicate 88 = .ok (.invokevirtual 280, 3) := by decide +kernel
theorem dX5_duplicate_91 : decode cX5_duplicate 91 = .ok (.iload 5, 2) := by decide +kernel
theorem dX5_duplicate_93 : decode cX5_duplicate 93 = .ok (.i2l, 1) := by decide +kernel
theorem dX5_duplicate_94 : decode cX5_duplicate 94 = .ok (.lreturn, 1) := by decide +kernel
theorem dX5_readName_0 : decode cX5_readName 0 = .ok (.iconst (-1), 1) := by decide +kernel
theorem dX5_readName_1 : decode cX5_readName 1 = .ok (.istore 4, 2) := by decide +kernel
theorem dX5_readName_3 : decode cX5_readName 3 = .ok (.iconst 1, 1) := by decide +kernel
theorem dX5_readName_4 : decode cX5_readName 4 = .ok (.istore 5, 2) := by decide +kernel
theorem dX5_readName_6 : decode cX5_readName 6 = .ok (.aload_n 3, 1) := by decide +kernel
theorem dX5_readName_7 : decode cX5_readName 7 = .ok (.iconst 0, 1) := by decide +kernel
theorem dX5_readName_8 : decode cX5_readName 8 = .ok (.invokestatic 332, 3) := by decide +kernel
theorem dX5_readName_11 : decode cX5_readName 11 = .ok (.iconst 0, 1) := by decide +kernel
theorem dX5_readName_12 : decode cX5_readName 12 = .ok (.istore 6, 2) := by decide +kernel
theorem dX5_readName_14 : decode cX5_readName 14 = .ok (.iload 6, 2) := by decide +kernel
theorem dX5_readName_16 : decode cX5_readName 16 = .ok (.aload_n 3, 1) := by decide +kernel
theorem dX5_readName_17 : decode cX5_readName 17 = .ok (.arraylength, 1) := by decide +kernel
theorem dX5_readName_18 : decode cX5_readName 18 = .ok (.if_icmp .ge 92, 3) := by decide +kernel
theorem dX5_readName_21 : decode cX5_readName 21 = .ok (.iload 4, 2) := by decide +kernel
theorem dX5_readName_23 : decode cX5_readName 23 = .ok (.ifCond .ge 87, 3) := by decide +kernel
theorem dX5_readName_26 : decode cX5_readName 26 = .ok (.aload_n 0, 1) := by decide +kernel
theorem dX5_readName_27 : decode cX5_readName 27 = .ok (.getfield 18, 3) := by decide +kernel
theorem dX5_readName_30 : decode cX5_readName 30 = .ok (.iload_n 1, 1) := by decide +kernel
theorem dX5_readName_31 : decode cX5_readName 31 = .ok (.iload_n 2, 1) := by decide +kernel
theorem dX5_readName_32 : decode cX5_readName 32 = .ok (.iload 6, 2) := by decide +kernel
theorem dX5_readName_34 : decode cX5_readName 34 = .ok (.iadd, 1) := by decide +kernel
theorem dX5_readName_35 : decode cX5_readName 35 = .ok (.iconst 1, 1) := by decide +kernel
theorem dX5_readName_36 : decode cX5_readName 36 = .ok (.invokevirtual 338, 3) := by decide +kernel
theorem dX5_readName_39 : decode cX5_readName 39 = .ok (.ifCond .ne 6, 3) := by decide +kernel
theorem dX5_readName_42 : decode cX5_readName 42 = .ok (.bipush (-14), 2) := by decide +kernel
theorem dX5_readName_44 : decode cX5_readName 44 = .ok (.ireturn, 1) := by decide +kernel
theorem dX5_readName_45 : decode cX5_readName 45 = .ok (.aload_n 0, 1) := by decide +kernel
theorem dX5_readName_46 : decode cX5_readName 46 = .ok (.getfield 18, 3) := by decide +kernel
theorem dX5_readName_49 : decode cX5_readName 49 = .ok (.iload_n 1, 1) := by decide +kernel
theorem dX5_readName_50 : decode cX5_readName 50 = .ok (.iload_n 2, 1) := by decide +kernel
theorem dX5_readName_51 : decode cX5_readName 51 = .ok (.iload 6, 2) := by decide +kernel
theorem dX5_readName_53 : decode cX5_readName 53 = .ok (.iadd, 1) := by decide +kernel
theorem dX5_readName_54 : decode cX5_readName 54 = .ok (.invokevirtual 318, 3) := by decide +kernel
theorem dX5_readName_57 : decode cX5_readName 57 = .ok (.istore 7, 2) := by decide +kernel
theorem dX5_readName_59 : decode cX5_readName 59 = .ok (.iload 7, 2) := by decide +kernel
theorem dX5_readName_61 : decode cX5_readName 61 = .ok (.ifCond .ne 10, 3) := by decide +kernel
theorem dX5_readName_64 : decode cX5_readName 64 = .ok (.iload 6, 2) := by decide +kernel
theorem dX5_readName_66 : decode cX5_readName 66 = .ok (.istore 4, 2) := by decide +kernel
theorem dX5_readName_68 : decode cX5_readName 68 = .ok (.goto 36, 3) := by decide +kernel
theorem dX5_readName_71 : decode cX5_readName 71 = .ok (.iload 5, 2) := by decide +kernel
theorem dX5_readName_73 : decode cX5_readName 73 = .ok (.ifCond .eq 21, 3) := by decide +kernel
theorem dX5_readName_76 : decode cX5_readName 76 = .ok (.iload 7, 2) := by decide +kernel
theorem dX5_readName_78 : decode cX5_readName 78 = .ok (.bipush 33, 2) := by decide +kernel
theorem dX5_readName_80 : decode cX5_readName 80 = .ok (.if_icmp .lt 14, 3) := by decide +kernel
theorem dX5_readName_83 : decode cX5_readName 83 = .ok (.iload 7, 2) := by decide +kernel
theorem dX5_readName_85 : decode cX5_readName 85 = .ok (.bipush 126, 2) := by decide +kernel
theorem dX5_readName_87 : decode cX5_readName 87 = .ok (.if_icmp .gt 7, 3) := by decide +kernel
theorem dX5_readName_90 : decode cX5_readName 90 = .ok (.iconst 1, 1) := by decide +kernel
theorem dX5_readName_91 : decode cX5_readName 91 = .ok (.goto 4, 3) := by decide +kernel
theorem dX5_readName_94 : decode cX5_readName 94 = .ok (.iconst 0, 1) := by decide +kernel
theorem dX5_readName_95 : decode cX5_readName 95 = .ok (.istore 5, 2) := by decide +kernel
theorem dX5_readName_97 : decode cX5_readName 97 = .ok (.aload_n 3, 1) := by decide +kernel
theorem dX5_readName_98 : decode cX5_readName 98 = .ok (.iload 6, 2) := by decide +kernel
theorem dX5_readName_100 : decode cX5_readName 100 = .ok (.iload 7, 2) := by decide +kernel
theorem dX5_readName_102 : decode cX5_readName 102 = .ok (.i2b, 1) := by decide +kernel
theorem dX5_readName_103 : decode cX5_readName 103 = .ok (.bastore, 1) := by decide +kernel
theorem dX5_readName_104 : decode cX5_readName 104 = .ok (.iinc 6 1, 3) := by decide +kernel
theorem dX5_readName_107 : decode cX5_readName 107 = .ok (.goto (-93), 3) := by decide +kernel
theorem dX5_readName_110 : decode cX5_readName 110 = .ok (.iload 5, 2) := by decide +kernel
theorem dX5_readName_112 : decode cX5_readName 112 = .ok (.ifCond .eq 12, 3) := by decide +kernel
theorem dX5_readName_115 : decode cX5_readName 115 = .ok (.iload 4, 2) := by decide +kernel
theorem dX5_readName_117 : decode cX5_readName 117 = .ok (.ifCond .le 7, 3) := by decide +kernel
theorem dX5_readName_120 : decode cX5_readName 120 = .ok (.iconst 0, 1) := by decide +kernel
theorem dX5_readName_121 : decode cX5_readName 121 = .ok (.goto 5, 3) := by decide +kernel
theorem dX5_readName_124 : decode cX5_readName 124 = .ok (.bipush (-22), 2) := by decide +kernel
theorem dX5_readName_126 : decode cX5_readName 126 = .ok (.ireturn, 1) := by decide +kernel
theorem dX5_open_0 : decode cX5_open 0 = .ok (.iload_n 3, 1) := by decide +kernel
theorem dX5_open_1 : decode cX5_open 1 = .ok (.iconst 2, 1) := by decide +kernel
theorem dX5_open_2 : decode cX5_open 2 = .ok (.iand, 1) := by decide +kernel
theorem dX5_open_3 : decode cX5_open 3 = .ok (.ifCond .eq 7, 3) := by decide +kernel
theorem dX5_open_6 : decode cX5_open 6 = .ok (.iconst 1, 1) := by decide +kernel
theorem dX5_open_7 : decode cX5_open 7 = .ok (.goto 4, 3) := by decide +kernel
theorem dX5_open_10 : decode cX5_open 10 = .ok (.iconst 0, 1) := by decide +kernel
theorem dX5_open_11 : decode cX5_open 11 = .ok (.istore 4, 2) := by decide +kernel
theorem dX5_open_13 : decode cX5_open 13 = .ok (.iload_n 3, 1) := by decide +kernel
theorem dX5_open_14 : decode cX5_open 14 = .ok (.iconst 1, 1) := by decide +kernel
theorem dX5_open_15 : decode cX5_open 15 = .ok (.if_icmp .lt 52, 3) := by decide +kernel
theorem dX5_open_18 : decode cX5_open 18 = .ok (.iload_n 3, 1) := by decide +kernel
theorem dX5_open_19 : decode cX5_open 19 = .ok (.bipush 63, 2) := by decide +kernel
theorem dX5_open_21 : decode cX5_open 21 = .ok (.if_icmp .gt 46, 3) := by decide +kernel
theorem dX5_open_24 : decode cX5_open 24 = .ok (.iload_n 3, 1) := by decide +kernel
theorem dX5_open_25 : decode cX5_open 25 = .ok (.iconst 3, 1) := by decide +kernel
theorem dX5_open_26 : decode cX5_open 26 = .ok (.iand, 1) := by decide +kernel
theorem dX5_open_27 : decode cX5_open 27 = .ok (.ifCond .eq 40, 3) := by decide +kernel
theorem dX5_open_30 : decode cX5_open 30 = .ok (.iload_n 3, 1) := by decide +kernel
theorem dX5_open_31 : decode cX5_open 31 = .ok (.iconst 4, 1) := by decide +kernel
theorem dX5_open_32 : decode cX5_open 32 = .ok (.iand, 1) := by decide +kernel
theorem dX5_open_33 : decode cX5_open 33 = .ok (.ifCond .eq 8, 3) := by decide +kernel
theorem dX5_open_36 : decode cX5_open 36 = .ok (.iload 4, 2) := by decide +kernel
theorem dX5_open_38 : decode cX5_open 38 = .ok (.ifCond .eq 29, 3) := by decide +kernel
theorem dX5_open_41 : decode cX5_open 41 = .ok (.iload_n 3, 1) := by decide +kernel
theorem dX5_open_42 : decode cX5_open 42 = .ok (.bipush 16, 2) := by decide +kernel
theorem dX5_open_44 : decode cX5_open 44 = .ok (.iand, 1) := by decide +kernel
theorem dX5_open_45 : decode cX5_open 45 = .ok (.ifCond .eq 10, 3) := by decide +kernel
theorem dX5_open_48 : decode cX5_open 48 = .ok (.iload_n 3, 1) := by decide +kernel
theorem dX5_open_49 : decode cX5_open 49 = .ok (.bipush 8, 2) := by decide +kernel
theorem dX5_open_51 : decode cX5_open 51 = .ok (.iand, 1) := by decide +kernel
theorem dX5_open_52 : decode cX5_open 52 = .ok (.ifCond .eq 15, 3) := by decide +kernel
theorem dX5_open_55 : decode cX5_open 55 = .ok (.iload_n 3, 1) := by decide +kernel
theorem dX5_open_56 : decode cX5_open 56 = .ok (.bipush 32, 2) := by decide +kernel
theorem dX5_open_58 : decode cX5_open 58 = .ok (.iand, 1) := by decide +kernel
theorem dX5_open_59 : decode cX5_open 59 = .ok (.ifCond .eq 12, 3) := by decide +kernel
theorem dX5_open_62 : decode cX5_open 62 = .ok (.iload 4, 2) := by decide +kernel
theorem dX5_open_64 : decode cX5_open 64 = .ok (.ifCond .ne 7, 3) := by decide +kernel
theorem dX5_open_67 : decode cX5_open 67 = .ok (.ldc2_w 251, 3) := by decide +kernel
theorem dX5_open_70 : decode cX5_open 70 = .ok (.lreturn, 1) := by decide +kernel
theorem dX5_open_71 : decode cX5_open 71 = .ok (.aload_n 0, 1) := by decide +kernel
theorem dX5_open_72 : decode cX5_open 72 = .ok (.iload_n 1, 1) := by decide +kernel
theorem dX5_open_73 : decode cX5_open 73 = .ok (.iload_n 2, 1) := by decide +kernel
theorem dX5_open_74 : decode cX5_open 74 = .ok (.aload_n 0, 1) := by decide +kernel
theorem dX5_open_75 : decode cX5_open 75 = .ok (.getfield 9, 3) := by decide +kernel
theorem dX5_open_78 : decode cX5_open 78 = .ok (.invokevirtual 342, 3) := by decide +kernel
theorem dX5_open_81 : decode cX5_open 81 = .ok (.istore 5, 2) := by decide +kernel
theorem dX5_open_83 : decode cX5_open 83 = .ok (.iload 5, 2) := by decide +kernel
theorem dX5_open_85 : decode cX5_open 85 = .ok (.ifCond .eq 7, 3) := by decide +kernel
theorem dX5_open_88 : decode cX5_open 88 = .ok (.iload 5, 2) := by decide +kernel
theorem dX5_open_90 : decode cX5_open 90 = .ok (.i2l, 1) := by decide +kernel
theorem dX5_open_91 : decode cX5_open 91 = .ok (.lreturn, 1) := by decide +kernel
theorem dX5_open_92 : decode cX5_open 92 = .ok (.aload_n 0, 1) := by decide +kernel
theorem dX5_open_93 : decode cX5_open 93 = .ok (.getfield 28, 3) := by decide +kernel
theorem dX5_open_96 : decode cX5_open 96 = .ok (.aload_n 0, 1) := by decide +kernel
theorem dX5_open_97 : decode cX5_open 97 = .ok (.getfield 9, 3) := by decide +kernel
theorem dX5_open_100 : decode cX5_open 100 = .ok (.invokevirtual 346, 3) := by decide +kernel
theorem dX5_open_103 : decode cX5_open 103 = .ok (.istore 6, 2) := by decide +kernel
theorem dX5_open_105 : decode cX5_open 105 = .ok (.iload 6, 2) := by decide +kernel
theorem dX5_open_107 : decode cX5_open 107 = .ok (.ifCond .ge 14, 3) := by decide +kernel
theorem dX5_open_110 : decode cX5_open 110 = .ok (.iload_n 3, 1) := by decide +kernel
theorem dX5_open_111 : decode cX5_open 111 = .ok (.bipush 8, 2) := by decide +kernel
theorem dX5_open_113 : decode cX5_open 113 = .ok (.iand, 1) := by decide +kernel
theorem dX5_open_114 : decode cX5_open 114 = .ok (.ifCond .ne 7, 3) := by decide +kernel
theorem dX5_open_117 : decode cX5_open 117 = .ok (.ldc2_w 230, 3) := by decide +kernel
theorem dX5_open_120 : decode cX5_open 120 = .ok (.lreturn, 1) := by decide +kernel
theorem dX5_open_121 : decode cX5_open 121 = .ok (.iload 6, 2) := by decide +kernel
theorem dX5_open_123 : decode cX5_open 123 = .ok (.ifCond .lt 14, 3) := by decide +kernel
theorem dX5_open_126 : decode cX5_open 126 = .ok (.iload_n 3, 1) := by decide +kernel
theorem dX5_open_127 : decode cX5_open 127 = .ok (.bipush 16, 2) := by decide +kernel
theorem dX5_open_129 : decode cX5_open 129 = .ok (.iand, 1) := by decide +kernel
theorem dX5_open_130 : decode cX5_open 130 = .ok (.ifCond .eq 7, 3) := by decide +kernel
theorem dX5_open_133 : decode cX5_open 133 = .ok (.ldc2_w 350, 3) := by decide +kernel
theorem dX5_open_136 : decode cX5_open 136 = .ok (.lreturn, 1) := by decide +kernel
theorem dX5_open_137 : decode cX5_open 137 = .ok (.aload_n 0, 1) := by decide +kernel
theorem dX5_open_138 : decode cX5_open 138 = .ok (.getfield 28, 3) := by decide +kernel
theorem dX5_open_141 : decode cX5_open 141 = .ok (.iload_n 1, 1) := by decide +kernel
theorem dX5_open_142 : decode cX5_open 142 = .ok (.iconst 0, 1) := by decide +kernel
theorem dX5_open_143 : decode cX5_open 143 = .ok (.invokevirtual 259, 3) := by decide +kernel
theorem dX5_open_146 : decode cX5_open 146 = .ok (.istore 7, 2) := by decide +kernel
theorem dX5_open_148 : decode cX5_open 148 = .ok (.iload 6, 2) := by decide +kernel
theorem dX5_open_150 : decode cX5_open 150 = .ok (.ifCond .ge 7, 3) := by decide +kernel
theorem dX5_open_153 : decode cX5_open 153 = .ok (.iconst 1, 1) := by decide +kernel
theorem dX5_open_154 : decode cX5_open 154 = .ok (.goto 4, 3) := by decide +kernel
theorem dX5_open_157 : decode cX5_open 157 = .ok (.iconst 0, 1) := by decide +kernel
theorem dX5_open_158 : decode cX5_open 158 = .ok (.istore 8, 2) := by decide +kernel
theorem dX5_open_160 : decode cX5_open 160 = .ok (.iload 8, 2) := by decide +kernel
theorem dX5_open_162 : decode cX5_open 162 = .ok (.ifCond .eq 12, 3) := by decide +kernel
theorem dX5_open_165 : decode cX5_open 165 = .ok (.aload_n 0, 1) := by decide +kernel
theorem dX5_open_166 : decode cX5_open 166 = .ok (.getfield 28, 3) := by decide +kernel
theorem dX5_open_169 : decode cX5_open 169 = .ok (.invokevirtual 352, 3) := by decide +kernel
theorem dX5_open_172 : decode cX5_open 172 = .ok (.istore 6, 2) := by decide +kernel
theorem dX5_open_174 : decode cX5_open 174 = .ok (.iload 7, 2) := by decide +kernel
theorem dX5_open_176 : decode cX5_open 176 = .ok (.ifCond .lt 18, 3) := by decide +kernel
theorem dX5_open_179 : decode cX5_open 179 = .ok (.iload 6, 2) := by decide +kernel
theorem dX5_open_181 : decode cX5_open 181 = .ok (.ifCond .lt 13, 3) := by decide +kernel
theorem dX5_open_184 : decode cX5_open 184 = .ok (.aload_n 0, 1) := by decide +kernel
theorem dX5_open_185 : decode cX5_open 185 = .ok (.getfield 28, 3) := by decide +kernel
theorem dX5_open_188 : decode cX5_open 188 = .ok (.invokevirtual 265, 3) := by decide +kernel
theorem dX5_open_191 : decode cX5_open 191 = .ok (.ifCond .ne 7, 3) := by decide +kernel
theorem dX5_open_194 : decode cX5_open 194 = .ok (.ldc2_w 228, 3) := by decide +kernel
theorem dX5_open_197 : decode cX5_open 197 = .ok (.lreturn, 1) := by decide +kernel
theorem dX5_open_198 : decode cX5_open 198 = .ok (.iload 8, 2) := by decide +kernel
theorem dX5_open_200 : decode cX5_open 200 = .ok (.ifCond .eq 16, 3) := by decide +kernel
theorem dX5_open_203 : decode cX5_open 203 = .ok (.aload_n 0, 1) := by decide +kernel
theorem dX5_open_204 : decode cX5_open 204 = .ok (.getfield 28, 3) := by decide +kernel
theorem dX5_open_207 : decode cX5_open 207 = .ok (.iload 6, 2) := by decide +kernel
theorem dX5_open_209 : decode cX5_open 209 = .ok (.aload_n 0, 1) := by decide +kernel
theorem dX5_open_210 : decode cX5_open 210 = .ok (.getfield 9, 3) := by decide +kernel
theorem dX5_open_213 : decode cX5_open 213 = .ok (.invokevirtual 355, 3) := by decide +kernel
theorem dX5_open_216 : decode cX5_open 216 = .ok (.iload 8, 2) := by decide +kernel
theorem dX5_open_218 : decode cX5_open 218 = .ok (.ifCond .ne 10, 3) := by decide +kernel
theorem dX5_open_221 : decode cX5_open 221 = .ok (.iload_n 3, 1) := by decide +kernel
theorem dX5_open_222 : decode cX5_open 222 = .ok (.bipush 32, 2) := by decide +kernel
theorem dX5_open_224 : decode cX5_open 224 = .ok (.iand, 1) := by decide +kernel
theorem dX5_open_225 : decode cX5_open 225 = .ok (.ifCond .eq 12, 3) := by decide +kernel
theorem dX5_open_228 : decode cX5_open 228 = .ok (.aload_n 0, 1) := by decide +kernel
theorem dX5_open_229 : decode cX5_open 229 = .ok (.getfield 28, 3) := by decide +kernel
theorem dX5_open_232 : decode cX5_open 232 = .ok (.iload 6, 2) := by decide +kernel
theorem dX5_open_234 : decode cX5_open 234 = .ok (.invokevirtual 359, 3) := by decide +kernel
theorem dX5_open_237 : decode cX5_open 237 = .ok (.aload_n 0, 1) := by decide +kernel
theorem dX5_open_238 : decode cX5_open 238 = .ok (.getfield 28, 3) := by decide +kernel
theorem dX5_open_241 : decode cX5_open 241 = .ok (.iload_n 1, 1) := by decide +kernel
theorem dX5_open_242 : decode cX5_open 242 = .ok (.iload 7, 2) := by decide +kernel
theorem dX5_open_244 : decode cX5_open 244 = .ok (.aload_n 0, 1) := by decide +kernel
theorem dX5_open_245 : decode cX5_open 245 = .ok (.getfield 28, 3) := by decide +kernel
theorem dX5_open_248 : decode cX5_open 248 = .ok (.iconst 3, 1) := by decide +kernel
theorem dX5_open_249 : decode cX5_open 249 = .ok (.iload 6, 2) := by decide +kernel
theorem dX5_open_251 : decode cX5_open 251 = .ok (.iload_n 3, 1) := by decide +kernel
theorem dX5_open_252 : decode cX5_open 252 = .ok (.bipush 7, 2) := by decide +kernel
theorem dX5_open_254 : decode cX5_open 254 = .ok (.iand, 1) := by decide +kernel
theorem dX5_open_255 : decode cX5_open 255 = .ok (.invokevirtual 278, 3) := by decide +kernel
theorem dX5_open_258 : decode cX5_open 258 = .ok (.invokevirtual 280, 3) := by decide +kernel
theorem dX5_open_261 : decode cX5_open 261 = .ok (.iload 7, 2) := by decide +kernel
theorem dX5_open_263 : decode cX5_open 263 = .ok (.i2l, 1) := by decide +kernel
theorem dX5_open_264 : decode cX5_open 264 = .ok (.lreturn, 1) := by decide +kernel
theorem dX5_unlink_0 : decode cX5_unlink 0 = .ok (.aload_n 0, 1) := by decide +kernel
theorem dX5_unlink_1 : decode cX5_unlink 1 = .ok (.iload_n 1, 1) := by decide +kernel
theorem dX5_unlink_2 : decode cX5_unlink 2 = .ok (.iload_n 2, 1) := by decide +kernel
theorem dX5_unlink_3 : decode cX5_unlink 3 = .ok (.aload_n 0, 1) := by decide +kernel
theorem dX5_unlink_4 : decode cX5_unlink 4 = .ok (.getfield 9, 3) := by decide +kernel
theorem dX5_unlink_7 : decode cX5_unlink 7 = .ok (.invokevirtual 342, 3) := by decide +kernel
theorem dX5_unlink_10 : decode cX5_unlink 10 = .ok (.istore_n 3, 1) := by decide +kernel
theorem dX5_unlink_11 : decode cX5_unlink 11 = .ok (.iload_n 3, 1) := by decide +kernel
theorem dX5_unlink_12 : decode cX5_unlink 12 = .ok (.ifCond .eq 6, 3) := by decide +kernel
theorem dX5_unlink_15 : decode cX5_unlink 15 = .ok (.iload_n 3, 1) := by decide +kernel
theorem dX5_unlink_16 : decode cX5_unlink 16 = .ok (.i2l, 1) := by decide +kernel
theorem dX5_unlink_17 : decode cX5_unlink 17 = .ok (.lreturn, 1) := by decide +kernel
theorem dX5_unlink_18 : decode cX5_unlink 18 = .ok (.aload_n 0, 1) := by decide +kernel
theorem dX5_unlink_19 : decode cX5_unlink 19 = .ok (.getfield 28, 3) := by decide +kernel
theorem dX5_unlink_22 : decode cX5_unlink 22 = .ok (.aload_n 0, 1) := by decide +kernel
theorem dX5_unlink_23 : decode cX5_unlink 23 = .ok (.getfield 9, 3) := by decide +kernel
theorem dX5_unlink_26 : decode cX5_unlink 26 = .ok (.invokevirtual 346, 3) := by decide +kernel
theorem dX5_unlink_29 : decode cX5_unlink 29 = .ok (.istore 4, 2) := by decide +kernel
theorem dX5_unlink_31 : decode cX5_unlink 31 = .ok (.iload 4, 2) := by decide +kernel
theorem dX5_unlink_33 : decode cX5_unlink 33 = .ok (.ifCond .ge 7, 3) := by decide +kernel
theorem dX5_unlink_36 : decode cX5_unlink 36 = .ok (.ldc2_w 230, 3) := by decide +kernel
theorem dX5_unlink_39 : decode cX5_unlink 39 = .ok (.lreturn, 1) := by decide +kernel
theorem dX5_unlink_40 : decode cX5_unlink 40 = .ok (.aload_n 0, 1) := by decide +kernel
theorem dX5_unlink_41 : decode cX5_unlink 41 = .ok (.getfield 28, 3) := by decide +kernel
theorem dX5_unlink_44 : decode cX5_unlink 44 = .ok (.iload 4, 2) := by decide +kernel
theorem dX5_unlink_46 : decode cX5_unlink 46 = .ok (.invokevirtual 362, 3) := by decide +kernel
theorem dX5_unlink_49 : decode cX5_unlink 49 = .ok (.lconst 0, 1) := by decide +kernel
theorem dX5_unlink_50 : decode cX5_unlink 50 = .ok (.lreturn, 1) := by decide +kernel
theorem dX5_seek_0 : decode cX5_seek 0 = .ok (.iload 4, 2) := by decide +kernel
theorem dX5_seek_2 : decode cX5_seek 2 = .ok (.ifCond .lt 9, 3) := by decide +kernel
theorem dX5_seek_5 : decode cX5_seek 5 = .ok (.iload 4, 2) := by decide +kernel
theorem dX5_seek_7 : decode cX5_seek 7 = .ok (.iconst 2, 1) := by decide +kernel
theorem dX5_seek_8 : decode cX5_seek 8 = .ok (.if_icmp .le 7, 3) := by decide +kernel
theorem dX5_seek_11 : decode cX5_seek 11 = .ok (.ldc2_w 251, 3) := by decide +kernel
theorem dX5_seek_14 : decode cX5_seek 14 = .ok (.lreturn, 1) := by decide +kernel
theorem dX5_seek_15 : decode cX5_seek 15 = .ok (.aload_n 0, 1) := by decide +kernel
theorem dX5_seek_16 : decode cX5_seek 16 = .ok (.getfield 28, 3) := by decide +kernel
theorem dX5_seek_19 : decode cX5_seek 19 = .ok (.iload_n 1, 1) := by decide +kernel
theorem dX5_seek_20 : decode cX5_seek 20 = .ok (.iload_n 2, 1) := by decide +kernel
theorem dX5_seek_21 : decode cX5_seek 21 = .ok (.invokevirtual 123, 3) := by decide +kernel
theorem dX5_seek_24 : decode cX5_seek 24 = .ok (.istore 5, 2) := by decide +kernel
theorem dX5_seek_26 : decode cX5_seek 26 = .ok (.iload 5, 2) := by decide +kernel
theorem dX5_seek_28 : decode cX5_seek 28 = .ok (.ifCond .lt 17, 3) := by decide +kernel
theorem dX5_seek_31 : decode cX5_seek 31 = .ok (.aload_n 0, 1) := by decide +kernel
theorem dX5_seek_32 : decode cX5_seek 32 = .ok (.getfield 28, 3) := by decide +kernel
theorem dX5_seek_35 : decode cX5_seek 35 = .ok (.iload 5, 2) := by decide +kernel
theorem dX5_seek_37 : decode cX5_seek 37 = .ok (.iconst 0, 1) := by decide +kernel
theorem dX5_seek_38 : decode cX5_seek 38 = .ok (.invokevirtual 291, 3) := by decide +kernel
theorem dX5_seek_41 : decode cX5_seek 41 = .ok (.iconst 3, 1) := by decide +kernel
theorem dX5_seek_42 : decode cX5_seek 42 = .ok (.if_icmp .eq 7, 3) := by decide +kernel
theorem dX5_seek_45 : decode cX5_seek 45 = .ok (.ldc2_w 294, 3) := by decide +kernel
theorem dX5_seek_48 : decode cX5_seek 48 = .ok (.lreturn, 1) := by decide +kernel
theorem dX5_seek_49 : decode cX5_seek 49 = .ok (.iload_n 3, 1) := by decide +kernel
theorem dX5_seek_50 : decode cX5_seek 50 = .ok (.i2l, 1) := by decide +kernel
theorem dX5_seek_51 : decode cX5_seek 51 = .ok (.lstore 6, 2) := by decide +kernel
theorem dX5_seek_53 : decode cX5_seek 53 = .ok (.iload 4, 2) := by decide +kernel
theorem dX5_seek_55 : decode cX5_seek 55 = .ok (.ifCond .le 38, 3) := by decide +kernel
theorem dX5_seek_58 : decode cX5_seek 58 = .ok (.lload 6, 2) := by decide +kernel
theorem dX5_seek_60 : decode cX5_seek 60 = .ok (.iload 4, 2) := by decide +kernel
theorem dX5_seek_62 : decode cX5_seek 62 = .ok (.iconst 1, 1) := by decide +kernel
theorem dX5_seek_63 : decode cX5_seek 63 = .ok (.if_icmp .ne 17, 3) := by decide +kernel
theorem dX5_seek_66 : decode cX5_seek 66 = .ok (.aload_n 0, 1) := by decide +kernel
theorem dX5_seek_67 : decode cX5_seek 67 = .ok (.getfield 28, 3) := by decide +kernel
theorem dX5_seek_70 : decode cX5_seek 70 = .ok (.iload 5, 2) := by decide +kernel
theorem dX5_seek_72 : decode cX5_seek 72 = .ok (.iconst 3, 1) := by decide +kernel
theorem dX5_seek_73 : decode cX5_seek 73 = .ok (.invokevirtual 291, 3) := by decide +kernel
theorem dX5_seek_76 : decode cX5_seek 76 = .ok (.i2l, 1) := by decide +kernel
theorem dX5_seek_77 : decode cX5_seek 77 = .ok (.goto 13, 3) := by decide +kernel
theorem dX5_seek_80 : decode cX5_seek 80 = .ok (.aload_n 0, 1) := by decide +kernel
theorem dX5_seek_81 : decode cX5_seek 81 = .ok (.getfield 28, 3) := by decide +kernel
theorem dX5_seek_84 : decode cX5_seek 84 = .ok (.iload 5, 2) := by decide +kernel
theorem dX5_seek_86 : decode cX5_seek 86 = .ok (.invokevirtual 365, 3) := by decide +kernel
theorem dX5_seek_89 : decode cX5_seek 89 = .ok (.i2l, 1) := by decide +kernel
