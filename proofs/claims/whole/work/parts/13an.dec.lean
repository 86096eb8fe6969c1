theorem dX16_pipe_79 : decode cX16_pipe 79 = .ok (.getfield 232, 3) := by decide +kernel
theorem dX16_pipe_82 : decode cX16_pipe 82 = .ok (.iload_n 1, 1) := by decide +kernel
theorem dX16_pipe_83 : decode cX16_pipe 83 = .ok (.bipush 8, 2) := by decide +kernel
theorem dX16_pipe_85 : decode cX16_pipe 85 = .ok (.invokevirtual 394, 3) := by decide +kernel
theorem dX16_pipe_88 : decode cX16_pipe 88 = .ok (.invokevirtual 397, 3) := by decide +kernel
theorem dX16_pipe_91 : decode cX16_pipe 91 = .ok (.ifCond .ne 9, 3) := by decide +kernel
theorem dX16_pipe_94 : decode cX16_pipe 94 = .ok (.aload_n 0, 1) := by decide +kernel
theorem dX16_pipe_95 : decode cX16_pipe 95 = .ok (.iconst 3, 1) := by decide +kernel
theorem dX16_pipe_96 : decode cX16_pipe 96 = .ok (.invokevirtual 415, 3) := by decide +kernel
theorem dX16_pipe_99 : decode cX16_pipe 99 = .ok (.ireturn, 1) := by decide +kernel
theorem dX16_pipe_100 : decode cX16_pipe 100 = .ok (.aload_n 0, 1) := by decide +kernel
theorem dX16_pipe_101 : decode cX16_pipe 101 = .ok (.getfield 85, 3) := by decide +kernel
theorem dX16_pipe_104 : decode cX16_pipe 104 = .ok (.iload_n 2, 1) := by decide +kernel
theorem dX16_pipe_105 : decode cX16_pipe 105 = .ok (.iconst 1, 1) := by decide +kernel
theorem dX16_pipe_106 : decode cX16_pipe 106 = .ok (.bastore, 1) := by decide +kernel
theorem dX16_pipe_107 : decode cX16_pipe 107 = .ok (.aload_n 0, 1) := by decide +kernel
theorem dX16_pipe_108 : decode cX16_pipe 108 = .ok (.getfield 94, 3) := by decide +kernel
theorem dX16_pipe_111 : decode cX16_pipe 111 = .ok (.iload_n 2, 1) := by decide +kernel
theorem dX16_pipe_112 : decode cX16_pipe 112 = .ok (.iconst 0, 1) := by decide +kernel
theorem dX16_pipe_113 : decode cX16_pipe 113 = .ok (.iastore, 1) := by decide +kernel
theorem dX16_pipe_114 : decode cX16_pipe 114 = .ok (.aload_n 0, 1) := by decide +kernel
theorem dX16_pipe_115 : decode cX16_pipe 115 = .ok (.aload_n 0, 1) := by decide +kernel
theorem dX16_pipe_116 : decode cX16_pipe 116 = .ok (.iconst 1, 1) := by decide +kernel
theorem dX16_pipe_117 : decode cX16_pipe 117 = .ok (.iload_n 2, 1) := by decide +kernel
theorem dX16_pipe_118 : decode cX16_pipe 118 = .ok (.iconst 1, 1) := by decide +kernel
theorem dX16_pipe_119 : decode cX16_pipe 119 = .ok (.invokevirtual 168, 3) := by decide +kernel
theorem dX16_pipe_122 : decode cX16_pipe 122 = .ok (.invokevirtual 488, 3) := by decide +kernel
theorem dX16_pipe_125 : decode cX16_pipe 125 = .ok (.istore_n 3, 1) := by decide +kernel
theorem dX16_pipe_126 : decode cX16_pipe 126 = .ok (.aload_n 0, 1) := by decide +kernel
theorem dX16_pipe_127 : decode cX16_pipe 127 = .ok (.aload_n 0, 1) := by decide +kernel
theorem dX16_pipe_128 : decode cX16_pipe 128 = .ok (.iconst 2, 1) := by decide +kernel
theorem dX16_pipe_129 : decode cX16_pipe 129 = .ok (.iload_n 2, 1) := by decide +kernel
theorem dX16_pipe_130 : decode cX16_pipe 130 = .ok (.iconst 2, 1) := by decide +kernel
theorem dX16_pipe_131 : decode cX16_pipe 131 = .ok (.invokevirtual 168, 3) := by decide +kernel
theorem dX16_pipe_134 : decode cX16_pipe 134 = .ok (.invokevirtual 488, 3) := by decide +kernel
theorem dX16_pipe_137 : decode cX16_pipe 137 = .ok (.istore 4, 2) := by decide +kernel
theorem dX16_pipe_139 : decode cX16_pipe 139 = .ok (.iconst 0, 1) := by decide +kernel
theorem dX16_pipe_140 : decode cX16_pipe 140 = .ok (.istore 5, 2) := by decide +kernel
theorem dX16_pipe_142 : decode cX16_pipe 142 = .ok (.iload 5, 2) := by decide +kernel
theorem dX16_pipe_144 : decode cX16_pipe 144 = .ok (.bipush 8, 2) := by decide +kernel
theorem dX16_pipe_146 : decode cX16_pipe 146 = .ok (.if_icmp .ge 41, 3) := by decide +kernel
theorem dX16_pipe_149 : decode cX16_pipe 149 = .ok (.aload_n 0, 1) := by decide +kernel
theorem dX16_pipe_150 : decode cX16_pipe 150 = .ok (.aload_n 0, 1) := by decide +kernel
theorem dX16_pipe_151 : decode cX16_pipe 151 = .ok (.getfield 232, 3) := by decide +kernel
theorem dX16_pipe_154 : decode cX16_pipe 154 = .ok (.iload_n 1, 1) := by decide +kernel
theorem dX16_pipe_155 : decode cX16_pipe 155 = .ok (.iload 5, 2) := by decide +kernel
theorem dX16_pipe_157 : decode cX16_pipe 157 = .ok (.iadd, 1) := by decide +kernel
theorem dX16_pipe_158 : decode cX16_pipe 158 = .ok (.iload 5, 2) := by decide +kernel
theorem dX16_pipe_160 : decode cX16_pipe 160 = .ok (.iconst 4, 1) := by decide +kernel
theorem dX16_pipe_161 : decode cX16_pipe 161 = .ok (.if_icmp .ge 7, 3) := by decide +kernel
theorem dX16_pipe_164 : decode cX16_pipe 164 = .ok (.iload_n 3, 1) := by decide +kernel
theorem dX16_pipe_165 : decode cX16_pipe 165 = .ok (.goto 5, 3) := by decide +kernel
theorem dX16_pipe_168 : decode cX16_pipe 168 = .ok (.iload 4, 2) := by decide +kernel
theorem dX16_pipe_170 : decode cX16_pipe 170 = .ok (.bipush 8, 2) := by decide +kernel
theorem dX16_pipe_172 : decode cX16_pipe 172 = .ok (.iload 5, 2) := by decide +kernel
theorem dX16_pipe_174 : decode cX16_pipe 174 = .ok (.iconst 4, 1) := by decide +kernel
theorem dX16_pipe_175 : decode cX16_pipe 175 = .ok (.irem, 1) := by decide +kernel
theorem dX16_pipe_176 : decode cX16_pipe 176 = .ok (.imul, 1) := by decide +kernel
theorem dX16_pipe_177 : decode cX16_pipe 177 = .ok (.ishr, 1) := by decide +kernel
theorem dX16_pipe_178 : decode cX16_pipe 178 = .ok (.invokevirtual 400, 3) := by decide +kernel
theorem dX16_pipe_181 : decode cX16_pipe 181 = .ok (.iinc 5 1, 3) := by decide +kernel
theorem dX16_pipe_184 : decode cX16_pipe 184 = .ok (.goto (-42), 3) := by decide +kernel
theorem dX16_pipe_187 : decode cX16_pipe 187 = .ok (.iconst 0, 1) := by decide +kernel
theorem dX16_pipe_188 : decode cX16_pipe 188 = .ok (.ireturn, 1) := by decide +kernel
theorem dX16_comes_0 : decode cX16_comes 0 = .ok (.aload_n 0, 1) := by decide +kernel
theorem dX16_comes_1 : decode cX16_comes 1 = .ok (.getfield 73, 3) := by decide +kernel
theorem dX16_comes_4 : decode cX16_comes 4 = .ok (.iload_n 1, 1) := by decide +kernel
theorem dX16_comes_5 : decode cX16_comes 5 = .ok (.iaload, 1) := by decide +kernel
theorem dX16_comes_6 : decode cX16_comes 6 = .ok (.iconst 1, 1) := by decide +kernel
theorem dX16_comes_7 : decode cX16_comes 7 = .ok (.if_icmp .ne 34, 3) := by decide +kernel
theorem dX16_comes_10 : decode cX16_comes 10 = .ok (.aload_n 0, 1) := by decide +kernel
theorem dX16_comes_11 : decode cX16_comes 11 = .ok (.getfield 94, 3) := by decide +kernel
theorem dX16_comes_14 : decode cX16_comes 14 = .ok (.aload_n 0, 1) := by decide +kernel
theorem dX16_comes_15 : decode cX16_comes 15 = .ok (.getfield 76, 3) := by decide +kernel
theorem dX16_comes_18 : decode cX16_comes 18 = .ok (.iload_n 1, 1) := by decide +kernel
theorem dX16_comes_19 : decode cX16_comes 19 = .ok (.iaload, 1) := by decide +kernel
theorem dX16_comes_20 : decode cX16_comes 20 = .ok (.iaload, 1) := by decide +kernel
theorem dX16_comes_21 : decode cX16_comes 21 = .ok (.iload_n 2, 1) := by decide +kernel
theorem dX16_comes_22 : decode cX16_comes 22 = .ok (.if_icmp .ge 17, 3) := by decide +kernel
theorem dX16_comes_25 : decode cX16_comes 25 = .ok (.aload_n 0, 1) := by decide +kernel
theorem dX16_comes_26 : decode cX16_comes 26 = .ok (.getfield 94, 3) := by decide +kernel
theorem dX16_comes_29 : decode cX16_comes 29 = .ok (.aload_n 0, 1) := by decide +kernel
theorem dX16_comes_30 : decode cX16_comes 30 = .ok (.getfield 76, 3) := by decide +kernel
theorem dX16_comes_33 : decode cX16_comes 33 = .ok (.iload_n 1, 1) := by decide +kernel
theorem dX16_comes_34 : decode cX16_comes 34 = .ok (.iaload, 1) := by decide +kernel
theorem dX16_comes_35 : decode cX16_comes 35 = .ok (.iaload, 1) := by decide +kernel
theorem dX16_comes_36 : decode cX16_comes 36 = .ok (.goto 4, 3) := by decide +kernel
theorem dX16_comes_39 : decode cX16_comes 39 = .ok (.iload_n 2, 1) := by decide +kernel
theorem dX16_comes_40 : decode cX16_comes 40 = .ok (.ireturn, 1) := by decide +kernel
theorem dX16_comes_41 : decode cX16_comes 41 = .ok (.aload_n 0, 1) := by decide +kernel
theorem dX16_comes_42 : decode cX16_comes 42 = .ok (.getfield 73, 3) := by decide +kernel
theorem dX16_comes_45 : decode cX16_comes 45 = .ok (.iload_n 1, 1) := by decide +kernel
theorem dX16_comes_46 : decode cX16_comes 46 = .ok (.iaload, 1) := by decide +kernel
theorem dX16_comes_47 : decode cX16_comes 47 = .ok (.iconst 3, 1) := by decide +kernel
theorem dX16_comes_48 : decode cX16_comes 48 = .ok (.if_icmp .ne 73, 3) := by decide +kernel
theorem dX16_comes_51 : decode cX16_comes 51 = .ok (.aload_n 0, 1) := by decide +kernel
theorem dX16_comes_52 : decode cX16_comes 52 = .ok (.getfield 100, 3) := by decide +kernel
theorem dX16_comes_55 : decode cX16_comes 55 = .ok (.aload_n 0, 1) := by decide +kernel
theorem dX16_comes_56 : decode cX16_comes 56 = .ok (.getfield 76, 3) := by decide +kernel
theorem dX16_comes_59 : decode cX16_comes 59 = .ok (.iload_n 1, 1) := by decide +kernel
theorem dX16_comes_60 : decode cX16_comes 60 = .ok (.iaload, 1) := by decide +kernel
theorem dX16_comes_61 : decode cX16_comes 61 = .ok (.iaload, 1) := by decide +kernel
theorem dX16_comes_62 : decode cX16_comes 62 = .ok (.aload_n 0, 1) := by decide +kernel
theorem dX16_comes_63 : decode cX16_comes 63 = .ok (.getfield 79, 3) := by decide +kernel
theorem dX16_comes_66 : decode cX16_comes 66 = .ok (.iload_n 1, 1) := by decide +kernel
theorem dX16_comes_67 : decode cX16_comes 67 = .ok (.iaload, 1) := by decide +kernel
theorem dX16_comes_68 : decode cX16_comes 68 = .ok (.isub, 1) := by decide +kernel
theorem dX16_comes_69 : decode cX16_comes 69 = .ok (.ifCond .ge 7, 3) := by decide +kernel
theorem dX16_comes_72 : decode cX16_comes 72 = .ok (.iconst 0, 1) := by decide +kernel
theorem dX16_comes_73 : decode cX16_comes 73 = .ok (.goto 47, 3) := by decide +kernel
theorem dX16_comes_76 : decode cX16_comes 76 = .ok (.aload_n 0, 1) := by decide +kernel
theorem dX16_comes_77 : decode cX16_comes 77 = .ok (.getfield 100, 3) := by decide +kernel
theorem dX16_comes_80 : decode cX16_comes 80 = .ok (.aload_n 0, 1) := by decide +kernel
theorem dX16_comes_81 : decode cX16_comes 81 = .ok (.getfield 76, 3) := by decide +kernel
theorem dX16_comes_84 : decode cX16_comes 84 = .ok (.iload_n 1, 1) := by decide +kernel
theorem dX16_comes_85 : decode cX16_comes 85 = .ok (.iaload, 1) := by decide +kernel
theorem dX16_comes_86 : decode cX16_comes 86 = .ok (.iaload, 1) := by decide +kernel
theorem dX16_comes_87 : decode cX16_comes 87 = .ok (.aload_n 0, 1) := by decide +kernel
theorem dX16_comes_88 : decode cX16_comes 88 = .ok (.getfield 79, 3) := by decide +kernel
theorem dX16_comes_91 : decode cX16_comes 91 = .ok (.iload_n 1, 1) := by decide +kernel
theorem dX16_comes_92 : decode cX16_comes 92 = .ok (.iaload, 1) := by decide +kernel
theorem dX16_comes_93 : decode cX16_comes 93 = .ok (.isub, 1) := by decide +kernel
theorem dX16_comes_94 : decode cX16_comes 94 = .ok (.iload_n 2, 1) := by decide +kernel
theorem dX16_comes_95 : decode cX16_comes 95 = .ok (.if_icmp .ge 24, 3) := by decide +kernel
theorem dX16_comes_98 : decode cX16_comes 98 = .ok (.aload_n 0, 1) := by decide +kernel
theorem dX16_comes_99 : decode cX16_comes 99 = .ok (.getfield 100, 3) := by decide +kernel
theorem dX16_comes_102 : decode cX16_comes 102 = .ok (.aload_n 0, 1) := by decide +kernel
theorem dX16_comes_103 : decode cX16_comes 103 = .ok (.getfield 76, 3) := by decide +kernel
theorem dX16_comes_106 : decode cX16_comes 106 = .ok (.iload_n 1, 1) := by decide +kernel
theorem dX16_comes_107 : decode cX16_comes 107 = .ok (.iaload, 1) := by decide +kernel
theorem dX16_comes_108 : decode cX16_comes 108 = .ok (.iaload, 1) := by decide +kernel
theorem dX16_comes_109 : decode cX16_comes 109 = .ok (.aload_n 0, 1) := by decide +kernel
theorem dX16_comes_110 : decode cX16_comes 110 = .ok (.getfield 79, 3) := by decide +kernel
theorem dX16_comes_113 : decode cX16_comes 113 = .ok (.iload_n 1, 1) := by decide +kernel
theorem dX16_comes_114 : decode cX16_comes 114 = .ok (.iaload, 1) := by decide +kernel
theorem dX16_comes_115 : decode cX16_comes 115 = .ok (.isub, 1) := by decide +kernel
theorem dX16_comes_116 : decode cX16_comes 116 = .ok (.goto 4, 3) := by decide +kernel
theorem dX16_comes_119 : decode cX16_comes 119 = .ok (.iload_n 2, 1) := by decide +kernel
theorem dX16_comes_120 : decode cX16_comes 120 = .ok (.ireturn, 1) := by decide +kernel
theorem dX16_comes_121 : decode cX16_comes 121 = .ok (.iconst 0, 1) := by decide +kernel
theorem dX16_comes_122 : decode cX16_comes 122 = .ok (.istore_n 3, 1) := by decide +kernel
theorem dX16_comes_123 : decode cX16_comes 123 = .ok (.iload_n 3, 1) := by decide +kernel
theorem dX16_comes_124 : decode cX16_comes 124 = .ok (.iload_n 2, 1) := by decide +kernel
theorem dX16_comes_125 : decode cX16_comes 125 = .ok (.if_icmp .ge 27, 3) := by decide +kernel
theorem dX16_comes_128 : decode cX16_comes 128 = .ok (.iload_n 3, 1) := by decide +kernel
theorem dX16_comes_129 : decode cX16_comes 129 = .ok (.aload_n 0, 1) := by decide +kernel
theorem dX16_comes_130 : decode cX16_comes 130 = .ok (.getfield 122, 3) := by decide +kernel
theorem dX16_comes_133 : decode cX16_comes 133 = .ok (.if_icmp .ge 19, 3) := by decide +kernel
theorem dX16_comes_136 : decode cX16_comes 136 = .ok (.aload_n 0, 1) := by decide +kernel
theorem dX16_comes_137 : decode cX16_comes 137 = .ok (.getfield 109, 3) := by decide +kernel
theorem dX16_comes_140 : decode cX16_comes 140 = .ok (.iload_n 3, 1) := by decide +kernel
theorem dX16_comes_141 : decode cX16_comes 141 = .ok (.iaload, 1) := by decide +kernel
theorem dX16_comes_142 : decode cX16_comes 142 = .ok (.iconst 4, 1) := by decide +kernel
theorem dX16_comes_143 : decode cX16_comes 143 = .ok (.if_icmp .eq 9, 3) := by decide +kernel
theorem dX16_comes_146 : decode cX16_comes 146 = .ok (.iinc 3 1, 3) := by decide +kernel
theorem dX16_comes_149 : decode cX16_comes 149 = .ok (.goto (-26), 3) := by decide +kernel
theorem dX16_comes_152 : decode cX16_comes 152 = .ok (.iload_n 3, 1) := by decide +kernel
theorem dX16_comes_153 : decode cX16_comes 153 = .ok (.ireturn, 1) := by decide +kernel
theorem dX16_read_0 : decode cX16_read 0 = .ok (.iload_n 3, 1) := by decide +kernel
theorem dX16_read_1 : decode cX16_read 1 = .ok (.ifCond .lt 10, 3) := by decide +kernel
theorem dX16_read_4 : decode cX16_read 4 = .ok (.iload_n 3, 1) := by decide +kernel
theorem dX16_read_5 : decode cX16_read 5 = .ok (.sipush 512, 3) := by decide +kernel
theorem dX16_read_8 : decode cX16_read 8 = .ok (.if_icmp .le 6, 3) := by decide +kernel
theorem dX16_read_11 : decode cX16_read 11 = .ok (.bipush (-22), 2) := by decide +kernel
theorem dX16_read_13 : decode cX16_read 13 = .ok (.ireturn, 1) := by decide +kernel
theorem dX16_read_14 : decode cX16_read 14 = .ok (.aload_n 0, 1) := by decide +kernel
theorem dX16_read_15 : decode cX16_read 15 = .ok (.aload_n 0, 1) := by decide +kernel
theorem dX16_read_16 : decode cX16_read 16 = .ok (.getfield 232, 3) := by decide +kernel
theorem dX16_read_19 : decode cX16_read 19 = .ok (.iload_n 2, 1) := by decide +kernel
theorem dX16_read_20 : decode cX16_read 20 = .ok (.iload_n 3, 1) := by decide +kernel
theorem dX16_read_21 : decode cX16_read 21 = .ok (.iconst 2, 1) := by decide +kernel
theorem dX16_read_22 : decode cX16_read 22 = .ok (.invokevirtual 478, 3) := by decide +kernel
theorem dX16_read_25 : decode cX16_read 25 = .ok (.ifCond .ne 6, 3) := by decide +kernel
theorem dX16_read_28 : decode cX16_read 28 = .ok (.bipush (-14), 2) := by decide +kernel
theorem dX16_read_30 : decode cX16_read 30 = .ok (.ireturn, 1) := by decide +kernel
theorem dX16_read_31 : decode cX16_read 31 = .ok (.aload_n 0, 1) := by decide +kernel
theorem dX16_read_32 : decode cX16_read 32 = .ok (.aload_n 0, 1) := by decide +kernel
theorem dX16_read_33 : decode cX16_read 33 = .ok (.getfield 232, 3) := by decide +kernel
theorem dX16_read_36 : decode cX16_read 36 = .ok (.iload_n 1, 1) := by decide +kernel
theorem dX16_read_37 : decode cX16_read 37 = .ok (.invokevirtual 491, 3) := by decide +kernel
theorem dX16_read_40 : decode cX16_read 40 = .ok (.istore 4, 2) := by decide +kernel
theorem dX16_read_42 : decode cX16_read 42 = .ok (.iload 4, 2) := by decide +kernel
theorem dX16_read_44 : decode cX16_read 44 = .ok (.iconst (-1), 1) := by decide +kernel
theorem dX16_read_45 : decode cX16_read 45 = .ok (.if_icmp .eq 15, 3) := by decide +kernel
theorem dX16_read_48 : decode cX16_read 48 = .ok (.aload_n 0, 1) := by decide +kernel
theorem dX16_read_49 : decode cX16_read 49 = .ok (.getfield 82, 3) := by decide +kernel
theorem dX16_read_52 : decode cX16_read 52 = .ok (.iload 4, 2) := by decide +kernel
theorem dX16_read_54 : decode cX16_read 54 = .ok (.iaload, 1) := by decide +kernel
theorem dX16_read_55 : decode cX16_read 55 = .ok (.iconst 1, 1) := by decide +kernel
theorem dX16_read_56 : decode cX16_read 56 = .ok (.iand, 1) := by decide +kernel
theorem dX16_read_57 : decode cX16_read 57 = .ok (.ifCond .ne 5, 3) := by decide +kernel
theorem dX16_read_60 : decode cX16_read 60 = .ok (.iconst (-1), 1) := by decide +kernel
theorem dX16_read_61 : decode cX16_read 61 = .ok (.ireturn, 1) := by decide +kernel
theorem dX16_read_62 : decode cX16_read 62 = .ok (.aload_n 0, 1) := by decide +kernel
theorem dX16_read_63 : decode cX16_read 63 = .ok (.iload 4, 2) := by decide +kernel
theorem dX16_read_65 : decode cX16_read 65 = .ok (.iconst 1, 1) := by decide +kernel
theorem dX16_read_66 : decode cX16_read 66 = .ok (.iload_n 3, 1) := by decide +kernel
theorem dX16_read_67 : decode cX16_read 67 = .ok (.invokevirtual 264, 3) := by decide +kernel
theorem dX16_read_70 : decode cX16_read 70 = .ok (.ifCond .eq 9, 3) := by decide +kernel
theorem dX16_read_73 : decode cX16_read 73 = .ok (.aload_n 0, 1) := by decide +kernel
theorem dX16_read_74 : decode cX16_read 74 = .ok (.iconst 1, 1) := by decide +kernel
theorem dX16_read_75 : decode cX16_read 75 = .ok (.invokevirtual 415, 3) := by decide +kernel
theorem dX16_read_78 : decode cX16_read 78 = .ok (.ireturn, 1) := by decide +kernel
theorem dX16_read_79 : decode cX16_read 79 = .ok (.aload_n 0, 1) := by decide +kernel
theorem dX16_read_80 : decode cX16_read 80 = .ok (.iload 4, 2) := by decide +kernel
theorem dX16_read_82 : decode cX16_read 82 = .ok (.iload_n 3, 1) := by decide +kernel
theorem dX16_read_83 : decode cX16_read 83 = .ok (.invokevirtual 494, 3) := by decide +kernel
theorem dX16_read_86 : decode cX16_read 86 = .ok (.istore 5, 2) := by decide +kernel
theorem dX16_read_88 : decode cX16_read 88 = .ok (.aload_n 0, 1) := by decide +kernel
theorem dX16_read_89 : decode cX16_read 89 = .ok (.aload_n 0, 1) := by decide +kernel
theorem dX16_read_90 : decode cX16_read 90 = .ok (.aload_n 0, 1) := by decide +kernel
theorem dX16_read_91 : decode cX16_read 91 = .ok (.getfield 232, 3) := by decide +kernel
theorem dX16_read_94 : decode cX16_read 94 = .ok (.iload_n 2, 1) := by decide +kernel
theorem dX16_read_95 : decode cX16_read 95 = .ok (.iload 5, 2) := by decide +kernel
theorem dX16_read_97 : decode cX16_read 97 = .ok (.invokevirtual 394, 3) := by decide +kernel
theorem dX16_read_100 : decode cX16_read 100 = .ok (.invokevirtual 397, 3) := by decide +kernel
theorem dX16_read_103 : decode cX16_read 103 = .ok (.ifCond .ne 9, 3) := by decide +kernel
theorem dX16_read_106 : decode cX16_read 106 = .ok (.aload_n 0, 1) := by decide +kernel
theorem dX16_read_107 : decode cX16_read 107 = .ok (.iconst 3, 1) := by decide +kernel
theorem dX16_read_108 : decode cX16_read 108 = .ok (.invokevirtual 415, 3) := by decide +kernel
theorem dX16_read_111 : decode cX16_read 111 = .ok (.ireturn, 1) := by decide +kernel
theorem dX16_read_112 : decode cX16_read 112 = .ok (.aload_n 0, 1) := by decide +kernel
theorem dX16_read_113 : decode cX16_read 113 = .ok (.getfield 76, 3) := by decide +kernel
theorem dX16_read_116 : decode cX16_read 116 = .ok (.iload 4, 2) := by decide +kernel
theorem dX16_read_118 : decode cX16_read 118 = .ok (.iaload, 1) := by decide +kernel
theorem dX16_read_119 : decode cX16_read 119 = .ok (.istore 6, 2) := by decide +kernel
theorem dX16_read_121 : decode cX16_read 121 = .ok (.iconst 0, 1) := by decide +kernel
theorem dX16_read_122 : decode cX16_read 122 = .ok (.istore 7, 2) := by decide +kernel
theorem dX16_read_124 : decode cX16_read 124 = .ok (.iload 7, 2) := by decide +kernel
theorem dX16_read_126 : decode cX16_read 126 = .ok (.iload 5, 2) := by decide +kernel
theorem dX16_read_128 : decode cX16_read 128 = .ok (.if_icmp .ge 92, 3) := by decide +kernel
theorem dX16_read_131 : decode cX16_read 131 = .ok (.aload_n 0, 1) := by decide +kernel
theorem dX16_read_132 : decode cX16_read 132 = .ok (.aload_n 0, 1) := by decide +kernel
theorem dX16_read_133 : decode cX16_read 133 = .ok (.getfield 232, 3) := by decide +kernel
theorem dX16_read_136 : decode cX16_read 136 = .ok (.iload_n 2, 1) := by decide +kernel
theorem dX16_read_137 : decode cX16_read 137 = .ok (.iload 7, 2) := by decide +kernel
theorem dX16_read_139 : decode cX16_read 139 = .ok (.iadd, 1) := by decide +kernel
theorem dX16_read_140 : decode cX16_read 140 = .ok (.aload_n 0, 1) := by decide +kernel
theorem dX16_read_141 : decode cX16_read 141 = .ok (.getfield 73, 3) := by decide +kernel
theorem dX16_read_144 : decode cX16_read 144 = .ok (.iload 4, 2) := by decide +kernel
theorem dX16_read_146 : decode cX16_read 146 = .ok (.iaload, 1) := by decide +kernel
theorem dX16_read_147 : decode cX16_read 147 = .ok (.iconst 1, 1) := by decide +kernel
theorem dX16_read_148 : decode cX16_read 148 = .ok (.if_icmp .ne 20, 3) := by decide +kernel
theorem dX16_read_151 : decode cX16_read 151 = .ok (.aload_n 0, 1) := by decide +kernel
theorem dX16_read_152 : decode cX16_read 152 = .ok (.getfield 97, 3) := by decide +kernel
theorem dX16_read_155 : decode cX16_read 155 = .ok (.sipush 512, 3) := by decide +kernel
theorem dX16_read_158 : decode cX16_read 158 = .ok (.iload 6, 2) := by decide +kernel
theorem dX16_read_160 : decode cX16_read 160 = .ok (.imul, 1) := by decide +kernel
theorem dX16_read_161 : decode cX16_read 161 = .ok (.iload 7, 2) := by decide +kernel
theorem dX16_read_163 : decode cX16_read 163 = .ok (.iadd, 1) := by decide +kernel
theorem dX16_read_164 : decode cX16_read 164 = .ok (.iaload, 1) := by decide +kernel
theorem dX16_read_165 : decode cX16_read 165 = .ok (.goto 46, 3) := by decide +kernel
theorem dX16_read_168 : decode cX16_read 168 = .ok (.aload_n 0, 1) := by decide +kernel
theorem dX16_read_169 : decode cX16_read 169 = .ok (.getfield 73, 3) := by decide +kernel
theorem dX16_read_172 : decode cX16_read 172 = .ok (.iload 4, 2) := by decide +kernel
theorem dX16_read_174 : decode cX16_read 174 = .ok (.iaload, 1) := by decide +kernel
theorem dX16_read_175 : decode cX16_read 175 = .ok (.iconst 3, 1) := by decide +kernel
theorem dX16_read_176 : decode cX16_read 176 = .ok (.if_icmp .ne 28, 3) := by decide +kernel
theorem dX16_read_179 : decode cX16_read 179 = .ok (.aload_n 0, 1) := by decide +kernel
theorem dX16_read_180 : decode cX16_read 180 = .ok (.getfield 103, 3) := by decide +kernel
theorem dX16_read_183 : decode cX16_read 183 = .ok (.sipush 512, 3) := by decide +kernel
theorem dX16_read_186 : decode cX16_read 186 = .ok (.iload 6, 2) := by decide +kernel
theorem dX16_read_188 : decode cX16_read 188 = .ok (.imul, 1) := by decide +kernel
theorem dX16_read_189 : decode cX16_read 189 = .ok (.aload_n 0, 1) := by decide +kernel
theorem dX16_read_190 : decode cX16_read 190 = .ok (.getfield 79, 3) := by decide +kernel
theorem dX16_read_193 : decode cX16_read 193 = .ok (.iload 4, 2) := by decide +kernel
theorem dX16_read_195 : decode cX16_read 195 = .ok (.iaload, 1) := by decide +kernel
theorem dX16_read_196 : decode cX16_read 196 = .ok (.iadd, 1) := by decide +kernel
theorem dX16_read_197 : decode cX16_read 197 = .ok (.iload 7, 2) := by decide +kernel
theorem dX16_read_199 : decode cX16_read 199 = .ok (.iadd, 1) := by decide +kernel
theorem dX16_read_200 : decode cX16_read 200 = .ok (.iaload, 1) := by decide +kernel
theorem dX16_read_201 : decode cX16_read 201 = .ok (.goto 10, 3) := by decide +kernel
theorem dX16_read_204 : decode cX16_read 204 = .ok (.aload_n 0, 1) := by decide +kernel
theorem dX16_read_205 : decode cX16_read 205 = .ok (.getfield 109, 3) := by decide +kernel
theorem dX16_read_208 : decode cX16_read 208 = .ok (.iload 7, 2) := by decide +kernel
theorem dX16_read_210 : decode cX16_read 210 = .ok (.iaload, 1) := by decide +kernel
theorem dX16_read_211 : decode cX16_read 211 = .ok (.invokevirtual 400, 3) := by decide +kernel
theorem dX16_read_214 : decode cX16_read 214 = .ok (.iinc 7 1, 3) := by decide +kernel
theorem dX16_read_217 : decode cX16_read 217 = .ok (.goto (-93), 3) := by decide +kernel
theorem dX16_read_220 : decode cX16_read 220 = .ok (.aload_n 0, 1) := by decide +kernel
theorem dX16_read_221 : decode cX16_read 221 = .ok (.getfield 73, 3) := by decide +kernel
theorem dX16_read_224 : decode cX16_read 224 = .ok (.iload 4, 2) := by decide +kernel
theorem dX16_read_226 : decode cX16_read 226 = .ok (.iaload, 1) := by decide +kernel
theorem dX16_read_227 : decode cX16_read 227 = .ok (.iconst 1, 1) := by decide +kernel
theorem dX16_read_228 : decode cX16_read 228 = .ok (.if_icmp .ne 71, 3) := by decide +kernel
theorem dX16_read_231 : decode cX16_read 231 = .ok (.iload 5, 2) := by decide +kernel
theorem dX16_read_233 : decode cX16_read 233 = .ok (.istore 7, 2) := by decide +kernel
theorem dX16_read_235 : decode cX16_read 235 = .ok (.iload 7, 2) := by decide +kernel
theorem dX16_read_237 : decode cX16_read 237 = .ok (.aload_n 0, 1) := by decide +kernel
theorem dX16_read_238 : decode cX16_read 238 = .ok (.getfield 94, 3) := by decide +kernel
theorem dX16_read_241 : decode cX16_read 241 = .ok (.iload 6, 2) := by decide +kernel
theorem dX16_read_243 : decode cX16_read 243 = .ok (.iaload, 1) := by decide +kernel
theorem dX16_read_244 : decode cX16_read 244 = .ok (.if_icmp .ge 40, 3) := by decide +kernel
theorem dX16_read_247 : decode cX16_read 247 = .ok (.aload_n 0, 1) := by decide +kernel
theorem dX16_read_248 : decode cX16_read 248 = .ok (.getfield 97, 3) := by decide +kernel
theorem dX16_read_251 : decode cX16_read 251 = .ok (.sipush 512, 3) := by decide +kernel
theorem dX16_read_254 : decode cX16_read 254 = .ok (.iload 6, 2) := by decide +kernel
theorem dX16_read_256 : decode cX16_read 256 = .ok (.imul, 1) := by decide +kernel
theorem dX16_read_257 : decode cX16_read 257 = .ok (.iload 7, 2) := by decide +kernel
theorem dX16_read_259 : decode cX16_read 259 = .ok (.iadd, 1) := by decide +kernel
theorem dX16_read_260 : decode cX16_read 260 = .ok (.iload 5, 2) := by decide +kernel
theorem dX16_read_262 : decode cX16_read 262 = .ok (.isub, 1) := by decide +kernel
theorem dX16_read_263 : decode cX16_read 263 = .ok (.aload_n 0, 1) := by decide +kernel
theorem dX16_read_264 : decode cX16_read 264 = .ok (.getfield 97, 3) := by decide +kernel
theorem dX16_read_267 : decode cX16_read 267 = .ok (.sipush 512, 3) := by decide +kernel
theorem dX16_read_270 : decode cX16_read 270 = .ok (.iload 6, 2) := by decide +kernel
theorem dX16_read_272 : decode cX16_read 272 = .ok (.imul, 1) := by decide +kernel
theorem dX16_read_273 : decode cX16_read 273 = .ok (.iload 7, 2) := by decide +kernel
theorem dX16_read_275 : decode cX16_read 275 = .ok (.iadd, 1) := by decide +kernel
theorem dX16_read_276 : decode cX16_read 276 = .ok (.iaload, 1) := by decide +kernel
theorem dX16_read_277 : decode cX16_read 277 = .ok (.iastore, 1) := by decide +kernel
theorem dX16_read_278 : decode cX16_read 278 = .ok (.iinc 7 1, 3) := by decide +kernel
theorem dX16_read_281 : decode cX16_read 281 = .ok (.goto (-46), 3) := by decide +kernel
theorem dX16_read_284 : decode cX16_read 284 = .ok (.aload_n 0, 1) := by decide +kernel
theorem dX16_read_285 : decode cX16_read 285 = .ok (.getfield 94, 3) := by decide +kernel
theorem dX16_read_288 : decode cX16_read 288 = .ok (.iload 6, 2) := by decide +kernel
theorem dX16_read_290 : decode cX16_read 290 = .ok (.dup2, 1) := by decide +kernel
theorem dX16_read_291 : decode cX16_read 291 = .ok (.iaload, 1) := by decide +kernel
theorem dX16_read_292 : decode cX16_read 292 = .ok (.iload 5, 2) := by decide +kernel
theorem dX16_read_294 : decode cX16_read 294 = .ok (.isub, 1) := by decide +kernel
theorem dX16_read_295 : decode cX16_read 295 = .ok (.iastore, 1) := by decide +kernel
theorem dX16_read_296 : decode cX16_read 296 = .ok (.goto 102, 3) := by decide +kernel
theorem dX16_read_299 : decode cX16_read 299 = .ok (.aload_n 0, 1) := by decide +kernel
theorem dX16_read_300 : decode cX16_read 300 = .ok (.getfield 73, 3) := by decide +kernel
theorem dX16_read_303 : decode cX16_read 303 = .ok (.iload 4, 2) := by decide +kernel
theorem dX16_read_305 : decode cX16_read 305 = .ok (.iaload, 1) := by decide +kernel
theorem dX16_read_306 : decode cX16_read 306 = .ok (.iconst 3, 1) := by decide +kernel
theorem dX16_read_307 : decode cX16_read 307 = .ok (.if_icmp .ne 18, 3) := by decide +kernel
theorem dX16_read_310 : decode cX16_read 310 = .ok (.aload_n 0, 1) := by decide +kernel
theorem dX16_read_311 : decode cX16_read 311 = .ok (.getfield 79, 3) := by decide +kernel
theorem dX16_read_314 : decode cX16_read 314 = .ok (.iload 4, 2) := by decide +kernel
theorem dX16_read_316 : decode cX16_read 316 = .ok (.dup2, 1) := by decide +kernel
theorem dX16_read_317 : decode cX16_read 317 = .ok (.iaload, 1) := by decide +kernel
theorem dX16_read_318 : decode cX16_read 318 = .ok (.iload 5, 2) := by decide +kernel
theorem dX16_read_320 : decode cX16_read 320 = .ok (.iadd, 1) := by decide +kernel
theorem dX16_read_321 : decode cX16_read 321 = .ok (.iastore, 1) := by decide +kernel
theorem dX16_read_322 : decode cX16_read 322 = .ok (.goto 76, 3) := by decide +kernel
theorem dX16_read_325 : decode cX16_read 325 = .ok (.iload 5, 2) := by decide +kernel
theorem dX16_read_327 : decode cX16_read 327 = .ok (.iload_n 3, 1) := by decide +kernel
theorem dX16_read_328 : decode cX16_read 328 = .ok (.if_icmp .ge 19, 3) := by decide +kernel
theorem dX16_read_331 : decode cX16_read 331 = .ok (.iload 5, 2) := by decide +kernel
theorem dX16_read_333 : decode cX16_read 333 = .ok (.aload_n 0, 1) := by decide +kernel
theorem dX16_read_334 : decode cX16_read 334 = .ok (.getfield 122, 3) := by decide +kernel
theorem dX16_read_337 : decode cX16_read 337 = .ok (.if_icmp .ge 10, 3) := by decide +kernel
theorem dX16_read_340 : decode cX16_read 340 = .ok (.iload 5, 2) := by decide +kernel
theorem dX16_read_342 : decode cX16_read 342 = .ok (.iconst 1, 1) := by decide +kernel
theorem dX16_read_343 : decode cX16_read 343 = .ok (.iadd, 1) := by decide +kernel
theorem dX16_read_344 : decode cX16_read 344 = .ok (.goto 5, 3) := by decide +kernel
theorem dX16_read_347 : decode cX16_read 347 = .ok (.iload 5, 2) := by decide +kernel
theorem dX16_read_349 : decode cX16_read 349 = .ok (.istore 7, 2) := by decide +kernel
