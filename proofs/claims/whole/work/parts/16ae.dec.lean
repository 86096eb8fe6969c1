theorem dX6_finish_2 : decode cX6_finish 2 = .ok (.iload_n 3, 1) := by decide +kernel
theorem dX6_finish_3 : decode cX6_finish 3 = .ok (.bipush 16, 2) := by decide +kernel
theorem dX6_finish_5 : decode cX6_finish 5 = .ok (.if_icmp .ge 18, 3) := by decide +kernel
theorem dX6_finish_8 : decode cX6_finish 8 = .ok (.aload_n 0, 1) := by decide +kernel
theorem dX6_finish_9 : decode cX6_finish 9 = .ok (.getfield 42, 3) := by decide +kernel
theorem dX6_finish_12 : decode cX6_finish 12 = .ok (.iload_n 1, 1) := by decide +kernel
theorem dX6_finish_13 : decode cX6_finish 13 = .ok (.iload_n 3, 1) := by decide +kernel
theorem dX6_finish_14 : decode cX6_finish 14 = .ok (.invokevirtual 165, 3) := by decide +kernel
theorem dX6_finish_17 : decode cX6_finish 17 = .ok (.iinc 3 1, 3) := by decide +kernel
theorem dX6_finish_20 : decode cX6_finish 20 = .ok (.goto (-18), 3) := by decide +kernel
theorem dX6_finish_23 : decode cX6_finish 23 = .ok (.aload_n 0, 1) := by decide +kernel
theorem dX6_finish_24 : decode cX6_finish 24 = .ok (.iload_n 1, 1) := by decide +kernel
theorem dX6_finish_25 : decode cX6_finish 25 = .ok (.invokevirtual 168, 3) := by decide +kernel
theorem dX6_finish_28 : decode cX6_finish 28 = .ok (.iconst 0, 1) := by decide +kernel
theorem dX6_finish_29 : decode cX6_finish 29 = .ok (.istore_n 3, 1) := by decide +kernel
theorem dX6_finish_30 : decode cX6_finish 30 = .ok (.iload_n 3, 1) := by decide +kernel
theorem dX6_finish_31 : decode cX6_finish 31 = .ok (.bipush 16, 2) := by decide +kernel
theorem dX6_finish_33 : decode cX6_finish 33 = .ok (.if_icmp .ge 61, 3) := by decide +kernel
theorem dX6_finish_36 : decode cX6_finish 36 = .ok (.aload_n 0, 1) := by decide +kernel
theorem dX6_finish_37 : decode cX6_finish 37 = .ok (.iload_n 3, 1) := by decide +kernel
theorem dX6_finish_38 : decode cX6_finish 38 = .ok (.invokevirtual 156, 3) := by decide +kernel
theorem dX6_finish_41 : decode cX6_finish 41 = .ok (.ifCond .eq 47, 3) := by decide +kernel
theorem dX6_finish_44 : decode cX6_finish 44 = .ok (.aload_n 0, 1) := by decide +kernel
theorem dX6_finish_45 : decode cX6_finish 45 = .ok (.getfield 29, 3) := by decide +kernel
theorem dX6_finish_48 : decode cX6_finish 48 = .ok (.iload_n 3, 1) := by decide +kernel
theorem dX6_finish_49 : decode cX6_finish 49 = .ok (.bipush 7, 2) := by decide +kernel
theorem dX6_finish_51 : decode cX6_finish 51 = .ok (.imul, 1) := by decide +kernel
theorem dX6_finish_52 : decode cX6_finish 52 = .ok (.iconst 1, 1) := by decide +kernel
theorem dX6_finish_53 : decode cX6_finish 53 = .ok (.iadd, 1) := by decide +kernel
theorem dX6_finish_54 : decode cX6_finish 54 = .ok (.iaload, 1) := by decide +kernel
theorem dX6_finish_55 : decode cX6_finish 55 = .ok (.iload_n 1, 1) := by decide +kernel
theorem dX6_finish_56 : decode cX6_finish 56 = .ok (.if_icmp .ne 32, 3) := by decide +kernel
theorem dX6_finish_59 : decode cX6_finish 59 = .ok (.aload_n 0, 1) := by decide +kernel
theorem dX6_finish_60 : decode cX6_finish 60 = .ok (.iload_n 3, 1) := by decide +kernel
theorem dX6_finish_61 : decode cX6_finish 61 = .ok (.invokevirtual 156, 3) := by decide +kernel
theorem dX6_finish_64 : decode cX6_finish 64 = .ok (.iconst 3, 1) := by decide +kernel
theorem dX6_finish_65 : decode cX6_finish 65 = .ok (.if_icmp .ne 11, 3) := by decide +kernel
theorem dX6_finish_68 : decode cX6_finish 68 = .ok (.aload_n 0, 1) := by decide +kernel
theorem dX6_finish_69 : decode cX6_finish 69 = .ok (.iload_n 3, 1) := by decide +kernel
theorem dX6_finish_70 : decode cX6_finish 70 = .ok (.invokevirtual 56, 3) := by decide +kernel
theorem dX6_finish_73 : decode cX6_finish 73 = .ok (.goto 15, 3) := by decide +kernel
theorem dX6_finish_76 : decode cX6_finish 76 = .ok (.aload_n 0, 1) := by decide +kernel
theorem dX6_finish_77 : decode cX6_finish 77 = .ok (.getfield 29, 3) := by decide +kernel
theorem dX6_finish_80 : decode cX6_finish 80 = .ok (.iload_n 3, 1) := by decide +kernel
theorem dX6_finish_81 : decode cX6_finish 81 = .ok (.bipush 7, 2) := by decide +kernel
theorem dX6_finish_83 : decode cX6_finish 83 = .ok (.imul, 1) := by decide +kernel
theorem dX6_finish_84 : decode cX6_finish 84 = .ok (.iconst 1, 1) := by decide +kernel
theorem dX6_finish_85 : decode cX6_finish 85 = .ok (.iadd, 1) := by decide +kernel
theorem dX6_finish_86 : decode cX6_finish 86 = .ok (.iconst (-1), 1) := by decide +kernel
theorem dX6_finish_87 : decode cX6_finish 87 = .ok (.iastore, 1) := by decide +kernel
theorem dX6_finish_88 : decode cX6_finish 88 = .ok (.iinc 3 1, 3) := by decide +kernel
theorem dX6_finish_91 : decode cX6_finish 91 = .ok (.goto (-61), 3) := by decide +kernel
theorem dX6_finish_94 : decode cX6_finish 94 = .ok (.aload_n 0, 1) := by decide +kernel
theorem dX6_finish_95 : decode cX6_finish 95 = .ok (.getfield 29, 3) := by decide +kernel
theorem dX6_finish_98 : decode cX6_finish 98 = .ok (.iload_n 1, 1) := by decide +kernel
theorem dX6_finish_99 : decode cX6_finish 99 = .ok (.bipush 7, 2) := by decide +kernel
theorem dX6_finish_101 : decode cX6_finish 101 = .ok (.imul, 1) := by decide +kernel
theorem dX6_finish_102 : decode cX6_finish 102 = .ok (.iconst 1, 1) := by decide +kernel
theorem dX6_finish_103 : decode cX6_finish 103 = .ok (.iadd, 1) := by decide +kernel
theorem dX6_finish_104 : decode cX6_finish 104 = .ok (.iaload, 1) := by decide +kernel
theorem dX6_finish_105 : decode cX6_finish 105 = .ok (.istore_n 3, 1) := by decide +kernel
theorem dX6_finish_106 : decode cX6_finish 106 = .ok (.aload_n 0, 1) := by decide +kernel
theorem dX6_finish_107 : decode cX6_finish 107 = .ok (.iload_n 1, 1) := by decide +kernel
theorem dX6_finish_108 : decode cX6_finish 108 = .ok (.invokevirtual 56, 3) := by decide +kernel
theorem dX6_finish_111 : decode cX6_finish 111 = .ok (.iload_n 3, 1) := by decide +kernel
theorem dX6_finish_112 : decode cX6_finish 112 = .ok (.ifCond .lt 43, 3) := by decide +kernel
theorem dX6_finish_115 : decode cX6_finish 115 = .ok (.aload_n 0, 1) := by decide +kernel
theorem dX6_finish_116 : decode cX6_finish 116 = .ok (.getfield 29, 3) := by decide +kernel
theorem dX6_finish_119 : decode cX6_finish 119 = .ok (.iload_n 1, 1) := by decide +kernel
theorem dX6_finish_120 : decode cX6_finish 120 = .ok (.bipush 7, 2) := by decide +kernel
theorem dX6_finish_122 : decode cX6_finish 122 = .ok (.imul, 1) := by decide +kernel
theorem dX6_finish_123 : decode cX6_finish 123 = .ok (.iconst 0, 1) := by decide +kernel
theorem dX6_finish_124 : decode cX6_finish 124 = .ok (.iadd, 1) := by decide +kernel
theorem dX6_finish_125 : decode cX6_finish 125 = .ok (.iconst 3, 1) := by decide +kernel
theorem dX6_finish_126 : decode cX6_finish 126 = .ok (.iastore, 1) := by decide +kernel
theorem dX6_finish_127 : decode cX6_finish 127 = .ok (.aload_n 0, 1) := by decide +kernel
theorem dX6_finish_128 : decode cX6_finish 128 = .ok (.getfield 29, 3) := by decide +kernel
theorem dX6_finish_131 : decode cX6_finish 131 = .ok (.iload_n 1, 1) := by decide +kernel
theorem dX6_finish_132 : decode cX6_finish 132 = .ok (.bipush 7, 2) := by decide +kernel
theorem dX6_finish_134 : decode cX6_finish 134 = .ok (.imul, 1) := by decide +kernel
theorem dX6_finish_135 : decode cX6_finish 135 = .ok (.iconst 1, 1) := by decide +kernel
theorem dX6_finish_136 : decode cX6_finish 136 = .ok (.iadd, 1) := by decide +kernel
theorem dX6_finish_137 : decode cX6_finish 137 = .ok (.iload_n 3, 1) := by decide +kernel
theorem dX6_finish_138 : decode cX6_finish 138 = .ok (.iastore, 1) := by decide +kernel
theorem dX6_finish_139 : decode cX6_finish 139 = .ok (.aload_n 0, 1) := by decide +kernel
theorem dX6_finish_140 : decode cX6_finish 140 = .ok (.getfield 29, 3) := by decide +kernel
theorem dX6_finish_143 : decode cX6_finish 143 = .ok (.iload_n 1, 1) := by decide +kernel
theorem dX6_finish_144 : decode cX6_finish 144 = .ok (.bipush 7, 2) := by decide +kernel
theorem dX6_finish_146 : decode cX6_finish 146 = .ok (.imul, 1) := by decide +kernel
theorem dX6_finish_147 : decode cX6_finish 147 = .ok (.iconst 2, 1) := by decide +kernel
theorem dX6_finish_148 : decode cX6_finish 148 = .ok (.iadd, 1) := by decide +kernel
theorem dX6_finish_149 : decode cX6_finish 149 = .ok (.iload_n 2, 1) := by decide +kernel
theorem dX6_finish_150 : decode cX6_finish 150 = .ok (.sipush 255, 3) := by decide +kernel
theorem dX6_finish_153 : decode cX6_finish 153 = .ok (.iand, 1) := by decide +kernel
theorem dX6_finish_154 : decode cX6_finish 154 = .ok (.iastore, 1) := by decide +kernel
theorem dX6_finish_155 : decode cX6_finish 155 = .ok (.return_, 1) := by decide +kernel
theorem dX6_fork_0 : decode cX6_fork 0 = .ok (.aload_n 0, 1) := by decide +kernel
theorem dX6_fork_1 : decode cX6_fork 1 = .ok (.iload_n 2, 1) := by decide +kernel
theorem dX6_fork_2 : decode cX6_fork 2 = .ok (.invokevirtual 56, 3) := by decide +kernel
theorem dX6_fork_5 : decode cX6_fork 5 = .ok (.aload_n 0, 1) := by decide +kernel
theorem dX6_fork_6 : decode cX6_fork 6 = .ok (.getfield 20, 3) := by decide +kernel
theorem dX6_fork_9 : decode cX6_fork 9 = .ok (.iload_n 1, 1) := by decide +kernel
theorem dX6_fork_10 : decode cX6_fork 10 = .ok (.bipush 33, 2) := by decide +kernel
theorem dX6_fork_12 : decode cX6_fork 12 = .ok (.imul, 1) := by decide +kernel
theorem dX6_fork_13 : decode cX6_fork 13 = .ok (.aload_n 0, 1) := by decide +kernel
theorem dX6_fork_14 : decode cX6_fork 14 = .ok (.getfield 20, 3) := by decide +kernel
theorem dX6_fork_17 : decode cX6_fork 17 = .ok (.iload_n 2, 1) := by decide +kernel
theorem dX6_fork_18 : decode cX6_fork 18 = .ok (.bipush 33, 2) := by decide +kernel
theorem dX6_fork_20 : decode cX6_fork 20 = .ok (.imul, 1) := by decide +kernel
theorem dX6_fork_21 : decode cX6_fork 21 = .ok (.bipush 33, 2) := by decide +kernel
theorem dX6_fork_23 : decode cX6_fork 23 = .ok (.invokestatic 95, 3) := by decide +kernel
theorem dX6_fork_26 : decode cX6_fork 26 = .ok (.aload_n 0, 1) := by decide +kernel
theorem dX6_fork_27 : decode cX6_fork 27 = .ok (.getfield 23, 3) := by decide +kernel
theorem dX6_fork_30 : decode cX6_fork 30 = .ok (.iload_n 1, 1) := by decide +kernel
theorem dX6_fork_31 : decode cX6_fork 31 = .ok (.bipush 33, 2) := by decide +kernel
theorem dX6_fork_33 : decode cX6_fork 33 = .ok (.imul, 1) := by decide +kernel
theorem dX6_fork_34 : decode cX6_fork 34 = .ok (.aload_n 0, 1) := by decide +kernel
theorem dX6_fork_35 : decode cX6_fork 35 = .ok (.getfield 23, 3) := by decide +kernel
theorem dX6_fork_38 : decode cX6_fork 38 = .ok (.iload_n 2, 1) := by decide +kernel
theorem dX6_fork_39 : decode cX6_fork 39 = .ok (.bipush 33, 2) := by decide +kernel
theorem dX6_fork_41 : decode cX6_fork 41 = .ok (.imul, 1) := by decide +kernel
theorem dX6_fork_42 : decode cX6_fork 42 = .ok (.bipush 33, 2) := by decide +kernel
theorem dX6_fork_44 : decode cX6_fork 44 = .ok (.invokestatic 95, 3) := by decide +kernel
theorem dX6_fork_47 : decode cX6_fork 47 = .ok (.aload_n 0, 1) := by decide +kernel
theorem dX6_fork_48 : decode cX6_fork 48 = .ok (.getfield 26, 3) := by decide +kernel
theorem dX6_fork_51 : decode cX6_fork 51 = .ok (.iload_n 1, 1) := by decide +kernel
theorem dX6_fork_52 : decode cX6_fork 52 = .ok (.bipush 16, 2) := by decide +kernel
theorem dX6_fork_54 : decode cX6_fork 54 = .ok (.imul, 1) := by decide +kernel
theorem dX6_fork_55 : decode cX6_fork 55 = .ok (.aload_n 0, 1) := by decide +kernel
theorem dX6_fork_56 : decode cX6_fork 56 = .ok (.getfield 26, 3) := by decide +kernel
theorem dX6_fork_59 : decode cX6_fork 59 = .ok (.iload_n 2, 1) := by decide +kernel
theorem dX6_fork_60 : decode cX6_fork 60 = .ok (.bipush 16, 2) := by decide +kernel
theorem dX6_fork_62 : decode cX6_fork 62 = .ok (.imul, 1) := by decide +kernel
theorem dX6_fork_63 : decode cX6_fork 63 = .ok (.bipush 16, 2) := by decide +kernel
theorem dX6_fork_65 : decode cX6_fork 65 = .ok (.invokestatic 95, 3) := by decide +kernel
theorem dX6_fork_68 : decode cX6_fork 68 = .ok (.aload_n 0, 1) := by decide +kernel
theorem dX6_fork_69 : decode cX6_fork 69 = .ok (.getfield 17, 3) := by decide +kernel
theorem dX6_fork_72 : decode cX6_fork 72 = .ok (.iload_n 1, 1) := by decide +kernel
theorem dX6_fork_73 : decode cX6_fork 73 = .ok (.bipush 6, 2) := by decide +kernel
theorem dX6_fork_75 : decode cX6_fork 75 = .ok (.ishl, 1) := by decide +kernel
theorem dX6_fork_76 : decode cX6_fork 76 = .ok (.aload_n 0, 1) := by decide +kernel
theorem dX6_fork_77 : decode cX6_fork 77 = .ok (.getfield 17, 3) := by decide +kernel
theorem dX6_fork_80 : decode cX6_fork 80 = .ok (.iload_n 2, 1) := by decide +kernel
theorem dX6_fork_81 : decode cX6_fork 81 = .ok (.bipush 6, 2) := by decide +kernel
theorem dX6_fork_83 : decode cX6_fork 83 = .ok (.ishl, 1) := by decide +kernel
theorem dX6_fork_84 : decode cX6_fork 84 = .ok (.bipush 64, 2) := by decide +kernel
theorem dX6_fork_86 : decode cX6_fork 86 = .ok (.invokestatic 95, 3) := by decide +kernel
theorem dX6_fork_89 : decode cX6_fork 89 = .ok (.iconst 0, 1) := by decide +kernel
theorem dX6_fork_90 : decode cX6_fork 90 = .ok (.istore_n 3, 1) := by decide +kernel
theorem dX6_fork_91 : decode cX6_fork 91 = .ok (.iload_n 3, 1) := by decide +kernel
theorem dX6_fork_92 : decode cX6_fork 92 = .ok (.bipush 64, 2) := by decide +kernel
theorem dX6_fork_94 : decode cX6_fork 94 = .ok (.if_icmp .ge 45, 3) := by decide +kernel
theorem dX6_fork_97 : decode cX6_fork 97 = .ok (.aload_n 0, 1) := by decide +kernel
theorem dX6_fork_98 : decode cX6_fork 98 = .ok (.getfield 17, 3) := by decide +kernel
theorem dX6_fork_101 : decode cX6_fork 101 = .ok (.iload_n 1, 1) := by decide +kernel
theorem dX6_fork_102 : decode cX6_fork 102 = .ok (.bipush 6, 2) := by decide +kernel
theorem dX6_fork_104 : decode cX6_fork 104 = .ok (.ishl, 1) := by decide +kernel
theorem dX6_fork_105 : decode cX6_fork 105 = .ok (.iload_n 3, 1) := by decide +kernel
theorem dX6_fork_106 : decode cX6_fork 106 = .ok (.ior, 1) := by decide +kernel
theorem dX6_fork_107 : decode cX6_fork 107 = .ok (.iaload, 1) := by decide +kernel
theorem dX6_fork_108 : decode cX6_fork 108 = .ok (.ifCond .eq 25, 3) := by decide +kernel
theorem dX6_fork_111 : decode cX6_fork 111 = .ok (.aload_n 0, 1) := by decide +kernel
theorem dX6_fork_112 : decode cX6_fork 112 = .ok (.getfield 14, 3) := by decide +kernel
theorem dX6_fork_115 : decode cX6_fork 115 = .ok (.aload_n 0, 1) := by decide +kernel
theorem dX6_fork_116 : decode cX6_fork 116 = .ok (.getfield 17, 3) := by decide +kernel
theorem dX6_fork_119 : decode cX6_fork 119 = .ok (.iload_n 1, 1) := by decide +kernel
theorem dX6_fork_120 : decode cX6_fork 120 = .ok (.bipush 6, 2) := by decide +kernel
theorem dX6_fork_122 : decode cX6_fork 122 = .ok (.ishl, 1) := by decide +kernel
theorem dX6_fork_123 : decode cX6_fork 123 = .ok (.iload_n 3, 1) := by decide +kernel
theorem dX6_fork_124 : decode cX6_fork 124 = .ok (.ior, 1) := by decide +kernel
theorem dX6_fork_125 : decode cX6_fork 125 = .ok (.iaload, 1) := by decide +kernel
theorem dX6_fork_126 : decode cX6_fork 126 = .ok (.iconst 3, 1) := by decide +kernel
theorem dX6_fork_127 : decode cX6_fork 127 = .ok (.ishr, 1) := by decide +kernel
theorem dX6_fork_128 : decode cX6_fork 128 = .ok (.dup2, 1) := by decide +kernel
theorem dX6_fork_129 : decode cX6_fork 129 = .ok (.iaload, 1) := by decide +kernel
theorem dX6_fork_130 : decode cX6_fork 130 = .ok (.iconst 1, 1) := by decide +kernel
theorem dX6_fork_131 : decode cX6_fork 131 = .ok (.iadd, 1) := by decide +kernel
theorem dX6_fork_132 : decode cX6_fork 132 = .ok (.iastore, 1) := by decide +kernel
theorem dX6_fork_133 : decode cX6_fork 133 = .ok (.iinc 3 1, 3) := by decide +kernel
theorem dX6_fork_136 : decode cX6_fork 136 = .ok (.goto (-45), 3) := by decide +kernel
theorem dX6_fork_139 : decode cX6_fork 139 = .ok (.aload_n 0, 1) := by decide +kernel
theorem dX6_fork_140 : decode cX6_fork 140 = .ok (.getfield 29, 3) := by decide +kernel
theorem dX6_fork_143 : decode cX6_fork 143 = .ok (.iload_n 2, 1) := by decide +kernel
theorem dX6_fork_144 : decode cX6_fork 144 = .ok (.bipush 7, 2) := by decide +kernel
theorem dX6_fork_146 : decode cX6_fork 146 = .ok (.imul, 1) := by decide +kernel
theorem dX6_fork_147 : decode cX6_fork 147 = .ok (.iconst 0, 1) := by decide +kernel
theorem dX6_fork_148 : decode cX6_fork 148 = .ok (.iadd, 1) := by decide +kernel
theorem dX6_fork_149 : decode cX6_fork 149 = .ok (.iconst 1, 1) := by decide +kernel
theorem dX6_fork_150 : decode cX6_fork 150 = .ok (.iastore, 1) := by decide +kernel
theorem dX6_fork_151 : decode cX6_fork 151 = .ok (.aload_n 0, 1) := by decide +kernel
theorem dX6_fork_152 : decode cX6_fork 152 = .ok (.getfield 29, 3) := by decide +kernel
theorem dX6_fork_155 : decode cX6_fork 155 = .ok (.iload_n 2, 1) := by decide +kernel
theorem dX6_fork_156 : decode cX6_fork 156 = .ok (.bipush 7, 2) := by decide +kernel
theorem dX6_fork_158 : decode cX6_fork 158 = .ok (.imul, 1) := by decide +kernel
theorem dX6_fork_159 : decode cX6_fork 159 = .ok (.iconst 1, 1) := by decide +kernel
theorem dX6_fork_160 : decode cX6_fork 160 = .ok (.iadd, 1) := by decide +kernel
theorem dX6_fork_161 : decode cX6_fork 161 = .ok (.iload_n 1, 1) := by decide +kernel
theorem dX6_fork_162 : decode cX6_fork 162 = .ok (.iastore, 1) := by decide +kernel
theorem dX6_fork_163 : decode cX6_fork 163 = .ok (.aload_n 0, 1) := by decide +kernel
theorem dX6_fork_164 : decode cX6_fork 164 = .ok (.getfield 29, 3) := by decide +kernel
theorem dX6_fork_167 : decode cX6_fork 167 = .ok (.iload_n 2, 1) := by decide +kernel
theorem dX6_fork_168 : decode cX6_fork 168 = .ok (.bipush 7, 2) := by decide +kernel
theorem dX6_fork_170 : decode cX6_fork 170 = .ok (.imul, 1) := by decide +kernel
theorem dX6_fork_171 : decode cX6_fork 171 = .ok (.iconst 4, 1) := by decide +kernel
theorem dX6_fork_172 : decode cX6_fork 172 = .ok (.iadd, 1) := by decide +kernel
theorem dX6_fork_173 : decode cX6_fork 173 = .ok (.aload_n 0, 1) := by decide +kernel
theorem dX6_fork_174 : decode cX6_fork 174 = .ok (.getfield 29, 3) := by decide +kernel
theorem dX6_fork_177 : decode cX6_fork 177 = .ok (.iload_n 1, 1) := by decide +kernel
theorem dX6_fork_178 : decode cX6_fork 178 = .ok (.bipush 7, 2) := by decide +kernel
theorem dX6_fork_180 : decode cX6_fork 180 = .ok (.imul, 1) := by decide +kernel
theorem dX6_fork_181 : decode cX6_fork 181 = .ok (.iconst 4, 1) := by decide +kernel
theorem dX6_fork_182 : decode cX6_fork 182 = .ok (.iadd, 1) := by decide +kernel
theorem dX6_fork_183 : decode cX6_fork 183 = .ok (.iaload, 1) := by decide +kernel
theorem dX6_fork_184 : decode cX6_fork 184 = .ok (.iastore, 1) := by decide +kernel
theorem dX6_fork_185 : decode cX6_fork 185 = .ok (.aload_n 0, 1) := by decide +kernel
theorem dX6_fork_186 : decode cX6_fork 186 = .ok (.getfield 29, 3) := by decide +kernel
theorem dX6_fork_189 : decode cX6_fork 189 = .ok (.iload_n 2, 1) := by decide +kernel
theorem dX6_fork_190 : decode cX6_fork 190 = .ok (.bipush 7, 2) := by decide +kernel
theorem dX6_fork_192 : decode cX6_fork 192 = .ok (.imul, 1) := by decide +kernel
theorem dX6_fork_193 : decode cX6_fork 193 = .ok (.iconst 5, 1) := by decide +kernel
theorem dX6_fork_194 : decode cX6_fork 194 = .ok (.iadd, 1) := by decide +kernel
theorem dX6_fork_195 : decode cX6_fork 195 = .ok (.aload_n 0, 1) := by decide +kernel
theorem dX6_fork_196 : decode cX6_fork 196 = .ok (.getfield 29, 3) := by decide +kernel
theorem dX6_fork_199 : decode cX6_fork 199 = .ok (.iload_n 1, 1) := by decide +kernel
theorem dX6_fork_200 : decode cX6_fork 200 = .ok (.bipush 7, 2) := by decide +kernel
theorem dX6_fork_202 : decode cX6_fork 202 = .ok (.imul, 1) := by decide +kernel
theorem dX6_fork_203 : decode cX6_fork 203 = .ok (.iconst 5, 1) := by decide +kernel
theorem dX6_fork_204 : decode cX6_fork 204 = .ok (.iadd, 1) := by decide +kernel
theorem dX6_fork_205 : decode cX6_fork 205 = .ok (.iaload, 1) := by decide +kernel
theorem dX6_fork_206 : decode cX6_fork 206 = .ok (.iastore, 1) := by decide +kernel
theorem dX6_fork_207 : decode cX6_fork 207 = .ok (.aload_n 0, 1) := by decide +kernel
theorem dX6_fork_208 : decode cX6_fork 208 = .ok (.getfield 29, 3) := by decide +kernel
theorem dX6_fork_211 : decode cX6_fork 211 = .ok (.iload_n 2, 1) := by decide +kernel
theorem dX6_fork_212 : decode cX6_fork 212 = .ok (.bipush 7, 2) := by decide +kernel
theorem dX6_fork_214 : decode cX6_fork 214 = .ok (.imul, 1) := by decide +kernel
theorem dX6_fork_215 : decode cX6_fork 215 = .ok (.bipush 6, 2) := by decide +kernel
theorem dX6_fork_217 : decode cX6_fork 217 = .ok (.iadd, 1) := by decide +kernel
theorem dX6_fork_218 : decode cX6_fork 218 = .ok (.aload_n 0, 1) := by decide +kernel
theorem dX6_fork_219 : decode cX6_fork 219 = .ok (.getfield 29, 3) := by decide +kernel
theorem dX6_fork_222 : decode cX6_fork 222 = .ok (.iload_n 1, 1) := by decide +kernel
theorem dX6_fork_223 : decode cX6_fork 223 = .ok (.bipush 7, 2) := by decide +kernel
theorem dX6_fork_225 : decode cX6_fork 225 = .ok (.imul, 1) := by decide +kernel
theorem dX6_fork_226 : decode cX6_fork 226 = .ok (.bipush 6, 2) := by decide +kernel
theorem dX6_fork_228 : decode cX6_fork 228 = .ok (.iadd, 1) := by decide +kernel
theorem dX6_fork_229 : decode cX6_fork 229 = .ok (.iaload, 1) := by decide +kernel
theorem dX6_fork_230 : decode cX6_fork 230 = .ok (.iastore, 1) := by decide +kernel
theorem dX6_fork_231 : decode cX6_fork 231 = .ok (.aload_n 0, 1) := by decide +kernel
theorem dX6_fork_232 : decode cX6_fork 232 = .ok (.getfield 32, 3) := by decide +kernel
theorem dX6_fork_235 : decode cX6_fork 235 = .ok (.iload_n 2, 1) := by decide +kernel
theorem dX6_fork_236 : decode cX6_fork 236 = .ok (.ldc2_w 146, 3) := by decide +kernel
theorem dX6_fork_239 : decode cX6_fork 239 = .ok (.lastore, 1) := by decide +kernel
theorem dX6_fork_240 : decode cX6_fork 240 = .ok (.aload_n 0, 1) := by decide +kernel
theorem dX6_fork_241 : decode cX6_fork 241 = .ok (.getfield 20, 3) := by decide +kernel
theorem dX6_fork_244 : decode cX6_fork 244 = .ok (.iload_n 2, 1) := by decide +kernel
theorem dX6_fork_245 : decode cX6_fork 245 = .ok (.bipush 33, 2) := by decide +kernel
theorem dX6_fork_247 : decode cX6_fork 247 = .ok (.imul, 1) := by decide +kernel
theorem dX6_fork_248 : decode cX6_fork 248 = .ok (.bipush 10, 2) := by decide +kernel
theorem dX6_fork_250 : decode cX6_fork 250 = .ok (.iadd, 1) := by decide +kernel
theorem dX6_fork_251 : decode cX6_fork 251 = .ok (.iconst 0, 1) := by decide +kernel
theorem dX6_fork_252 : decode cX6_fork 252 = .ok (.iastore, 1) := by decide +kernel
theorem dX6_fork_253 : decode cX6_fork 253 = .ok (.aload_n 0, 1) := by decide +kernel
theorem dX6_fork_254 : decode cX6_fork 254 = .ok (.getfield 20, 3) := by decide +kernel
theorem dX6_fork_257 : decode cX6_fork 257 = .ok (.iload_n 2, 1) := by decide +kernel
theorem dX6_fork_258 : decode cX6_fork 258 = .ok (.bipush 33, 2) := by decide +kernel
theorem dX6_fork_260 : decode cX6_fork 260 = .ok (.imul, 1) := by decide +kernel
theorem dX6_fork_261 : decode cX6_fork 261 = .ok (.bipush 32, 2) := by decide +kernel
theorem dX6_fork_263 : decode cX6_fork 263 = .ok (.iadd, 1) := by decide +kernel
theorem dX6_fork_264 : decode cX6_fork 264 = .ok (.dup2, 1) := by decide +kernel
theorem dX6_fork_265 : decode cX6_fork 265 = .ok (.iaload, 1) := by decide +kernel
theorem dX6_fork_266 : decode cX6_fork 266 = .ok (.iconst 4, 1) := by decide +kernel
theorem dX6_fork_267 : decode cX6_fork 267 = .ok (.iadd, 1) := by decide +kernel
theorem dX6_fork_268 : decode cX6_fork 268 = .ok (.iastore, 1) := by decide +kernel
theorem dX6_fork_269 : decode cX6_fork 269 = .ok (.return_, 1) := by decide +kernel
theorem dX6_addRandom_0 : decode cX6_addRandom 0 = .ok (.aload_n 0, 1) := by decide +kernel
theorem dX6_addRandom_1 : decode cX6_addRandom 1 = .ok (.getfield 60, 3) := by decide +kernel
theorem dX6_addRandom_4 : decode cX6_addRandom 4 = .ok (.bipush 16, 2) := by decide +kernel
theorem dX6_addRandom_6 : decode cX6_addRandom 6 = .ok (.if_icmp .lt 5, 3) := by decide +kernel
theorem dX6_addRandom_9 : decode cX6_addRandom 9 = .ok (.iconst 0, 1) := by decide +kernel
theorem dX6_addRandom_10 : decode cX6_addRandom 10 = .ok (.ireturn, 1) := by decide +kernel
theorem dX6_addRandom_11 : decode cX6_addRandom 11 = .ok (.aload_n 0, 1) := by decide +kernel
theorem dX6_addRandom_12 : decode cX6_addRandom 12 = .ok (.getfield 36, 3) := by decide +kernel
theorem dX6_addRandom_15 : decode cX6_addRandom 15 = .ok (.aload_n 0, 1) := by decide +kernel
theorem dX6_addRandom_16 : decode cX6_addRandom 16 = .ok (.getfield 60, 3) := by decide +kernel
theorem dX6_addRandom_19 : decode cX6_addRandom 19 = .ok (.iload_n 1, 1) := by decide +kernel
theorem dX6_addRandom_20 : decode cX6_addRandom 20 = .ok (.iastore, 1) := by decide +kernel
theorem dX6_addRandom_21 : decode cX6_addRandom 21 = .ok (.aload_n 0, 1) := by decide +kernel
theorem dX6_addRandom_22 : decode cX6_addRandom 22 = .ok (.dup, 1) := by decide +kernel
theorem dX6_addRandom_23 : decode cX6_addRandom 23 = .ok (.getfield 60, 3) := by decide +kernel
theorem dX6_addRandom_26 : decode cX6_addRandom 26 = .ok (.iconst 1, 1) := by decide +kernel
theorem dX6_addRandom_27 : decode cX6_addRandom 27 = .ok (.iadd, 1) := by decide +kernel
theorem dX6_addRandom_28 : decode cX6_addRandom 28 = .ok (.putfield 60, 3) := by decide +kernel
theorem dX6_addRandom_31 : decode cX6_addRandom 31 = .ok (.iconst 1, 1) := by decide +kernel
theorem dX6_addRandom_32 : decode cX6_addRandom 32 = .ok (.ireturn, 1) := by decide +kernel
theorem dX6_takeRandom_0 : decode cX6_takeRandom 0 = .ok (.aload_n 0, 1) := by decide +kernel
theorem dX6_takeRandom_1 : decode cX6_takeRandom 1 = .ok (.getfield 36, 3) := by decide +kernel
theorem dX6_takeRandom_4 : decode cX6_takeRandom 4 = .ok (.iconst 0, 1) := by decide +kernel
theorem dX6_takeRandom_5 : decode cX6_takeRandom 5 = .ok (.iaload, 1) := by decide +kernel
theorem dX6_takeRandom_6 : decode cX6_takeRandom 6 = .ok (.istore_n 1, 1) := by decide +kernel
theorem dX6_takeRandom_7 : decode cX6_takeRandom 7 = .ok (.aload_n 0, 1) := by decide +kernel
theorem dX6_takeRandom_8 : decode cX6_takeRandom 8 = .ok (.getfield 36, 3) := by decide +kernel
theorem dX6_takeRandom_11 : decode cX6_takeRandom 11 = .ok (.iconst 1, 1) := by decide +kernel
theorem dX6_takeRandom_12 : decode cX6_takeRandom 12 = .ok (.aload_n 0, 1) := by decide +kernel
theorem dX6_takeRandom_13 : decode cX6_takeRandom 13 = .ok (.getfield 36, 3) := by decide +kernel
theorem dX6_takeRandom_16 : decode cX6_takeRandom 16 = .ok (.iconst 0, 1) := by decide +kernel
theorem dX6_takeRandom_17 : decode cX6_takeRandom 17 = .ok (.bipush 15, 2) := by decide +kernel
theorem dX6_takeRandom_19 : decode cX6_takeRandom 19 = .ok (.invokestatic 95, 3) := by decide +kernel
theorem dX6_takeRandom_22 : decode cX6_takeRandom 22 = .ok (.aload_n 0, 1) := by decide +kernel
theorem dX6_takeRandom_23 : decode cX6_takeRandom 23 = .ok (.iconst 0, 1) := by decide +kernel
theorem dX6_takeRandom_24 : decode cX6_takeRandom 24 = .ok (.aload_n 0, 1) := by decide +kernel
theorem dX6_takeRandom_25 : decode cX6_takeRandom 25 = .ok (.getfield 60, 3) := by decide +kernel
theorem dX6_takeRandom_28 : decode cX6_takeRandom 28 = .ok (.iconst 1, 1) := by decide +kernel
theorem dX6_takeRandom_29 : decode cX6_takeRandom 29 = .ok (.isub, 1) := by decide +kernel
theorem dX6_takeRandom_30 : decode cX6_takeRandom 30 = .ok (.invokestatic 171, 3) := by decide +kernel
theorem dX6_takeRandom_33 : decode cX6_takeRandom 33 = .ok (.putfield 60, 3) := by decide +kernel
theorem dX6_takeRandom_36 : decode cX6_takeRandom 36 = .ok (.iload_n 1, 1) := by decide +kernel
theorem dX6_takeRandom_37 : decode cX6_takeRandom 37 = .ok (.ireturn, 1) := by decide +kernel
theorem dX6_registerOf_0 : decode cX6_registerOf 0 = .ok (.aload_n 0, 1) := by decide +kernel
theorem dX6_registerOf_1 : decode cX6_registerOf 1 = .ok (.iload_n 1, 1) := by decide +kernel
theorem dX6_registerOf_2 : decode cX6_registerOf 2 = .ok (.invokevirtual 156, 3) := by decide +kernel
theorem dX6_registerOf_5 : decode cX6_registerOf 5 = .ok (.ifCond .ne 7, 3) := by decide +kernel
theorem dX6_registerOf_8 : decode cX6_registerOf 8 = .ok (.iconst 0, 1) := by decide +kernel
theorem dX6_registerOf_9 : decode cX6_registerOf 9 = .ok (.goto 14, 3) := by decide +kernel
theorem dX6_registerOf_12 : decode cX6_registerOf 12 = .ok (.aload_n 0, 1) := by decide +kernel
theorem dX6_registerOf_13 : decode cX6_registerOf 13 = .ok (.getfield 20, 3) := by decide +kernel
theorem dX6_registerOf_16 : decode cX6_registerOf 16 = .ok (.iload_n 1, 1) := by decide +kernel
theorem dX6_registerOf_17 : decode cX6_registerOf 17 = .ok (.bipush 33, 2) := by decide +kernel
theorem dX6_registerOf_19 : decode cX6_registerOf 19 = .ok (.imul, 1) := by decide +kernel
theorem dX6_registerOf_20 : decode cX6_registerOf 20 = .ok (.iload_n 2, 1) := by decide +kernel
theorem dX6_registerOf_21 : decode cX6_registerOf 21 = .ok (.iadd, 1) := by decide +kernel
theorem dX6_registerOf_22 : decode cX6_registerOf 22 = .ok (.iaload, 1) := by decide +kernel
theorem dX6_registerOf_23 : decode cX6_registerOf 23 = .ok (.ireturn, 1) := by decide +kernel
theorem dX6_told_0 : decode cX6_told 0 = .ok (.iload_n 2, 1) := by decide +kernel
theorem dX6_told_1 : decode cX6_told 1 = .ok (.tableswitch 72 5 7 #[27, 33, 46], 27) := by decide +kernel
theorem dX6_told_28 : decode cX6_told 28 = .ok (.aload_n 0, 1) := by decide +kernel
theorem dX6_told_29 : decode cX6_told 29 = .ok (.iload_n 1, 1) := by decide +kernel
theorem dX6_told_30 : decode cX6_told 30 = .ok (.invokevirtual 177, 3) := by decide +kernel
theorem dX6_told_33 : decode cX6_told 33 = .ok (.ireturn, 1) := by decide +kernel
theorem dX6_told_34 : decode cX6_told 34 = .ok (.aload_n 0, 1) := by decide +kernel
theorem dX6_told_35 : decode cX6_told 35 = .ok (.getfield 29, 3) := by decide +kernel
theorem dX6_told_38 : decode cX6_told 38 = .ok (.iload_n 1, 1) := by decide +kernel
theorem dX6_told_39 : decode cX6_told 39 = .ok (.bipush 7, 2) := by decide +kernel
theorem dX6_told_41 : decode cX6_told 41 = .ok (.imul, 1) := by decide +kernel
theorem dX6_told_42 : decode cX6_told 42 = .ok (.bipush 6, 2) := by decide +kernel
theorem dX6_told_44 : decode cX6_told 44 = .ok (.iadd, 1) := by decide +kernel
theorem dX6_told_45 : decode cX6_told 45 = .ok (.iaload, 1) := by decide +kernel
theorem dX6_told_46 : decode cX6_told 46 = .ok (.ireturn, 1) := by decide +kernel
theorem dX6_told_47 : decode cX6_told 47 = .ok (.aload_n 0, 1) := by decide +kernel
theorem dX6_told_48 : decode cX6_told 48 = .ok (.iload_n 1, 1) := by decide +kernel
theorem dX6_told_49 : decode cX6_told 49 = .ok (.invokevirtual 156, 3) := by decide +kernel
theorem dX6_told_52 : decode cX6_told 52 = .ok (.iconst 2, 1) := by decide +kernel
theorem dX6_told_53 : decode cX6_told 53 = .ok (.if_icmp .ne 18, 3) := by decide +kernel
theorem dX6_told_56 : decode cX6_told 56 = .ok (.aload_n 0, 1) := by decide +kernel
theorem dX6_told_57 : decode cX6_told 57 = .ok (.getfield 20, 3) := by decide +kernel
theorem dX6_told_60 : decode cX6_told 60 = .ok (.iload_n 1, 1) := by decide +kernel
theorem dX6_told_61 : decode cX6_told 61 = .ok (.bipush 33, 2) := by decide +kernel
theorem dX6_told_63 : decode cX6_told 63 = .ok (.imul, 1) := by decide +kernel
theorem dX6_told_64 : decode cX6_told 64 = .ok (.bipush 17, 2) := by decide +kernel
theorem dX6_told_66 : decode cX6_told 66 = .ok (.iadd, 1) := by decide +kernel
theorem dX6_told_67 : decode cX6_told 67 = .ok (.iaload, 1) := by decide +kernel
theorem dX6_told_68 : decode cX6_told 68 = .ok (.goto 4, 3) := by decide +kernel
theorem dX6_told_71 : decode cX6_told 71 = .ok (.iconst (-1), 1) := by decide +kernel
theorem dX6_told_72 : decode cX6_told 72 = .ok (.ireturn, 1) := by decide +kernel
theorem dX6_told_73 : decode cX6_told 73 = .ok (.aload_n 0, 1) := by decide +kernel
theorem dX6_told_74 : decode cX6_told 74 = .ok (.getfield 29, 3) := by decide +kernel
theorem dX6_told_77 : decode cX6_told 77 = .ok (.iload_n 1, 1) := by decide +kernel
theorem dX6_told_78 : decode cX6_told 78 = .ok (.bipush 7, 2) := by decide +kernel
theorem dX6_told_80 : decode cX6_told 80 = .ok (.imul, 1) := by decide +kernel
theorem dX6_told_81 : decode cX6_told 81 = .ok (.iload_n 2, 1) := by decide +kernel
theorem dX6_told_82 : decode cX6_told 82 = .ok (.iadd, 1) := by decide +kernel
theorem dX6_told_83 : decode cX6_told 83 = .ok (.iaload, 1) := by decide +kernel
theorem dX6_told_84 : decode cX6_told 84 = .ok (.ireturn, 1) := by decide +kernel
theorem dX6_counted_0 : decode cX6_counted 0 = .ok (.iload_n 1, 1) := by decide +kernel
theorem dX6_counted_1 : decode cX6_counted 1 = .ok (.tableswitch 108 6 13 #[47, 52, 58, 66, 75, 81, 87, 96], 47) := by decide +kernel
theorem dX6_counted_48 : decode cX6_counted 48 = .ok (.aload_n 0, 1) := by decide +kernel
theorem dX6_counted_49 : decode cX6_counted 49 = .ok (.getfield 75, 3) := by decide +kernel
theorem dX6_counted_52 : decode cX6_counted 52 = .ok (.lreturn, 1) := by decide +kernel
theorem dX6_counted_53 : decode cX6_counted 53 = .ok (.aload_n 0, 1) := by decide +kernel
theorem dX6_counted_54 : decode cX6_counted 54 = .ok (.getfield 60, 3) := by decide +kernel
theorem dX6_counted_57 : decode cX6_counted 57 = .ok (.i2l, 1) := by decide +kernel
theorem dX6_counted_58 : decode cX6_counted 58 = .ok (.lreturn, 1) := by decide +kernel
theorem dX6_counted_59 : decode cX6_counted 59 = .ok (.aload_n 0, 1) := by decide +kernel
theorem dX6_counted_60 : decode cX6_counted 60 = .ok (.getfield 42, 3) := by decide +kernel
theorem dX6_counted_63 : decode cX6_counted 63 = .ok (.getfield 180, 3) := by decide +kernel
theorem dX6_counted_66 : decode cX6_counted 66 = .ok (.lreturn, 1) := by decide +kernel
theorem dX6_counted_67 : decode cX6_counted 67 = .ok (.aload_n 0, 1) := by decide +kernel
theorem dX6_counted_68 : decode cX6_counted 68 = .ok (.getfield 42, 3) := by decide +kernel
theorem dX6_counted_71 : decode cX6_counted 71 = .ok (.getfield 183, 3) := by decide +kernel
theorem dX6_counted_74 : decode cX6_counted 74 = .ok (.i2l, 1) := by decide +kernel
theorem dX6_counted_75 : decode cX6_counted 75 = .ok (.lreturn, 1) := by decide +kernel
theorem dX6_counted_76 : decode cX6_counted 76 = .ok (.aload_n 0, 1) := by decide +kernel
theorem dX6_counted_77 : decode cX6_counted 77 = .ok (.getfield 52, 3) := by decide +kernel
theorem dX6_counted_80 : decode cX6_counted 80 = .ok (.i2l, 1) := by decide +kernel
theorem dX6_counted_81 : decode cX6_counted 81 = .ok (.lreturn, 1) := by decide +kernel
theorem dX6_counted_82 : decode cX6_counted 82 = .ok (.aload_n 0, 1) := by decide +kernel
theorem dX6_counted_83 : decode cX6_counted 83 = .ok (.invokevirtual 186, 3) := by decide +kernel
theorem dX6_counted_86 : decode cX6_counted 86 = .ok (.i2l, 1) := by decide +kernel
theorem dX6_counted_87 : decode cX6_counted 87 = .ok (.lreturn, 1) := by decide +kernel
theorem dX6_counted_88 : decode cX6_counted 88 = .ok (.aload_n 0, 1) := by decide +kernel
theorem dX6_counted_89 : decode cX6_counted 89 = .ok (.getfield 42, 3) := by decide +kernel
theorem dX6_counted_92 : decode cX6_counted 92 = .ok (.invokevirtual 189, 3) := by decide +kernel
theorem dX6_counted_95 : decode cX6_counted 95 = .ok (.i2l, 1) := by decide +kernel
theorem dX6_counted_96 : decode cX6_counted 96 = .ok (.lreturn, 1) := by decide +kernel
theorem dX6_counted_97 : decode cX6_counted 97 = .ok (.bipush 48, 2) := by decide +kernel
theorem dX6_counted_99 : decode cX6_counted 99 = .ok (.aload_n 0, 1) := by decide +kernel
theorem dX6_counted_100 : decode cX6_counted 100 = .ok (.getfield 42, 3) := by decide +kernel
theorem dX6_counted_103 : decode cX6_counted 103 = .ok (.invokevirtual 192, 3) := by decide +kernel
theorem dX6_counted_106 : decode cX6_counted 106 = .ok (.isub, 1) := by decide +kernel
theorem dX6_counted_107 : decode cX6_counted 107 = .ok (.i2l, 1) := by decide +kernel
theorem dX6_counted_108 : decode cX6_counted 108 = .ok (.lreturn, 1) := by decide +kernel
theorem dX6_counted_109 : decode cX6_counted 109 = .ok (.aload_n 0, 1) := by decide +kernel
theorem dX6_counted_110 : decode cX6_counted 110 = .ok (.getfield 79, 3) := by decide +kernel
theorem dX6_counted_113 : decode cX6_counted 113 = .ok (.lreturn, 1) := by decide +kernel
