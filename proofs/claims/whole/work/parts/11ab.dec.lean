theorem dX16_boot_0 : decode cX16_boot 0 = .ok (.aload_n 0, 1) := by decide +kernel
theorem dX16_boot_1 : decode cX16_boot 1 = .ok (.aload_n 0, 1) := by decide +kernel
theorem dX16_boot_2 : decode cX16_boot 2 = .ok (.aload_n 0, 1) := by decide +kernel
theorem dX16_boot_3 : decode cX16_boot 3 = .ok (.aload_n 0, 1) := by decide +kernel
theorem dX16_boot_4 : decode cX16_boot 4 = .ok (.iconst 0, 1) := by decide +kernel
theorem dX16_boot_5 : decode cX16_boot 5 = .ok (.dup_x1, 1) := by decide +kernel
theorem dX16_boot_6 : decode cX16_boot 6 = .ok (.putfield 122, 3) := by decide +kernel
theorem dX16_boot_9 : decode cX16_boot 9 = .ok (.dup_x1, 1) := by decide +kernel
theorem dX16_boot_10 : decode cX16_boot 10 = .ok (.putfield 126, 3) := by decide +kernel
theorem dX16_boot_13 : decode cX16_boot 13 = .ok (.dup_x1, 1) := by decide +kernel
theorem dX16_boot_14 : decode cX16_boot 14 = .ok (.putfield 129, 3) := by decide +kernel
theorem dX16_boot_17 : decode cX16_boot 17 = .ok (.putfield 132, 3) := by decide +kernel
theorem dX16_boot_20 : decode cX16_boot 20 = .ok (.aload_n 0, 1) := by decide +kernel
theorem dX16_boot_21 : decode cX16_boot 21 = .ok (.aload_n 0, 1) := by decide +kernel
theorem dX16_boot_22 : decode cX16_boot 22 = .ok (.aload_n 0, 1) := by decide +kernel
theorem dX16_boot_23 : decode cX16_boot 23 = .ok (.iconst (-1), 1) := by decide +kernel
theorem dX16_boot_24 : decode cX16_boot 24 = .ok (.dup_x1, 1) := by decide +kernel
theorem dX16_boot_25 : decode cX16_boot 25 = .ok (.putfield 135, 3) := by decide +kernel
theorem dX16_boot_28 : decode cX16_boot 28 = .ok (.dup_x1, 1) := by decide +kernel
theorem dX16_boot_29 : decode cX16_boot 29 = .ok (.putfield 138, 3) := by decide +kernel
theorem dX16_boot_32 : decode cX16_boot 32 = .ok (.putfield 141, 3) := by decide +kernel
theorem dX16_boot_35 : decode cX16_boot 35 = .ok (.aload_n 0, 1) := by decide +kernel
theorem dX16_boot_36 : decode cX16_boot 36 = .ok (.bipush 15, 2) := by decide +kernel
theorem dX16_boot_38 : decode cX16_boot 38 = .ok (.putfield 144, 3) := by decide +kernel
theorem dX16_boot_41 : decode cX16_boot 41 = .ok (.aload_n 0, 1) := by decide +kernel
theorem dX16_boot_42 : decode cX16_boot 42 = .ok (.aload_n 0, 1) := by decide +kernel
theorem dX16_boot_43 : decode cX16_boot 43 = .ok (.aload_n 0, 1) := by decide +kernel
theorem dX16_boot_44 : decode cX16_boot 44 = .ok (.lconst 0, 1) := by decide +kernel
theorem dX16_boot_45 : decode cX16_boot 45 = .ok (.dup2_x1, 1) := by decide +kernel
theorem dX16_boot_46 : decode cX16_boot 46 = .ok (.putfield 147, 3) := by decide +kernel
theorem dX16_boot_49 : decode cX16_boot 49 = .ok (.dup2_x1, 1) := by decide +kernel
theorem dX16_boot_50 : decode cX16_boot 50 = .ok (.putfield 151, 3) := by decide +kernel
theorem dX16_boot_53 : decode cX16_boot 53 = .ok (.putfield 154, 3) := by decide +kernel
theorem dX16_boot_56 : decode cX16_boot 56 = .ok (.aload_n 0, 1) := by decide +kernel
theorem dX16_boot_57 : decode cX16_boot 57 = .ok (.iconst (-1), 1) := by decide +kernel
theorem dX16_boot_58 : decode cX16_boot 58 = .ok (.putfield 157, 3) := by decide +kernel
theorem dX16_boot_61 : decode cX16_boot 61 = .ok (.iconst 0, 1) := by decide +kernel
theorem dX16_boot_62 : decode cX16_boot 62 = .ok (.istore_n 2, 1) := by decide +kernel
theorem dX16_boot_63 : decode cX16_boot 63 = .ok (.iload_n 2, 1) := by decide +kernel
theorem dX16_boot_64 : decode cX16_boot 64 = .ok (.sipush 1024, 3) := by decide +kernel
theorem dX16_boot_67 : decode cX16_boot 67 = .ok (.if_icmp .ge 23, 3) := by decide +kernel
theorem dX16_boot_70 : decode cX16_boot 70 = .ok (.aload_n 0, 1) := by decide +kernel
theorem dX16_boot_71 : decode cX16_boot 71 = .ok (.getfield 64, 3) := by decide +kernel
theorem dX16_boot_74 : decode cX16_boot 74 = .ok (.iload_n 2, 1) := by decide +kernel
theorem dX16_boot_75 : decode cX16_boot 75 = .ok (.iconst (-1), 1) := by decide +kernel
theorem dX16_boot_76 : decode cX16_boot 76 = .ok (.iastore, 1) := by decide +kernel
theorem dX16_boot_77 : decode cX16_boot 77 = .ok (.aload_n 0, 1) := by decide +kernel
theorem dX16_boot_78 : decode cX16_boot 78 = .ok (.getfield 70, 3) := by decide +kernel
theorem dX16_boot_81 : decode cX16_boot 81 = .ok (.iload_n 2, 1) := by decide +kernel
theorem dX16_boot_82 : decode cX16_boot 82 = .ok (.iconst 0, 1) := by decide +kernel
theorem dX16_boot_83 : decode cX16_boot 83 = .ok (.iastore, 1) := by decide +kernel
theorem dX16_boot_84 : decode cX16_boot 84 = .ok (.iinc 2 1, 3) := by decide +kernel
theorem dX16_boot_87 : decode cX16_boot 87 = .ok (.goto (-24), 3) := by decide +kernel
theorem dX16_boot_90 : decode cX16_boot 90 = .ok (.iconst 0, 1) := by decide +kernel
theorem dX16_boot_91 : decode cX16_boot 91 = .ok (.istore_n 2, 1) := by decide +kernel
theorem dX16_boot_92 : decode cX16_boot 92 = .ok (.iload_n 2, 1) := by decide +kernel
theorem dX16_boot_93 : decode cX16_boot 93 = .ok (.bipush 16, 2) := by decide +kernel
theorem dX16_boot_95 : decode cX16_boot 95 = .ok (.if_icmp .ge 14, 3) := by decide +kernel
theorem dX16_boot_98 : decode cX16_boot 98 = .ok (.aload_n 0, 1) := by decide +kernel
theorem dX16_boot_99 : decode cX16_boot 99 = .ok (.iload_n 2, 1) := by decide +kernel
theorem dX16_boot_100 : decode cX16_boot 100 = .ok (.invokevirtual 160, 3) := by decide +kernel
theorem dX16_boot_103 : decode cX16_boot 103 = .ok (.iinc 2 1, 3) := by decide +kernel
theorem dX16_boot_106 : decode cX16_boot 106 = .ok (.goto (-14), 3) := by decide +kernel
theorem dX16_boot_109 : decode cX16_boot 109 = .ok (.iconst 0, 1) := by decide +kernel
theorem dX16_boot_110 : decode cX16_boot 110 = .ok (.istore_n 2, 1) := by decide +kernel
theorem dX16_boot_111 : decode cX16_boot 111 = .ok (.iload_n 2, 1) := by decide +kernel
theorem dX16_boot_112 : decode cX16_boot 112 = .ok (.bipush 48, 2) := by decide +kernel
theorem dX16_boot_114 : decode cX16_boot 114 = .ok (.if_icmp .ge 16, 3) := by decide +kernel
theorem dX16_boot_117 : decode cX16_boot 117 = .ok (.aload_n 0, 1) := by decide +kernel
theorem dX16_boot_118 : decode cX16_boot 118 = .ok (.getfield 73, 3) := by decide +kernel
theorem dX16_boot_121 : decode cX16_boot 121 = .ok (.iload_n 2, 1) := by decide +kernel
theorem dX16_boot_122 : decode cX16_boot 122 = .ok (.iconst 0, 1) := by decide +kernel
theorem dX16_boot_123 : decode cX16_boot 123 = .ok (.iastore, 1) := by decide +kernel
theorem dX16_boot_124 : decode cX16_boot 124 = .ok (.iinc 2 1, 3) := by decide +kernel
theorem dX16_boot_127 : decode cX16_boot 127 = .ok (.goto (-16), 3) := by decide +kernel
theorem dX16_boot_130 : decode cX16_boot 130 = .ok (.iconst 0, 1) := by decide +kernel
theorem dX16_boot_131 : decode cX16_boot 131 = .ok (.istore_n 2, 1) := by decide +kernel
theorem dX16_boot_132 : decode cX16_boot 132 = .ok (.iload_n 2, 1) := by decide +kernel
theorem dX16_boot_133 : decode cX16_boot 133 = .ok (.bipush 8, 2) := by decide +kernel
theorem dX16_boot_135 : decode cX16_boot 135 = .ok (.if_icmp .ge 16, 3) := by decide +kernel
theorem dX16_boot_138 : decode cX16_boot 138 = .ok (.aload_n 0, 1) := by decide +kernel
theorem dX16_boot_139 : decode cX16_boot 139 = .ok (.getfield 85, 3) := by decide +kernel
theorem dX16_boot_142 : decode cX16_boot 142 = .ok (.iload_n 2, 1) := by decide +kernel
theorem dX16_boot_143 : decode cX16_boot 143 = .ok (.iconst 0, 1) := by decide +kernel
theorem dX16_boot_144 : decode cX16_boot 144 = .ok (.bastore, 1) := by decide +kernel
theorem dX16_boot_145 : decode cX16_boot 145 = .ok (.iinc 2 1, 3) := by decide +kernel
theorem dX16_boot_148 : decode cX16_boot 148 = .ok (.goto (-16), 3) := by decide +kernel
theorem dX16_boot_151 : decode cX16_boot 151 = .ok (.iconst 0, 1) := by decide +kernel
theorem dX16_boot_152 : decode cX16_boot 152 = .ok (.istore_n 2, 1) := by decide +kernel
theorem dX16_boot_153 : decode cX16_boot 153 = .ok (.iload_n 2, 1) := by decide +kernel
theorem dX16_boot_154 : decode cX16_boot 154 = .ok (.bipush 16, 2) := by decide +kernel
theorem dX16_boot_156 : decode cX16_boot 156 = .ok (.if_icmp .ge 23, 3) := by decide +kernel
theorem dX16_boot_159 : decode cX16_boot 159 = .ok (.aload_n 0, 1) := by decide +kernel
theorem dX16_boot_160 : decode cX16_boot 160 = .ok (.getfield 88, 3) := by decide +kernel
theorem dX16_boot_163 : decode cX16_boot 163 = .ok (.iload_n 2, 1) := by decide +kernel
theorem dX16_boot_164 : decode cX16_boot 164 = .ok (.aload_n 0, 1) := by decide +kernel
theorem dX16_boot_165 : decode cX16_boot 165 = .ok (.getfield 91, 3) := by decide +kernel
theorem dX16_boot_168 : decode cX16_boot 168 = .ok (.iload_n 2, 1) := by decide +kernel
theorem dX16_boot_169 : decode cX16_boot 169 = .ok (.iconst 0, 1) := by decide +kernel
theorem dX16_boot_170 : decode cX16_boot 170 = .ok (.dup_x2, 1) := by decide +kernel
theorem dX16_boot_171 : decode cX16_boot 171 = .ok (.bastore, 1) := by decide +kernel
theorem dX16_boot_172 : decode cX16_boot 172 = .ok (.bastore, 1) := by decide +kernel
theorem dX16_boot_173 : decode cX16_boot 173 = .ok (.iinc 2 1, 3) := by decide +kernel
theorem dX16_boot_176 : decode cX16_boot 176 = .ok (.goto (-23), 3) := by decide +kernel
theorem dX16_boot_179 : decode cX16_boot 179 = .ok (.aload_n 0, 1) := by decide +kernel
theorem dX16_boot_180 : decode cX16_boot 180 = .ok (.getfield 13, 3) := by decide +kernel
theorem dX16_boot_183 : decode cX16_boot 183 = .ok (.iconst 0, 1) := by decide +kernel
theorem dX16_boot_184 : decode cX16_boot 184 = .ok (.iconst 1, 1) := by decide +kernel
theorem dX16_boot_185 : decode cX16_boot 185 = .ok (.iastore, 1) := by decide +kernel
theorem dX16_boot_186 : decode cX16_boot 186 = .ok (.aload_n 0, 1) := by decide +kernel
theorem dX16_boot_187 : decode cX16_boot 187 = .ok (.iconst 0, 1) := by decide +kernel
theorem dX16_boot_188 : decode cX16_boot 188 = .ok (.iload_n 1, 1) := by decide +kernel
theorem dX16_boot_189 : decode cX16_boot 189 = .ok (.invokevirtual 164, 3) := by decide +kernel
theorem dX16_boot_192 : decode cX16_boot 192 = .ok (.aload_n 0, 1) := by decide +kernel
theorem dX16_boot_193 : decode cX16_boot 193 = .ok (.iconst 4, 1) := by decide +kernel
theorem dX16_boot_194 : decode cX16_boot 194 = .ok (.iconst 0, 1) := by decide +kernel
theorem dX16_boot_195 : decode cX16_boot 195 = .ok (.iconst 3, 1) := by decide +kernel
theorem dX16_boot_196 : decode cX16_boot 196 = .ok (.invokevirtual 168, 3) := by decide +kernel
theorem dX16_boot_199 : decode cX16_boot 199 = .ok (.istore_n 2, 1) := by decide +kernel
theorem dX16_boot_200 : decode cX16_boot 200 = .ok (.aload_n 0, 1) := by decide +kernel
theorem dX16_boot_201 : decode cX16_boot 201 = .ok (.getfield 57, 3) := by decide +kernel
theorem dX16_boot_204 : decode cX16_boot 204 = .ok (.iconst 0, 1) := by decide +kernel
theorem dX16_boot_205 : decode cX16_boot 205 = .ok (.aload_n 0, 1) := by decide +kernel
theorem dX16_boot_206 : decode cX16_boot 206 = .ok (.getfield 57, 3) := by decide +kernel
theorem dX16_boot_209 : decode cX16_boot 209 = .ok (.iconst 1, 1) := by decide +kernel
theorem dX16_boot_210 : decode cX16_boot 210 = .ok (.iload_n 2, 1) := by decide +kernel
theorem dX16_boot_211 : decode cX16_boot 211 = .ok (.dup_x2, 1) := by decide +kernel
theorem dX16_boot_212 : decode cX16_boot 212 = .ok (.iastore, 1) := by decide +kernel
theorem dX16_boot_213 : decode cX16_boot 213 = .ok (.iastore, 1) := by decide +kernel
theorem dX16_boot_214 : decode cX16_boot 214 = .ok (.aload_n 0, 1) := by decide +kernel
theorem dX16_boot_215 : decode cX16_boot 215 = .ok (.invokevirtual 172, 3) := by decide +kernel
theorem dX16_boot_218 : decode cX16_boot 218 = .ok (.return_, 1) := by decide +kernel
theorem dX16_begin_0 : decode cX16_begin 0 = .ok (.aload_n 0, 1) := by decide +kernel
theorem dX16_begin_1 : decode cX16_begin 1 = .ok (.getfield 13, 3) := by decide +kernel
theorem dX16_begin_4 : decode cX16_begin 4 = .ok (.iload_n 1, 1) := by decide +kernel
theorem dX16_begin_5 : decode cX16_begin 5 = .ok (.iconst 0, 1) := by decide +kernel
theorem dX16_begin_6 : decode cX16_begin 6 = .ok (.iastore, 1) := by decide +kernel
theorem dX16_begin_7 : decode cX16_begin 7 = .ok (.aload_n 0, 1) := by decide +kernel
theorem dX16_begin_8 : decode cX16_begin 8 = .ok (.getfield 16, 3) := by decide +kernel
theorem dX16_begin_11 : decode cX16_begin 11 = .ok (.iload_n 1, 1) := by decide +kernel
theorem dX16_begin_12 : decode cX16_begin 12 = .ok (.aload_n 0, 1) := by decide +kernel
theorem dX16_begin_13 : decode cX16_begin 13 = .ok (.getfield 31, 3) := by decide +kernel
theorem dX16_begin_16 : decode cX16_begin 16 = .ok (.iload_n 1, 1) := by decide +kernel
theorem dX16_begin_17 : decode cX16_begin 17 = .ok (.iconst (-1), 1) := by decide +kernel
theorem dX16_begin_18 : decode cX16_begin 18 = .ok (.dup_x2, 1) := by decide +kernel
theorem dX16_begin_19 : decode cX16_begin 19 = .ok (.iastore, 1) := by decide +kernel
theorem dX16_begin_20 : decode cX16_begin 20 = .ok (.iastore, 1) := by decide +kernel
theorem dX16_begin_21 : decode cX16_begin 21 = .ok (.aload_n 0, 1) := by decide +kernel
theorem dX16_begin_22 : decode cX16_begin 22 = .ok (.getfield 19, 3) := by decide +kernel
theorem dX16_begin_25 : decode cX16_begin 25 = .ok (.iload_n 1, 1) := by decide +kernel
theorem dX16_begin_26 : decode cX16_begin 26 = .ok (.aload_n 0, 1) := by decide +kernel
theorem dX16_begin_27 : decode cX16_begin 27 = .ok (.getfield 22, 3) := by decide +kernel
theorem dX16_begin_30 : decode cX16_begin 30 = .ok (.iload_n 1, 1) := by decide +kernel
theorem dX16_begin_31 : decode cX16_begin 31 = .ok (.aload_n 0, 1) := by decide +kernel
theorem dX16_begin_32 : decode cX16_begin 32 = .ok (.getfield 25, 3) := by decide +kernel
theorem dX16_begin_35 : decode cX16_begin 35 = .ok (.iload_n 1, 1) := by decide +kernel
theorem dX16_begin_36 : decode cX16_begin 36 = .ok (.aload_n 0, 1) := by decide +kernel
theorem dX16_begin_37 : decode cX16_begin 37 = .ok (.getfield 28, 3) := by decide +kernel
theorem dX16_begin_40 : decode cX16_begin 40 = .ok (.iload_n 1, 1) := by decide +kernel
theorem dX16_begin_41 : decode cX16_begin 41 = .ok (.aload_n 0, 1) := by decide +kernel
theorem dX16_begin_42 : decode cX16_begin 42 = .ok (.getfield 45, 3) := by decide +kernel
theorem dX16_begin_45 : decode cX16_begin 45 = .ok (.iload_n 1, 1) := by decide +kernel
theorem dX16_begin_46 : decode cX16_begin 46 = .ok (.aload_n 0, 1) := by decide +kernel
theorem dX16_begin_47 : decode cX16_begin 47 = .ok (.getfield 51, 3) := by decide +kernel
theorem dX16_begin_50 : decode cX16_begin 50 = .ok (.iload_n 1, 1) := by decide +kernel
theorem dX16_begin_51 : decode cX16_begin 51 = .ok (.iconst 0, 1) := by decide +kernel
theorem dX16_begin_52 : decode cX16_begin 52 = .ok (.dup_x2, 1) := by decide +kernel
theorem dX16_begin_53 : decode cX16_begin 53 = .ok (.iastore, 1) := by decide +kernel
theorem dX16_begin_54 : decode cX16_begin 54 = .ok (.dup_x2, 1) := by decide +kernel
theorem dX16_begin_55 : decode cX16_begin 55 = .ok (.iastore, 1) := by decide +kernel
theorem dX16_begin_56 : decode cX16_begin 56 = .ok (.dup_x2, 1) := by decide +kernel
theorem dX16_begin_57 : decode cX16_begin 57 = .ok (.iastore, 1) := by decide +kernel
theorem dX16_begin_58 : decode cX16_begin 58 = .ok (.dup_x2, 1) := by decide +kernel
theorem dX16_begin_59 : decode cX16_begin 59 = .ok (.iastore, 1) := by decide +kernel
theorem dX16_begin_60 : decode cX16_begin 60 = .ok (.dup_x2, 1) := by decide +kernel
theorem dX16_begin_61 : decode cX16_begin 61 = .ok (.iastore, 1) := by decide +kernel
theorem dX16_begin_62 : decode cX16_begin 62 = .ok (.iastore, 1) := by decide +kernel
theorem dX16_begin_63 : decode cX16_begin 63 = .ok (.aload_n 0, 1) := by decide +kernel
theorem dX16_begin_64 : decode cX16_begin 64 = .ok (.getfield 34, 3) := by decide +kernel
theorem dX16_begin_67 : decode cX16_begin 67 = .ok (.iload_n 1, 1) := by decide +kernel
theorem dX16_begin_68 : decode cX16_begin 68 = .ok (.iconst 0, 1) := by decide +kernel
theorem dX16_begin_69 : decode cX16_begin 69 = .ok (.bastore, 1) := by decide +kernel
theorem dX16_begin_70 : decode cX16_begin 70 = .ok (.aload_n 0, 1) := by decide +kernel
theorem dX16_begin_71 : decode cX16_begin 71 = .ok (.getfield 38, 3) := by decide +kernel
theorem dX16_begin_74 : decode cX16_begin 74 = .ok (.iload_n 1, 1) := by decide +kernel
theorem dX16_begin_75 : decode cX16_begin 75 = .ok (.ldc2_w 175, 3) := by decide +kernel
theorem dX16_begin_78 : decode cX16_begin 78 = .ok (.lastore, 1) := by decide +kernel
theorem dX16_begin_79 : decode cX16_begin 79 = .ok (.iconst 0, 1) := by decide +kernel
theorem dX16_begin_80 : decode cX16_begin 80 = .ok (.istore_n 2, 1) := by decide +kernel
theorem dX16_begin_81 : decode cX16_begin 81 = .ok (.iload_n 2, 1) := by decide +kernel
theorem dX16_begin_82 : decode cX16_begin 82 = .ok (.bipush 32, 2) := by decide +kernel
theorem dX16_begin_84 : decode cX16_begin 84 = .ok (.if_icmp .ge 33, 3) := by decide +kernel
theorem dX16_begin_87 : decode cX16_begin 87 = .ok (.aload_n 0, 1) := by decide +kernel
theorem dX16_begin_88 : decode cX16_begin 88 = .ok (.getfield 42, 3) := by decide +kernel
theorem dX16_begin_91 : decode cX16_begin 91 = .ok (.bipush 32, 2) := by decide +kernel
theorem dX16_begin_93 : decode cX16_begin 93 = .ok (.iload_n 1, 1) := by decide +kernel
theorem dX16_begin_94 : decode cX16_begin 94 = .ok (.imul, 1) := by decide +kernel
theorem dX16_begin_95 : decode cX16_begin 95 = .ok (.iload_n 2, 1) := by decide +kernel
theorem dX16_begin_96 : decode cX16_begin 96 = .ok (.iadd, 1) := by decide +kernel
theorem dX16_begin_97 : decode cX16_begin 97 = .ok (.aload_n 0, 1) := by decide +kernel
theorem dX16_begin_98 : decode cX16_begin 98 = .ok (.getfield 48, 3) := by decide +kernel
theorem dX16_begin_101 : decode cX16_begin 101 = .ok (.bipush 32, 2) := by decide +kernel
theorem dX16_begin_103 : decode cX16_begin 103 = .ok (.iload_n 1, 1) := by decide +kernel
theorem dX16_begin_104 : decode cX16_begin 104 = .ok (.imul, 1) := by decide +kernel
theorem dX16_begin_105 : decode cX16_begin 105 = .ok (.iload_n 2, 1) := by decide +kernel
theorem dX16_begin_106 : decode cX16_begin 106 = .ok (.iadd, 1) := by decide +kernel
theorem dX16_begin_107 : decode cX16_begin 107 = .ok (.iconst 0, 1) := by decide +kernel
theorem dX16_begin_108 : decode cX16_begin 108 = .ok (.dup_x2, 1) := by decide +kernel
theorem dX16_begin_109 : decode cX16_begin 109 = .ok (.iastore, 1) := by decide +kernel
theorem dX16_begin_110 : decode cX16_begin 110 = .ok (.iastore, 1) := by decide +kernel
theorem dX16_begin_111 : decode cX16_begin 111 = .ok (.iinc 2 1, 3) := by decide +kernel
theorem dX16_begin_114 : decode cX16_begin 114 = .ok (.goto (-33), 3) := by decide +kernel
theorem dX16_begin_117 : decode cX16_begin 117 = .ok (.iconst 0, 1) := by decide +kernel
theorem dX16_begin_118 : decode cX16_begin 118 = .ok (.istore_n 2, 1) := by decide +kernel
theorem dX16_begin_119 : decode cX16_begin 119 = .ok (.iload_n 2, 1) := by decide +kernel
theorem dX16_begin_120 : decode cX16_begin 120 = .ok (.bipush 16, 2) := by decide +kernel
theorem dX16_begin_122 : decode cX16_begin 122 = .ok (.if_icmp .ge 33, 3) := by decide +kernel
theorem dX16_begin_125 : decode cX16_begin 125 = .ok (.aload_n 0, 1) := by decide +kernel
theorem dX16_begin_126 : decode cX16_begin 126 = .ok (.getfield 54, 3) := by decide +kernel
theorem dX16_begin_129 : decode cX16_begin 129 = .ok (.bipush 16, 2) := by decide +kernel
theorem dX16_begin_131 : decode cX16_begin 131 = .ok (.iload_n 1, 1) := by decide +kernel
theorem dX16_begin_132 : decode cX16_begin 132 = .ok (.imul, 1) := by decide +kernel
theorem dX16_begin_133 : decode cX16_begin 133 = .ok (.iload_n 2, 1) := by decide +kernel
theorem dX16_begin_134 : decode cX16_begin 134 = .ok (.iadd, 1) := by decide +kernel
theorem dX16_begin_135 : decode cX16_begin 135 = .ok (.iconst 0, 1) := by decide +kernel
theorem dX16_begin_136 : decode cX16_begin 136 = .ok (.iastore, 1) := by decide +kernel
theorem dX16_begin_137 : decode cX16_begin 137 = .ok (.aload_n 0, 1) := by decide +kernel
theorem dX16_begin_138 : decode cX16_begin 138 = .ok (.getfield 57, 3) := by decide +kernel
theorem dX16_begin_141 : decode cX16_begin 141 = .ok (.bipush 16, 2) := by decide +kernel
theorem dX16_begin_143 : decode cX16_begin 143 = .ok (.iload_n 1, 1) := by decide +kernel
theorem dX16_begin_144 : decode cX16_begin 144 = .ok (.imul, 1) := by decide +kernel
theorem dX16_begin_145 : decode cX16_begin 145 = .ok (.iload_n 2, 1) := by decide +kernel
theorem dX16_begin_146 : decode cX16_begin 146 = .ok (.iadd, 1) := by decide +kernel
theorem dX16_begin_147 : decode cX16_begin 147 = .ok (.iconst (-1), 1) := by decide +kernel
theorem dX16_begin_148 : decode cX16_begin 148 = .ok (.iastore, 1) := by decide +kernel
theorem dX16_begin_149 : decode cX16_begin 149 = .ok (.iinc 2 1, 3) := by decide +kernel
theorem dX16_begin_152 : decode cX16_begin 152 = .ok (.goto (-33), 3) := by decide +kernel
theorem dX16_begin_155 : decode cX16_begin 155 = .ok (.return_, 1) := by decide +kernel
theorem dX16_pagesOf_0 : decode cX16_pagesOf 0 = .ok (.aload_n 0, 1) := by decide +kernel
theorem dX16_pagesOf_1 : decode cX16_pagesOf 1 = .ok (.getfield 118, 3) := by decide +kernel
theorem dX16_pagesOf_4 : decode cX16_pagesOf 4 = .ok (.getfield 177, 3) := by decide +kernel
theorem dX16_pagesOf_7 : decode cX16_pagesOf 7 = .ok (.iload_n 1, 1) := by decide +kernel
theorem dX16_pagesOf_8 : decode cX16_pagesOf 8 = .ok (.iaload, 1) := by decide +kernel
theorem dX16_pagesOf_9 : decode cX16_pagesOf 9 = .ok (.sipush 1023, 3) := by decide +kernel
theorem dX16_pagesOf_12 : decode cX16_pagesOf 12 = .ok (.iadd, 1) := by decide +kernel
theorem dX16_pagesOf_13 : decode cX16_pagesOf 13 = .ok (.sipush 1024, 3) := by decide +kernel
theorem dX16_pagesOf_16 : decode cX16_pagesOf 16 = .ok (.idiv, 1) := by decide +kernel
theorem dX16_pagesOf_17 : decode cX16_pagesOf 17 = .ok (.aload_n 0, 1) := by decide +kernel
theorem dX16_pagesOf_18 : decode cX16_pagesOf 18 = .ok (.getfield 118, 3) := by decide +kernel
theorem dX16_pagesOf_21 : decode cX16_pagesOf 21 = .ok (.iload_n 1, 1) := by decide +kernel
theorem dX16_pagesOf_22 : decode cX16_pagesOf 22 = .ok (.invokevirtual 182, 3) := by decide +kernel
theorem dX16_pagesOf_25 : decode cX16_pagesOf 25 = .ok (.sipush 1023, 3) := by decide +kernel
theorem dX16_pagesOf_28 : decode cX16_pagesOf 28 = .ok (.iadd, 1) := by decide +kernel
theorem dX16_pagesOf_29 : decode cX16_pagesOf 29 = .ok (.sipush 1024, 3) := by decide +kernel
theorem dX16_pagesOf_32 : decode cX16_pagesOf 32 = .ok (.idiv, 1) := by decide +kernel
theorem dX16_pagesOf_33 : decode cX16_pagesOf 33 = .ok (.iadd, 1) := by decide +kernel
theorem dX16_pagesOf_34 : decode cX16_pagesOf 34 = .ok (.iconst 4, 1) := by decide +kernel
theorem dX16_pagesOf_35 : decode cX16_pagesOf 35 = .ok (.iadd, 1) := by decide +kernel
theorem dX16_pagesOf_36 : decode cX16_pagesOf 36 = .ok (.ireturn, 1) := by decide +kernel
theorem dX16_load_0 : decode cX16_load 0 = .ok (.iconst 0, 1) := by decide +kernel
theorem dX16_load_1 : decode cX16_load 1 = .ok (.istore_n 3, 1) := by decide +kernel
theorem dX16_load_2 : decode cX16_load 2 = .ok (.iload_n 3, 1) := by decide +kernel
theorem dX16_load_3 : decode cX16_load 3 = .ok (.bipush 32, 2) := by decide +kernel
theorem dX16_load_5 : decode cX16_load 5 = .ok (.if_icmp .ge 21, 3) := by decide +kernel
theorem dX16_load_8 : decode cX16_load 8 = .ok (.aload_n 0, 1) := by decide +kernel
theorem dX16_load_9 : decode cX16_load 9 = .ok (.getfield 42, 3) := by decide +kernel
theorem dX16_load_12 : decode cX16_load 12 = .ok (.bipush 32, 2) := by decide +kernel
theorem dX16_load_14 : decode cX16_load 14 = .ok (.iload_n 1, 1) := by decide +kernel
theorem dX16_load_15 : decode cX16_load 15 = .ok (.imul, 1) := by decide +kernel
theorem dX16_load_16 : decode cX16_load 16 = .ok (.iload_n 3, 1) := by decide +kernel
theorem dX16_load_17 : decode cX16_load 17 = .ok (.iadd, 1) := by decide +kernel
theorem dX16_load_18 : decode cX16_load 18 = .ok (.iconst 0, 1) := by decide +kernel
theorem dX16_load_19 : decode cX16_load 19 = .ok (.iastore, 1) := by decide +kernel
theorem dX16_load_20 : decode cX16_load 20 = .ok (.iinc 3 1, 3) := by decide +kernel
theorem dX16_load_23 : decode cX16_load 23 = .ok (.goto (-21), 3) := by decide +kernel
theorem dX16_load_26 : decode cX16_load 26 = .ok (.aload_n 0, 1) := by decide +kernel
theorem dX16_load_27 : decode cX16_load 27 = .ok (.getfield 42, 3) := by decide +kernel
theorem dX16_load_30 : decode cX16_load 30 = .ok (.bipush 32, 2) := by decide +kernel
theorem dX16_load_32 : decode cX16_load 32 = .ok (.iload_n 1, 1) := by decide +kernel
theorem dX16_load_33 : decode cX16_load 33 = .ok (.imul, 1) := by decide +kernel
theorem dX16_load_34 : decode cX16_load 34 = .ok (.iconst 2, 1) := by decide +kernel
theorem dX16_load_35 : decode cX16_load 35 = .ok (.iadd, 1) := by decide +kernel
theorem dX16_load_36 : decode cX16_load 36 = .ok (.ldc 186, 2) := by decide +kernel
theorem dX16_load_38 : decode cX16_load 38 = .ok (.iastore, 1) := by decide +kernel
theorem dX16_load_39 : decode cX16_load 39 = .ok (.aload_n 0, 1) := by decide +kernel
theorem dX16_load_40 : decode cX16_load 40 = .ok (.getfield 45, 3) := by decide +kernel
theorem dX16_load_43 : decode cX16_load 43 = .ok (.iload_n 1, 1) := by decide +kernel
theorem dX16_load_44 : decode cX16_load 44 = .ok (.iconst 0, 1) := by decide +kernel
theorem dX16_load_45 : decode cX16_load 45 = .ok (.iastore, 1) := by decide +kernel
theorem dX16_load_46 : decode cX16_load 46 = .ok (.aload_n 0, 1) := by decide +kernel
theorem dX16_load_47 : decode cX16_load 47 = .ok (.getfield 118, 3) := by decide +kernel
theorem dX16_load_50 : decode cX16_load 50 = .ok (.getfield 177, 3) := by decide +kernel
theorem dX16_load_53 : decode cX16_load 53 = .ok (.iload_n 2, 1) := by decide +kernel
theorem dX16_load_54 : decode cX16_load 54 = .ok (.iaload, 1) := by decide +kernel
theorem dX16_load_55 : decode cX16_load 55 = .ok (.istore_n 3, 1) := by decide +kernel
theorem dX16_load_56 : decode cX16_load 56 = .ok (.iconst 0, 1) := by decide +kernel
theorem dX16_load_57 : decode cX16_load 57 = .ok (.istore 4, 2) := by decide +kernel
theorem dX16_load_59 : decode cX16_load 59 = .ok (.iload 4, 2) := by decide +kernel
theorem dX16_load_61 : decode cX16_load 61 = .ok (.iload_n 3, 1) := by decide +kernel
theorem dX16_load_62 : decode cX16_load 62 = .ok (.if_icmp .ge 24, 3) := by decide +kernel
theorem dX16_load_65 : decode cX16_load 65 = .ok (.aload_n 0, 1) := by decide +kernel
theorem dX16_load_66 : decode cX16_load 66 = .ok (.iload_n 1, 1) := by decide +kernel
theorem dX16_load_67 : decode cX16_load 67 = .ok (.iload 4, 2) := by decide +kernel
theorem dX16_load_69 : decode cX16_load 69 = .ok (.sipush 1024, 3) := by decide +kernel
theorem dX16_load_72 : decode cX16_load 72 = .ok (.idiv, 1) := by decide +kernel
theorem dX16_load_73 : decode cX16_load 73 = .ok (.iconst 5, 1) := by decide +kernel
theorem dX16_load_74 : decode cX16_load 74 = .ok (.invokevirtual 187, 3) := by decide +kernel
theorem dX16_load_77 : decode cX16_load 77 = .ok (.iinc 4 1024, 6) := by decide +kernel
theorem dX16_load_83 : decode cX16_load 83 = .ok (.goto (-24), 3) := by decide +kernel
theorem dX16_load_86 : decode cX16_load 86 = .ok (.iconst 0, 1) := by decide +kernel
theorem dX16_load_87 : decode cX16_load 87 = .ok (.istore 4, 2) := by decide +kernel
theorem dX16_load_89 : decode cX16_load 89 = .ok (.iload 4, 2) := by decide +kernel
theorem dX16_load_91 : decode cX16_load 91 = .ok (.aload_n 0, 1) := by decide +kernel
theorem dX16_load_92 : decode cX16_load 92 = .ok (.getfield 118, 3) := by decide +kernel
theorem dX16_load_95 : decode cX16_load 95 = .ok (.iload_n 2, 1) := by decide +kernel
theorem dX16_load_96 : decode cX16_load 96 = .ok (.invokevirtual 182, 3) := by decide +kernel
theorem dX16_load_99 : decode cX16_load 99 = .ok (.if_icmp .ge 34, 3) := by decide +kernel
theorem dX16_load_102 : decode cX16_load 102 = .ok (.aload_n 0, 1) := by decide +kernel
theorem dX16_load_103 : decode cX16_load 103 = .ok (.iload_n 1, 1) := by decide +kernel
theorem dX16_load_104 : decode cX16_load 104 = .ok (.aload_n 0, 1) := by decide +kernel
theorem dX16_load_105 : decode cX16_load 105 = .ok (.getfield 118, 3) := by decide +kernel
theorem dX16_load_108 : decode cX16_load 108 = .ok (.getfield 191, 3) := by decide +kernel
theorem dX16_load_111 : decode cX16_load 111 = .ok (.iload_n 2, 1) := by decide +kernel
theorem dX16_load_112 : decode cX16_load 112 = .ok (.iaload, 1) := by decide +kernel
theorem dX16_load_113 : decode cX16_load 113 = .ok (.iload 4, 2) := by decide +kernel
theorem dX16_load_115 : decode cX16_load 115 = .ok (.iadd, 1) := by decide +kernel
theorem dX16_load_116 : decode cX16_load 116 = .ok (.sipush 1024, 3) := by decide +kernel
theorem dX16_load_119 : decode cX16_load 119 = .ok (.idiv, 1) := by decide +kernel
theorem dX16_load_120 : decode cX16_load 120 = .ok (.iconst 3, 1) := by decide +kernel
theorem dX16_load_121 : decode cX16_load 121 = .ok (.invokevirtual 187, 3) := by decide +kernel
theorem dX16_load_124 : decode cX16_load 124 = .ok (.iinc 4 1024, 6) := by decide +kernel
theorem dX16_load_130 : decode cX16_load 130 = .ok (.goto (-41), 3) := by decide +kernel
theorem dX16_load_133 : decode cX16_load 133 = .ok (.bipush 60, 2) := by decide +kernel
theorem dX16_load_135 : decode cX16_load 135 = .ok (.istore 4, 2) := by decide +kernel
theorem dX16_load_137 : decode cX16_load 137 = .ok (.iload 4, 2) := by decide +kernel
theorem dX16_load_139 : decode cX16_load 139 = .ok (.bipush 64, 2) := by decide +kernel
theorem dX16_load_141 : decode cX16_load 141 = .ok (.if_icmp .ge 17, 3) := by decide +kernel
theorem dX16_load_144 : decode cX16_load 144 = .ok (.aload_n 0, 1) := by decide +kernel
theorem dX16_load_145 : decode cX16_load 145 = .ok (.iload_n 1, 1) := by decide +kernel
theorem dX16_load_146 : decode cX16_load 146 = .ok (.iload 4, 2) := by decide +kernel
theorem dX16_load_148 : decode cX16_load 148 = .ok (.iconst 3, 1) := by decide +kernel
theorem dX16_load_149 : decode cX16_load 149 = .ok (.invokevirtual 187, 3) := by decide +kernel
theorem dX16_load_152 : decode cX16_load 152 = .ok (.iinc 4 1, 3) := by decide +kernel
theorem dX16_load_155 : decode cX16_load 155 = .ok (.goto (-18), 3) := by decide +kernel
theorem dX16_load_158 : decode cX16_load 158 = .ok (.iconst 0, 1) := by decide +kernel
theorem dX16_load_159 : decode cX16_load 159 = .ok (.istore 4, 2) := by decide +kernel
theorem dX16_load_161 : decode cX16_load 161 = .ok (.iload 4, 2) := by decide +kernel
theorem dX16_load_163 : decode cX16_load 163 = .ok (.aload_n 0, 1) := by decide +kernel
theorem dX16_load_164 : decode cX16_load 164 = .ok (.getfield 118, 3) := by decide +kernel
theorem dX16_load_167 : decode cX16_load 167 = .ok (.getfield 194, 3) := by decide +kernel
theorem dX16_load_170 : decode cX16_load 170 = .ok (.iload_n 2, 1) := by decide +kernel
theorem dX16_load_171 : decode cX16_load 171 = .ok (.iaload, 1) := by decide +kernel
theorem dX16_load_172 : decode cX16_load 172 = .ok (.if_icmp .ge 50, 3) := by decide +kernel
theorem dX16_load_175 : decode cX16_load 175 = .ok (.aload_n 0, 1) := by decide +kernel
theorem dX16_load_176 : decode cX16_load 176 = .ok (.getfield 64, 3) := by decide +kernel
theorem dX16_load_179 : decode cX16_load 179 = .ok (.bipush 64, 2) := by decide +kernel
theorem dX16_load_181 : decode cX16_load 181 = .ok (.iload_n 1, 1) := by decide +kernel
theorem dX16_load_182 : decode cX16_load 182 = .ok (.imul, 1) := by decide +kernel
theorem dX16_load_183 : decode cX16_load 183 = .ok (.iload 4, 2) := by decide +kernel
theorem dX16_load_185 : decode cX16_load 185 = .ok (.sipush 1024, 3) := by decide +kernel
theorem dX16_load_188 : decode cX16_load 188 = .ok (.idiv, 1) := by decide +kernel
theorem dX16_load_189 : decode cX16_load 189 = .ok (.iadd, 1) := by decide +kernel
theorem dX16_load_190 : decode cX16_load 190 = .ok (.iaload, 1) := by decide +kernel
theorem dX16_load_191 : decode cX16_load 191 = .ok (.iconst (-1), 1) := by decide +kernel
theorem dX16_load_192 : decode cX16_load 192 = .ok (.if_icmp .eq 24, 3) := by decide +kernel
theorem dX16_load_195 : decode cX16_load 195 = .ok (.aload_n 0, 1) := by decide +kernel
theorem dX16_load_196 : decode cX16_load 196 = .ok (.ldc 186, 2) := by decide +kernel
theorem dX16_load_198 : decode cX16_load 198 = .ok (.iload_n 1, 1) := by decide +kernel
theorem dX16_load_199 : decode cX16_load 199 = .ok (.imul, 1) := by decide +kernel
theorem dX16_load_200 : decode cX16_load 200 = .ok (.iload 4, 2) := by decide +kernel
theorem dX16_load_202 : decode cX16_load 202 = .ok (.iadd, 1) := by decide +kernel
theorem dX16_load_203 : decode cX16_load 203 = .ok (.aload_n 0, 1) := by decide +kernel
theorem dX16_load_204 : decode cX16_load 204 = .ok (.getfield 118, 3) := by decide +kernel
theorem dX16_load_207 : decode cX16_load 207 = .ok (.iload_n 2, 1) := by decide +kernel
theorem dX16_load_208 : decode cX16_load 208 = .ok (.iload 4, 2) := by decide +kernel
theorem dX16_load_210 : decode cX16_load 210 = .ok (.invokevirtual 197, 3) := by decide +kernel
theorem dX16_load_213 : decode cX16_load 213 = .ok (.invokevirtual 201, 3) := by decide +kernel
theorem dX16_load_216 : decode cX16_load 216 = .ok (.iinc 4 1, 3) := by decide +kernel
theorem dX16_load_219 : decode cX16_load 219 = .ok (.goto (-58), 3) := by decide +kernel
theorem dX16_load_222 : decode cX16_load 222 = .ok (.aload_n 0, 1) := by decide +kernel
theorem dX16_load_223 : decode cX16_load 223 = .ok (.getfield 25, 3) := by decide +kernel
theorem dX16_load_226 : decode cX16_load 226 = .ok (.iload_n 1, 1) := by decide +kernel
theorem dX16_load_227 : decode cX16_load 227 = .ok (.aload_n 0, 1) := by decide +kernel
theorem dX16_load_228 : decode cX16_load 228 = .ok (.getfield 28, 3) := by decide +kernel
theorem dX16_load_231 : decode cX16_load 231 = .ok (.iload_n 1, 1) := by decide +kernel
theorem dX16_load_232 : decode cX16_load 232 = .ok (.aload_n 0, 1) := by decide +kernel
theorem dX16_load_233 : decode cX16_load 233 = .ok (.getfield 118, 3) := by decide +kernel
theorem dX16_load_236 : decode cX16_load 236 = .ok (.getfield 194, 3) := by decide +kernel
theorem dX16_load_239 : decode cX16_load 239 = .ok (.iload_n 2, 1) := by decide +kernel
theorem dX16_load_240 : decode cX16_load 240 = .ok (.iaload, 1) := by decide +kernel
theorem dX16_load_241 : decode cX16_load 241 = .ok (.sipush 1023, 3) := by decide +kernel
theorem dX16_load_244 : decode cX16_load 244 = .ok (.iadd, 1) := by decide +kernel
theorem dX16_load_245 : decode cX16_load 245 = .ok (.sipush 1024, 3) := by decide +kernel
theorem dX16_load_248 : decode cX16_load 248 = .ok (.idiv, 1) := by decide +kernel
theorem dX16_load_249 : decode cX16_load 249 = .ok (.sipush 1024, 3) := by decide +kernel
theorem dX16_load_252 : decode cX16_load 252 = .ok (.imul, 1) := by decide +kernel
theorem dX16_load_253 : decode cX16_load 253 = .ok (.dup_x2, 1) := by decide +kernel
theorem dX16_load_254 : decode cX16_load 254 = .ok (.iastore, 1) := by decide +kernel
theorem dX16_load_255 : decode cX16_load 255 = .ok (.iastore, 1) := by decide +kernel
theorem dX16_load_256 : decode cX16_load 256 = .ok (.return_, 1) := by decide +kernel
theorem dX16_freeFrame_0 : decode cX16_freeFrame 0 = .ok (.iconst 0, 1) := by decide +kernel
theorem dX16_freeFrame_1 : decode cX16_freeFrame 1 = .ok (.istore_n 1, 1) := by decide +kernel
theorem dX16_freeFrame_2 : decode cX16_freeFrame 2 = .ok (.aload_n 0, 1) := by decide +kernel
theorem dX16_freeFrame_3 : decode cX16_freeFrame 3 = .ok (.getfield 70, 3) := by decide +kernel
theorem dX16_freeFrame_6 : decode cX16_freeFrame 6 = .ok (.iload_n 1, 1) := by decide +kernel
theorem dX16_freeFrame_7 : decode cX16_freeFrame 7 = .ok (.iaload, 1) := by decide +kernel
theorem dX16_freeFrame_8 : decode cX16_freeFrame 8 = .ok (.ifCond .le 9, 3) := by decide +kernel
theorem dX16_freeFrame_11 : decode cX16_freeFrame 11 = .ok (.iinc 1 1, 3) := by decide +kernel
theorem dX16_freeFrame_14 : decode cX16_freeFrame 14 = .ok (.goto (-12), 3) := by decide +kernel
theorem dX16_freeFrame_17 : decode cX16_freeFrame 17 = .ok (.iload_n 1, 1) := by decide +kernel
theorem dX16_freeFrame_18 : decode cX16_freeFrame 18 = .ok (.ireturn, 1) := by decide +kernel
theorem dX16_stand_0 : decode cX16_stand 0 = .ok (.aload_n 0, 1) := by decide +kernel
theorem dX16_stand_1 : decode cX16_stand 1 = .ok (.getfield 64, 3) := by decide +kernel
theorem dX16_stand_4 : decode cX16_stand 4 = .ok (.iload_n 1, 1) := by decide +kernel
theorem dX16_stand_5 : decode cX16_stand 5 = .ok (.iload_n 2, 1) := by decide +kernel
theorem dX16_stand_6 : decode cX16_stand 6 = .ok (.iastore, 1) := by decide +kernel
theorem dX16_stand_7 : decode cX16_stand 7 = .ok (.aload_n 0, 1) := by decide +kernel
theorem dX16_stand_8 : decode cX16_stand 8 = .ok (.getfield 70, 3) := by decide +kernel
theorem dX16_stand_11 : decode cX16_stand 11 = .ok (.iload_n 2, 1) := by decide +kernel
theorem dX16_stand_12 : decode cX16_stand 12 = .ok (.iaload, 1) := by decide +kernel
theorem dX16_stand_13 : decode cX16_stand 13 = .ok (.ifCond .ne 13, 3) := by decide +kernel
theorem dX16_stand_16 : decode cX16_stand 16 = .ok (.aload_n 0, 1) := by decide +kernel
theorem dX16_stand_17 : decode cX16_stand 17 = .ok (.dup, 1) := by decide +kernel
theorem dX16_stand_18 : decode cX16_stand 18 = .ok (.getfield 129, 3) := by decide +kernel
theorem dX16_stand_21 : decode cX16_stand 21 = .ok (.iconst 1, 1) := by decide +kernel
theorem dX16_stand_22 : decode cX16_stand 22 = .ok (.iadd, 1) := by decide +kernel
theorem dX16_stand_23 : decode cX16_stand 23 = .ok (.putfield 129, 3) := by decide +kernel
theorem dX16_stand_26 : decode cX16_stand 26 = .ok (.aload_n 0, 1) := by decide +kernel
theorem dX16_stand_27 : decode cX16_stand 27 = .ok (.getfield 70, 3) := by decide +kernel
theorem dX16_stand_30 : decode cX16_stand 30 = .ok (.iload_n 2, 1) := by decide +kernel
theorem dX16_stand_31 : decode cX16_stand 31 = .ok (.dup2, 1) := by decide +kernel
theorem dX16_stand_32 : decode cX16_stand 32 = .ok (.iaload, 1) := by decide +kernel
theorem dX16_stand_33 : decode cX16_stand 33 = .ok (.iconst 1, 1) := by decide +kernel
theorem dX16_stand_34 : decode cX16_stand 34 = .ok (.iadd, 1) := by decide +kernel
theorem dX16_stand_35 : decode cX16_stand 35 = .ok (.iastore, 1) := by decide +kernel
theorem dX16_stand_36 : decode cX16_stand 36 = .ok (.return_, 1) := by decide +kernel
theorem dX16_leave_0 : decode cX16_leave 0 = .ok (.aload_n 0, 1) := by decide +kernel
theorem dX16_leave_1 : decode cX16_leave 1 = .ok (.getfield 64, 3) := by decide +kernel
theorem dX16_leave_4 : decode cX16_leave 4 = .ok (.iload_n 1, 1) := by decide +kernel
theorem dX16_leave_5 : decode cX16_leave 5 = .ok (.iaload, 1) := by decide +kernel
theorem dX16_leave_6 : decode cX16_leave 6 = .ok (.istore_n 2, 1) := by decide +kernel
theorem dX16_leave_7 : decode cX16_leave 7 = .ok (.iload_n 2, 1) := by decide +kernel
theorem dX16_leave_8 : decode cX16_leave 8 = .ok (.iconst (-1), 1) := by decide +kernel
theorem dX16_leave_9 : decode cX16_leave 9 = .ok (.if_icmp .ne 4, 3) := by decide +kernel
theorem dX16_leave_12 : decode cX16_leave 12 = .ok (.return_, 1) := by decide +kernel
theorem dX16_leave_13 : decode cX16_leave 13 = .ok (.aload_n 0, 1) := by decide +kernel
theorem dX16_leave_14 : decode cX16_leave 14 = .ok (.getfield 64, 3) := by decide +kernel
theorem dX16_leave_17 : decode cX16_leave 17 = .ok (.iload_n 1, 1) := by decide +kernel
theorem dX16_leave_18 : decode cX16_leave 18 = .ok (.iconst (-1), 1) := by decide +kernel
theorem dX16_leave_19 : decode cX16_leave 19 = .ok (.iastore, 1) := by decide +kernel
theorem dX16_leave_20 : decode cX16_leave 20 = .ok (.aload_n 0, 1) := by decide +kernel
theorem dX16_leave_21 : decode cX16_leave 21 = .ok (.getfield 70, 3) := by decide +kernel
theorem dX16_leave_24 : decode cX16_leave 24 = .ok (.iload_n 2, 1) := by decide +kernel
theorem dX16_leave_25 : decode cX16_leave 25 = .ok (.dup2, 1) := by decide +kernel
theorem dX16_leave_26 : decode cX16_leave 26 = .ok (.iaload, 1) := by decide +kernel
theorem dX16_leave_27 : decode cX16_leave 27 = .ok (.iconst 1, 1) := by decide +kernel
theorem dX16_leave_28 : decode cX16_leave 28 = .ok (.isub, 1) := by decide +kernel
theorem dX16_leave_29 : decode cX16_leave 29 = .ok (.iastore, 1) := by decide +kernel
theorem dX16_leave_30 : decode cX16_leave 30 = .ok (.aload_n 0, 1) := by decide +kernel
theorem dX16_leave_31 : decode cX16_leave 31 = .ok (.getfield 70, 3) := by decide +kernel
theorem dX16_leave_34 : decode cX16_leave 34 = .ok (.iload_n 2, 1) := by decide +kernel
theorem dX16_leave_35 : decode cX16_leave 35 = .ok (.iaload, 1) := by decide +kernel
theorem dX16_leave_36 : decode cX16_leave 36 = .ok (.ifCond .ne 13, 3) := by decide +kernel
theorem dX16_leave_39 : decode cX16_leave 39 = .ok (.aload_n 0, 1) := by decide +kernel
theorem dX16_leave_40 : decode cX16_leave 40 = .ok (.dup, 1) := by decide +kernel
theorem dX16_leave_41 : decode cX16_leave 41 = .ok (.getfield 129, 3) := by decide +kernel
theorem dX16_leave_44 : decode cX16_leave 44 = .ok (.iconst 1, 1) := by decide +kernel
theorem dX16_leave_45 : decode cX16_leave 45 = .ok (.isub, 1) := by decide +kernel
theorem dX16_leave_46 : decode cX16_leave 46 = .ok (.putfield 129, 3) := by decide +kernel
theorem dX16_leave_49 : decode cX16_leave 49 = .ok (.return_, 1) := by decide +kernel
theorem dX16_newPage_0 : decode cX16_newPage 0 = .ok (.aload_n 0, 1) := by decide +kernel
theorem dX16_newPage_1 : decode cX16_newPage 1 = .ok (.bipush 64, 2) := by decide +kernel
theorem dX16_newPage_3 : decode cX16_newPage 3 = .ok (.iload_n 1, 1) := by decide +kernel
theorem dX16_newPage_4 : decode cX16_newPage 4 = .ok (.imul, 1) := by decide +kernel
theorem dX16_newPage_5 : decode cX16_newPage 5 = .ok (.iload_n 2, 1) := by decide +kernel
theorem dX16_newPage_6 : decode cX16_newPage 6 = .ok (.iadd, 1) := by decide +kernel
theorem dX16_newPage_7 : decode cX16_newPage 7 = .ok (.aload_n 0, 1) := by decide +kernel
theorem dX16_newPage_8 : decode cX16_newPage 8 = .ok (.invokevirtual 204, 3) := by decide +kernel
theorem dX16_newPage_11 : decode cX16_newPage 11 = .ok (.invokevirtual 208, 3) := by decide +kernel
theorem dX16_newPage_14 : decode cX16_newPage 14 = .ok (.aload_n 0, 1) := by decide +kernel
theorem dX16_newPage_15 : decode cX16_newPage 15 = .ok (.getfield 67, 3) := by decide +kernel
theorem dX16_newPage_18 : decode cX16_newPage 18 = .ok (.bipush 64, 2) := by decide +kernel
theorem dX16_newPage_20 : decode cX16_newPage 20 = .ok (.iload_n 1, 1) := by decide +kernel
theorem dX16_newPage_21 : decode cX16_newPage 21 = .ok (.imul, 1) := by decide +kernel
theorem dX16_newPage_22 : decode cX16_newPage 22 = .ok (.iload_n 2, 1) := by decide +kernel
theorem dX16_newPage_23 : decode cX16_newPage 23 = .ok (.iadd, 1) := by decide +kernel
theorem dX16_newPage_24 : decode cX16_newPage 24 = .ok (.iload_n 3, 1) := by decide +kernel
theorem dX16_newPage_25 : decode cX16_newPage 25 = .ok (.iastore, 1) := by decide +kernel
theorem dX16_newPage_26 : decode cX16_newPage 26 = .ok (.iconst 0, 1) := by decide +kernel
theorem dX16_newPage_27 : decode cX16_newPage 27 = .ok (.istore 4, 2) := by decide +kernel
theorem dX16_newPage_29 : decode cX16_newPage 29 = .ok (.iload 4, 2) := by decide +kernel
theorem dX16_newPage_31 : decode cX16_newPage 31 = .ok (.sipush 256, 3) := by decide +kernel
theorem dX16_newPage_34 : decode cX16_newPage 34 = .ok (.if_icmp .ge 29, 3) := by decide +kernel
theorem dX16_newPage_37 : decode cX16_newPage 37 = .ok (.aload_n 0, 1) := by decide +kernel
theorem dX16_newPage_38 : decode cX16_newPage 38 = .ok (.getfield 61, 3) := by decide +kernel
theorem dX16_newPage_41 : decode cX16_newPage 41 = .ok (.sipush 16384, 3) := by decide +kernel
theorem dX16_newPage_44 : decode cX16_newPage 44 = .ok (.iload_n 1, 1) := by decide +kernel
theorem dX16_newPage_45 : decode cX16_newPage 45 = .ok (.imul, 1) := by decide +kernel
theorem dX16_newPage_46 : decode cX16_newPage 46 = .ok (.sipush 256, 3) := by decide +kernel
theorem dX16_newPage_49 : decode cX16_newPage 49 = .ok (.iload_n 2, 1) := by decide +kernel
theorem dX16_newPage_50 : decode cX16_newPage 50 = .ok (.imul, 1) := by decide +kernel
theorem dX16_newPage_51 : decode cX16_newPage 51 = .ok (.iadd, 1) := by decide +kernel
theorem dX16_newPage_52 : decode cX16_newPage 52 = .ok (.iload 4, 2) := by decide +kernel
theorem dX16_newPage_54 : decode cX16_newPage 54 = .ok (.iadd, 1) := by decide +kernel
theorem dX16_newPage_55 : decode cX16_newPage 55 = .ok (.iconst 0, 1) := by decide +kernel
theorem dX16_newPage_56 : decode cX16_newPage 56 = .ok (.iastore, 1) := by decide +kernel
theorem dX16_newPage_57 : decode cX16_newPage 57 = .ok (.iinc 4 1, 3) := by decide +kernel
theorem dX16_newPage_60 : decode cX16_newPage 60 = .ok (.goto (-31), 3) := by decide +kernel
theorem dX16_newPage_63 : decode cX16_newPage 63 = .ok (.return_, 1) := by decide +kernel
theorem dX16_leaveAll_0 : decode cX16_leaveAll 0 = .ok (.iconst 0, 1) := by decide +kernel
theorem dX16_leaveAll_1 : decode cX16_leaveAll 1 = .ok (.istore_n 2, 1) := by decide +kernel
theorem dX16_leaveAll_2 : decode cX16_leaveAll 2 = .ok (.iload_n 2, 1) := by decide +kernel
theorem dX16_leaveAll_3 : decode cX16_leaveAll 3 = .ok (.bipush 64, 2) := by decide +kernel
theorem dX16_leaveAll_5 : decode cX16_leaveAll 5 = .ok (.if_icmp .ge 19, 3) := by decide +kernel
theorem dX16_leaveAll_8 : decode cX16_leaveAll 8 = .ok (.aload_n 0, 1) := by decide +kernel
theorem dX16_leaveAll_9 : decode cX16_leaveAll 9 = .ok (.bipush 64, 2) := by decide +kernel
theorem dX16_leaveAll_11 : decode cX16_leaveAll 11 = .ok (.iload_n 1, 1) := by decide +kernel
theorem dX16_leaveAll_12 : decode cX16_leaveAll 12 = .ok (.imul, 1) := by decide +kernel
theorem dX16_leaveAll_13 : decode cX16_leaveAll 13 = .ok (.iload_n 2, 1) := by decide +kernel
theorem dX16_leaveAll_14 : decode cX16_leaveAll 14 = .ok (.iadd, 1) := by decide +kernel
theorem dX16_leaveAll_15 : decode cX16_leaveAll 15 = .ok (.invokevirtual 211, 3) := by decide +kernel
theorem dX16_leaveAll_18 : decode cX16_leaveAll 18 = .ok (.iinc 2 1, 3) := by decide +kernel
theorem dX16_leaveAll_21 : decode cX16_leaveAll 21 = .ok (.goto (-19), 3) := by decide +kernel
theorem dX16_leaveAll_24 : decode cX16_leaveAll 24 = .ok (.return_, 1) := by decide +kernel
theorem dX16_isThere_0 : decode cX16_isThere 0 = .ok (.iload_n 2, 1) := by decide +kernel
theorem dX16_isThere_1 : decode cX16_isThere 1 = .ok (.ifCond .lt 32, 3) := by decide +kernel
theorem dX16_isThere_4 : decode cX16_isThere 4 = .ok (.iload_n 2, 1) := by decide +kernel
theorem dX16_isThere_5 : decode cX16_isThere 5 = .ok (.ldc 186, 2) := by decide +kernel
theorem dX16_isThere_7 : decode cX16_isThere 7 = .ok (.if_icmp .ge 26, 3) := by decide +kernel
theorem dX16_isThere_10 : decode cX16_isThere 10 = .ok (.aload_n 0, 1) := by decide +kernel
theorem dX16_isThere_11 : decode cX16_isThere 11 = .ok (.getfield 64, 3) := by decide +kernel
theorem dX16_isThere_14 : decode cX16_isThere 14 = .ok (.bipush 64, 2) := by decide +kernel
theorem dX16_isThere_16 : decode cX16_isThere 16 = .ok (.iload_n 1, 1) := by decide +kernel
theorem dX16_isThere_17 : decode cX16_isThere 17 = .ok (.imul, 1) := by decide +kernel
theorem dX16_isThere_18 : decode cX16_isThere 18 = .ok (.iload_n 2, 1) := by decide +kernel
theorem dX16_isThere_19 : decode cX16_isThere 19 = .ok (.sipush 1024, 3) := by decide +kernel
theorem dX16_isThere_22 : decode cX16_isThere 22 = .ok (.idiv, 1) := by decide +kernel
theorem dX16_isThere_23 : decode cX16_isThere 23 = .ok (.iadd, 1) := by decide +kernel
theorem dX16_isThere_24 : decode cX16_isThere 24 = .ok (.iaload, 1) := by decide +kernel
theorem dX16_isThere_25 : decode cX16_isThere 25 = .ok (.iconst (-1), 1) := by decide +kernel
theorem dX16_isThere_26 : decode cX16_isThere 26 = .ok (.if_icmp .eq 7, 3) := by decide +kernel
theorem dX16_isThere_29 : decode cX16_isThere 29 = .ok (.iconst 1, 1) := by decide +kernel
theorem dX16_isThere_30 : decode cX16_isThere 30 = .ok (.goto 4, 3) := by decide +kernel
theorem dX16_isThere_33 : decode cX16_isThere 33 = .ok (.iconst 0, 1) := by decide +kernel
theorem dX16_isThere_34 : decode cX16_isThere 34 = .ok (.ireturn, 1) := by decide +kernel
theorem dX16_may_0 : decode cX16_may 0 = .ok (.aload_n 0, 1) := by decide +kernel
theorem dX16_may_1 : decode cX16_may 1 = .ok (.iload_n 1, 1) := by decide +kernel
theorem dX16_may_2 : decode cX16_may 2 = .ok (.iload_n 2, 1) := by decide +kernel
theorem dX16_may_3 : decode cX16_may 3 = .ok (.invokevirtual 214, 3) := by decide +kernel
theorem dX16_may_6 : decode cX16_may 6 = .ok (.ifCond .eq 27, 3) := by decide +kernel
theorem dX16_may_9 : decode cX16_may 9 = .ok (.aload_n 0, 1) := by decide +kernel
theorem dX16_may_10 : decode cX16_may 10 = .ok (.getfield 67, 3) := by decide +kernel
theorem dX16_may_13 : decode cX16_may 13 = .ok (.bipush 64, 2) := by decide +kernel
theorem dX16_may_15 : decode cX16_may 15 = .ok (.iload_n 1, 1) := by decide +kernel
theorem dX16_may_16 : decode cX16_may 16 = .ok (.imul, 1) := by decide +kernel
theorem dX16_may_17 : decode cX16_may 17 = .ok (.iload_n 2, 1) := by decide +kernel
theorem dX16_may_18 : decode cX16_may 18 = .ok (.sipush 1024, 3) := by decide +kernel
theorem dX16_may_21 : decode cX16_may 21 = .ok (.idiv, 1) := by decide +kernel
theorem dX16_may_22 : decode cX16_may 22 = .ok (.iadd, 1) := by decide +kernel
theorem dX16_may_23 : decode cX16_may 23 = .ok (.iaload, 1) := by decide +kernel
theorem dX16_may_24 : decode cX16_may 24 = .ok (.iload_n 3, 1) := by decide +kernel
theorem dX16_may_25 : decode cX16_may 25 = .ok (.iand, 1) := by decide +kernel
theorem dX16_may_26 : decode cX16_may 26 = .ok (.ifCond .le 7, 3) := by decide +kernel
theorem dX16_may_29 : decode cX16_may 29 = .ok (.iconst 1, 1) := by decide +kernel
theorem dX16_may_30 : decode cX16_may 30 = .ok (.goto 4, 3) := by decide +kernel
theorem dX16_may_33 : decode cX16_may 33 = .ok (.iconst 0, 1) := by decide +kernel
theorem dX16_may_34 : decode cX16_may 34 = .ok (.ireturn, 1) := by decide +kernel
theorem dX16_mayAll_0 : decode cX16_mayAll 0 = .ok (.iconst 1, 1) := by decide +kernel
theorem dX16_mayAll_1 : decode cX16_mayAll 1 = .ok (.istore 5, 2) := by decide +kernel
theorem dX16_mayAll_3 : decode cX16_mayAll 3 = .ok (.iconst 0, 1) := by decide +kernel
theorem dX16_mayAll_4 : decode cX16_mayAll 4 = .ok (.istore 6, 2) := by decide +kernel
theorem dX16_mayAll_6 : decode cX16_mayAll 6 = .ok (.iload 6, 2) := by decide +kernel
theorem dX16_mayAll_8 : decode cX16_mayAll 8 = .ok (.iload_n 3, 1) := by decide +kernel
theorem dX16_mayAll_9 : decode cX16_mayAll 9 = .ok (.if_icmp .ge 27, 3) := by decide +kernel
theorem dX16_mayAll_12 : decode cX16_mayAll 12 = .ok (.iload 5, 2) := by decide +kernel
theorem dX16_mayAll_14 : decode cX16_mayAll 14 = .ok (.ifCond .eq 22, 3) := by decide +kernel
theorem dX16_mayAll_17 : decode cX16_mayAll 17 = .ok (.aload_n 0, 1) := by decide +kernel
theorem dX16_mayAll_18 : decode cX16_mayAll 18 = .ok (.iload_n 1, 1) := by decide +kernel
theorem dX16_mayAll_19 : decode cX16_mayAll 19 = .ok (.iload_n 2, 1) := by decide +kernel
theorem dX16_mayAll_20 : decode cX16_mayAll 20 = .ok (.iload 6, 2) := by decide +kernel
theorem dX16_mayAll_22 : decode cX16_mayAll 22 = .ok (.iadd, 1) := by decide +kernel
theorem dX16_mayAll_23 : decode cX16_mayAll 23 = .ok (.iload 4, 2) := by decide +kernel
theorem dX16_mayAll_25 : decode cX16_mayAll 25 = .ok (.invokevirtual 218, 3) := by decide +kernel
theorem dX16_mayAll_28 : decode cX16_mayAll 28 = .ok (.istore 5, 2) := by decide +kernel
theorem dX16_mayAll_30 : decode cX16_mayAll 30 = .ok (.iinc 6 1, 3) := by decide +kernel
theorem dX16_mayAll_33 : decode cX16_mayAll 33 = .ok (.goto (-27), 3) := by decide +kernel
theorem dX16_mayAll_36 : decode cX16_mayAll 36 = .ok (.iload 5, 2) := by decide +kernel
theorem dX16_mayAll_38 : decode cX16_mayAll 38 = .ok (.ireturn, 1) := by decide +kernel
theorem dX16_wanted_0 : decode cX16_wanted 0 = .ok (.iconst 0, 1) := by decide +kernel
theorem dX16_wanted_1 : decode cX16_wanted 1 = .ok (.istore 4, 2) := by decide +kernel
theorem dX16_wanted_3 : decode cX16_wanted 3 = .ok (.iconst 0, 1) := by decide +kernel
theorem dX16_wanted_4 : decode cX16_wanted 4 = .ok (.istore 5, 2) := by decide +kernel
theorem dX16_wanted_6 : decode cX16_wanted 6 = .ok (.iload 5, 2) := by decide +kernel
theorem dX16_wanted_8 : decode cX16_wanted 8 = .ok (.iload_n 3, 1) := by decide +kernel
theorem dX16_wanted_9 : decode cX16_wanted 9 = .ok (.if_icmp .ge 79, 3) := by decide +kernel
theorem dX16_wanted_12 : decode cX16_wanted 12 = .ok (.bipush 64, 2) := by decide +kernel
theorem dX16_wanted_14 : decode cX16_wanted 14 = .ok (.iload_n 1, 1) := by decide +kernel
theorem dX16_wanted_15 : decode cX16_wanted 15 = .ok (.imul, 1) := by decide +kernel
theorem dX16_wanted_16 : decode cX16_wanted 16 = .ok (.iload_n 2, 1) := by decide +kernel
theorem dX16_wanted_17 : decode cX16_wanted 17 = .ok (.iload 5, 2) := by decide +kernel
theorem dX16_wanted_19 : decode cX16_wanted 19 = .ok (.iadd, 1) := by decide +kernel
theorem dX16_wanted_20 : decode cX16_wanted 20 = .ok (.sipush 1024, 3) := by decide +kernel
theorem dX16_wanted_23 : decode cX16_wanted 23 = .ok (.idiv, 1) := by decide +kernel
theorem dX16_wanted_24 : decode cX16_wanted 24 = .ok (.iadd, 1) := by decide +kernel
theorem dX16_wanted_25 : decode cX16_wanted 25 = .ok (.istore 6, 2) := by decide +kernel
theorem dX16_wanted_27 : decode cX16_wanted 27 = .ok (.iload 5, 2) := by decide +kernel
theorem dX16_wanted_29 : decode cX16_wanted 29 = .ok (.ifCond .eq 14, 3) := by decide +kernel
theorem dX16_wanted_32 : decode cX16_wanted 32 = .ok (.iload_n 2, 1) := by decide +kernel
theorem dX16_wanted_33 : decode cX16_wanted 33 = .ok (.iload 5, 2) := by decide +kernel
theorem dX16_wanted_35 : decode cX16_wanted 35 = .ok (.iadd, 1) := by decide +kernel
theorem dX16_wanted_36 : decode cX16_wanted 36 = .ok (.sipush 1024, 3) := by decide +kernel
theorem dX16_wanted_39 : decode cX16_wanted 39 = .ok (.irem, 1) := by decide +kernel
theorem dX16_wanted_40 : decode cX16_wanted 40 = .ok (.ifCond .ne 7, 3) := by decide +kernel
theorem dX16_wanted_43 : decode cX16_wanted 43 = .ok (.iconst 1, 1) := by decide +kernel
theorem dX16_wanted_44 : decode cX16_wanted 44 = .ok (.goto 4, 3) := by decide +kernel
theorem dX16_wanted_47 : decode cX16_wanted 47 = .ok (.iconst 0, 1) := by decide +kernel
theorem dX16_wanted_48 : decode cX16_wanted 48 = .ok (.istore 7, 2) := by decide +kernel
theorem dX16_wanted_50 : decode cX16_wanted 50 = .ok (.iload 7, 2) := by decide +kernel
theorem dX16_wanted_52 : decode cX16_wanted 52 = .ok (.ifCond .eq 26, 3) := by decide +kernel
theorem dX16_wanted_55 : decode cX16_wanted 55 = .ok (.aload_n 0, 1) := by decide +kernel
theorem dX16_wanted_56 : decode cX16_wanted 56 = .ok (.getfield 70, 3) := by decide +kernel
theorem dX16_wanted_59 : decode cX16_wanted 59 = .ok (.aload_n 0, 1) := by decide +kernel
theorem dX16_wanted_60 : decode cX16_wanted 60 = .ok (.getfield 64, 3) := by decide +kernel
theorem dX16_wanted_63 : decode cX16_wanted 63 = .ok (.iload 6, 2) := by decide +kernel
theorem dX16_wanted_65 : decode cX16_wanted 65 = .ok (.iaload, 1) := by decide +kernel
theorem dX16_wanted_66 : decode cX16_wanted 66 = .ok (.iaload, 1) := by decide +kernel
theorem dX16_wanted_67 : decode cX16_wanted 67 = .ok (.iconst 1, 1) := by decide +kernel
theorem dX16_wanted_68 : decode cX16_wanted 68 = .ok (.if_icmp .le 10, 3) := by decide +kernel
theorem dX16_wanted_71 : decode cX16_wanted 71 = .ok (.iload 4, 2) := by decide +kernel
theorem dX16_wanted_73 : decode cX16_wanted 73 = .ok (.iconst 1, 1) := by decide +kernel
theorem dX16_wanted_74 : decode cX16_wanted 74 = .ok (.iadd, 1) := by decide +kernel
theorem dX16_wanted_75 : decode cX16_wanted 75 = .ok (.goto 5, 3) := by decide +kernel
theorem dX16_wanted_78 : decode cX16_wanted 78 = .ok (.iload 4, 2) := by decide +kernel
theorem dX16_wanted_80 : decode cX16_wanted 80 = .ok (.istore 4, 2) := by decide +kernel
theorem dX16_wanted_82 : decode cX16_wanted 82 = .ok (.iinc 5 1, 3) := by decide +kernel
theorem dX16_wanted_85 : decode cX16_wanted 85 = .ok (.goto (-79), 3) := by decide +kernel
theorem dX16_wanted_88 : decode cX16_wanted 88 = .ok (.iload 4, 2) := by decide +kernel
theorem dX16_wanted_90 : decode cX16_wanted 90 = .ok (.ireturn, 1) := by decide +kernel
theorem dX16_hasFrames_0 : decode cX16_hasFrames 0 = .ok (.aload_n 0, 1) := by decide +kernel
theorem dX16_hasFrames_1 : decode cX16_hasFrames 1 = .ok (.getfield 129, 3) := by decide +kernel
theorem dX16_hasFrames_4 : decode cX16_hasFrames 4 = .ok (.iload_n 1, 1) := by decide +kernel
theorem dX16_hasFrames_5 : decode cX16_hasFrames 5 = .ok (.iadd, 1) := by decide +kernel
theorem dX16_hasFrames_6 : decode cX16_hasFrames 6 = .ok (.sipush 256, 3) := by decide +kernel
theorem dX16_hasFrames_9 : decode cX16_hasFrames 9 = .ok (.if_icmp .gt 7, 3) := by decide +kernel
theorem dX16_hasFrames_12 : decode cX16_hasFrames 12 = .ok (.iconst 1, 1) := by decide +kernel
theorem dX16_hasFrames_13 : decode cX16_hasFrames 13 = .ok (.goto 4, 3) := by decide +kernel
theorem dX16_hasFrames_16 : decode cX16_hasFrames 16 = .ok (.iconst 0, 1) := by decide +kernel
theorem dX16_hasFrames_17 : decode cX16_hasFrames 17 = .ok (.ireturn, 1) := by decide +kernel
theorem dX16_write_0 : decode cX16_write 0 = .ok (.bipush 64, 2) := by decide +kernel
theorem dX16_write_2 : decode cX16_write 2 = .ok (.iload_n 1, 1) := by decide +kernel
theorem dX16_write_3 : decode cX16_write 3 = .ok (.imul, 1) := by decide +kernel
theorem dX16_write_4 : decode cX16_write 4 = .ok (.iload_n 2, 1) := by decide +kernel
theorem dX16_write_5 : decode cX16_write 5 = .ok (.sipush 1024, 3) := by decide +kernel
theorem dX16_write_8 : decode cX16_write 8 = .ok (.idiv, 1) := by decide +kernel
theorem dX16_write_9 : decode cX16_write 9 = .ok (.iadd, 1) := by decide +kernel
theorem dX16_write_10 : decode cX16_write 10 = .ok (.istore 4, 2) := by decide +kernel
theorem dX16_write_12 : decode cX16_write 12 = .ok (.aload_n 0, 1) := by decide +kernel
theorem dX16_write_13 : decode cX16_write 13 = .ok (.getfield 70, 3) := by decide +kernel
theorem dX16_write_16 : decode cX16_write 16 = .ok (.aload_n 0, 1) := by decide +kernel
theorem dX16_write_17 : decode cX16_write 17 = .ok (.getfield 64, 3) := by decide +kernel
theorem dX16_write_20 : decode cX16_write 20 = .ok (.iload 4, 2) := by decide +kernel
theorem dX16_write_22 : decode cX16_write 22 = .ok (.iaload, 1) := by decide +kernel
theorem dX16_write_23 : decode cX16_write 23 = .ok (.iaload, 1) := by decide +kernel
theorem dX16_write_24 : decode cX16_write 24 = .ok (.iconst 1, 1) := by decide +kernel
theorem dX16_write_25 : decode cX16_write 25 = .ok (.if_icmp .le 19, 3) := by decide +kernel
theorem dX16_write_28 : decode cX16_write 28 = .ok (.aload_n 0, 1) := by decide +kernel
theorem dX16_write_29 : decode cX16_write 29 = .ok (.iload 4, 2) := by decide +kernel
theorem dX16_write_31 : decode cX16_write 31 = .ok (.invokevirtual 211, 3) := by decide +kernel
theorem dX16_write_34 : decode cX16_write 34 = .ok (.aload_n 0, 1) := by decide +kernel
theorem dX16_write_35 : decode cX16_write 35 = .ok (.iload 4, 2) := by decide +kernel
theorem dX16_write_37 : decode cX16_write 37 = .ok (.aload_n 0, 1) := by decide +kernel
theorem dX16_write_38 : decode cX16_write 38 = .ok (.invokevirtual 204, 3) := by decide +kernel
theorem dX16_write_41 : decode cX16_write 41 = .ok (.invokevirtual 208, 3) := by decide +kernel
theorem dX16_write_44 : decode cX16_write 44 = .ok (.aload_n 0, 1) := by decide +kernel
theorem dX16_write_45 : decode cX16_write 45 = .ok (.ldc 186, 2) := by decide +kernel
theorem dX16_write_47 : decode cX16_write 47 = .ok (.iload_n 1, 1) := by decide +kernel
theorem dX16_write_48 : decode cX16_write 48 = .ok (.imul, 1) := by decide +kernel
theorem dX16_write_49 : decode cX16_write 49 = .ok (.iload_n 2, 1) := by decide +kernel
theorem dX16_write_50 : decode cX16_write 50 = .ok (.iadd, 1) := by decide +kernel
theorem dX16_write_51 : decode cX16_write 51 = .ok (.iload_n 3, 1) := by decide +kernel
theorem dX16_write_52 : decode cX16_write 52 = .ok (.invokevirtual 201, 3) := by decide +kernel
theorem dX16_write_55 : decode cX16_write 55 = .ok (.aload_n 0, 1) := by decide +kernel
theorem dX16_write_56 : decode cX16_write 56 = .ok (.getfield 135, 3) := by decide +kernel
theorem dX16_write_59 : decode cX16_write 59 = .ok (.iconst (-1), 1) := by decide +kernel
theorem dX16_write_60 : decode cX16_write 60 = .ok (.if_icmp .eq 20, 3) := by decide +kernel
theorem dX16_write_63 : decode cX16_write 63 = .ok (.iload_n 2, 1) := by decide +kernel
theorem dX16_write_64 : decode cX16_write 64 = .ok (.iconst 4, 1) := by decide +kernel
theorem dX16_write_65 : decode cX16_write 65 = .ok (.idiv, 1) := by decide +kernel
theorem dX16_write_66 : decode cX16_write 66 = .ok (.aload_n 0, 1) := by decide +kernel
theorem dX16_write_67 : decode cX16_write 67 = .ok (.getfield 135, 3) := by decide +kernel
theorem dX16_write_70 : decode cX16_write 70 = .ok (.iconst 4, 1) := by decide +kernel
theorem dX16_write_71 : decode cX16_write 71 = .ok (.idiv, 1) := by decide +kernel
theorem dX16_write_72 : decode cX16_write 72 = .ok (.if_icmp .ne 8, 3) := by decide +kernel
theorem dX16_write_75 : decode cX16_write 75 = .ok (.aload_n 0, 1) := by decide +kernel
theorem dX16_write_76 : decode cX16_write 76 = .ok (.iconst (-1), 1) := by decide +kernel
theorem dX16_write_77 : decode cX16_write 77 = .ok (.putfield 135, 3) := by decide +kernel
theorem dX16_write_80 : decode cX16_write 80 = .ok (.aload_n 0, 1) := by decide +kernel
theorem dX16_write_81 : decode cX16_write 81 = .ok (.aload_n 0, 1) := by decide +kernel
theorem dX16_write_82 : decode cX16_write 82 = .ok (.getfield 222, 3) := by decide +kernel
theorem dX16_write_85 : decode cX16_write 85 = .ok (.ifCond .ne 19, 3) := by decide +kernel
theorem dX16_write_88 : decode cX16_write 88 = .ok (.iload_n 1, 1) := by decide +kernel
theorem dX16_write_89 : decode cX16_write 89 = .ok (.aload_n 0, 1) := by decide +kernel
theorem dX16_write_90 : decode cX16_write 90 = .ok (.getfield 157, 3) := by decide +kernel
theorem dX16_write_93 : decode cX16_write 93 = .ok (.if_icmp .ne 15, 3) := by decide +kernel
theorem dX16_write_96 : decode cX16_write 96 = .ok (.iload_n 2, 1) := by decide +kernel
theorem dX16_write_97 : decode cX16_write 97 = .ok (.aload_n 0, 1) := by decide +kernel
theorem dX16_write_98 : decode cX16_write 98 = .ok (.getfield 226, 3) := by decide +kernel
theorem dX16_write_101 : decode cX16_write 101 = .ok (.if_icmp .ne 7, 3) := by decide +kernel
theorem dX16_write_104 : decode cX16_write 104 = .ok (.iconst 1, 1) := by decide +kernel
theorem dX16_write_105 : decode cX16_write 105 = .ok (.goto 4, 3) := by decide +kernel
theorem dX16_write_108 : decode cX16_write 108 = .ok (.iconst 0, 1) := by decide +kernel
theorem dX16_write_109 : decode cX16_write 109 = .ok (.putfield 222, 3) := by decide +kernel
theorem dX16_write_112 : decode cX16_write 112 = .ok (.return_, 1) := by decide +kernel
theorem dX16_put_0 : decode cX16_put 0 = .ok (.aload_n 0, 1) := by decide +kernel
theorem dX16_put_1 : decode cX16_put 1 = .ok (.getfield 61, 3) := by decide +kernel
theorem dX16_put_4 : decode cX16_put 4 = .ok (.iload_n 1, 1) := by decide +kernel
theorem dX16_put_5 : decode cX16_put 5 = .ok (.iconst 2, 1) := by decide +kernel
theorem dX16_put_6 : decode cX16_put 6 = .ok (.ishr, 1) := by decide +kernel
theorem dX16_put_7 : decode cX16_put 7 = .ok (.aload_n 0, 1) := by decide +kernel
theorem dX16_put_8 : decode cX16_put 8 = .ok (.getfield 61, 3) := by decide +kernel
theorem dX16_put_11 : decode cX16_put 11 = .ok (.iload_n 1, 1) := by decide +kernel
theorem dX16_put_12 : decode cX16_put 12 = .ok (.iconst 2, 1) := by decide +kernel
theorem dX16_put_13 : decode cX16_put 13 = .ok (.ishr, 1) := by decide +kernel
theorem dX16_put_14 : decode cX16_put 14 = .ok (.iaload, 1) := by decide +kernel
theorem dX16_put_15 : decode cX16_put 15 = .ok (.sipush 255, 3) := by decide +kernel
theorem dX16_put_18 : decode cX16_put 18 = .ok (.bipush 8, 2) := by decide +kernel
theorem dX16_put_20 : decode cX16_put 20 = .ok (.iload_n 1, 1) := by decide +kernel
theorem dX16_put_21 : decode cX16_put 21 = .ok (.iconst 3, 1) := by decide +kernel
theorem dX16_put_22 : decode cX16_put 22 = .ok (.iand, 1) := by decide +kernel
theorem dX16_put_23 : decode cX16_put 23 = .ok (.imul, 1) := by decide +kernel
theorem dX16_put_24 : decode cX16_put 24 = .ok (.ishl, 1) := by decide +kernel
theorem dX16_put_25 : decode cX16_put 25 = .ok (.iconst (-1), 1) := by decide +kernel
theorem dX16_put_26 : decode cX16_put 26 = .ok (.ixor, 1) := by decide +kernel
theorem dX16_put_27 : decode cX16_put 27 = .ok (.iand, 1) := by decide +kernel
theorem dX16_put_28 : decode cX16_put 28 = .ok (.iload_n 2, 1) := by decide +kernel
theorem dX16_put_29 : decode cX16_put 29 = .ok (.sipush 255, 3) := by decide +kernel
theorem dX16_put_32 : decode cX16_put 32 = .ok (.iand, 1) := by decide +kernel
theorem dX16_put_33 : decode cX16_put 33 = .ok (.bipush 8, 2) := by decide +kernel
theorem dX16_put_35 : decode cX16_put 35 = .ok (.iload_n 1, 1) := by decide +kernel
theorem dX16_put_36 : decode cX16_put 36 = .ok (.iconst 3, 1) := by decide +kernel
theorem dX16_put_37 : decode cX16_put 37 = .ok (.iand, 1) := by decide +kernel
theorem dX16_put_38 : decode cX16_put 38 = .ok (.imul, 1) := by decide +kernel
theorem dX16_put_39 : decode cX16_put 39 = .ok (.ishl, 1) := by decide +kernel
theorem dX16_put_40 : decode cX16_put 40 = .ok (.ior, 1) := by decide +kernel
theorem dX16_put_41 : decode cX16_put 41 = .ok (.iastore, 1) := by decide +kernel
theorem dX16_put_42 : decode cX16_put 42 = .ok (.return_, 1) := by decide +kernel
theorem dX16_get_0 : decode cX16_get 0 = .ok (.aload_n 0, 1) := by decide +kernel
theorem dX16_get_1 : decode cX16_get 1 = .ok (.getfield 61, 3) := by decide +kernel
theorem dX16_get_4 : decode cX16_get 4 = .ok (.iload_n 1, 1) := by decide +kernel
theorem dX16_get_5 : decode cX16_get 5 = .ok (.iconst 2, 1) := by decide +kernel
theorem dX16_get_6 : decode cX16_get 6 = .ok (.ishr, 1) := by decide +kernel
theorem dX16_get_7 : decode cX16_get 7 = .ok (.iaload, 1) := by decide +kernel
theorem dX16_get_8 : decode cX16_get 8 = .ok (.bipush 8, 2) := by decide +kernel
theorem dX16_get_10 : decode cX16_get 10 = .ok (.iload_n 1, 1) := by decide +kernel
theorem dX16_get_11 : decode cX16_get 11 = .ok (.iconst 3, 1) := by decide +kernel
theorem dX16_get_12 : decode cX16_get 12 = .ok (.iand, 1) := by decide +kernel
theorem dX16_get_13 : decode cX16_get 13 = .ok (.imul, 1) := by decide +kernel
theorem dX16_get_14 : decode cX16_get 14 = .ok (.iushr, 1) := by decide +kernel
theorem dX16_get_15 : decode cX16_get 15 = .ok (.sipush 255, 3) := by decide +kernel
theorem dX16_get_18 : decode cX16_get 18 = .ok (.iand, 1) := by decide +kernel
theorem dX16_get_19 : decode cX16_get 19 = .ok (.ireturn, 1) := by decide +kernel
theorem dX16_peek_0 : decode cX16_peek 0 = .ok (.aload_n 0, 1) := by decide +kernel
theorem dX16_peek_1 : decode cX16_peek 1 = .ok (.iload_n 1, 1) := by decide +kernel
theorem dX16_peek_2 : decode cX16_peek 2 = .ok (.iload_n 2, 1) := by decide +kernel
theorem dX16_peek_3 : decode cX16_peek 3 = .ok (.invokevirtual 214, 3) := by decide +kernel
theorem dX16_peek_6 : decode cX16_peek 6 = .ok (.ifCond .eq 16, 3) := by decide +kernel
theorem dX16_peek_9 : decode cX16_peek 9 = .ok (.aload_n 0, 1) := by decide +kernel
theorem dX16_peek_10 : decode cX16_peek 10 = .ok (.ldc 186, 2) := by decide +kernel
theorem dX16_peek_12 : decode cX16_peek 12 = .ok (.iload_n 1, 1) := by decide +kernel
theorem dX16_peek_13 : decode cX16_peek 13 = .ok (.imul, 1) := by decide +kernel
theorem dX16_peek_14 : decode cX16_peek 14 = .ok (.iload_n 2, 1) := by decide +kernel
theorem dX16_peek_15 : decode cX16_peek 15 = .ok (.iadd, 1) := by decide +kernel
theorem dX16_peek_16 : decode cX16_peek 16 = .ok (.invokevirtual 229, 3) := by decide +kernel
theorem dX16_peek_19 : decode cX16_peek 19 = .ok (.goto 4, 3) := by decide +kernel
theorem dX16_peek_22 : decode cX16_peek 22 = .ok (.iconst (-1), 1) := by decide +kernel
theorem dX16_peek_23 : decode cX16_peek 23 = .ok (.ireturn, 1) := by decide +kernel
theorem dX16_byteAt_0 : decode cX16_byteAt 0 = .ok (.aload_n 0, 1) := by decide +kernel
theorem dX16_byteAt_1 : decode cX16_byteAt 1 = .ok (.ldc 186, 2) := by decide +kernel
theorem dX16_byteAt_3 : decode cX16_byteAt 3 = .ok (.aload_n 0, 1) := by decide +kernel
theorem dX16_byteAt_4 : decode cX16_byteAt 4 = .ok (.getfield 232, 3) := by decide +kernel
theorem dX16_byteAt_7 : decode cX16_byteAt 7 = .ok (.imul, 1) := by decide +kernel
theorem dX16_byteAt_8 : decode cX16_byteAt 8 = .ok (.iload_n 1, 1) := by decide +kernel
theorem dX16_byteAt_9 : decode cX16_byteAt 9 = .ok (.iadd, 1) := by decide +kernel
theorem dX16_byteAt_10 : decode cX16_byteAt 10 = .ok (.invokevirtual 229, 3) := by decide +kernel
theorem dX16_byteAt_13 : decode cX16_byteAt 13 = .ok (.ireturn, 1) := by decide +kernel
theorem dX16_half_0 : decode cX16_half 0 = .ok (.aload_n 0, 1) := by decide +kernel
theorem dX16_half_1 : decode cX16_half 1 = .ok (.iload_n 1, 1) := by decide +kernel
theorem dX16_half_2 : decode cX16_half 2 = .ok (.invokevirtual 235, 3) := by decide +kernel
theorem dX16_half_5 : decode cX16_half 5 = .ok (.aload_n 0, 1) := by decide +kernel
theorem dX16_half_6 : decode cX16_half 6 = .ok (.iload_n 1, 1) := by decide +kernel
theorem dX16_half_7 : decode cX16_half 7 = .ok (.iconst 1, 1) := by decide +kernel
theorem dX16_half_8 : decode cX16_half 8 = .ok (.iadd, 1) := by decide +kernel
theorem dX16_half_9 : decode cX16_half 9 = .ok (.invokevirtual 235, 3) := by decide +kernel
theorem dX16_half_12 : decode cX16_half 12 = .ok (.bipush 8, 2) := by decide +kernel
theorem dX16_half_14 : decode cX16_half 14 = .ok (.ishl, 1) := by decide +kernel
theorem dX16_half_15 : decode cX16_half 15 = .ok (.ior, 1) := by decide +kernel
theorem dX16_half_16 : decode cX16_half 16 = .ok (.ireturn, 1) := by decide +kernel
theorem dX16_word_0 : decode cX16_word 0 = .ok (.aload_n 0, 1) := by decide +kernel
theorem dX16_word_1 : decode cX16_word 1 = .ok (.iload_n 1, 1) := by decide +kernel
theorem dX16_word_2 : decode cX16_word 2 = .ok (.invokevirtual 237, 3) := by decide +kernel
theorem dX16_word_5 : decode cX16_word 5 = .ok (.aload_n 0, 1) := by decide +kernel
theorem dX16_word_6 : decode cX16_word 6 = .ok (.iload_n 1, 1) := by decide +kernel
theorem dX16_word_7 : decode cX16_word 7 = .ok (.iconst 2, 1) := by decide +kernel
theorem dX16_word_8 : decode cX16_word 8 = .ok (.iadd, 1) := by decide +kernel
theorem dX16_word_9 : decode cX16_word 9 = .ok (.invokevirtual 237, 3) := by decide +kernel
theorem dX16_word_12 : decode cX16_word 12 = .ok (.bipush 16, 2) := by decide +kernel
theorem dX16_word_14 : decode cX16_word 14 = .ok (.ishl, 1) := by decide +kernel
theorem dX16_word_15 : decode cX16_word 15 = .ok (.ior, 1) := by decide +kernel
theorem dX16_word_16 : decode cX16_word 16 = .ok (.ireturn, 1) := by decide +kernel
theorem dX16_held_0 : decode cX16_held 0 = .ok (.iconst 0, 1) := by decide +kernel
theorem dX16_held_1 : decode cX16_held 1 = .ok (.istore_n 2, 1) := by decide +kernel
theorem dX16_held_2 : decode cX16_held 2 = .ok (.iconst 0, 1) := by decide +kernel
theorem dX16_held_3 : decode cX16_held 3 = .ok (.istore_n 3, 1) := by decide +kernel
theorem dX16_held_4 : decode cX16_held 4 = .ok (.iload_n 3, 1) := by decide +kernel
theorem dX16_held_5 : decode cX16_held 5 = .ok (.sipush 256, 3) := by decide +kernel
theorem dX16_held_8 : decode cX16_held 8 = .ok (.if_icmp .ge 27, 3) := by decide +kernel
theorem dX16_held_11 : decode cX16_held 11 = .ok (.aload_n 0, 1) := by decide +kernel
theorem dX16_held_12 : decode cX16_held 12 = .ok (.getfield 57, 3) := by decide +kernel
theorem dX16_held_15 : decode cX16_held 15 = .ok (.iload_n 3, 1) := by decide +kernel
theorem dX16_held_16 : decode cX16_held 16 = .ok (.iaload, 1) := by decide +kernel
theorem dX16_held_17 : decode cX16_held 17 = .ok (.iload_n 1, 1) := by decide +kernel
theorem dX16_held_18 : decode cX16_held 18 = .ok (.if_icmp .ne 9, 3) := by decide +kernel
theorem dX16_held_21 : decode cX16_held 21 = .ok (.iload_n 2, 1) := by decide +kernel
theorem dX16_held_22 : decode cX16_held 22 = .ok (.iconst 1, 1) := by decide +kernel
theorem dX16_held_23 : decode cX16_held 23 = .ok (.iadd, 1) := by decide +kernel
theorem dX16_held_24 : decode cX16_held 24 = .ok (.goto 4, 3) := by decide +kernel
theorem dX16_held_27 : decode cX16_held 27 = .ok (.iload_n 2, 1) := by decide +kernel
theorem dX16_held_28 : decode cX16_held 28 = .ok (.istore_n 2, 1) := by decide +kernel
theorem dX16_held_29 : decode cX16_held 29 = .ok (.iinc 3 1, 3) := by decide +kernel
theorem dX16_held_32 : decode cX16_held 32 = .ok (.goto (-28), 3) := by decide +kernel
theorem dX16_held_35 : decode cX16_held 35 = .ok (.iload_n 2, 1) := by decide +kernel
theorem dX16_held_36 : decode cX16_held 36 = .ok (.ireturn, 1) := by decide +kernel
theorem dX16_ends_0 : decode cX16_ends 0 = .ok (.iconst 0, 1) := by decide +kernel
theorem dX16_ends_1 : decode cX16_ends 1 = .ok (.istore_n 3, 1) := by decide +kernel
theorem dX16_ends_2 : decode cX16_ends 2 = .ok (.iconst 0, 1) := by decide +kernel
theorem dX16_ends_3 : decode cX16_ends 3 = .ok (.istore 4, 2) := by decide +kernel
theorem dX16_ends_5 : decode cX16_ends 5 = .ok (.iload 4, 2) := by decide +kernel
theorem dX16_ends_7 : decode cX16_ends 7 = .ok (.bipush 48, 2) := by decide +kernel
theorem dX16_ends_9 : decode cX16_ends 9 = .ok (.if_icmp .ge 39, 3) := by decide +kernel
theorem dX16_ends_12 : decode cX16_ends 12 = .ok (.aload_n 0, 1) := by decide +kernel
theorem dX16_ends_13 : decode cX16_ends 13 = .ok (.getfield 73, 3) := by decide +kernel
theorem dX16_ends_16 : decode cX16_ends 16 = .ok (.iload 4, 2) := by decide +kernel
theorem dX16_ends_18 : decode cX16_ends 18 = .ok (.iaload, 1) := by decide +kernel
theorem dX16_ends_19 : decode cX16_ends 19 = .ok (.iload_n 1, 1) := by decide +kernel
theorem dX16_ends_20 : decode cX16_ends 20 = .ok (.if_icmp .ne 20, 3) := by decide +kernel
theorem dX16_ends_23 : decode cX16_ends 23 = .ok (.aload_n 0, 1) := by decide +kernel
theorem dX16_ends_24 : decode cX16_ends 24 = .ok (.getfield 76, 3) := by decide +kernel
theorem dX16_ends_27 : decode cX16_ends 27 = .ok (.iload 4, 2) := by decide +kernel
theorem dX16_ends_29 : decode cX16_ends 29 = .ok (.iaload, 1) := by decide +kernel
theorem dX16_ends_30 : decode cX16_ends 30 = .ok (.iload_n 2, 1) := by decide +kernel
theorem dX16_ends_31 : decode cX16_ends 31 = .ok (.if_icmp .ne 9, 3) := by decide +kernel
theorem dX16_ends_34 : decode cX16_ends 34 = .ok (.iload_n 3, 1) := by decide +kernel
theorem dX16_ends_35 : decode cX16_ends 35 = .ok (.iconst 1, 1) := by decide +kernel
theorem dX16_ends_36 : decode cX16_ends 36 = .ok (.iadd, 1) := by decide +kernel
theorem dX16_ends_37 : decode cX16_ends 37 = .ok (.goto 4, 3) := by decide +kernel
theorem dX16_ends_40 : decode cX16_ends 40 = .ok (.iload_n 3, 1) := by decide +kernel
theorem dX16_ends_41 : decode cX16_ends 41 = .ok (.istore_n 3, 1) := by decide +kernel
theorem dX16_ends_42 : decode cX16_ends 42 = .ok (.iinc 4 1, 3) := by decide +kernel
theorem dX16_ends_45 : decode cX16_ends 45 = .ok (.goto (-40), 3) := by decide +kernel
theorem dX16_ends_48 : decode cX16_ends 48 = .ok (.iload_n 3, 1) := by decide +kernel
theorem dX16_ends_49 : decode cX16_ends 49 = .ok (.ireturn, 1) := by decide +kernel
theorem dX16_sweep_0 : decode cX16_sweep 0 = .ok (.iconst 0, 1) := by decide +kernel
theorem dX16_sweep_1 : decode cX16_sweep 1 = .ok (.istore_n 1, 1) := by decide +kernel
theorem dX16_sweep_2 : decode cX16_sweep 2 = .ok (.iload_n 1, 1) := by decide +kernel
theorem dX16_sweep_3 : decode cX16_sweep 3 = .ok (.bipush 48, 2) := by decide +kernel
theorem dX16_sweep_5 : decode cX16_sweep 5 = .ok (.if_icmp .ge 42, 3) := by decide +kernel
theorem dX16_sweep_8 : decode cX16_sweep 8 = .ok (.aload_n 0, 1) := by decide +kernel
theorem dX16_sweep_9 : decode cX16_sweep 9 = .ok (.getfield 73, 3) := by decide +kernel
theorem dX16_sweep_12 : decode cX16_sweep 12 = .ok (.iload_n 1, 1) := by decide +kernel
theorem dX16_sweep_13 : decode cX16_sweep 13 = .ok (.aload_n 0, 1) := by decide +kernel
theorem dX16_sweep_14 : decode cX16_sweep 14 = .ok (.getfield 73, 3) := by decide +kernel
theorem dX16_sweep_17 : decode cX16_sweep 17 = .ok (.iload_n 1, 1) := by decide +kernel
theorem dX16_sweep_18 : decode cX16_sweep 18 = .ok (.iaload, 1) := by decide +kernel
theorem dX16_sweep_19 : decode cX16_sweep 19 = .ok (.ifCond .le 20, 3) := by decide +kernel
theorem dX16_sweep_22 : decode cX16_sweep 22 = .ok (.aload_n 0, 1) := by decide +kernel
theorem dX16_sweep_23 : decode cX16_sweep 23 = .ok (.iload_n 1, 1) := by decide +kernel
theorem dX16_sweep_24 : decode cX16_sweep 24 = .ok (.invokevirtual 240, 3) := by decide +kernel
theorem dX16_sweep_27 : decode cX16_sweep 27 = .ok (.ifCond .le 12, 3) := by decide +kernel
theorem dX16_sweep_30 : decode cX16_sweep 30 = .ok (.aload_n 0, 1) := by decide +kernel
theorem dX16_sweep_31 : decode cX16_sweep 31 = .ok (.getfield 73, 3) := by decide +kernel
theorem dX16_sweep_34 : decode cX16_sweep 34 = .ok (.iload_n 1, 1) := by decide +kernel
theorem dX16_sweep_35 : decode cX16_sweep 35 = .ok (.iaload, 1) := by decide +kernel
theorem dX16_sweep_36 : decode cX16_sweep 36 = .ok (.goto 4, 3) := by decide +kernel
theorem dX16_sweep_39 : decode cX16_sweep 39 = .ok (.iconst 0, 1) := by decide +kernel
theorem dX16_sweep_40 : decode cX16_sweep 40 = .ok (.iastore, 1) := by decide +kernel
theorem dX16_sweep_41 : decode cX16_sweep 41 = .ok (.iinc 1 1, 3) := by decide +kernel
theorem dX16_sweep_44 : decode cX16_sweep 44 = .ok (.goto (-42), 3) := by decide +kernel
theorem dX16_sweep_47 : decode cX16_sweep 47 = .ok (.iconst 0, 1) := by decide +kernel
theorem dX16_sweep_48 : decode cX16_sweep 48 = .ok (.istore_n 1, 1) := by decide +kernel
theorem dX16_sweep_49 : decode cX16_sweep 49 = .ok (.iload_n 1, 1) := by decide +kernel
theorem dX16_sweep_50 : decode cX16_sweep 50 = .ok (.bipush 8, 2) := by decide +kernel
theorem dX16_sweep_52 : decode cX16_sweep 52 = .ok (.if_icmp .ge 45, 3) := by decide +kernel
theorem dX16_sweep_55 : decode cX16_sweep 55 = .ok (.aload_n 0, 1) := by decide +kernel
theorem dX16_sweep_56 : decode cX16_sweep 56 = .ok (.getfield 85, 3) := by decide +kernel
theorem dX16_sweep_59 : decode cX16_sweep 59 = .ok (.iload_n 1, 1) := by decide +kernel
theorem dX16_sweep_60 : decode cX16_sweep 60 = .ok (.aload_n 0, 1) := by decide +kernel
theorem dX16_sweep_61 : decode cX16_sweep 61 = .ok (.getfield 85, 3) := by decide +kernel
theorem dX16_sweep_64 : decode cX16_sweep 64 = .ok (.iload_n 1, 1) := by decide +kernel
theorem dX16_sweep_65 : decode cX16_sweep 65 = .ok (.baload, 1) := by decide +kernel
theorem dX16_sweep_66 : decode cX16_sweep 66 = .ok (.ifCond .eq 23, 3) := by decide +kernel
