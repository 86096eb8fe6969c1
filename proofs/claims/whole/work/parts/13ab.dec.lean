theorem dX16_boot_0 : decode cX16_boot 0 = .ok (.aload_n 0, 1) := by decide +kernel
theorem dX16_boot_1 : decode cX16_boot 1 = .ok (.aload_n 0, 1) := by decide +kernel
theorem dX16_boot_2 : decode cX16_boot 2 = .ok (.aload_n 0, 1) := by decide +kernel
theorem dX16_boot_3 : decode cX16_boot 3 = .ok (.aload_n 0, 1) := by decide +kernel
theorem dX16_boot_4 : decode cX16_boot 4 = .ok (.iconst 0, 1) := by decide +kernel
theorem dX16_boot_5 : decode cX16_boot 5 = .ok (.dup_x1, 1) := by decide +kernel
theorem dX16_boot_6 : decode cX16_boot 6 = .ok (.putfield 122, 3) := by decide +kernel
theorem dX16_boot_9 : decode cX16_boot 9 = .ok (.dup_x1, 1) := by decide +kernel
theorem dX16_boot_10 : decode cX16_boot 10 = .ok (.putfield 126, 3) := by decide +kernel
theorem dX16_boot_13 : decode cX16_boot 13 = .ok (.dup_x1, 1) := by decide +kernel
theorem dX16_boot_14 : decode cX16_boot 14 = .ok (.putfield 129, 3) := by decide +kernel
theorem dX16_boot_17 : decode cX16_boot 17 = .ok (.putfield 132, 3) := by decide +kernel
theorem dX16_boot_20 : decode cX16_boot 20 = .ok (.aload_n 0, 1) := by decide +kernel
theorem dX16_boot_21 : decode cX16_boot 21 = .ok (.aload_n 0, 1) := by decide +kernel
theorem dX16_boot_22 : decode cX16_boot 22 = .ok (.aload_n 0, 1) := by decide +kernel
theorem dX16_boot_23 : decode cX16_boot 23 = .ok (.iconst (-1), 1) := by decide +kernel
theorem dX16_boot_24 : decode cX16_boot 24 = .ok (.dup_x1, 1) := by decide +kernel
theorem dX16_boot_25 : decode cX16_boot 25 = .ok (.putfield 135, 3) := by decide +kernel
theorem dX16_boot_28 : decode cX16_boot 28 = .ok (.dup_x1, 1) := by decide +kernel
theorem dX16_boot_29 : decode cX16_boot 29 = .ok (.putfield 138, 3) := by decide +kernel
theorem dX16_boot_32 : decode cX16_boot 32 = .ok (.putfield 141, 3) := by decide +kernel
theorem dX16_boot_35 : decode cX16_boot 35 = .ok (.aload_n 0, 1) := by decide +kernel
theorem dX16_boot_36 : decode cX16_boot 36 = .ok (.bipush 15, 2) := by decide +kernel
theorem dX16_boot_38 : decode cX16_boot 38 = .ok (.putfield 144, 3) := by decide +kernel
theorem dX16_boot_41 : decode cX16_boot 41 = .ok (.aload_n 0, 1) := by decide +kernel
theorem dX16_boot_42 : decode cX16_boot 42 = .ok (.aload_n 0, 1) := by decide +kernel
theorem dX16_boot_43 : decode cX16_boot 43 = .ok (.aload_n 0, 1) := by decide +kernel
theorem dX16_boot_44 : decode cX16_boot 44 = .ok (.lconst 0, 1) := by decide +kernel
theorem dX16_boot_45 : decode cX16_boot 45 = .ok (.dup2_x1, 1) := by decide +kernel
theorem dX16_boot_46 : decode cX16_boot 46 = .ok (.putfield 147, 3) := by decide +kernel
theorem dX16_boot_49 : decode cX16_boot 49 = .ok (.dup2_x1, 1) := by decide +kernel
theorem dX16_boot_50 : decode cX16_boot 50 = .ok (.putfield 151, 3) := by decide +kernel
theorem dX16_boot_53 : decode cX16_boot 53 = .ok (.putfield 154, 3) := by decide +kernel
theorem dX16_boot_56 : decode cX16_boot 56 = .ok (.aload_n 0, 1) := by decide +kernel
theorem dX16_boot_57 : decode cX16_boot 57 = .ok (.iconst (-1), 1) := by decide +kernel
theorem dX16_boot_58 : decode cX16_boot 58 = .ok (.putfield 157, 3) := by decide +kernel
theorem dX16_boot_61 : decode cX16_boot 61 = .ok (.iconst 0, 1) := by decide +kernel
theorem dX16_boot_62 : decode cX16_boot 62 = .ok (.istore_n 2, 1) := by decide +kernel
theorem dX16_boot_63 : decode cX16_boot 63 = .ok (.iload_n 2, 1) := by decide +kernel
theorem dX16_boot_64 : decode cX16_boot 64 = .ok (.sipush 1024, 3) := by decide +kernel
theorem dX16_boot_67 : decode cX16_boot 67 = .ok (.if_icmp .ge 23, 3) := by decide +kernel
theorem dX16_boot_70 : decode cX16_boot 70 = .ok (.aload_n 0, 1) := by decide +kernel
theorem dX16_boot_71 : decode cX16_boot 71 = .ok (.getfield 64, 3) := by decide +kernel
theorem dX16_boot_74 : decode cX16_boot 74 = .ok (.iload_n 2, 1) := by decide +kernel
theorem dX16_boot_75 : decode cX16_boot 75 = .ok (.iconst (-1), 1) := by decide +kernel
theorem dX16_boot_76 : decode cX16_boot 76 = .ok (.iastore, 1) := by decide +kernel
theorem dX16_boot_77 : decode cX16_boot 77 = .ok (.aload_n 0, 1) := by decide +kernel
theorem dX16_boot_78 : decode cX16_boot 78 = .ok (.getfield 70, 3) := by decide +kernel
theorem dX16_boot_81 : decode cX16_boot 81 = .ok (.iload_n 2, 1) := by decide +kernel
theorem dX16_boot_82 : decode cX16_boot 82 = .ok (.iconst 0, 1) := by decide +kernel
theorem dX16_boot_83 : decode cX16_boot 83 = .ok (.iastore, 1) := by decide +kernel
theorem dX16_boot_84 : decode cX16_boot 84 = .ok (.iinc 2 1, 3) := by decide +kernel
theorem dX16_boot_87 : decode cX16_boot 87 = .ok (.goto (-24), 3) := by decide +kernel
theorem dX16_boot_90 : decode cX16_boot 90 = .ok (.iconst 0, 1) := by decide +kernel
theorem dX16_boot_91 : decode cX16_boot 91 = .ok (.istore_n 2, 1) := by decide +kernel
theorem dX16_boot_92 : decode cX16_boot 92 = .ok (.iload_n 2, 1) := by decide +kernel
theorem dX16_boot_93 : decode cX16_boot 93 = .ok (.bipush 16, 2) := by decide +kernel
theorem dX16_boot_95 : decode cX16_boot 95 = .ok (.if_icmp .ge 14, 3) := by decide +kernel
theorem dX16_boot_98 : decode cX16_boot 98 = .ok (.aload_n 0, 1) := by decide +kernel
theorem dX16_boot_99 : decode cX16_boot 99 = .ok (.iload_n 2, 1) := by decide +kernel
theorem dX16_boot_100 : decode cX16_boot 100 = .ok (.invokevirtual 160, 3) := by decide +kernel
theorem dX16_boot_103 : decode cX16_boot 103 = .ok (.iinc 2 1, 3) := by decide +kernel
theorem dX16_boot_106 : decode cX16_boot 106 = .ok (.goto (-14), 3) := by decide +kernel
theorem dX16_boot_109 : decode cX16_boot 109 = .ok (.iconst 0, 1) := by decide +kernel
theorem dX16_boot_110 : decode cX16_boot 110 = .ok (.istore_n 2, 1) := by decide +kernel
theorem dX16_boot_111 : decode cX16_boot 111 = .ok (.iload_n 2, 1) := by decide +kernel
theorem dX16_boot_112 : decode cX16_boot 112 = .ok (.bipush 48, 2) := by decide +kernel
theorem dX16_boot_114 : decode cX16_boot 114 = .ok (.if_icmp .ge 16, 3) := by decide +kernel
theorem dX16_boot_117 : decode cX16_boot 117 = .ok (.aload_n 0, 1) := by decide +kernel
theorem dX16_boot_118 : decode cX16_boot 118 = .ok (.getfield 73, 3) := by decide +kernel
theorem dX16_boot_121 : decode cX16_boot 121 = .ok (.iload_n 2, 1) := by decide +kernel
theorem dX16_boot_122 : decode cX16_boot 122 = .ok (.iconst 0, 1) := by decide +kernel
theorem dX16_boot_123 : decode cX16_boot 123 = .ok (.iastore, 1) := by decide +kernel
theorem dX16_boot_124 : decode cX16_boot 124 = .ok (.iinc 2 1, 3) := by decide +kernel
theorem dX16_boot_127 : decode cX16_boot 127 = .ok (.goto (-16), 3) := by decide +kernel
theorem dX16_boot_130 : decode cX16_boot 130 = .ok (.iconst 0, 1) := by decide +kernel
theorem dX16_boot_131 : decode cX16_boot 131 = .ok (.istore_n 2, 1) := by decide +kernel
theorem dX16_boot_132 : decode cX16_boot 132 = .ok (.iload_n 2, 1) := by decide +kernel
theorem dX16_boot_133 : decode cX16_boot 133 = .ok (.bipush 8, 2) := by decide +kernel
theorem dX16_boot_135 : decode cX16_boot 135 = .ok (.if_icmp .ge 16, 3) := by decide +kernel
theorem dX16_boot_138 : decode cX16_boot 138 = .ok (.aload_n 0, 1) := by decide +kernel
theorem dX16_boot_139 : decode cX16_boot 139 = .ok (.getfield 85, 3) := by decide +kernel
theorem dX16_boot_142 : decode cX16_boot 142 = .ok (.iload_n 2, 1) := by decide +kernel
theorem dX16_boot_143 : decode cX16_boot 143 = .ok (.iconst 0, 1) := by decide +kernel
theorem dX16_boot_144 : decode cX16_boot 144 = .ok (.bastore, 1) := by decide +kernel
theorem dX16_boot_145 : decode cX16_boot 145 = .ok (.iinc 2 1, 3) := by decide +kernel
theorem dX16_boot_148 : decode cX16_boot 148 = .ok (.goto (-16), 3) := by decide +kernel
theorem dX16_boot_151 : decode cX16_boot 151 = .ok (.iconst 0, 1) := by decide +kernel
theorem dX16_boot_152 : decode cX16_boot 152 = .ok (.istore_n 2, 1) := by decide +kernel
theorem dX16_boot_153 : decode cX16_boot 153 = .ok (.iload_n 2, 1) := by decide +kernel
theorem dX16_boot_154 : decode cX16_boot 154 = .ok (.bipush 16, 2) := by decide +kernel
theorem dX16_boot_156 : decode cX16_boot 156 = .ok (.if_icmp .ge 23, 3) := by decide +kernel
theorem dX16_boot_159 : decode cX16_boot 159 = .ok (.aload_n 0, 1) := by decide +kernel
theorem dX16_boot_160 : decode cX16_boot 160 = .ok (.getfield 88, 3) := by decide +kernel
theorem dX16_boot_163 : decode cX16_boot 163 = .ok (.iload_n 2, 1) := by decide +kernel
theorem dX16_boot_164 : decode cX16_boot 164 = .ok (.aload_n 0, 1) := by decide +kernel
theorem dX16_boot_165 : decode cX16_boot 165 = .ok (.getfield 91, 3) := by decide +kernel
theorem dX16_boot_168 : decode cX16_boot 168 = .ok (.iload_n 2, 1) := by decide +kernel
theorem dX16_boot_169 : decode cX16_boot 169 = .ok (.iconst 0, 1) := by decide +kernel
theorem dX16_boot_170 : decode cX16_boot 170 = .ok (.dup_x2, 1) := by decide +kernel
theorem dX16_boot_171 : decode cX16_boot 171 = .ok (.bastore, 1) := by decide +kernel
theorem dX16_boot_172 : decode cX16_boot 172 = .ok (.bastore, 1) := by decide +kernel
theorem dX16_boot_173 : decode cX16_boot 173 = .ok (.iinc 2 1, 3) := by decide +kernel
theorem dX16_boot_176 : decode cX16_boot 176 = .ok (.goto (-23), 3) := by decide +kernel
theorem dX16_boot_179 : decode cX16_boot 179 = .ok (.aload_n 0, 1) := by decide +kernel
theorem dX16_boot_180 : decode cX16_boot 180 = .ok (.getfield 13, 3) := by decide +kernel
theorem dX16_boot_183 : decode cX16_boot 183 = .ok (.iconst 0, 1) := by decide +kernel
theorem dX16_boot_184 : decode cX16_boot 184 = .ok (.iconst 1, 1) := by decide +kernel
theorem dX16_boot_185 : decode cX16_boot 185 = .ok (.iastore, 1) := by decide +kernel
theorem dX16_boot_186 : decode cX16_boot 186 = .ok (.aload_n 0, 1) := by decide +kernel
theorem dX16_boot_187 : decode cX16_boot 187 = .ok (.iconst 0, 1) := by decide +kernel
theorem dX16_boot_188 : decode cX16_boot 188 = .ok (.iload_n 1, 1) := by decide +kernel
theorem dX16_boot_189 : decode cX16_boot 189 = .ok (.invokevirtual 164, 3) := by decide +kernel
theorem dX16_boot_192 : decode cX16_boot 192 = .ok (.aload_n 0, 1) := by decide +kernel
theorem dX16_boot_193 : decode cX16_boot 193 = .ok (.iconst 4, 1) := by decide +kernel
theorem dX16_boot_194 : decode cX16_boot 194 = .ok (.iconst 0, 1) := by decide +kernel
theorem dX16_boot_195 : decode cX16_boot 195 = .ok (.iconst 3, 1) := by decide +kernel
theorem dX16_boot_196 : decode cX16_boot 196 = .ok (.invokevirtual 168, 3) := by decide +kernel
theorem dX16_boot_199 : decode cX16_boot 199 = .ok (.istore_n 2, 1) := by decide +kernel
theorem dX16_boot_200 : decode cX16_boot 200 = .ok (.aload_n 0, 1) := by decide +kernel
theorem dX16_boot_201 : decode cX16_boot 201 = .ok (.getfield 57, 3) := by decide +kernel
theorem dX16_boot_204 : decode cX16_boot 204 = .ok (.iconst 0, 1) := by decide +kernel
theorem dX16_boot_205 : decode cX16_boot 205 = .ok (.aload_n 0, 1) := by decide +kernel
theorem dX16_boot_206 : decode cX16_boot 206 = .ok (.getfield 57, 3) := by decide +kernel
theorem dX16_boot_209 : decode cX16_boot 209 = .ok (.iconst 1, 1) := by decide +kernel
theorem dX16_boot_210 : decode cX16_boot 210 = .ok (.iload_n 2, 1) := by decide +kernel
theorem dX16_boot_211 : decode cX16_boot 211 = .ok (.dup_x2, 1) := by decide +kernel
theorem dX16_boot_212 : decode cX16_boot 212 = .ok (.iastore, 1) := by decide +kernel
theorem dX16_boot_213 : decode cX16_boot 213 = .ok (.iastore, 1) := by decide +kernel
theorem dX16_boot_214 : decode cX16_boot 214 = .ok (.aload_n 0, 1) := by decide +kernel
theorem dX16_boot_215 : decode cX16_boot 215 = .ok (.invokevirtual 172, 3) := by decide +kernel
theorem dX16_boot_218 : decode cX16_boot 218 = .ok (.return_, 1) := by decide +kernel
theorem dX16_begin_0 : decode cX16_begin 0 = .ok (.aload_n 0, 1) := by decide +kernel
theorem dX16_begin_1 : decode cX16_begin 1 = .ok (.getfield 13, 3) := by decide +kernel
theorem dX16_begin_4 : decode cX16_begin 4 = .ok (.iload_n 1, 1) := by decide +kernel
theorem dX16_begin_5 : decode cX16_begin 5 = .ok (.iconst 0, 1) := by decide +kernel
theorem dX16_begin_6 : decode cX16_begin 6 = .ok (.iastore, 1) := by decide +kernel
theorem dX16_begin_7 : decode cX16_begin 7 = .ok (.aload_n 0, 1) := by decide +kernel
theorem dX16_begin_8 : decode cX16_begin 8 = .ok (.getfield 16, 3) := by decide +kernel
theorem dX16_begin_11 : decode cX16_begin 11 = .ok (.iload_n 1, 1) := by decide +kernel
theorem dX16_begin_12 : decode cX16_begin 12 = .ok (.aload_n 0, 1) := by decide +kernel
theorem dX16_begin_13 : decode cX16_begin 13 = .ok (.getfield 31, 3) := by decide +kernel
theorem dX16_begin_16 : decode cX16_begin 16 = .ok (.iload_n 1, 1) := by decide +kernel
theorem dX16_begin_17 : decode cX16_begin 17 = .ok (.iconst (-1), 1) := by decide +kernel
theorem dX16_begin_18 : decode cX16_begin 18 = .ok (.dup_x2, 1) := by decide +kernel
theorem dX16_begin_19 : decode cX16_begin 19 = .ok (.iastore, 1) := by decide +kernel
theorem dX16_begin_20 : decode cX16_begin 20 = .ok (.iastore, 1) := by decide +kernel
theorem dX16_begin_21 : decode cX16_begin 21 = .ok (.aload_n 0, 1) := by decide +kernel
theorem dX16_begin_22 : decode cX16_begin 22 = .ok (.getfield 19, 3) := by decide +kernel
theorem dX16_begin_25 : decode cX16_begin 25 = .ok (.iload_n 1, 1) := by decide +kernel
theorem dX16_begin_26 : decode cX16_begin 26 = .ok (.aload_n 0, 1) := by decide +kernel
theorem dX16_begin_27 : decode cX16_begin 27 = .ok (.getfield 22, 3) := by decide +kernel
theorem dX16_begin_30 : decode cX16_begin 30 = .ok (.iload_n 1, 1) := by decide +kernel
theorem dX16_begin_31 : decode cX16_begin 31 = .ok (.aload_n 0, 1) := by decide +kernel
theorem dX16_begin_32 : decode cX16_begin 32 = .ok (.getfield 25, 3) := by decide +kernel
theorem dX16_begin_35 : decode cX16_begin 35 = .ok (.iload_n 1, 1) := by decide +kernel
theorem dX16_begin_36 : decode cX16_begin 36 = .ok (.aload_n 0, 1) := by decide +kernel
theorem dX16_begin_37 : decode cX16_begin 37 = .ok (.getfield 28, 3) := by decide +kernel
theorem dX16_begin_40 : decode cX16_begin 40 = .ok (.iload_n 1, 1) := by decide +kernel
theorem dX16_begin_41 : decode cX16_begin 41 = .ok (.aload_n 0, 1) := by decide +kernel
theorem dX16_begin_42 : decode cX16_begin 42 = .ok (.getfield 45, 3) := by decide +kernel
theorem dX16_begin_45 : decode cX16_begin 45 = .ok (.iload_n 1, 1) := by decide +kernel
theorem dX16_begin_46 : decode cX16_begin 46 = .ok (.aload_n 0, 1) := by decide +kernel
theorem dX16_begin_47 : decode cX16_begin 47 = .ok (.getfield 51, 3) := by decide +kernel
theorem dX16_begin_50 : decode cX16_begin 50 = .ok (.iload_n 1, 1) := by decide +kernel
theorem dX16_begin_51 : decode cX16_begin 51 = .ok (.iconst 0, 1) := by decide +kernel
theorem dX16_begin_52 : decode cX16_begin 52 = .ok (.dup_x2, 1) := by decide +kernel
theorem dX16_begin_53 : decode cX16_begin 53 = .ok (.iastore, 1) := by decide +kernel
theorem dX16_begin_54 : decode cX16_begin 54 = .ok (.dup_x2, 1) := by decide +kernel
theorem dX16_begin_55 : decode cX16_begin 55 = .ok (.iastore, 1) := by decide +kernel
theorem dX16_begin_56 : decode cX16_begin 56 = .ok (.dup_x2, 1) := by decide +kernel
theorem dX16_begin_57 : decode cX16_begin 57 = .ok (.iastore, 1) := by decide +kernel
theorem dX16_begin_58 : decode cX16_begin 58 = .ok (.dup_x2, 1) := by decide +kernel
theorem dX16_begin_59 : decode cX16_begin 59 = .ok (.iastore, 1) := by decide +kernel
theorem dX16_begin_60 : decode cX16_begin 60 = .ok (.dup_x2, 1) := by decide +kernel
theorem dX16_begin_61 : decode cX16_begin 61 = .ok (.iastore, 1) := by decide +kernel
theorem dX16_begin_62 : decode cX16_begin 62 = .ok (.iastore, 1) := by decide +kernel
theorem dX16_begin_63 : decode cX16_begin 63 = .ok (.aload_n 0, 1) := by decide +kernel
theorem dX16_begin_64 : decode cX16_begin 64 = .ok (.getfield 34, 3) := by decide +kernel
theorem dX16_begin_67 : decode cX16_begin 67 = .ok (.iload_n 1, 1) := by decide +kernel
theorem dX16_begin_68 : decode cX16_begin 68 = .ok (.iconst 0, 1) := by decide +kernel
theorem dX16_begin_69 : decode cX16_begin 69 = .ok (.bastore, 1) := by decide +kernel
theorem dX16_begin_70 : decode cX16_begin 70 = .ok (.aload_n 0, 1) := by decide +kernel
theorem dX16_begin_71 : decode cX16_begin 71 = .ok (.getfield 38, 3) := by decide +kernel
theorem dX16_begin_74 : decode cX16_begin 74 = .ok (.iload_n 1, 1) := by decide +kernel
theorem dX16_begin_75 : decode cX16_begin 75 = .ok (.ldc2_w 175, 3) := by decide +kernel
theorem dX16_begin_78 : decode cX16_begin 78 = .ok (.lastore, 1) := by decide +kernel
theorem dX16_begin_79 : decode cX16_begin 79 = .ok (.iconst 0, 1) := by decide +kernel
theorem dX16_begin_80 : decode cX16_begin 80 = .ok (.istore_n 2, 1) := by decide +kernel
theorem dX16_begin_81 : decode cX16_begin 81 = .ok (.iload_n 2, 1) := by decide +kernel
theorem dX16_begin_82 : decode cX16_begin 82 = .ok (.bipush 32, 2) := by decide +kernel
theorem dX16_begin_84 : decode cX16_begin 84 = .ok (.if_icmp .ge 33, 3) := by decide +kernel
theorem dX16_begin_87 : decode cX16_begin 87 = .ok (.aload_n 0, 1) := by decide +kernel
theorem dX16_begin_88 : decode cX16_begin 88 = .ok (.getfield 42, 3) := by decide +kernel
theorem dX16_begin_91 : decode cX16_begin 91 = .ok (.bipush 32, 2) := by decide +kernel
theorem dX16_begin_93 : decode cX16_begin 93 = .ok (.iload_n 1, 1) := by decide +kernel
theorem dX16_begin_94 : decode cX16_begin 94 = .ok (.imul, 1) := by decide +kernel
theorem dX16_begin_95 : decode cX16_begin 95 = .ok (.iload_n 2, 1) := by decide +kernel
theorem dX16_begin_96 : decode cX16_begin 96 = .ok (.iadd, 1) := by decide +kernel
theorem dX16_begin_97 : decode cX16_begin 97 = .ok (.aload_n 0, 1) := by decide +kernel
theorem dX16_begin_98 : decode cX16_begin 98 = .ok (.getfield 48, 3) := by decide +kernel
theorem dX16_begin_101 : decode cX16_begin 101 = .ok (.bipush 32, 2) := by decide +kernel
theorem dX16_begin_103 : decode cX16_begin 103 = .ok (.iload_n 1, 1) := by decide +kernel
theorem dX16_begin_104 : decode cX16_begin 104 = .ok (.imul, 1) := by decide +kernel
theorem dX16_begin_105 : decode cX16_begin 105 = .ok (.iload_n 2, 1) := by decide +kernel
theorem dX16_begin_106 : decode cX16_begin 106 = .ok (.iadd, 1) := by decide +kernel
theorem dX16_begin_107 : decode cX16_begin 107 = .ok (.iconst 0, 1) := by decide +kernel
theorem dX16_begin_108 : decode cX16_begin 108 = .ok (.dup_x2, 1) := by decide +kernel
theorem dX16_begin_109 : decode cX16_begin 109 = .ok (.iastore, 1) := by decide +kernel
theorem dX16_begin_110 : decode cX16_begin 110 = .ok (.iastore, 1) := by decide +kernel
theorem dX16_begin_111 : decode cX16_begin 111 = .ok (.iinc 2 1, 3) := by decide +kernel
theorem dX16_begin_114 : decode cX16_begin 114 = .ok (.goto (-33), 3) := by decide +kernel
theorem dX16_begin_117 : decode cX16_begin 117 = .ok (.iconst 0, 1) := by decide +kernel
theorem dX16_begin_118 : decode cX16_begin 118 = .ok (.istore_n 2, 1) := by decide +kernel
theorem dX16_begin_119 : decode cX16_begin 119 = .ok (.iload_n 2, 1) := by decide +kernel
theorem dX16_begin_120 : decode cX16_begin 120 = .ok (.bipush 16, 2) := by decide +kernel
theorem dX16_begin_122 : decode cX16_begin 122 = .ok (.if_icmp .ge 33, 3) := by decide +kernel
theorem dX16_begin_125 : decode cX16_begin 125 = .ok (.aload_n 0, 1) := by decide +kernel
theorem dX16_begin_126 : decode cX16_begin 126 = .ok (.getfield 54, 3) := by decide +kernel
theorem dX16_begin_129 : decode cX16_begin 129 = .ok (.bipush 16, 2) := by decide +kernel
theorem dX16_begin_131 : decode cX16_begin 131 = .ok (.iload_n 1, 1) := by decide +kernel
theorem dX16_begin_132 : decode cX16_begin 132 = .ok (.imul, 1) := by decide +kernel
theorem dX16_begin_133 : decode cX16_begin 133 = .ok (.iload_n 2, 1) := by decide +kernel
theorem dX16_begin_134 : decode cX16_begin 134 = .ok (.iadd, 1) := by decide +kernel
theorem dX16_begin_135 : decode cX16_begin 135 = .ok (.iconst 0, 1) := by decide +kernel
theorem dX16_begin_136 : decode cX16_begin 136 = .ok (.iastore, 1) := by decide +kernel
theorem dX16_begin_137 : decode cX16_begin 137 = .ok (.aload_n 0, 1) := by decide +kernel
theorem dX16_begin_138 : decode cX16_begin 138 = .ok (.getfield 57, 3) := by decide +kernel
theorem dX16_begin_141 : decode cX16_begin 141 = .ok (.bipush 16, 2) := by decide +kernel
theorem dX16_begin_143 : decode cX16_begin 143 = .ok (.iload_n 1, 1) := by decide +kernel
theorem dX16_begin_144 : decode cX16_begin 144 = .ok (.imul, 1) := by decide +kernel
theorem dX16_begin_145 : decode cX16_begin 145 = .ok (.iload_n 2, 1) := by decide +kernel
theorem dX16_begin_146 : decode cX16_begin 146 = .ok (.iadd, 1) := by decide +kernel
theorem dX16_begin_147 : decode cX16_begin 147 = .ok (.iconst (-1), 1) := by decide +kernel
theorem dX16_begin_148 : decode cX16_begin 148 = .ok (.iastore, 1) := by decide +kernel
theorem dX16_begin_149 : decode cX16_begin 149 = .ok (.iinc 2 1, 3) := by decide +kernel
theorem dX16_begin_152 : decode cX16_begin 152 = .ok (.goto (-33), 3) := by decide +kernel
theorem dX16_begin_155 : decode cX16_begin 155 = .ok (.return_, 1) := by decide +kernel
theorem dX16_pagesOf_0 : decode cX16_pagesOf 0 = .ok (.aload_n 0, 1) := by decide +kernel
theorem dX16_pagesOf_1 : decode cX16_pagesOf 1 = .ok (.getfield 118, 3) := by decide +kernel
theorem dX16_pagesOf_4 : decode cX16_pagesOf 4 = .ok (.getfield 177, 3) := by decide +kernel
theorem dX16_pagesOf_7 : decode cX16_pagesOf 7 = .ok (.iload_n 1, 1) := by decide +kernel
theorem dX16_pagesOf_8 : decode cX16_pagesOf 8 = .ok (.iaload, 1) := by decide +kernel
theorem dX16_pagesOf_9 : decode cX16_pagesOf 9 = .ok (.sipush 1023, 3) := by decide +kernel
theorem dX16_pagesOf_12 : decode cX16_pagesOf 12 = .ok (.iadd, 1) := by decide +kernel
theorem dX16_pagesOf_13 : decode cX16_pagesOf 13 = .ok (.sipush 1024, 3) := by decide +kernel
theorem dX16_pagesOf_16 : decode cX16_pagesOf 16 = .ok (.idiv, 1) := by decide +kernel
theorem dX16_pagesOf_17 : decode cX16_pagesOf 17 = .ok (.aload_n 0, 1) := by decide +kernel
theorem dX16_pagesOf_18 : decode cX16_pagesOf 18 = .ok (.getfield 118, 3) := by decide +kernel
theorem dX16_pagesOf_21 : decode cX16_pagesOf 21 = .ok (.iload_n 1, 1) := by decide +kernel
theorem dX16_pagesOf_22 : decode cX16_pagesOf 22 = .ok (.invokevirtual 182, 3) := by decide +kernel
theorem dX16_pagesOf_25 : decode cX16_pagesOf 25 = .ok (.sipush 1023, 3) := by decide +kernel
theorem dX16_pagesOf_28 : decode cX16_pagesOf 28 = .ok (.iadd, 1) := by decide +kernel
theorem dX16_pagesOf_29 : decode cX16_pagesOf 29 = .ok (.sipush 1024, 3) := by decide +kernel
theorem dX16_pagesOf_32 : decode cX16_pagesOf 32 = .ok (.idiv, 1) := by decide +kernel
theorem dX16_pagesOf_33 : decode cX16_pagesOf 33 = .ok (.iadd, 1) := by decide +kernel
theorem dX16_pagesOf_34 : decode cX16_pagesOf 34 = .ok (.iconst 4, 1) := by decide +kernel
theorem dX16_pagesOf_35 : decode cX16_pagesOf 35 = .ok (.iadd, 1) := by decide +kernel
theorem dX16_pagesOf_36 : decode cX16_pagesOf 36 = .ok (.ireturn, 1) := by decide +kernel
theorem dX16_load_0 : decode cX16_load 0 = .ok (.iconst 0, 1) := by decide +kernel
theorem dX16_load_1 : decode cX16_load 1 = .ok (.istore_n 3, 1) := by decide +kernel
theorem dX16_load_2 : decode cX16_load 2 = .ok (.iload_n 3, 1) := by decide +kernel
theorem dX16_load_3 : decode cX16_load 3 = .ok (.bipush 32, 2) := by decide +kernel
theorem dX16_load_5 : decode cX16_load 5 = .ok (.if_icmp .ge 21, 3) := by decide +kernel
theorem dX16_load_8 : decode cX16_load 8 = .ok (.aload_n 0, 1) := by decide +kernel
theorem dX16_load_9 : decode cX16_load 9 = .ok (.getfield 42, 3) := by decide +kernel
theorem dX16_load_12 : decode cX16_load 12 = .ok (.bipush 32, 2) := by decide +kernel
theorem dX16_load_14 : decode cX16_load 14 = .ok (.iload_n 1, 1) := by decide +kernel
theorem dX16_load_15 : decode cX16_load 15 = .ok (.imul, 1) := by decide +kernel
theorem dX16_load_16 : decode cX16_load 16 = .ok (.iload_n 3, 1) := by decide +kernel
theorem dX16_load_17 : decode cX16_load 17 = .ok (.iadd, 1) := by decide +kernel
theorem dX16_load_18 : decode cX16_load 18 = .ok (.iconst 0, 1) := by decide +kernel
theorem dX16_load_19 : decode cX16_load 19 = .ok (.iastore, 1) := by decide +kernel
theorem dX16_load_20 : decode cX16_load 20 = .ok (.iinc 3 1, 3) := by decide +kernel
theorem dX16_load_23 : decode cX16_load 23 = .ok (.goto (-21), 3) := by decide +kernel
theorem dX16_load_26 : decode cX16_load 26 = .ok (.aload_n 0, 1) := by decide +kernel
theorem dX16_load_27 : decode cX16_load 27 = .ok (.getfield 42, 3) := by decide +kernel
theorem dX16_load_30 : decode cX16_load 30 = .ok (.bipush 32, 2) := by decide +kernel
theorem dX16_load_32 : decode cX16_load 32 = .ok (.iload_n 1, 1) := by decide +kernel
theorem dX16_load_33 : decode cX16_load 33 = .ok (.imul, 1) := by decide +kernel
theorem dX16_load_34 : decode cX16_load 34 = .ok (.iconst 2, 1) := by decide +kernel
theorem dX16_load_35 : decode cX16_load 35 = .ok (.iadd, 1) := by decide +kernel
theorem dX16_load_36 : decode cX16_load 36 = .ok (.ldc 186, 2) := by decide +kernel
theorem dX16_load_38 : decode cX16_load 38 = .ok (.iastore, 1) := by decide +kernel
theorem dX16_load_39 : decode cX16_load 39 = .ok (.aload_n 0, 1) := by decide +kernel
theorem dX16_load_40 : decode cX16_load 40 = .ok (.getfield 45, 3) := by decide +kernel
theorem dX16_load_43 : decode cX16_load 43 = .ok (.iload_n 1, 1) := by decide +kernel
theorem dX16_load_44 : decode cX16_load 44 = .ok (.iconst 0, 1) := by decide +kernel
theorem dX16_load_45 : decode cX16_load 45 = .ok (.iastore, 1) := by decide +kernel
theorem dX16_load_46 : decode cX16_load 46 = .ok (.aload_n 0, 1) := by decide +kernel
theorem dX16_load_47 : decode cX16_load 47 = .ok (.getfield 118, 3) := by decide +kernel
theorem dX16_load_50 : decode cX16_load 50 = .ok (.getfield 177, 3) := by decide +kernel
theorem dX16_load_53 : decode cX16_load 53 = .ok (.iload_n 2, 1) := by decide +kernel
theorem dX16_load_54 : decode cX16_load 54 = .ok (.iaload, 1) := by decide +kernel
theorem dX16_load_55 : decode cX16_load 55 = .ok (.istore_n 3, 1) := by decide +kernel
theorem dX16_load_56 : decode cX16_load 56 = .ok (.iconst 0, 1) := by decide +kernel
theorem dX16_load_57 : decode cX16_load 57 = .ok (.istore 4, 2) := by decide +kernel
theorem dX16_load_59 : decode cX16_load 59 = .ok (.iload 4, 2) := by decide +kernel
theorem dX16_load_61 : decode cX16_load 61 = .ok (.iload_n 3, 1) := by decide +kernel
theorem dX16_load_62 : decode cX16_load 62 = .ok (.if_icmp .ge 24, 3) := by decide +kernel
theorem dX16_load_65 : decode cX16_load 65 = .ok (.aload_n 0, 1) := by decide +kernel
theorem dX16_load_66 : decode cX16_load 66 = .ok (.iload_n 1, 1) := by decide +kernel
theorem dX16_load_67 : decode cX16_load 67 = .ok (.iload 4, 2) := by decide +kernel
theorem dX16_load_69 : decode cX16_load 69 = .ok (.sipush 1024, 3) := by decide +kernel
theorem dX16_load_72 : decode cX16_load 72 = .ok (.idiv, 1) := by decide +kernel
theorem dX16_load_73 : decode cX16_load 73 = .ok (.iconst 5, 1) := by decide +kernel
theorem dX16_load_74 : decode cX16_load 74 = .ok (.invokevirtual 187, 3) := by decide +kernel
theorem dX16_load_77 : decode cX16_load 77 = .ok (.iinc 4 1024, 6) := by decide +kernel
theorem dX16_load_83 : decode cX16_load 83 = .ok (.goto (-24), 3) := by decide +kernel
theorem dX16_load_86 : decode cX16_load 86 = .ok (.iconst 0, 1) := by decide +kernel
theorem dX16_load_87 : decode cX16_load 87 = .ok (.istore 4, 2) := by decide +kernel
theorem dX16_load_89 : decode cX16_load 89 = .ok (.iload 4, 2) := by decide +kernel
theorem dX16_load_91 : decode cX16_load 91 = .ok (.aload_n 0, 1) := by decide +kernel
theorem dX16_load_92 : decode cX16_load 92 = .ok (.getfield 118, 3) := by decide +kernel
theorem dX16_load_95 : decode cX16_load 95 = .ok (.iload_n 2, 1) := by decide +kernel
theorem dX16_load_96 : decode cX16_load 96 = .ok (.invokevirtual 182, 3) := by decide +kernel
theorem dX16_load_99 : decode cX16_load 99 = .ok (.if_icmp .ge 34, 3) := by decide +kernel
theorem dX16_load_102 : decode cX16_load 102 = .ok (.aload_n 0, 1) := by decide +kernel
theorem dX16_load_103 : decode cX16_load 103 = .ok (.iload_n 1, 1) := by decide +kernel
theorem dX16_load_104 : decode cX16_load 104 = .ok (.aload_n 0, 1) := by decide +kernel
theorem dX16_load_105 : decode cX16_load 105 = .ok (.getfield 118, 3) := by decide +kernel
theorem dX16_load_108 : decode cX16_load 108 = .ok (.getfield 191, 3) := by decide +kernel
theorem dX16_load_111 : decode cX16_load 111 = .ok (.iload_n 2, 1) := by decide +kernel
theorem dX16_load_112 : decode cX16_load 112 = .ok (.iaload, 1) := by decide +kernel
theorem dX16_load_113 : decode cX16_load 113 = .ok (.iload 4, 2) := by decide +kernel
theorem dX16_load_115 : decode cX16_load 115 = .ok (.iadd, 1) := by decide +kernel
theorem dX16_load_116 : decode cX16_load 116 = .ok (.sipush 1024, 3) := by decide +kernel
theorem dX16_load_119 : decode cX16_load 119 = .ok (.idiv, 1) := by decide +kernel
theorem dX16_load_120 : decode cX16_load 120 = .ok (.iconst 3, 1) := by decide +kernel
theorem dX16_load_121 : decode cX16_load 121 = .ok (.invokevirtual 187, 3) := by decide +kernel
theorem dX16_load_124 : decode cX16_load 124 = .ok (.iinc 4 1024, 6) := by decide +kernel
theorem dX16_load_130 : decode cX16_load 130 = .ok (.goto (-41), 3) := by decide +kernel
theorem dX16_load_133 : decode cX16_load 133 = .ok (.bipush 60, 2) := by decide +kernel
theorem dX16_load_135 : decode cX16_load 135 = .ok (.istore 4, 2) := by decide +kernel
theorem dX16_load_137 : decode cX16_load 137 = .ok (.iload 4, 2) := by decide +kernel
theorem dX16_load_139 : decode cX16_load 139 = .ok (.bipush 64, 2) := by decide +kernel
theorem dX16_load_141 : decode cX16_load 141 = .ok (.if_icmp .ge 17, 3) := by decide +kernel
theorem dX16_load_144 : decode cX16_load 144 = .ok (.aload_n 0, 1) := by decide +kernel
theorem dX16_load_145 : decode cX16_load 145 = .ok (.iload_n 1, 1) := by decide +kernel
theorem dX16_load_146 : decode cX16_load 146 = .ok (.iload 4, 2) := by decide +kernel
theorem dX16_load_148 : decode cX16_load 148 = .ok (.iconst 3, 1) := by decide +kernel
theorem dX16_load_149 : decode cX16_load 149 = .ok (.invokevirtual 187, 3) := by decide +kernel
theorem dX16_load_152 : decode cX16_load 152 = .ok (.iinc 4 1, 3) := by decide +kernel
theorem dX16_load_155 : decode cX16_load 155 = .ok (.goto (-18), 3) := by decide +kernel
theorem dX16_load_158 : decode cX16_load 158 = .ok (.iconst 0, 1) := by decide +kernel
theorem dX16_load_159 : decode cX16_load 159 = .ok (.istore 4, 2) := by decide +kernel
theorem dX16_load_161 : decode cX16_load 161 = .ok (.iload 4, 2) := by decide +kernel
theorem dX16_load_163 : decode cX16_load 163 = .ok (.aload_n 0, 1) := by decide +kernel
theorem dX16_load_164 : decode cX16_load 164 = .ok (.getfield 118, 3) := by decide +kernel
theorem dX16_load_167 : decode cX16_load 167 = .ok (.getfield 194, 3) := by decide +kernel
