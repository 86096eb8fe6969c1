theorem dX18_system_100 : decode cX18_system 100 = .ok (.aload_n 0, 1) := by decide +kernel
theorem dX18_system_101 : decode cX18_system 101 = .ok (.iload_n 2, 1) := by decide +kernel
theorem dX18_system_102 : decode cX18_system 102 = .ok (.ifCond .ne 9, 3) := by decide +kernel
theorem dX18_system_105 : decode cX18_system 105 = .ok (.ldc2_w 210, 3) := by decide +kernel
theorem dX18_system_108 : decode cX18_system 108 = .ok (.goto 17, 3) := by decide +kernel
theorem dX18_system_111 : decode cX18_system 111 = .ok (.iload_n 2, 1) := by decide +kernel
theorem dX18_system_112 : decode cX18_system 112 = .ok (.iconst 1, 1) := by decide +kernel
theorem dX18_system_113 : decode cX18_system 113 = .ok (.if_icmp .ne 9, 3) := by decide +kernel
theorem dX18_system_116 : decode cX18_system 116 = .ok (.ldc2_w 212, 3) := by decide +kernel
theorem dX18_system_119 : decode cX18_system 119 = .ok (.goto 6, 3) := by decide +kernel
theorem dX18_system_122 : decode cX18_system 122 = .ok (.ldc2_w 214, 3) := by decide +kernel
theorem dX18_system_125 : decode cX18_system 125 = .ok (.invokevirtual 50, 3) := by decide +kernel
theorem dX18_system_128 : decode cX18_system 128 = .ok (.iload_n 1, 1) := by decide +kernel
theorem dX18_system_129 : decode cX18_system 129 = .ok (.sipush 3200, 3) := by decide +kernel
theorem dX18_system_132 : decode cX18_system 132 = .ok (.if_icmp .lt 9, 3) := by decide +kernel
theorem dX18_system_135 : decode cX18_system 135 = .ok (.aload_n 0, 1) := by decide +kernel
theorem dX18_system_136 : decode cX18_system 136 = .ok (.bipush 104, 2) := by decide +kernel
theorem dX18_system_138 : decode cX18_system 138 = .ok (.invokevirtual 29, 3) := by decide +kernel
theorem dX18_system_141 : decode cX18_system 141 = .ok (.aload_n 0, 1) := by decide +kernel
theorem dX18_system_142 : decode cX18_system 142 = .ok (.aload_n 0, 1) := by decide +kernel
theorem dX18_system_143 : decode cX18_system 143 = .ok (.getfield 68, 3) := by decide +kernel
theorem dX18_system_146 : decode cX18_system 146 = .ok (.invokevirtual 71, 3) := by decide +kernel
theorem dX18_system_149 : decode cX18_system 149 = .ok (.return_, 1) := by decide +kernel
theorem dX18_longOne_0 : decode cX18_longOne 0 = .ok (.aload_n 0, 1) := by decide +kernel
theorem dX18_longOne_1 : decode cX18_longOne 1 = .ok (.aload_n 0, 1) := by decide +kernel
theorem dX18_longOne_2 : decode cX18_longOne 2 = .ok (.bipush 7, 2) := by decide +kernel
theorem dX18_longOne_4 : decode cX18_longOne 4 = .ok (.iconst 5, 1) := by decide +kernel
theorem dX18_longOne_5 : decode cX18_longOne 5 = .ok (.invokevirtual 172, 3) := by decide +kernel
theorem dX18_longOne_8 : decode cX18_longOne 8 = .ok (.putfield 68, 3) := by decide +kernel
theorem dX18_longOne_11 : decode cX18_longOne 11 = .ok (.aload_n 0, 1) := by decide +kernel
theorem dX18_longOne_12 : decode cX18_longOne 12 = .ok (.aload_n 0, 1) := by decide +kernel
theorem dX18_longOne_13 : decode cX18_longOne 13 = .ok (.bipush 12, 2) := by decide +kernel
theorem dX18_longOne_15 : decode cX18_longOne 15 = .ok (.iconst 3, 1) := by decide +kernel
theorem dX18_longOne_16 : decode cX18_longOne 16 = .ok (.invokevirtual 172, 3) := by decide +kernel
theorem dX18_longOne_19 : decode cX18_longOne 19 = .ok (.putfield 80, 3) := by decide +kernel
theorem dX18_longOne_22 : decode cX18_longOne 22 = .ok (.aload_n 0, 1) := by decide +kernel
theorem dX18_longOne_23 : decode cX18_longOne 23 = .ok (.aload_n 0, 1) := by decide +kernel
theorem dX18_longOne_24 : decode cX18_longOne 24 = .ok (.bipush 15, 2) := by decide +kernel
theorem dX18_longOne_26 : decode cX18_longOne 26 = .ok (.iconst 5, 1) := by decide +kernel
theorem dX18_longOne_27 : decode cX18_longOne 27 = .ok (.invokevirtual 172, 3) := by decide +kernel
theorem dX18_longOne_30 : decode cX18_longOne 30 = .ok (.putfield 74, 3) := by decide +kernel
theorem dX18_longOne_33 : decode cX18_longOne 33 = .ok (.aload_n 0, 1) := by decide +kernel
theorem dX18_longOne_34 : decode cX18_longOne 34 = .ok (.aload_n 0, 1) := by decide +kernel
theorem dX18_longOne_35 : decode cX18_longOne 35 = .ok (.bipush 20, 2) := by decide +kernel
theorem dX18_longOne_37 : decode cX18_longOne 37 = .ok (.iconst 5, 1) := by decide +kernel
theorem dX18_longOne_38 : decode cX18_longOne 38 = .ok (.invokevirtual 172, 3) := by decide +kernel
theorem dX18_longOne_41 : decode cX18_longOne 41 = .ok (.putfield 77, 3) := by decide +kernel
theorem dX18_longOne_44 : decode cX18_longOne 44 = .ok (.aload_n 0, 1) := by decide +kernel
theorem dX18_longOne_45 : decode cX18_longOne 45 = .ok (.bipush 25, 2) := by decide +kernel
theorem dX18_longOne_47 : decode cX18_longOne 47 = .ok (.bipush 7, 2) := by decide +kernel
theorem dX18_longOne_49 : decode cX18_longOne 49 = .ok (.invokevirtual 172, 3) := by decide +kernel
theorem dX18_longOne_52 : decode cX18_longOne 52 = .ok (.istore_n 1, 1) := by decide +kernel
theorem dX18_longOne_53 : decode cX18_longOne 53 = .ok (.aload_n 0, 1) := by decide +kernel
theorem dX18_longOne_54 : decode cX18_longOne 54 = .ok (.getfield 20, 3) := by decide +kernel
theorem dX18_longOne_57 : decode cX18_longOne 57 = .ok (.bipush 127, 2) := by decide +kernel
theorem dX18_longOne_59 : decode cX18_longOne 59 = .ok (.iand, 1) := by decide +kernel
theorem dX18_longOne_60 : decode cX18_longOne 60 = .ok (.lookupswitch 126 #[(3, 84), (19, 76), (35, 91), (47, 105), (51, 68), (99, 98), (115, 119)], 68) := by decide +kernel
theorem dX18_longOne_128 : decode cX18_longOne 128 = .ok (.aload_n 0, 1) := by decide +kernel
theorem dX18_longOne_129 : decode cX18_longOne 129 = .ok (.iload_n 1, 1) := by decide +kernel
theorem dX18_longOne_130 : decode cX18_longOne 130 = .ok (.invokevirtual 216, 3) := by decide +kernel
theorem dX18_longOne_133 : decode cX18_longOne 133 = .ok (.goto 57, 3) := by decide +kernel
theorem dX18_longOne_136 : decode cX18_longOne 136 = .ok (.aload_n 0, 1) := by decide +kernel
theorem dX18_longOne_137 : decode cX18_longOne 137 = .ok (.iload_n 1, 1) := by decide +kernel
theorem dX18_longOne_138 : decode cX18_longOne 138 = .ok (.invokevirtual 219, 3) := by decide +kernel
theorem dX18_longOne_141 : decode cX18_longOne 141 = .ok (.goto 49, 3) := by decide +kernel
theorem dX18_longOne_144 : decode cX18_longOne 144 = .ok (.aload_n 0, 1) := by decide +kernel
theorem dX18_longOne_145 : decode cX18_longOne 145 = .ok (.invokevirtual 222, 3) := by decide +kernel
theorem dX18_longOne_148 : decode cX18_longOne 148 = .ok (.goto 42, 3) := by decide +kernel
theorem dX18_longOne_151 : decode cX18_longOne 151 = .ok (.aload_n 0, 1) := by decide +kernel
theorem dX18_longOne_152 : decode cX18_longOne 152 = .ok (.invokevirtual 225, 3) := by decide +kernel
theorem dX18_longOne_155 : decode cX18_longOne 155 = .ok (.goto 35, 3) := by decide +kernel
theorem dX18_longOne_158 : decode cX18_longOne 158 = .ok (.aload_n 0, 1) := by decide +kernel
theorem dX18_longOne_159 : decode cX18_longOne 159 = .ok (.invokevirtual 228, 3) := by decide +kernel
theorem dX18_longOne_162 : decode cX18_longOne 162 = .ok (.goto 28, 3) := by decide +kernel
theorem dX18_longOne_165 : decode cX18_longOne 165 = .ok (.aload_n 0, 1) := by decide +kernel
theorem dX18_longOne_166 : decode cX18_longOne 166 = .ok (.aload_n 0, 1) := by decide +kernel
theorem dX18_longOne_167 : decode cX18_longOne 167 = .ok (.bipush 27, 2) := by decide +kernel
theorem dX18_longOne_169 : decode cX18_longOne 169 = .ok (.iconst 5, 1) := by decide +kernel
theorem dX18_longOne_170 : decode cX18_longOne 170 = .ok (.invokevirtual 172, 3) := by decide +kernel
theorem dX18_longOne_173 : decode cX18_longOne 173 = .ok (.invokevirtual 231, 3) := by decide +kernel
theorem dX18_longOne_176 : decode cX18_longOne 176 = .ok (.goto 14, 3) := by decide +kernel
theorem dX18_longOne_179 : decode cX18_longOne 179 = .ok (.aload_n 0, 1) := by decide +kernel
theorem dX18_longOne_180 : decode cX18_longOne 180 = .ok (.invokevirtual 234, 3) := by decide +kernel
theorem dX18_longOne_183 : decode cX18_longOne 183 = .ok (.goto 7, 3) := by decide +kernel
theorem dX18_longOne_186 : decode cX18_longOne 186 = .ok (.aload_n 0, 1) := by decide +kernel
theorem dX18_longOne_187 : decode cX18_longOne 187 = .ok (.invokevirtual 237, 3) := by decide +kernel
theorem dX18_longOne_190 : decode cX18_longOne 190 = .ok (.return_, 1) := by decide +kernel
theorem dX18_others_0 : decode cX18_others 0 = .ok (.aload_n 0, 1) := by decide +kernel
theorem dX18_others_1 : decode cX18_others 1 = .ok (.getfield 20, 3) := by decide +kernel
theorem dX18_others_4 : decode cX18_others 4 = .ok (.bipush 127, 2) := by decide +kernel
theorem dX18_others_6 : decode cX18_others 6 = .ok (.iand, 1) := by decide +kernel
theorem dX18_others_7 : decode cX18_others 7 = .ok (.istore_n 1, 1) := by decide +kernel
theorem dX18_others_8 : decode cX18_others 8 = .ok (.iload_n 1, 1) := by decide +kernel
theorem dX18_others_9 : decode cX18_others 9 = .ok (.bipush 55, 2) := by decide +kernel
theorem dX18_others_11 : decode cX18_others 11 = .ok (.if_icmp .eq 9, 3) := by decide +kernel
theorem dX18_others_14 : decode cX18_others 14 = .ok (.iload_n 1, 1) := by decide +kernel
theorem dX18_others_15 : decode cX18_others 15 = .ok (.bipush 23, 2) := by decide +kernel
theorem dX18_others_17 : decode cX18_others 17 = .ok (.if_icmp .ne 44, 3) := by decide +kernel
theorem dX18_others_20 : decode cX18_others 20 = .ok (.aload_n 0, 1) := by decide +kernel
theorem dX18_others_21 : decode cX18_others 21 = .ok (.iload_n 1, 1) := by decide +kernel
theorem dX18_others_22 : decode cX18_others 22 = .ok (.bipush 55, 2) := by decide +kernel
theorem dX18_others_24 : decode cX18_others 24 = .ok (.if_icmp .ne 9, 3) := by decide +kernel
theorem dX18_others_27 : decode cX18_others 27 = .ok (.ldc2_w 240, 3) := by decide +kernel
theorem dX18_others_30 : decode cX18_others 30 = .ok (.goto 6, 3) := by decide +kernel
theorem dX18_others_33 : decode cX18_others 33 = .ok (.ldc2_w 242, 3) := by decide +kernel
theorem dX18_others_36 : decode cX18_others 36 = .ok (.invokevirtual 65, 3) := by decide +kernel
theorem dX18_others_39 : decode cX18_others 39 = .ok (.aload_n 0, 1) := by decide +kernel
theorem dX18_others_40 : decode cX18_others 40 = .ok (.aload_n 0, 1) := by decide +kernel
theorem dX18_others_41 : decode cX18_others 41 = .ok (.getfield 68, 3) := by decide +kernel
theorem dX18_others_44 : decode cX18_others 44 = .ok (.invokevirtual 71, 3) := by decide +kernel
theorem dX18_others_47 : decode cX18_others 47 = .ok (.aload_n 0, 1) := by decide +kernel
theorem dX18_others_48 : decode cX18_others 48 = .ok (.aload_n 0, 1) := by decide +kernel
theorem dX18_others_49 : decode cX18_others 49 = .ok (.getfield 20, 3) := by decide +kernel
theorem dX18_others_52 : decode cX18_others 52 = .ok (.bipush 12, 2) := by decide +kernel
theorem dX18_others_54 : decode cX18_others 54 = .ok (.iushr, 1) := by decide +kernel
theorem dX18_others_55 : decode cX18_others 55 = .ok (.invokevirtual 59, 3) := by decide +kernel
theorem dX18_others_58 : decode cX18_others 58 = .ok (.goto 157, 3) := by decide +kernel
theorem dX18_others_61 : decode cX18_others 61 = .ok (.iload_n 1, 1) := by decide +kernel
theorem dX18_others_62 : decode cX18_others 62 = .ok (.bipush 103, 2) := by decide +kernel
theorem dX18_others_64 : decode cX18_others 64 = .ok (.if_icmp .ne 43, 3) := by decide +kernel
theorem dX18_others_67 : decode cX18_others 67 = .ok (.aload_n 0, 1) := by decide +kernel
theorem dX18_others_68 : decode cX18_others 68 = .ok (.getfield 80, 3) := by decide +kernel
theorem dX18_others_71 : decode cX18_others 71 = .ok (.ifCond .ne 36, 3) := by decide +kernel
theorem dX18_others_74 : decode cX18_others 74 = .ok (.aload_n 0, 1) := by decide +kernel
theorem dX18_others_75 : decode cX18_others 75 = .ok (.ldc2_w 244, 3) := by decide +kernel
theorem dX18_others_78 : decode cX18_others 78 = .ok (.invokevirtual 65, 3) := by decide +kernel
theorem dX18_others_81 : decode cX18_others 81 = .ok (.aload_n 0, 1) := by decide +kernel
theorem dX18_others_82 : decode cX18_others 82 = .ok (.aload_n 0, 1) := by decide +kernel
theorem dX18_others_83 : decode cX18_others 83 = .ok (.getfield 68, 3) := by decide +kernel
theorem dX18_others_86 : decode cX18_others 86 = .ok (.invokevirtual 71, 3) := by decide +kernel
theorem dX18_others_89 : decode cX18_others 89 = .ok (.aload_n 0, 1) := by decide +kernel
theorem dX18_others_90 : decode cX18_others 90 = .ok (.aload_n 0, 1) := by decide +kernel
theorem dX18_others_91 : decode cX18_others 91 = .ok (.getfield 20, 3) := by decide +kernel
theorem dX18_others_94 : decode cX18_others 94 = .ok (.bipush 20, 2) := by decide +kernel
theorem dX18_others_96 : decode cX18_others 96 = .ok (.ishr, 1) := by decide +kernel
theorem dX18_others_97 : decode cX18_others 97 = .ok (.aload_n 0, 1) := by decide +kernel
theorem dX18_others_98 : decode cX18_others 98 = .ok (.getfield 74, 3) := by decide +kernel
theorem dX18_others_101 : decode cX18_others 101 = .ok (.invokevirtual 150, 3) := by decide +kernel
theorem dX18_others_104 : decode cX18_others 104 = .ok (.goto 111, 3) := by decide +kernel
theorem dX18_others_107 : decode cX18_others 107 = .ok (.iload_n 1, 1) := by decide +kernel
theorem dX18_others_108 : decode cX18_others 108 = .ok (.bipush 111, 2) := by decide +kernel
theorem dX18_others_110 : decode cX18_others 110 = .ok (.if_icmp .ne 69, 3) := by decide +kernel
theorem dX18_others_113 : decode cX18_others 113 = .ok (.aload_n 0, 1) := by decide +kernel
theorem dX18_others_114 : decode cX18_others 114 = .ok (.ldc2_w 246, 3) := by decide +kernel
theorem dX18_others_117 : decode cX18_others 117 = .ok (.invokevirtual 65, 3) := by decide +kernel
theorem dX18_others_120 : decode cX18_others 120 = .ok (.aload_n 0, 1) := by decide +kernel
theorem dX18_others_121 : decode cX18_others 121 = .ok (.aload_n 0, 1) := by decide +kernel
theorem dX18_others_122 : decode cX18_others 122 = .ok (.getfield 68, 3) := by decide +kernel
theorem dX18_others_125 : decode cX18_others 125 = .ok (.invokevirtual 71, 3) := by decide +kernel
theorem dX18_others_128 : decode cX18_others 128 = .ok (.aload_n 0, 1) := by decide +kernel
theorem dX18_others_129 : decode cX18_others 129 = .ok (.aload_n 0, 1) := by decide +kernel
theorem dX18_others_130 : decode cX18_others 130 = .ok (.getfield 20, 3) := by decide +kernel
theorem dX18_others_133 : decode cX18_others 133 = .ok (.bipush 31, 2) := by decide +kernel
theorem dX18_others_135 : decode cX18_others 135 = .ok (.ishr, 1) := by decide +kernel
theorem dX18_others_136 : decode cX18_others 136 = .ok (.bipush 20, 2) := by decide +kernel
theorem dX18_others_138 : decode cX18_others 138 = .ok (.ishl, 1) := by decide +kernel
theorem dX18_others_139 : decode cX18_others 139 = .ok (.aload_n 0, 1) := by decide +kernel
theorem dX18_others_140 : decode cX18_others 140 = .ok (.bipush 12, 2) := by decide +kernel
theorem dX18_others_142 : decode cX18_others 142 = .ok (.bipush 8, 2) := by decide +kernel
theorem dX18_others_144 : decode cX18_others 144 = .ok (.invokevirtual 172, 3) := by decide +kernel
theorem dX18_others_147 : decode cX18_others 147 = .ok (.bipush 12, 2) := by decide +kernel
theorem dX18_others_149 : decode cX18_others 149 = .ok (.ishl, 1) := by decide +kernel
theorem dX18_others_150 : decode cX18_others 150 = .ok (.ior, 1) := by decide +kernel
theorem dX18_others_151 : decode cX18_others 151 = .ok (.aload_n 0, 1) := by decide +kernel
theorem dX18_others_152 : decode cX18_others 152 = .ok (.bipush 20, 2) := by decide +kernel
theorem dX18_others_154 : decode cX18_others 154 = .ok (.iconst 1, 1) := by decide +kernel
theorem dX18_others_155 : decode cX18_others 155 = .ok (.invokevirtual 172, 3) := by decide +kernel
theorem dX18_others_158 : decode cX18_others 158 = .ok (.bipush 11, 2) := by decide +kernel
theorem dX18_others_160 : decode cX18_others 160 = .ok (.ishl, 1) := by decide +kernel
theorem dX18_others_161 : decode cX18_others 161 = .ok (.ior, 1) := by decide +kernel
theorem dX18_others_162 : decode cX18_others 162 = .ok (.aload_n 0, 1) := by decide +kernel
theorem dX18_others_163 : decode cX18_others 163 = .ok (.bipush 21, 2) := by decide +kernel
theorem dX18_others_165 : decode cX18_others 165 = .ok (.bipush 10, 2) := by decide +kernel
theorem dX18_others_167 : decode cX18_others 167 = .ok (.invokevirtual 172, 3) := by decide +kernel
theorem dX18_others_170 : decode cX18_others 170 = .ok (.iconst 1, 1) := by decide +kernel
theorem dX18_others_171 : decode cX18_others 171 = .ok (.ishl, 1) := by decide +kernel
theorem dX18_others_172 : decode cX18_others 172 = .ok (.ior, 1) := by decide +kernel
theorem dX18_others_173 : decode cX18_others 173 = .ok (.invokevirtual 176, 3) := by decide +kernel
theorem dX18_others_176 : decode cX18_others 176 = .ok (.goto 39, 3) := by decide +kernel
theorem dX18_others_179 : decode cX18_others 179 = .ok (.aload_n 0, 1) := by decide +kernel
theorem dX18_others_180 : decode cX18_others 180 = .ok (.getfield 20, 3) := by decide +kernel
theorem dX18_others_183 : decode cX18_others 183 = .ok (.ldc 248, 2) := by decide +kernel
theorem dX18_others_185 : decode cX18_others 185 = .ok (.if_icmp .ne 13, 3) := by decide +kernel
theorem dX18_others_188 : decode cX18_others 188 = .ok (.aload_n 0, 1) := by decide +kernel
theorem dX18_others_189 : decode cX18_others 189 = .ok (.ldc2_w 249, 3) := by decide +kernel
theorem dX18_others_192 : decode cX18_others 192 = .ok (.invokevirtual 65, 3) := by decide +kernel
theorem dX18_others_195 : decode cX18_others 195 = .ok (.goto 20, 3) := by decide +kernel
theorem dX18_others_198 : decode cX18_others 198 = .ok (.aload_n 0, 1) := by decide +kernel
theorem dX18_others_199 : decode cX18_others 199 = .ok (.getfield 20, 3) := by decide +kernel
theorem dX18_others_202 : decode cX18_others 202 = .ok (.sipush 4111, 3) := by decide +kernel
theorem dX18_others_205 : decode cX18_others 205 = .ok (.if_icmp .ne 10, 3) := by decide +kernel
theorem dX18_others_208 : decode cX18_others 208 = .ok (.aload_n 0, 1) := by decide +kernel
theorem dX18_others_209 : decode cX18_others 209 = .ok (.ldc2_w 251, 3) := by decide +kernel
theorem dX18_others_212 : decode cX18_others 212 = .ok (.invokevirtual 65, 3) := by decide +kernel
theorem dX18_others_215 : decode cX18_others 215 = .ok (.return_, 1) := by decide +kernel
theorem dX18_six_0 : decode cX18_six 0 = .ok (.aload_n 0, 1) := by decide +kernel
theorem dX18_six_1 : decode cX18_six 1 = .ok (.iconst 2, 1) := by decide +kernel
theorem dX18_six_2 : decode cX18_six 2 = .ok (.iconst 5, 1) := by decide +kernel
theorem dX18_six_3 : decode cX18_six 3 = .ok (.invokevirtual 172, 3) := by decide +kernel
theorem dX18_six_6 : decode cX18_six 6 = .ok (.bipush 32, 2) := by decide +kernel
theorem dX18_six_8 : decode cX18_six 8 = .ok (.aload_n 0, 1) := by decide +kernel
theorem dX18_six_9 : decode cX18_six 9 = .ok (.bipush 12, 2) := by decide +kernel
theorem dX18_six_11 : decode cX18_six 11 = .ok (.iconst 1, 1) := by decide +kernel
theorem dX18_six_12 : decode cX18_six 12 = .ok (.invokevirtual 172, 3) := by decide +kernel
theorem dX18_six_15 : decode cX18_six 15 = .ok (.imul, 1) := by decide +kernel
theorem dX18_six_16 : decode cX18_six 16 = .ok (.isub, 1) := by decide +kernel
theorem dX18_six_17 : decode cX18_six 17 = .ok (.ireturn, 1) := by decide +kernel
theorem dX18_first_0 : decode cX18_first 0 = .ok (.bipush 8, 2) := by decide +kernel
theorem dX18_first_2 : decode cX18_first 2 = .ok (.aload_n 0, 1) := by decide +kernel
theorem dX18_first_3 : decode cX18_first 3 = .ok (.iconst 2, 1) := by decide +kernel
theorem dX18_first_4 : decode cX18_first 4 = .ok (.iconst 3, 1) := by decide +kernel
theorem dX18_first_5 : decode cX18_first 5 = .ok (.invokevirtual 172, 3) := by decide +kernel
theorem dX18_first_8 : decode cX18_first 8 = .ok (.iadd, 1) := by decide +kernel
theorem dX18_first_9 : decode cX18_first 9 = .ok (.istore_n 1, 1) := by decide +kernel
theorem dX18_first_10 : decode cX18_first 10 = .ok (.bipush 8, 2) := by decide +kernel
theorem dX18_first_12 : decode cX18_first 12 = .ok (.aload_n 0, 1) := by decide +kernel
theorem dX18_first_13 : decode cX18_first 13 = .ok (.bipush 7, 2) := by decide +kernel
theorem dX18_first_15 : decode cX18_first 15 = .ok (.iconst 3, 1) := by decide +kernel
theorem dX18_first_16 : decode cX18_first 16 = .ok (.invokevirtual 172, 3) := by decide +kernel
theorem dX18_first_19 : decode cX18_first 19 = .ok (.iadd, 1) := by decide +kernel
theorem dX18_first_20 : decode cX18_first 20 = .ok (.istore_n 2, 1) := by decide +kernel
theorem dX18_first_21 : decode cX18_first 21 = .ok (.aload_n 0, 1) := by decide +kernel
theorem dX18_first_22 : decode cX18_first 22 = .ok (.bipush 11, 2) := by decide +kernel
theorem dX18_first_24 : decode cX18_first 24 = .ok (.iconst 2, 1) := by decide +kernel
theorem dX18_first_25 : decode cX18_first 25 = .ok (.invokevirtual 172, 3) := by decide +kernel
theorem dX18_first_28 : decode cX18_first 28 = .ok (.iconst 4, 1) := by decide +kernel
theorem dX18_first_29 : decode cX18_first 29 = .ok (.ishl, 1) := by decide +kernel
theorem dX18_first_30 : decode cX18_first 30 = .ok (.aload_n 0, 1) := by decide +kernel
theorem dX18_first_31 : decode cX18_first 31 = .ok (.bipush 7, 2) := by decide +kernel
theorem dX18_first_33 : decode cX18_first 33 = .ok (.iconst 4, 1) := by decide +kernel
theorem dX18_first_34 : decode cX18_first 34 = .ok (.invokevirtual 172, 3) := by decide +kernel
theorem dX18_first_37 : decode cX18_first 37 = .ok (.bipush 6, 2) := by decide +kernel
theorem dX18_first_39 : decode cX18_first 39 = .ok (.ishl, 1) := by decide +kernel
theorem dX18_first_40 : decode cX18_first 40 = .ok (.ior, 1) := by decide +kernel
theorem dX18_first_41 : decode cX18_first 41 = .ok (.aload_n 0, 1) := by decide +kernel
theorem dX18_first_42 : decode cX18_first 42 = .ok (.bipush 6, 2) := by decide +kernel
theorem dX18_first_44 : decode cX18_first 44 = .ok (.iconst 1, 1) := by decide +kernel
theorem dX18_first_45 : decode cX18_first 45 = .ok (.invokevirtual 172, 3) := by decide +kernel
theorem dX18_first_48 : decode cX18_first 48 = .ok (.iconst 2, 1) := by decide +kernel
theorem dX18_first_49 : decode cX18_first 49 = .ok (.ishl, 1) := by decide +kernel
theorem dX18_first_50 : decode cX18_first 50 = .ok (.ior, 1) := by decide +kernel
theorem dX18_first_51 : decode cX18_first 51 = .ok (.aload_n 0, 1) := by decide +kernel
theorem dX18_first_52 : decode cX18_first 52 = .ok (.iconst 5, 1) := by decide +kernel
theorem dX18_first_53 : decode cX18_first 53 = .ok (.iconst 1, 1) := by decide +kernel
theorem dX18_first_54 : decode cX18_first 54 = .ok (.invokevirtual 172, 3) := by decide +kernel
theorem dX18_first_57 : decode cX18_first 57 = .ok (.iconst 3, 1) := by decide +kernel
theorem dX18_first_58 : decode cX18_first 58 = .ok (.ishl, 1) := by decide +kernel
theorem dX18_first_59 : decode cX18_first 59 = .ok (.ior, 1) := by decide +kernel
theorem dX18_first_60 : decode cX18_first 60 = .ok (.istore_n 3, 1) := by decide +kernel
theorem dX18_first_61 : decode cX18_first 61 = .ok (.aload_n 0, 1) := by decide +kernel
theorem dX18_first_62 : decode cX18_first 62 = .ok (.bipush 10, 2) := by decide +kernel
theorem dX18_first_64 : decode cX18_first 64 = .ok (.iconst 3, 1) := by decide +kernel
theorem dX18_first_65 : decode cX18_first 65 = .ok (.invokevirtual 172, 3) := by decide +kernel
theorem dX18_first_68 : decode cX18_first 68 = .ok (.iconst 3, 1) := by decide +kernel
theorem dX18_first_69 : decode cX18_first 69 = .ok (.ishl, 1) := by decide +kernel
theorem dX18_first_70 : decode cX18_first 70 = .ok (.aload_n 0, 1) := by decide +kernel
theorem dX18_first_71 : decode cX18_first 71 = .ok (.bipush 6, 2) := by decide +kernel
theorem dX18_first_73 : decode cX18_first 73 = .ok (.iconst 1, 1) := by decide +kernel
theorem dX18_first_74 : decode cX18_first 74 = .ok (.invokevirtual 172, 3) := by decide +kernel
theorem dX18_first_77 : decode cX18_first 77 = .ok (.iconst 2, 1) := by decide +kernel
theorem dX18_first_78 : decode cX18_first 78 = .ok (.ishl, 1) := by decide +kernel
theorem dX18_first_79 : decode cX18_first 79 = .ok (.ior, 1) := by decide +kernel
theorem dX18_first_80 : decode cX18_first 80 = .ok (.aload_n 0, 1) := by decide +kernel
theorem dX18_first_81 : decode cX18_first 81 = .ok (.iconst 5, 1) := by decide +kernel
theorem dX18_first_82 : decode cX18_first 82 = .ok (.iconst 1, 1) := by decide +kernel
theorem dX18_first_83 : decode cX18_first 83 = .ok (.invokevirtual 172, 3) := by decide +kernel
theorem dX18_first_86 : decode cX18_first 86 = .ok (.bipush 6, 2) := by decide +kernel
theorem dX18_first_88 : decode cX18_first 88 = .ok (.ishl, 1) := by decide +kernel
theorem dX18_first_89 : decode cX18_first 89 = .ok (.ior, 1) := by decide +kernel
theorem dX18_first_90 : decode cX18_first 90 = .ok (.istore 4, 2) := by decide +kernel
theorem dX18_first_92 : decode cX18_first 92 = .ok (.aload_n 0, 1) := by decide +kernel
theorem dX18_first_93 : decode cX18_first 93 = .ok (.getfield 80, 3) := by decide +kernel
theorem dX18_first_96 : decode cX18_first 96 = .ok (.ifCond .ne 34, 3) := by decide +kernel
theorem dX18_first_99 : decode cX18_first 99 = .ok (.iload_n 3, 1) := by decide +kernel
theorem dX18_first_100 : decode cX18_first 100 = .ok (.ifCond .le 30, 3) := by decide +kernel
theorem dX18_first_103 : decode cX18_first 103 = .ok (.aload_n 0, 1) := by decide +kernel
theorem dX18_first_104 : decode cX18_first 104 = .ok (.ldc2_w 253, 3) := by decide +kernel
theorem dX18_first_107 : decode cX18_first 107 = .ok (.invokevirtual 65, 3) := by decide +kernel
theorem dX18_first_110 : decode cX18_first 110 = .ok (.aload_n 0, 1) := by decide +kernel
theorem dX18_first_111 : decode cX18_first 111 = .ok (.ldc2_w 255, 3) := by decide +kernel
theorem dX18_first_114 : decode cX18_first 114 = .ok (.invokevirtual 50, 3) := by decide +kernel
theorem dX18_first_117 : decode cX18_first 117 = .ok (.aload_n 0, 1) := by decide +kernel
theorem dX18_first_118 : decode cX18_first 118 = .ok (.iload_n 1, 1) := by decide +kernel
theorem dX18_first_119 : decode cX18_first 119 = .ok (.invokevirtual 71, 3) := by decide +kernel
theorem dX18_first_122 : decode cX18_first 122 = .ok (.aload_n 0, 1) := by decide +kernel
theorem dX18_first_123 : decode cX18_first 123 = .ok (.iload_n 3, 1) := by decide +kernel
theorem dX18_first_124 : decode cX18_first 124 = .ok (.invokevirtual 59, 3) := by decide +kernel
theorem dX18_first_127 : decode cX18_first 127 = .ok (.goto 53, 3) := by decide +kernel
theorem dX18_first_130 : decode cX18_first 130 = .ok (.aload_n 0, 1) := by decide +kernel
theorem dX18_first_131 : decode cX18_first 131 = .ok (.getfield 80, 3) := by decide +kernel
theorem dX18_first_134 : decode cX18_first 134 = .ok (.iconst 2, 1) := by decide +kernel
theorem dX18_first_135 : decode cX18_first 135 = .ok (.if_icmp .eq 12, 3) := by decide +kernel
theorem dX18_first_138 : decode cX18_first 138 = .ok (.aload_n 0, 1) := by decide +kernel
theorem dX18_first_139 : decode cX18_first 139 = .ok (.getfield 80, 3) := by decide +kernel
theorem dX18_first_142 : decode cX18_first 142 = .ok (.bipush 6, 2) := by decide +kernel
theorem dX18_first_144 : decode cX18_first 144 = .ok (.if_icmp .ne 36, 3) := by decide +kernel
theorem dX18_first_147 : decode cX18_first 147 = .ok (.aload_n 0, 1) := by decide +kernel
theorem dX18_first_148 : decode cX18_first 148 = .ok (.aload_n 0, 1) := by decide +kernel
theorem dX18_first_149 : decode cX18_first 149 = .ok (.getfield 80, 3) := by decide +kernel
theorem dX18_first_152 : decode cX18_first 152 = .ok (.iconst 2, 1) := by decide +kernel
theorem dX18_first_153 : decode cX18_first 153 = .ok (.if_icmp .ne 9, 3) := by decide +kernel
theorem dX18_first_156 : decode cX18_first 156 = .ok (.ldc2_w 257, 3) := by decide +kernel
theorem dX18_first_159 : decode cX18_first 159 = .ok (.goto 6, 3) := by decide +kernel
theorem dX18_first_162 : decode cX18_first 162 = .ok (.ldc2_w 259, 3) := by decide +kernel
theorem dX18_first_165 : decode cX18_first 165 = .ok (.invokevirtual 65, 3) := by decide +kernel
theorem dX18_first_168 : decode cX18_first 168 = .ok (.aload_n 0, 1) := by decide +kernel
theorem dX18_first_169 : decode cX18_first 169 = .ok (.iload_n 1, 1) := by decide +kernel
theorem dX18_first_170 : decode cX18_first 170 = .ok (.invokevirtual 71, 3) := by decide +kernel
theorem dX18_first_173 : decode cX18_first 173 = .ok (.aload_n 0, 1) := by decide +kernel
theorem dX18_first_174 : decode cX18_first 174 = .ok (.iload 4, 2) := by decide +kernel
theorem dX18_first_176 : decode cX18_first 176 = .ok (.iload_n 2, 1) := by decide +kernel
theorem dX18_first_177 : decode cX18_first 177 = .ok (.invokevirtual 150, 3) := by decide +kernel
theorem dX18_first_180 : decode cX18_first 180 = .ok (.return_, 1) := by decide +kernel
theorem dX18_jump_0 : decode cX18_jump 0 = .ok (.aload_n 0, 1) := by decide +kernel
theorem dX18_jump_1 : decode cX18_jump 1 = .ok (.lload_n 1, 1) := by decide +kernel
theorem dX18_jump_2 : decode cX18_jump 2 = .ok (.invokevirtual 65, 3) := by decide +kernel
theorem dX18_jump_5 : decode cX18_jump 5 = .ok (.aload_n 0, 1) := by decide +kernel
theorem dX18_jump_6 : decode cX18_jump 6 = .ok (.aload_n 0, 1) := by decide +kernel
theorem dX18_jump_7 : decode cX18_jump 7 = .ok (.iconst 3, 1) := by decide +kernel
theorem dX18_jump_8 : decode cX18_jump 8 = .ok (.iconst 3, 1) := by decide +kernel
theorem dX18_jump_9 : decode cX18_jump 9 = .ok (.invokevirtual 172, 3) := by decide +kernel
theorem dX18_jump_12 : decode cX18_jump 12 = .ok (.iconst 1, 1) := by decide +kernel
theorem dX18_jump_13 : decode cX18_jump 13 = .ok (.ishl, 1) := by decide +kernel
theorem dX18_jump_14 : decode cX18_jump 14 = .ok (.aload_n 0, 1) := by decide +kernel
theorem dX18_jump_15 : decode cX18_jump 15 = .ok (.bipush 11, 2) := by decide +kernel
theorem dX18_jump_17 : decode cX18_jump 17 = .ok (.iconst 1, 1) := by decide +kernel
theorem dX18_jump_18 : decode cX18_jump 18 = .ok (.invokevirtual 172, 3) := by decide +kernel
theorem dX18_jump_21 : decode cX18_jump 21 = .ok (.iconst 4, 1) := by decide +kernel
theorem dX18_jump_22 : decode cX18_jump 22 = .ok (.ishl, 1) := by decide +kernel
theorem dX18_jump_23 : decode cX18_jump 23 = .ok (.ior, 1) := by decide +kernel
theorem dX18_jump_24 : decode cX18_jump 24 = .ok (.aload_n 0, 1) := by decide +kernel
theorem dX18_jump_25 : decode cX18_jump 25 = .ok (.iconst 2, 1) := by decide +kernel
theorem dX18_jump_26 : decode cX18_jump 26 = .ok (.iconst 1, 1) := by decide +kernel
theorem dX18_jump_27 : decode cX18_jump 27 = .ok (.invokevirtual 172, 3) := by decide +kernel
theorem dX18_jump_30 : decode cX18_jump 30 = .ok (.iconst 5, 1) := by decide +kernel
theorem dX18_jump_31 : decode cX18_jump 31 = .ok (.ishl, 1) := by decide +kernel
theorem dX18_jump_32 : decode cX18_jump 32 = .ok (.ior, 1) := by decide +kernel
theorem dX18_jump_33 : decode cX18_jump 33 = .ok (.aload_n 0, 1) := by decide +kernel
theorem dX18_jump_34 : decode cX18_jump 34 = .ok (.bipush 7, 2) := by decide +kernel
theorem dX18_jump_36 : decode cX18_jump 36 = .ok (.iconst 1, 1) := by decide +kernel
theorem dX18_jump_37 : decode cX18_jump 37 = .ok (.invokevirtual 172, 3) := by decide +kernel
theorem dX18_jump_40 : decode cX18_jump 40 = .ok (.bipush 6, 2) := by decide +kernel
theorem dX18_jump_42 : decode cX18_jump 42 = .ok (.ishl, 1) := by decide +kernel
theorem dX18_jump_43 : decode cX18_jump 43 = .ok (.ior, 1) := by decide +kernel
theorem dX18_jump_44 : decode cX18_jump 44 = .ok (.aload_n 0, 1) := by decide +kernel
theorem dX18_jump_45 : decode cX18_jump 45 = .ok (.bipush 6, 2) := by decide +kernel
theorem dX18_jump_47 : decode cX18_jump 47 = .ok (.iconst 1, 1) := by decide +kernel
theorem dX18_jump_48 : decode cX18_jump 48 = .ok (.invokevirtual 172, 3) := by decide +kernel
theorem dX18_jump_51 : decode cX18_jump 51 = .ok (.bipush 7, 2) := by decide +kernel
theorem dX18_jump_53 : decode cX18_jump 53 = .ok (.ishl, 1) := by decide +kernel
theorem dX18_jump_54 : decode cX18_jump 54 = .ok (.ior, 1) := by decide +kernel
theorem dX18_jump_55 : decode cX18_jump 55 = .ok (.aload_n 0, 1) := by decide +kernel
theorem dX18_jump_56 : decode cX18_jump 56 = .ok (.bipush 9, 2) := by decide +kernel
theorem dX18_jump_58 : decode cX18_jump 58 = .ok (.iconst 2, 1) := by decide +kernel
theorem dX18_jump_59 : decode cX18_jump 59 = .ok (.invokevirtual 172, 3) := by decide +kernel
theorem dX18_jump_62 : decode cX18_jump 62 = .ok (.bipush 8, 2) := by decide +kernel
theorem dX18_jump_64 : decode cX18_jump 64 = .ok (.ishl, 1) := by decide +kernel
theorem dX18_jump_65 : decode cX18_jump 65 = .ok (.ior, 1) := by decide +kernel
theorem dX18_jump_66 : decode cX18_jump 66 = .ok (.aload_n 0, 1) := by decide +kernel
theorem dX18_jump_67 : decode cX18_jump 67 = .ok (.bipush 8, 2) := by decide +kernel
theorem dX18_jump_69 : decode cX18_jump 69 = .ok (.iconst 1, 1) := by decide +kernel
theorem dX18_jump_70 : decode cX18_jump 70 = .ok (.invokevirtual 172, 3) := by decide +kernel
theorem dX18_jump_73 : decode cX18_jump 73 = .ok (.bipush 10, 2) := by decide +kernel
theorem dX18_jump_75 : decode cX18_jump 75 = .ok (.ishl, 1) := by decide +kernel
theorem dX18_jump_76 : decode cX18_jump 76 = .ok (.ior, 1) := by decide +kernel
theorem dX18_jump_77 : decode cX18_jump 77 = .ok (.aload_n 0, 1) := by decide +kernel
theorem dX18_jump_78 : decode cX18_jump 78 = .ok (.bipush 12, 2) := by decide +kernel
theorem dX18_jump_80 : decode cX18_jump 80 = .ok (.iconst 1, 1) := by decide +kernel
theorem dX18_jump_81 : decode cX18_jump 81 = .ok (.invokevirtual 172, 3) := by decide +kernel
theorem dX18_jump_84 : decode cX18_jump 84 = .ok (.ineg, 1) := by decide +kernel
theorem dX18_jump_85 : decode cX18_jump 85 = .ok (.bipush 11, 2) := by decide +kernel
theorem dX18_jump_87 : decode cX18_jump 87 = .ok (.ishl, 1) := by decide +kernel
theorem dX18_jump_88 : decode cX18_jump 88 = .ok (.ior, 1) := by decide +kernel
theorem dX18_jump_89 : decode cX18_jump 89 = .ok (.invokevirtual 176, 3) := by decide +kernel
theorem dX18_jump_92 : decode cX18_jump 92 = .ok (.return_, 1) := by decide +kernel
theorem dX18_reckon_0 : decode cX18_reckon 0 = .ok (.bipush 8, 2) := by decide +kernel
theorem dX18_reckon_2 : decode cX18_reckon 2 = .ok (.aload_n 0, 1) := by decide +kernel
theorem dX18_reckon_3 : decode cX18_reckon 3 = .ok (.iconst 2, 1) := by decide +kernel
theorem dX18_reckon_4 : decode cX18_reckon 4 = .ok (.iconst 3, 1) := by decide +kernel
theorem dX18_reckon_5 : decode cX18_reckon 5 = .ok (.invokevirtual 172, 3) := by decide +kernel
theorem dX18_reckon_8 : decode cX18_reckon 8 = .ok (.iadd, 1) := by decide +kernel
theorem dX18_reckon_9 : decode cX18_reckon 9 = .ok (.istore_n 2, 1) := by decide +kernel
theorem dX18_reckon_10 : decode cX18_reckon 10 = .ok (.bipush 8, 2) := by decide +kernel
theorem dX18_reckon_12 : decode cX18_reckon 12 = .ok (.aload_n 0, 1) := by decide +kernel
theorem dX18_reckon_13 : decode cX18_reckon 13 = .ok (.bipush 7, 2) := by decide +kernel
theorem dX18_reckon_15 : decode cX18_reckon 15 = .ok (.iconst 3, 1) := by decide +kernel
theorem dX18_reckon_16 : decode cX18_reckon 16 = .ok (.invokevirtual 172, 3) := by decide +kernel
theorem dX18_reckon_19 : decode cX18_reckon 19 = .ok (.iadd, 1) := by decide +kernel
theorem dX18_reckon_20 : decode cX18_reckon 20 = .ok (.istore_n 3, 1) := by decide +kernel
theorem dX18_reckon_21 : decode cX18_reckon 21 = .ok (.iload_n 1, 1) := by decide +kernel
theorem dX18_reckon_22 : decode cX18_reckon 22 = .ok (.iconst 2, 1) := by decide +kernel
theorem dX18_reckon_23 : decode cX18_reckon 23 = .ok (.if_icmp .eq 15, 3) := by decide +kernel
theorem dX18_reckon_26 : decode cX18_reckon 26 = .ok (.aload_n 0, 1) := by decide +kernel
theorem dX18_reckon_27 : decode cX18_reckon 27 = .ok (.bipush 12, 2) := by decide +kernel
theorem dX18_reckon_29 : decode cX18_reckon 29 = .ok (.iconst 1, 1) := by decide +kernel
theorem dX18_reckon_30 : decode cX18_reckon 30 = .ok (.invokevirtual 172, 3) := by decide +kernel
theorem dX18_reckon_33 : decode cX18_reckon 33 = .ok (.iconst 1, 1) := by decide +kernel
theorem dX18_reckon_34 : decode cX18_reckon 34 = .ok (.if_icmp .ne 4, 3) := by decide +kernel
theorem dX18_reckon_37 : decode cX18_reckon 37 = .ok (.return_, 1) := by decide +kernel
theorem dX18_reckon_38 : decode cX18_reckon 38 = .ok (.iload_n 1, 1) := by decide +kernel
theorem dX18_reckon_39 : decode cX18_reckon 39 = .ok (.iconst 3, 1) := by decide +kernel
theorem dX18_reckon_40 : decode cX18_reckon 40 = .ok (.if_icmp .ge 59, 3) := by decide +kernel
theorem dX18_reckon_43 : decode cX18_reckon 43 = .ok (.aload_n 0, 1) := by decide +kernel
theorem dX18_reckon_44 : decode cX18_reckon 44 = .ok (.iload_n 1, 1) := by decide +kernel
theorem dX18_reckon_45 : decode cX18_reckon 45 = .ok (.ifCond .ne 9, 3) := by decide +kernel
theorem dX18_reckon_48 : decode cX18_reckon 48 = .ok (.ldc2_w 261, 3) := by decide +kernel
theorem dX18_reckon_51 : decode cX18_reckon 51 = .ok (.goto 17, 3) := by decide +kernel
theorem dX18_reckon_54 : decode cX18_reckon 54 = .ok (.iload_n 1, 1) := by decide +kernel
theorem dX18_reckon_55 : decode cX18_reckon 55 = .ok (.iconst 1, 1) := by decide +kernel
theorem dX18_reckon_56 : decode cX18_reckon 56 = .ok (.if_icmp .ne 9, 3) := by decide +kernel
theorem dX18_reckon_59 : decode cX18_reckon 59 = .ok (.ldc2_w 263, 3) := by decide +kernel
theorem dX18_reckon_62 : decode cX18_reckon 62 = .ok (.goto 6, 3) := by decide +kernel
theorem dX18_reckon_65 : decode cX18_reckon 65 = .ok (.ldc2_w 265, 3) := by decide +kernel
theorem dX18_reckon_68 : decode cX18_reckon 68 = .ok (.invokevirtual 65, 3) := by decide +kernel
theorem dX18_reckon_71 : decode cX18_reckon 71 = .ok (.aload_n 0, 1) := by decide +kernel
theorem dX18_reckon_72 : decode cX18_reckon 72 = .ok (.iload_n 3, 1) := by decide +kernel
theorem dX18_reckon_73 : decode cX18_reckon 73 = .ok (.invokevirtual 71, 3) := by decide +kernel
theorem dX18_reckon_76 : decode cX18_reckon 76 = .ok (.aload_n 0, 1) := by decide +kernel
theorem dX18_reckon_77 : decode cX18_reckon 77 = .ok (.iload_n 1, 1) := by decide +kernel
theorem dX18_reckon_78 : decode cX18_reckon 78 = .ok (.iconst 2, 1) := by decide +kernel
theorem dX18_reckon_79 : decode cX18_reckon 79 = .ok (.if_icmp .ne 10, 3) := by decide +kernel
theorem dX18_reckon_82 : decode cX18_reckon 82 = .ok (.aload_n 0, 1) := by decide +kernel
theorem dX18_reckon_83 : decode cX18_reckon 83 = .ok (.invokevirtual 267, 3) := by decide +kernel
theorem dX18_reckon_86 : decode cX18_reckon 86 = .ok (.goto 9, 3) := by decide +kernel
theorem dX18_reckon_89 : decode cX18_reckon 89 = .ok (.aload_n 0, 1) := by decide +kernel
theorem dX18_reckon_90 : decode cX18_reckon 90 = .ok (.iconst 2, 1) := by decide +kernel
theorem dX18_reckon_91 : decode cX18_reckon 91 = .ok (.iconst 5, 1) := by decide +kernel
theorem dX18_reckon_92 : decode cX18_reckon 92 = .ok (.invokevirtual 172, 3) := by decide +kernel
theorem dX18_reckon_95 : decode cX18_reckon 95 = .ok (.invokevirtual 59, 3) := by decide +kernel
theorem dX18_reckon_98 : decode cX18_reckon 98 = .ok (.return_, 1) := by decide +kernel
theorem dX18_reckon_99 : decode cX18_reckon 99 = .ok (.aload_n 0, 1) := by decide +kernel
theorem dX18_reckon_100 : decode cX18_reckon 100 = .ok (.iconst 5, 1) := by decide +kernel
theorem dX18_reckon_101 : decode cX18_reckon 101 = .ok (.iconst 2, 1) := by decide +kernel
theorem dX18_reckon_102 : decode cX18_reckon 102 = .ok (.invokevirtual 172, 3) := by decide +kernel
theorem dX18_reckon_105 : decode cX18_reckon 105 = .ok (.istore 4, 2) := by decide +kernel
theorem dX18_reckon_107 : decode cX18_reckon 107 = .ok (.aload_n 0, 1) := by decide +kernel
theorem dX18_reckon_108 : decode cX18_reckon 108 = .ok (.iload 4, 2) := by decide +kernel
theorem dX18_reckon_110 : decode cX18_reckon 110 = .ok (.ifCond .ne 9, 3) := by decide +kernel
theorem dX18_reckon_113 : decode cX18_reckon 113 = .ok (.ldc2_w 271, 3) := by decide +kernel
theorem dX18_reckon_116 : decode cX18_reckon 116 = .ok (.goto 30, 3) := by decide +kernel
theorem dX18_reckon_119 : decode cX18_reckon 119 = .ok (.iload 4, 2) := by decide +kernel
theorem dX18_reckon_121 : decode cX18_reckon 121 = .ok (.iconst 1, 1) := by decide +kernel
theorem dX18_reckon_122 : decode cX18_reckon 122 = .ok (.if_icmp .ne 9, 3) := by decide +kernel
theorem dX18_reckon_125 : decode cX18_reckon 125 = .ok (.ldc2_w 273, 3) := by decide +kernel
theorem dX18_reckon_128 : decode cX18_reckon 128 = .ok (.goto 18, 3) := by decide +kernel
theorem dX18_reckon_131 : decode cX18_reckon 131 = .ok (.iload 4, 2) := by decide +kernel
theorem dX18_reckon_133 : decode cX18_reckon 133 = .ok (.iconst 2, 1) := by decide +kernel
theorem dX18_reckon_134 : decode cX18_reckon 134 = .ok (.if_icmp .ne 9, 3) := by decide +kernel
theorem dX18_reckon_137 : decode cX18_reckon 137 = .ok (.ldc2_w 275, 3) := by decide +kernel
theorem dX18_reckon_140 : decode cX18_reckon 140 = .ok (.goto 6, 3) := by decide +kernel
theorem dX18_reckon_143 : decode cX18_reckon 143 = .ok (.ldc2_w 277, 3) := by decide +kernel
theorem dX18_reckon_146 : decode cX18_reckon 146 = .ok (.invokevirtual 65, 3) := by decide +kernel
theorem dX18_reckon_149 : decode cX18_reckon 149 = .ok (.aload_n 0, 1) := by decide +kernel
theorem dX18_reckon_150 : decode cX18_reckon 150 = .ok (.iload_n 3, 1) := by decide +kernel
theorem dX18_reckon_151 : decode cX18_reckon 151 = .ok (.invokevirtual 71, 3) := by decide +kernel
theorem dX18_reckon_154 : decode cX18_reckon 154 = .ok (.aload_n 0, 1) := by decide +kernel
theorem dX18_reckon_155 : decode cX18_reckon 155 = .ok (.iload_n 2, 1) := by decide +kernel
theorem dX18_reckon_156 : decode cX18_reckon 156 = .ok (.invokevirtual 71, 3) := by decide +kernel
theorem dX18_reckon_159 : decode cX18_reckon 159 = .ok (.return_, 1) := by decide +kernel
theorem dX18_upper_0 : decode cX18_upper 0 = .ok (.aload_n 0, 1) := by decide +kernel
theorem dX18_upper_1 : decode cX18_upper 1 = .ok (.bipush 6, 2) := by decide +kernel
theorem dX18_upper_3 : decode cX18_upper 3 = .ok (.iconst 1, 1) := by decide +kernel
theorem dX18_upper_4 : decode cX18_upper 4 = .ok (.invokevirtual 172, 3) := by decide +kernel
theorem dX18_upper_7 : decode cX18_upper 7 = .ok (.iconst 4, 1) := by decide +kernel
theorem dX18_upper_8 : decode cX18_upper 8 = .ok (.ishl, 1) := by decide +kernel
theorem dX18_upper_9 : decode cX18_upper 9 = .ok (.aload_n 0, 1) := by decide +kernel
theorem dX18_upper_10 : decode cX18_upper 10 = .ok (.iconst 5, 1) := by decide +kernel
theorem dX18_upper_11 : decode cX18_upper 11 = .ok (.iconst 1, 1) := by decide +kernel
theorem dX18_upper_12 : decode cX18_upper 12 = .ok (.invokevirtual 172, 3) := by decide +kernel
theorem dX18_upper_15 : decode cX18_upper 15 = .ok (.bipush 6, 2) := by decide +kernel
theorem dX18_upper_17 : decode cX18_upper 17 = .ok (.ishl, 1) := by decide +kernel
theorem dX18_upper_18 : decode cX18_upper 18 = .ok (.ior, 1) := by decide +kernel
theorem dX18_upper_19 : decode cX18_upper 19 = .ok (.aload_n 0, 1) := by decide +kernel
theorem dX18_upper_20 : decode cX18_upper 20 = .ok (.iconst 3, 1) := by decide +kernel
theorem dX18_upper_21 : decode cX18_upper 21 = .ok (.iconst 2, 1) := by decide +kernel
theorem dX18_upper_22 : decode cX18_upper 22 = .ok (.invokevirtual 172, 3) := by decide +kernel
theorem dX18_upper_25 : decode cX18_upper 25 = .ok (.bipush 7, 2) := by decide +kernel
theorem dX18_upper_27 : decode cX18_upper 27 = .ok (.ishl, 1) := by decide +kernel
theorem dX18_upper_28 : decode cX18_upper 28 = .ok (.ior, 1) := by decide +kernel
theorem dX18_upper_29 : decode cX18_upper 29 = .ok (.aload_n 0, 1) := by decide +kernel
theorem dX18_upper_30 : decode cX18_upper 30 = .ok (.iconst 2, 1) := by decide +kernel
theorem dX18_upper_31 : decode cX18_upper 31 = .ok (.iconst 1, 1) := by decide +kernel
theorem dX18_upper_32 : decode cX18_upper 32 = .ok (.invokevirtual 172, 3) := by decide +kernel
theorem dX18_upper_35 : decode cX18_upper 35 = .ok (.iconst 5, 1) := by decide +kernel
theorem dX18_upper_36 : decode cX18_upper 36 = .ok (.ishl, 1) := by decide +kernel
theorem dX18_upper_37 : decode cX18_upper 37 = .ok (.ior, 1) := by decide +kernel
theorem dX18_upper_38 : decode cX18_upper 38 = .ok (.aload_n 0, 1) := by decide +kernel
theorem dX18_upper_39 : decode cX18_upper 39 = .ok (.bipush 12, 2) := by decide +kernel
theorem dX18_upper_41 : decode cX18_upper 41 = .ok (.iconst 1, 1) := by decide +kernel
theorem dX18_upper_42 : decode cX18_upper 42 = .ok (.invokevirtual 172, 3) := by decide +kernel
theorem dX18_upper_45 : decode cX18_upper 45 = .ok (.ineg, 1) := by decide +kernel
theorem dX18_upper_46 : decode cX18_upper 46 = .ok (.bipush 9, 2) := by decide +kernel
theorem dX18_upper_48 : decode cX18_upper 48 = .ok (.ishl, 1) := by decide +kernel
theorem dX18_upper_49 : decode cX18_upper 49 = .ok (.ior, 1) := by decide +kernel
theorem dX18_upper_50 : decode cX18_upper 50 = .ok (.istore_n 1, 1) := by decide +kernel
theorem dX18_upper_51 : decode cX18_upper 51 = .ok (.aload_n 0, 1) := by decide +kernel
theorem dX18_upper_52 : decode cX18_upper 52 = .ok (.getfield 68, 3) := by decide +kernel
theorem dX18_upper_55 : decode cX18_upper 55 = .ok (.iconst 2, 1) := by decide +kernel
theorem dX18_upper_56 : decode cX18_upper 56 = .ok (.if_icmp .ne 10, 3) := by decide +kernel
theorem dX18_upper_59 : decode cX18_upper 59 = .ok (.iload_n 1, 1) := by decide +kernel
theorem dX18_upper_60 : decode cX18_upper 60 = .ok (.ifCond .ne 14, 3) := by decide +kernel
theorem dX18_upper_63 : decode cX18_upper 63 = .ok (.goto 10, 3) := by decide +kernel
theorem dX18_upper_66 : decode cX18_upper 66 = .ok (.aload_n 0, 1) := by decide +kernel
theorem dX18_upper_67 : decode cX18_upper 67 = .ok (.invokevirtual 267, 3) := by decide +kernel
theorem dX18_upper_70 : decode cX18_upper 70 = .ok (.ifCond .ne 4, 3) := by decide +kernel
theorem dX18_upper_73 : decode cX18_upper 73 = .ok (.return_, 1) := by decide +kernel
theorem dX18_upper_74 : decode cX18_upper 74 = .ok (.aload_n 0, 1) := by decide +kernel
theorem dX18_upper_75 : decode cX18_upper 75 = .ok (.getfield 68, 3) := by decide +kernel
theorem dX18_upper_78 : decode cX18_upper 78 = .ok (.iconst 2, 1) := by decide +kernel
theorem dX18_upper_79 : decode cX18_upper 79 = .ok (.if_icmp .ne 23, 3) := by decide +kernel
theorem dX18_upper_82 : decode cX18_upper 82 = .ok (.aload_n 0, 1) := by decide +kernel
theorem dX18_upper_83 : decode cX18_upper 83 = .ok (.ldc2_w 279, 3) := by decide +kernel
theorem dX18_upper_86 : decode cX18_upper 86 = .ok (.invokevirtual 65, 3) := by decide +kernel
theorem dX18_upper_89 : decode cX18_upper 89 = .ok (.aload_n 0, 1) := by decide +kernel
theorem dX18_upper_90 : decode cX18_upper 90 = .ok (.ldc2_w 281, 3) := by decide +kernel
theorem dX18_upper_93 : decode cX18_upper 93 = .ok (.invokevirtual 50, 3) := by decide +kernel
theorem dX18_upper_96 : decode cX18_upper 96 = .ok (.aload_n 0, 1) := by decide +kernel
theorem dX18_upper_97 : decode cX18_upper 97 = .ok (.iload_n 1, 1) := by decide +kernel
theorem dX18_upper_98 : decode cX18_upper 98 = .ok (.invokevirtual 59, 3) := by decide +kernel
theorem dX18_upper_101 : decode cX18_upper 101 = .ok (.return_, 1) := by decide +kernel
theorem dX18_upper_102 : decode cX18_upper 102 = .ok (.aload_n 0, 1) := by decide +kernel
theorem dX18_upper_103 : decode cX18_upper 103 = .ok (.ldc2_w 283, 3) := by decide +kernel
theorem dX18_upper_106 : decode cX18_upper 106 = .ok (.invokevirtual 65, 3) := by decide +kernel
theorem dX18_upper_109 : decode cX18_upper 109 = .ok (.aload_n 0, 1) := by decide +kernel
theorem dX18_upper_110 : decode cX18_upper 110 = .ok (.aload_n 0, 1) := by decide +kernel
theorem dX18_upper_111 : decode cX18_upper 111 = .ok (.getfield 68, 3) := by decide +kernel
theorem dX18_upper_114 : decode cX18_upper 114 = .ok (.invokevirtual 71, 3) := by decide +kernel
theorem dX18_upper_117 : decode cX18_upper 117 = .ok (.aload_n 0, 1) := by decide +kernel
theorem dX18_upper_118 : decode cX18_upper 118 = .ok (.aload_n 0, 1) := by decide +kernel
theorem dX18_upper_119 : decode cX18_upper 119 = .ok (.invokevirtual 267, 3) := by decide +kernel
theorem dX18_upper_122 : decode cX18_upper 122 = .ok (.invokevirtual 59, 3) := by decide +kernel
theorem dX18_upper_125 : decode cX18_upper 125 = .ok (.return_, 1) := by decide +kernel
theorem dX18_second_0 : decode cX18_second 0 = .ok (.aload_n 0, 1) := by decide +kernel
theorem dX18_second_1 : decode cX18_second 1 = .ok (.getfield 20, 3) := by decide +kernel
theorem dX18_second_4 : decode cX18_second 4 = .ok (.iconst 1, 1) := by decide +kernel
theorem dX18_second_5 : decode cX18_second 5 = .ok (.if_icmp .ne 13, 3) := by decide +kernel
theorem dX18_second_8 : decode cX18_second 8 = .ok (.aload_n 0, 1) := by decide +kernel
theorem dX18_second_9 : decode cX18_second 9 = .ok (.ldc2_w 285, 3) := by decide +kernel
theorem dX18_second_12 : decode cX18_second 12 = .ok (.invokevirtual 65, 3) := by decide +kernel
theorem dX18_second_15 : decode cX18_second 15 = .ok (.goto 223, 3) := by decide +kernel
theorem dX18_second_18 : decode cX18_second 18 = .ok (.aload_n 0, 1) := by decide +kernel
theorem dX18_second_19 : decode cX18_second 19 = .ok (.getfield 80, 3) := by decide +kernel
theorem dX18_second_22 : decode cX18_second 22 = .ok (.ifCond .eq 11, 3) := by decide +kernel
theorem dX18_second_25 : decode cX18_second 25 = .ok (.aload_n 0, 1) := by decide +kernel
theorem dX18_second_26 : decode cX18_second 26 = .ok (.getfield 80, 3) := by decide +kernel
theorem dX18_second_29 : decode cX18_second 29 = .ok (.iconst 2, 1) := by decide +kernel
theorem dX18_second_30 : decode cX18_second 30 = .ok (.if_icmp .ne 42, 3) := by decide +kernel
theorem dX18_second_33 : decode cX18_second 33 = .ok (.aload_n 0, 1) := by decide +kernel
theorem dX18_second_34 : decode cX18_second 34 = .ok (.aload_n 0, 1) := by decide +kernel
theorem dX18_second_35 : decode cX18_second 35 = .ok (.getfield 80, 3) := by decide +kernel
theorem dX18_second_38 : decode cX18_second 38 = .ok (.ifCond .ne 9, 3) := by decide +kernel
theorem dX18_second_41 : decode cX18_second 41 = .ok (.ldc2_w 287, 3) := by decide +kernel
theorem dX18_second_44 : decode cX18_second 44 = .ok (.goto 6, 3) := by decide +kernel
theorem dX18_second_47 : decode cX18_second 47 = .ok (.ldc2_w 289, 3) := by decide +kernel
theorem dX18_second_50 : decode cX18_second 50 = .ok (.invokevirtual 65, 3) := by decide +kernel
theorem dX18_second_53 : decode cX18_second 53 = .ok (.aload_n 0, 1) := by decide +kernel
theorem dX18_second_54 : decode cX18_second 54 = .ok (.aload_n 0, 1) := by decide +kernel
theorem dX18_second_55 : decode cX18_second 55 = .ok (.getfield 68, 3) := by decide +kernel
theorem dX18_second_58 : decode cX18_second 58 = .ok (.invokevirtual 71, 3) := by decide +kernel
theorem dX18_second_61 : decode cX18_second 61 = .ok (.aload_n 0, 1) := by decide +kernel
theorem dX18_second_62 : decode cX18_second 62 = .ok (.aload_n 0, 1) := by decide +kernel
theorem dX18_second_63 : decode cX18_second 63 = .ok (.invokevirtual 267, 3) := by decide +kernel
theorem dX18_second_66 : decode cX18_second 66 = .ok (.invokevirtual 59, 3) := by decide +kernel
theorem dX18_second_69 : decode cX18_second 69 = .ok (.goto 169, 3) := by decide +kernel
theorem dX18_second_72 : decode cX18_second 72 = .ok (.aload_n 0, 1) := by decide +kernel
theorem dX18_second_73 : decode cX18_second 73 = .ok (.getfield 80, 3) := by decide +kernel
theorem dX18_second_76 : decode cX18_second 76 = .ok (.iconst 1, 1) := by decide +kernel
theorem dX18_second_77 : decode cX18_second 77 = .ok (.if_icmp .eq 11, 3) := by decide +kernel
theorem dX18_second_80 : decode cX18_second 80 = .ok (.aload_n 0, 1) := by decide +kernel
theorem dX18_second_81 : decode cX18_second 81 = .ok (.getfield 80, 3) := by decide +kernel
theorem dX18_second_84 : decode cX18_second 84 = .ok (.iconst 5, 1) := by decide +kernel
theorem dX18_second_85 : decode cX18_second 85 = .ok (.if_icmp .ne 27, 3) := by decide +kernel
theorem dX18_second_88 : decode cX18_second 88 = .ok (.aload_n 0, 1) := by decide +kernel
theorem dX18_second_89 : decode cX18_second 89 = .ok (.aload_n 0, 1) := by decide +kernel
theorem dX18_second_90 : decode cX18_second 90 = .ok (.getfield 80, 3) := by decide +kernel
theorem dX18_second_93 : decode cX18_second 93 = .ok (.iconst 1, 1) := by decide +kernel
theorem dX18_second_94 : decode cX18_second 94 = .ok (.if_icmp .ne 9, 3) := by decide +kernel
theorem dX18_second_97 : decode cX18_second 97 = .ok (.ldc2_w 291, 3) := by decide +kernel
theorem dX18_second_100 : decode cX18_second 100 = .ok (.goto 6, 3) := by decide +kernel
theorem dX18_second_103 : decode cX18_second 103 = .ok (.ldc2_w 293, 3) := by decide +kernel
theorem dX18_second_106 : decode cX18_second 106 = .ok (.invokevirtual 295, 3) := by decide +kernel
theorem dX18_second_109 : decode cX18_second 109 = .ok (.goto 129, 3) := by decide +kernel
theorem dX18_second_112 : decode cX18_second 112 = .ok (.aload_n 0, 1) := by decide +kernel
theorem dX18_second_113 : decode cX18_second 113 = .ok (.getfield 80, 3) := by decide +kernel
theorem dX18_second_116 : decode cX18_second 116 = .ok (.iconst 3, 1) := by decide +kernel
theorem dX18_second_117 : decode cX18_second 117 = .ok (.if_icmp .ne 10, 3) := by decide +kernel
theorem dX18_second_120 : decode cX18_second 120 = .ok (.aload_n 0, 1) := by decide +kernel
theorem dX18_second_121 : decode cX18_second 121 = .ok (.invokevirtual 298, 3) := by decide +kernel
theorem dX18_second_124 : decode cX18_second 124 = .ok (.goto 114, 3) := by decide +kernel
theorem dX18_second_127 : decode cX18_second 127 = .ok (.aload_n 0, 1) := by decide +kernel
theorem dX18_second_128 : decode cX18_second 128 = .ok (.getfield 80, 3) := by decide +kernel
theorem dX18_second_131 : decode cX18_second 131 = .ok (.iconst 4, 1) := by decide +kernel
theorem dX18_second_132 : decode cX18_second 132 = .ok (.if_icmp .ne 17, 3) := by decide +kernel
theorem dX18_second_135 : decode cX18_second 135 = .ok (.aload_n 0, 1) := by decide +kernel
theorem dX18_second_136 : decode cX18_second 136 = .ok (.aload_n 0, 1) := by decide +kernel
theorem dX18_second_137 : decode cX18_second 137 = .ok (.bipush 10, 2) := by decide +kernel
theorem dX18_second_139 : decode cX18_second 139 = .ok (.iconst 2, 1) := by decide +kernel
theorem dX18_second_140 : decode cX18_second 140 = .ok (.invokevirtual 172, 3) := by decide +kernel
theorem dX18_second_143 : decode cX18_second 143 = .ok (.invokevirtual 301, 3) := by decide +kernel
theorem dX18_second_146 : decode cX18_second 146 = .ok (.goto 92, 3) := by decide +kernel
theorem dX18_second_149 : decode cX18_second 149 = .ok (.aload_n 0, 1) := by decide +kernel
theorem dX18_second_150 : decode cX18_second 150 = .ok (.aload_n 0, 1) := by decide +kernel
theorem dX18_second_151 : decode cX18_second 151 = .ok (.getfield 80, 3) := by decide +kernel
theorem dX18_second_154 : decode cX18_second 154 = .ok (.bipush 6, 2) := by decide +kernel
theorem dX18_second_156 : decode cX18_second 156 = .ok (.if_icmp .ne 9, 3) := by decide +kernel
theorem dX18_second_159 : decode cX18_second 159 = .ok (.ldc2_w 304, 3) := by decide +kernel
theorem dX18_second_162 : decode cX18_second 162 = .ok (.goto 6, 3) := by decide +kernel
theorem dX18_second_165 : decode cX18_second 165 = .ok (.ldc2_w 306, 3) := by decide +kernel
theorem dX18_second_168 : decode cX18_second 168 = .ok (.invokevirtual 65, 3) := by decide +kernel
theorem dX18_second_171 : decode cX18_second 171 = .ok (.aload_n 0, 1) := by decide +kernel
theorem dX18_second_172 : decode cX18_second 172 = .ok (.bipush 8, 2) := by decide +kernel
theorem dX18_second_174 : decode cX18_second 174 = .ok (.aload_n 0, 1) := by decide +kernel
theorem dX18_second_175 : decode cX18_second 175 = .ok (.bipush 7, 2) := by decide +kernel
theorem dX18_second_177 : decode cX18_second 177 = .ok (.iconst 3, 1) := by decide +kernel
theorem dX18_second_178 : decode cX18_second 178 = .ok (.invokevirtual 172, 3) := by decide +kernel
theorem dX18_second_181 : decode cX18_second 181 = .ok (.iadd, 1) := by decide +kernel
theorem dX18_second_182 : decode cX18_second 182 = .ok (.invokevirtual 71, 3) := by decide +kernel
theorem dX18_second_185 : decode cX18_second 185 = .ok (.aload_n 0, 1) := by decide +kernel
theorem dX18_second_186 : decode cX18_second 186 = .ok (.aload_n 0, 1) := by decide +kernel
theorem dX18_second_187 : decode cX18_second 187 = .ok (.iconst 3, 1) := by decide +kernel
theorem dX18_second_188 : decode cX18_second 188 = .ok (.iconst 2, 1) := by decide +kernel
theorem dX18_second_189 : decode cX18_second 189 = .ok (.invokevirtual 172, 3) := by decide +kernel
theorem dX18_second_192 : decode cX18_second 192 = .ok (.iconst 1, 1) := by decide +kernel
theorem dX18_second_193 : decode cX18_second 193 = .ok (.ishl, 1) := by decide +kernel
theorem dX18_second_194 : decode cX18_second 194 = .ok (.aload_n 0, 1) := by decide +kernel
theorem dX18_second_195 : decode cX18_second 195 = .ok (.bipush 10, 2) := by decide +kernel
theorem dX18_second_197 : decode cX18_second 197 = .ok (.iconst 2, 1) := by decide +kernel
theorem dX18_second_198 : decode cX18_second 198 = .ok (.invokevirtual 172, 3) := by decide +kernel
theorem dX18_second_201 : decode cX18_second 201 = .ok (.iconst 3, 1) := by decide +kernel
theorem dX18_second_202 : decode cX18_second 202 = .ok (.ishl, 1) := by decide +kernel
theorem dX18_second_203 : decode cX18_second 203 = .ok (.ior, 1) := by decide +kernel
theorem dX18_second_204 : decode cX18_second 204 = .ok (.aload_n 0, 1) := by decide +kernel
theorem dX18_second_205 : decode cX18_second 205 = .ok (.iconst 2, 1) := by decide +kernel
theorem dX18_second_206 : decode cX18_second 206 = .ok (.iconst 1, 1) := by decide +kernel
theorem dX18_second_207 : decode cX18_second 207 = .ok (.invokevirtual 172, 3) := by decide +kernel
theorem dX18_second_210 : decode cX18_second 210 = .ok (.iconst 5, 1) := by decide +kernel
theorem dX18_second_211 : decode cX18_second 211 = .ok (.ishl, 1) := by decide +kernel
theorem dX18_second_212 : decode cX18_second 212 = .ok (.ior, 1) := by decide +kernel
theorem dX18_second_213 : decode cX18_second 213 = .ok (.aload_n 0, 1) := by decide +kernel
theorem dX18_second_214 : decode cX18_second 214 = .ok (.iconst 5, 1) := by decide +kernel
theorem dX18_second_215 : decode cX18_second 215 = .ok (.iconst 2, 1) := by decide +kernel
theorem dX18_second_216 : decode cX18_second 216 = .ok (.invokevirtual 172, 3) := by decide +kernel
theorem dX18_second_219 : decode cX18_second 219 = .ok (.bipush 6, 2) := by decide +kernel
theorem dX18_second_221 : decode cX18_second 221 = .ok (.ishl, 1) := by decide +kernel
theorem dX18_second_222 : decode cX18_second 222 = .ok (.ior, 1) := by decide +kernel
theorem dX18_second_223 : decode cX18_second 223 = .ok (.aload_n 0, 1) := by decide +kernel
theorem dX18_second_224 : decode cX18_second 224 = .ok (.bipush 12, 2) := by decide +kernel
theorem dX18_second_226 : decode cX18_second 226 = .ok (.iconst 1, 1) := by decide +kernel
theorem dX18_second_227 : decode cX18_second 227 = .ok (.invokevirtual 172, 3) := by decide +kernel
theorem dX18_second_230 : decode cX18_second 230 = .ok (.ineg, 1) := by decide +kernel
theorem dX18_second_231 : decode cX18_second 231 = .ok (.bipush 8, 2) := by decide +kernel
theorem dX18_second_233 : decode cX18_second 233 = .ok (.ishl, 1) := by decide +kernel
theorem dX18_second_234 : decode cX18_second 234 = .ok (.ior, 1) := by decide +kernel
theorem dX18_second_235 : decode cX18_second 235 = .ok (.invokevirtual 176, 3) := by decide +kernel
theorem dX18_second_238 : decode cX18_second 238 = .ok (.return_, 1) := by decide +kernel
theorem dX18_third_0 : decode cX18_third 0 = .ok (.aload_n 0, 1) := by decide +kernel
theorem dX18_third_1 : decode cX18_third 1 = .ok (.bipush 12, 2) := by decide +kernel
theorem dX18_third_3 : decode cX18_third 3 = .ok (.iconst 1, 1) := by decide +kernel
theorem dX18_third_4 : decode cX18_third 4 = .ok (.invokevirtual 172, 3) := by decide +kernel
theorem dX18_third_7 : decode cX18_third 7 = .ok (.iconst 1, 1) := by decide +kernel
theorem dX18_third_8 : decode cX18_third 8 = .ok (.if_icmp .ne 7, 3) := by decide +kernel
theorem dX18_third_11 : decode cX18_third 11 = .ok (.iconst 1, 1) := by decide +kernel
theorem dX18_third_12 : decode cX18_third 12 = .ok (.goto 4, 3) := by decide +kernel
theorem dX18_third_15 : decode cX18_third 15 = .ok (.iconst 0, 1) := by decide +kernel
theorem dX18_third_16 : decode cX18_third 16 = .ok (.istore_n 1, 1) := by decide +kernel
theorem dX18_third_17 : decode cX18_third 17 = .ok (.aload_n 0, 1) := by decide +kernel
theorem dX18_third_18 : decode cX18_third 18 = .ok (.aload_n 0, 1) := by decide +kernel
theorem dX18_third_19 : decode cX18_third 19 = .ok (.iconst 2, 1) := by decide +kernel
theorem dX18_third_20 : decode cX18_third 20 = .ok (.iconst 5, 1) := by decide +kernel
theorem dX18_third_21 : decode cX18_third 21 = .ok (.invokevirtual 172, 3) := by decide +kernel
theorem dX18_third_24 : decode cX18_third 24 = .ok (.putfield 77, 3) := by decide +kernel
theorem dX18_third_27 : decode cX18_third 27 = .ok (.aload_n 0, 1) := by decide +kernel
theorem dX18_third_28 : decode cX18_third 28 = .ok (.getfield 80, 3) := by decide +kernel
theorem dX18_third_31 : decode cX18_third 31 = .ok (.ifCond .ne 33, 3) := by decide +kernel
theorem dX18_third_34 : decode cX18_third 34 = .ok (.iload_n 1, 1) := by decide +kernel
theorem dX18_third_35 : decode cX18_third 35 = .ok (.ifCond .ne 29, 3) := by decide +kernel
theorem dX18_third_38 : decode cX18_third 38 = .ok (.aload_n 0, 1) := by decide +kernel
theorem dX18_third_39 : decode cX18_third 39 = .ok (.ldc2_w 308, 3) := by decide +kernel
theorem dX18_third_42 : decode cX18_third 42 = .ok (.invokevirtual 65, 3) := by decide +kernel
theorem dX18_third_45 : decode cX18_third 45 = .ok (.aload_n 0, 1) := by decide +kernel
theorem dX18_third_46 : decode cX18_third 46 = .ok (.aload_n 0, 1) := by decide +kernel
theorem dX18_third_47 : decode cX18_third 47 = .ok (.getfield 68, 3) := by decide +kernel
theorem dX18_third_50 : decode cX18_third 50 = .ok (.invokevirtual 71, 3) := by decide +kernel
theorem dX18_third_53 : decode cX18_third 53 = .ok (.aload_n 0, 1) := by decide +kernel
theorem dX18_third_54 : decode cX18_third 54 = .ok (.aload_n 0, 1) := by decide +kernel
theorem dX18_third_55 : decode cX18_third 55 = .ok (.getfield 77, 3) := by decide +kernel
theorem dX18_third_58 : decode cX18_third 58 = .ok (.invokevirtual 59, 3) := by decide +kernel
theorem dX18_third_61 : decode cX18_third 61 = .ok (.goto 232, 3) := by decide +kernel
theorem dX18_third_64 : decode cX18_third 64 = .ok (.aload_n 0, 1) := by decide +kernel
theorem dX18_third_65 : decode cX18_third 65 = .ok (.getfield 80, 3) := by decide +kernel
theorem dX18_third_68 : decode cX18_third 68 = .ok (.iconst 2, 1) := by decide +kernel
theorem dX18_third_69 : decode cX18_third 69 = .ok (.if_icmp .ne 60, 3) := by decide +kernel
theorem dX18_third_72 : decode cX18_third 72 = .ok (.aload_n 0, 1) := by decide +kernel
theorem dX18_third_73 : decode cX18_third 73 = .ok (.getfield 68, 3) := by decide +kernel
theorem dX18_third_76 : decode cX18_third 76 = .ok (.ifCond .eq 53, 3) := by decide +kernel
theorem dX18_third_79 : decode cX18_third 79 = .ok (.aload_n 0, 1) := by decide +kernel
theorem dX18_third_80 : decode cX18_third 80 = .ok (.ldc2_w 310, 3) := by decide +kernel
theorem dX18_third_83 : decode cX18_third 83 = .ok (.invokevirtual 65, 3) := by decide +kernel
theorem dX18_third_86 : decode cX18_third 86 = .ok (.aload_n 0, 1) := by decide +kernel
theorem dX18_third_87 : decode cX18_third 87 = .ok (.aload_n 0, 1) := by decide +kernel
theorem dX18_third_88 : decode cX18_third 88 = .ok (.getfield 68, 3) := by decide +kernel
theorem dX18_third_91 : decode cX18_third 91 = .ok (.invokevirtual 71, 3) := by decide +kernel
theorem dX18_third_94 : decode cX18_third 94 = .ok (.aload_n 0, 1) := by decide +kernel
theorem dX18_third_95 : decode cX18_third 95 = .ok (.aload_n 0, 1) := by decide +kernel
theorem dX18_third_96 : decode cX18_third 96 = .ok (.bipush 12, 2) := by decide +kernel
theorem dX18_third_98 : decode cX18_third 98 = .ok (.iconst 1, 1) := by decide +kernel
theorem dX18_third_99 : decode cX18_third 99 = .ok (.invokevirtual 172, 3) := by decide +kernel
theorem dX18_third_102 : decode cX18_third 102 = .ok (.iconst 5, 1) := by decide +kernel
theorem dX18_third_103 : decode cX18_third 103 = .ok (.ishl, 1) := by decide +kernel
theorem dX18_third_104 : decode cX18_third 104 = .ok (.aload_n 0, 1) := by decide +kernel
theorem dX18_third_105 : decode cX18_third 105 = .ok (.iconst 4, 1) := by decide +kernel
theorem dX18_third_106 : decode cX18_third 106 = .ok (.iconst 3, 1) := by decide +kernel
theorem dX18_third_107 : decode cX18_third 107 = .ok (.invokevirtual 172, 3) := by decide +kernel
theorem dX18_third_110 : decode cX18_third 110 = .ok (.iconst 2, 1) := by decide +kernel
theorem dX18_third_111 : decode cX18_third 111 = .ok (.ishl, 1) := by decide +kernel
theorem dX18_third_112 : decode cX18_third 112 = .ok (.ior, 1) := by decide +kernel
theorem dX18_third_113 : decode cX18_third 113 = .ok (.aload_n 0, 1) := by decide +kernel
theorem dX18_third_114 : decode cX18_third 114 = .ok (.iconst 2, 1) := by decide +kernel
theorem dX18_third_115 : decode cX18_third 115 = .ok (.iconst 2, 1) := by decide +kernel
theorem dX18_third_116 : decode cX18_third 116 = .ok (.invokevirtual 172, 3) := by decide +kernel
theorem dX18_third_119 : decode cX18_third 119 = .ok (.bipush 6, 2) := by decide +kernel
theorem dX18_third_121 : decode cX18_third 121 = .ok (.ishl, 1) := by decide +kernel
theorem dX18_third_122 : decode cX18_third 122 = .ok (.ior, 1) := by decide +kernel
theorem dX18_third_123 : decode cX18_third 123 = .ok (.invokevirtual 59, 3) := by decide +kernel
theorem dX18_third_126 : decode cX18_third 126 = .ok (.goto 167, 3) := by decide +kernel
theorem dX18_third_129 : decode cX18_third 129 = .ok (.aload_n 0, 1) := by decide +kernel
theorem dX18_third_130 : decode cX18_third 130 = .ok (.getfield 80, 3) := by decide +kernel
theorem dX18_third_133 : decode cX18_third 133 = .ok (.bipush 6, 2) := by decide +kernel
theorem dX18_third_135 : decode cX18_third 135 = .ok (.if_icmp .ne 45, 3) := by decide +kernel
theorem dX18_third_138 : decode cX18_third 138 = .ok (.aload_n 0, 1) := by decide +kernel
theorem dX18_third_139 : decode cX18_third 139 = .ok (.ldc2_w 312, 3) := by decide +kernel
theorem dX18_third_142 : decode cX18_third 142 = .ok (.invokevirtual 65, 3) := by decide +kernel
theorem dX18_third_145 : decode cX18_third 145 = .ok (.aload_n 0, 1) := by decide +kernel
theorem dX18_third_146 : decode cX18_third 146 = .ok (.aload_n 0, 1) := by decide +kernel
theorem dX18_third_147 : decode cX18_third 147 = .ok (.getfield 77, 3) := by decide +kernel
theorem dX18_third_150 : decode cX18_third 150 = .ok (.invokevirtual 71, 3) := by decide +kernel
theorem dX18_third_153 : decode cX18_third 153 = .ok (.aload_n 0, 1) := by decide +kernel
theorem dX18_third_154 : decode cX18_third 154 = .ok (.aload_n 0, 1) := by decide +kernel
theorem dX18_third_155 : decode cX18_third 155 = .ok (.bipush 9, 2) := by decide +kernel
theorem dX18_third_157 : decode cX18_third 157 = .ok (.iconst 4, 1) := by decide +kernel
theorem dX18_third_158 : decode cX18_third 158 = .ok (.invokevirtual 172, 3) := by decide +kernel
theorem dX18_third_161 : decode cX18_third 161 = .ok (.iconst 2, 1) := by decide +kernel
theorem dX18_third_162 : decode cX18_third 162 = .ok (.ishl, 1) := by decide +kernel
theorem dX18_third_163 : decode cX18_third 163 = .ok (.aload_n 0, 1) := by decide +kernel
theorem dX18_third_164 : decode cX18_third 164 = .ok (.bipush 7, 2) := by decide +kernel
theorem dX18_third_166 : decode cX18_third 166 = .ok (.iconst 2, 1) := by decide +kernel
theorem dX18_third_167 : decode cX18_third 167 = .ok (.invokevirtual 172, 3) := by decide +kernel
theorem dX18_third_170 : decode cX18_third 170 = .ok (.bipush 6, 2) := by decide +kernel
theorem dX18_third_172 : decode cX18_third 172 = .ok (.ishl, 1) := by decide +kernel
theorem dX18_third_173 : decode cX18_third 173 = .ok (.ior, 1) := by decide +kernel
theorem dX18_third_174 : decode cX18_third 174 = .ok (.invokevirtual 59, 3) := by decide +kernel
theorem dX18_third_177 : decode cX18_third 177 = .ok (.goto 116, 3) := by decide +kernel
theorem dX18_third_180 : decode cX18_third 180 = .ok (.aload_n 0, 1) := by decide +kernel
theorem dX18_third_181 : decode cX18_third 181 = .ok (.getfield 80, 3) := by decide +kernel
theorem dX18_third_184 : decode cX18_third 184 = .ok (.iconst 4, 1) := by decide +kernel
theorem dX18_third_185 : decode cX18_third 185 = .ok (.if_icmp .ne 46, 3) := by decide +kernel
theorem dX18_third_188 : decode cX18_third 188 = .ok (.aload_n 0, 1) := by decide +kernel
theorem dX18_third_189 : decode cX18_third 189 = .ok (.getfield 77, 3) := by decide +kernel
theorem dX18_third_192 : decode cX18_third 192 = .ok (.ifCond .eq 39, 3) := by decide +kernel
theorem dX18_third_195 : decode cX18_third 195 = .ok (.aload_n 0, 1) := by decide +kernel
theorem dX18_third_196 : decode cX18_third 196 = .ok (.iload_n 1, 1) := by decide +kernel
theorem dX18_third_197 : decode cX18_third 197 = .ok (.ifCond .eq 9, 3) := by decide +kernel
theorem dX18_third_200 : decode cX18_third 200 = .ok (.ldc2_w 314, 3) := by decide +kernel
theorem dX18_third_203 : decode cX18_third 203 = .ok (.goto 6, 3) := by decide +kernel
theorem dX18_third_206 : decode cX18_third 206 = .ok (.ldc2_w 316, 3) := by decide +kernel
theorem dX18_third_209 : decode cX18_third 209 = .ok (.invokevirtual 65, 3) := by decide +kernel
theorem dX18_third_212 : decode cX18_third 212 = .ok (.aload_n 0, 1) := by decide +kernel
theorem dX18_third_213 : decode cX18_third 213 = .ok (.aload_n 0, 1) := by decide +kernel
theorem dX18_third_214 : decode cX18_third 214 = .ok (.getfield 68, 3) := by decide +kernel
theorem dX18_third_217 : decode cX18_third 217 = .ok (.invokevirtual 71, 3) := by decide +kernel
theorem dX18_third_220 : decode cX18_third 220 = .ok (.aload_n 0, 1) := by decide +kernel
theorem dX18_third_221 : decode cX18_third 221 = .ok (.aload_n 0, 1) := by decide +kernel
theorem dX18_third_222 : decode cX18_third 222 = .ok (.getfield 77, 3) := by decide +kernel
theorem dX18_third_225 : decode cX18_third 225 = .ok (.invokevirtual 71, 3) := by decide +kernel
theorem dX18_third_228 : decode cX18_third 228 = .ok (.goto 65, 3) := by decide +kernel
theorem dX18_third_231 : decode cX18_third 231 = .ok (.aload_n 0, 1) := by decide +kernel
theorem dX18_third_232 : decode cX18_third 232 = .ok (.getfield 80, 3) := by decide +kernel
theorem dX18_third_235 : decode cX18_third 235 = .ok (.iconst 4, 1) := by decide +kernel
theorem dX18_third_236 : decode cX18_third 236 = .ok (.if_icmp .ne 38, 3) := by decide +kernel
theorem dX18_third_239 : decode cX18_third 239 = .ok (.aload_n 0, 1) := by decide +kernel
theorem dX18_third_240 : decode cX18_third 240 = .ok (.getfield 68, 3) := by decide +kernel
theorem dX18_third_243 : decode cX18_third 243 = .ok (.ifCond .eq 31, 3) := by decide +kernel
theorem dX18_third_246 : decode cX18_third 246 = .ok (.aload_n 0, 1) := by decide +kernel
theorem dX18_third_247 : decode cX18_third 247 = .ok (.iload_n 1, 1) := by decide +kernel
theorem dX18_third_248 : decode cX18_third 248 = .ok (.ifCond .eq 9, 3) := by decide +kernel
theorem dX18_third_251 : decode cX18_third 251 = .ok (.ldc2_w 318, 3) := by decide +kernel
theorem dX18_third_254 : decode cX18_third 254 = .ok (.goto 6, 3) := by decide +kernel
theorem dX18_third_257 : decode cX18_third 257 = .ok (.ldc2_w 320, 3) := by decide +kernel
theorem dX18_third_260 : decode cX18_third 260 = .ok (.invokevirtual 65, 3) := by decide +kernel
theorem dX18_third_263 : decode cX18_third 263 = .ok (.aload_n 0, 1) := by decide +kernel
theorem dX18_third_264 : decode cX18_third 264 = .ok (.aload_n 0, 1) := by decide +kernel
theorem dX18_third_265 : decode cX18_third 265 = .ok (.getfield 68, 3) := by decide +kernel
theorem dX18_third_268 : decode cX18_third 268 = .ok (.invokevirtual 71, 3) := by decide +kernel
theorem dX18_third_271 : decode cX18_third 271 = .ok (.goto 22, 3) := by decide +kernel
theorem dX18_third_274 : decode cX18_third 274 = .ok (.aload_n 0, 1) := by decide +kernel
theorem dX18_third_275 : decode cX18_third 275 = .ok (.getfield 80, 3) := by decide +kernel
theorem dX18_third_278 : decode cX18_third 278 = .ok (.iconst 4, 1) := by decide +kernel
theorem dX18_third_279 : decode cX18_third 279 = .ok (.if_icmp .ne 14, 3) := by decide +kernel
theorem dX18_third_282 : decode cX18_third 282 = .ok (.iload_n 1, 1) := by decide +kernel
theorem dX18_third_283 : decode cX18_third 283 = .ok (.ifCond .eq 10, 3) := by decide +kernel
theorem dX18_third_286 : decode cX18_third 286 = .ok (.aload_n 0, 1) := by decide +kernel
theorem dX18_third_287 : decode cX18_third 287 = .ok (.ldc2_w 322, 3) := by decide +kernel
theorem dX18_third_290 : decode cX18_third 290 = .ok (.invokevirtual 65, 3) := by decide +kernel
theorem dX18_third_293 : decode cX18_third 293 = .ok (.return_, 1) := by decide +kernel
theorem dX18_understand_0 : decode cX18_understand 0 = .ok (.aload_n 0, 1) := by decide +kernel
theorem dX18_understand_1 : decode cX18_understand 1 = .ok (.getfield 20, 3) := by decide +kernel
theorem dX18_understand_4 : decode cX18_understand 4 = .ok (.iconst 3, 1) := by decide +kernel
theorem dX18_understand_5 : decode cX18_understand 5 = .ok (.iand, 1) := by decide +kernel
theorem dX18_understand_6 : decode cX18_understand 6 = .ok (.iconst 3, 1) := by decide +kernel
theorem dX18_understand_7 : decode cX18_understand 7 = .ok (.if_icmp .ne 7, 3) := by decide +kernel
theorem dX18_understand_10 : decode cX18_understand 10 = .ok (.iconst 1, 1) := by decide +kernel
theorem dX18_understand_11 : decode cX18_understand 11 = .ok (.goto 4, 3) := by decide +kernel
theorem dX18_understand_14 : decode cX18_understand 14 = .ok (.iconst 0, 1) := by decide +kernel
theorem dX18_understand_15 : decode cX18_understand 15 = .ok (.istore_n 1, 1) := by decide +kernel
theorem dX18_understand_16 : decode cX18_understand 16 = .ok (.aload_n 0, 1) := by decide +kernel
theorem dX18_understand_17 : decode cX18_understand 17 = .ok (.iconst 0, 1) := by decide +kernel
theorem dX18_understand_18 : decode cX18_understand 18 = .ok (.putfield 24, 3) := by decide +kernel
theorem dX18_understand_21 : decode cX18_understand 21 = .ok (.aload_n 0, 1) := by decide +kernel
theorem dX18_understand_22 : decode cX18_understand 22 = .ok (.iconst 0, 1) := by decide +kernel
theorem dX18_understand_23 : decode cX18_understand 23 = .ok (.putfield 43, 3) := by decide +kernel
theorem dX18_understand_26 : decode cX18_understand 26 = .ok (.aload_n 0, 1) := by decide +kernel
theorem dX18_understand_27 : decode cX18_understand 27 = .ok (.iconst 0, 1) := by decide +kernel
theorem dX18_understand_28 : decode cX18_understand 28 = .ok (.putfield 47, 3) := by decide +kernel
theorem dX18_understand_31 : decode cX18_understand 31 = .ok (.aload_n 0, 1) := by decide +kernel
theorem dX18_understand_32 : decode cX18_understand 32 = .ok (.aload_n 0, 1) := by decide +kernel
theorem dX18_understand_33 : decode cX18_understand 33 = .ok (.bipush 7, 2) := by decide +kernel
theorem dX18_understand_35 : decode cX18_understand 35 = .ok (.iconst 5, 1) := by decide +kernel
theorem dX18_understand_36 : decode cX18_understand 36 = .ok (.invokevirtual 172, 3) := by decide +kernel
theorem dX18_understand_39 : decode cX18_understand 39 = .ok (.putfield 68, 3) := by decide +kernel
theorem dX18_understand_42 : decode cX18_understand 42 = .ok (.aload_n 0, 1) := by decide +kernel
theorem dX18_understand_43 : decode cX18_understand 43 = .ok (.aload_n 0, 1) := by decide +kernel
theorem dX18_understand_44 : decode cX18_understand 44 = .ok (.bipush 13, 2) := by decide +kernel
theorem dX18_understand_46 : decode cX18_understand 46 = .ok (.iconst 3, 1) := by decide +kernel
theorem dX18_understand_47 : decode cX18_understand 47 = .ok (.invokevirtual 172, 3) := by decide +kernel
theorem dX18_understand_50 : decode cX18_understand 50 = .ok (.putfield 80, 3) := by decide +kernel
theorem dX18_understand_53 : decode cX18_understand 53 = .ok (.iload_n 1, 1) := by decide +kernel
theorem dX18_understand_54 : decode cX18_understand 54 = .ok (.ifCond .eq 10, 3) := by decide +kernel
theorem dX18_understand_57 : decode cX18_understand 57 = .ok (.aload_n 0, 1) := by decide +kernel
theorem dX18_understand_58 : decode cX18_understand 58 = .ok (.invokevirtual 324, 3) := by decide +kernel
theorem dX18_understand_61 : decode cX18_understand 61 = .ok (.goto 40, 3) := by decide +kernel
theorem dX18_understand_64 : decode cX18_understand 64 = .ok (.aload_n 0, 1) := by decide +kernel
theorem dX18_understand_65 : decode cX18_understand 65 = .ok (.getfield 20, 3) := by decide +kernel
theorem dX18_understand_68 : decode cX18_understand 68 = .ok (.iconst 3, 1) := by decide +kernel
theorem dX18_understand_69 : decode cX18_understand 69 = .ok (.iand, 1) := by decide +kernel
theorem dX18_understand_70 : decode cX18_understand 70 = .ok (.ifCond .ne 10, 3) := by decide +kernel
theorem dX18_understand_73 : decode cX18_understand 73 = .ok (.aload_n 0, 1) := by decide +kernel
theorem dX18_understand_74 : decode cX18_understand 74 = .ok (.invokevirtual 327, 3) := by decide +kernel
theorem dX18_understand_77 : decode cX18_understand 77 = .ok (.goto 24, 3) := by decide +kernel
theorem dX18_understand_80 : decode cX18_understand 80 = .ok (.aload_n 0, 1) := by decide +kernel
theorem dX18_understand_81 : decode cX18_understand 81 = .ok (.getfield 20, 3) := by decide +kernel
theorem dX18_understand_84 : decode cX18_understand 84 = .ok (.iconst 3, 1) := by decide +kernel
theorem dX18_understand_85 : decode cX18_understand 85 = .ok (.iand, 1) := by decide +kernel
theorem dX18_understand_86 : decode cX18_understand 86 = .ok (.iconst 1, 1) := by decide +kernel
theorem dX18_understand_87 : decode cX18_understand 87 = .ok (.if_icmp .ne 10, 3) := by decide +kernel
theorem dX18_understand_90 : decode cX18_understand 90 = .ok (.aload_n 0, 1) := by decide +kernel
theorem dX18_understand_91 : decode cX18_understand 91 = .ok (.invokevirtual 330, 3) := by decide +kernel
theorem dX18_understand_94 : decode cX18_understand 94 = .ok (.goto 7, 3) := by decide +kernel
theorem dX18_understand_97 : decode cX18_understand 97 = .ok (.aload_n 0, 1) := by decide +kernel
theorem dX18_understand_98 : decode cX18_understand 98 = .ok (.invokevirtual 333, 3) := by decide +kernel
theorem dX18_understand_101 : decode cX18_understand 101 = .ok (.aload_n 0, 1) := by decide +kernel
theorem dX18_understand_102 : decode cX18_understand 102 = .ok (.getfield 43, 3) := by decide +kernel
theorem dX18_understand_105 : decode cX18_understand 105 = .ok (.ifCond .eq 4, 3) := by decide +kernel
theorem dX18_understand_108 : decode cX18_understand 108 = .ok (.return_, 1) := by decide +kernel
theorem dX18_understand_109 : decode cX18_understand 109 = .ok (.aload_n 0, 1) := by decide +kernel
theorem dX18_understand_110 : decode cX18_understand 110 = .ok (.iload_n 1, 1) := by decide +kernel
theorem dX18_understand_111 : decode cX18_understand 111 = .ok (.ifCond .eq 9, 3) := by decide +kernel
theorem dX18_understand_114 : decode cX18_understand 114 = .ok (.ldc2_w 336, 3) := by decide +kernel
theorem dX18_understand_117 : decode cX18_understand 117 = .ok (.goto 6, 3) := by decide +kernel
theorem dX18_understand_120 : decode cX18_understand 120 = .ok (.ldc2_w 338, 3) := by decide +kernel
theorem dX18_understand_123 : decode cX18_understand 123 = .ok (.invokevirtual 50, 3) := by decide +kernel
theorem dX18_understand_126 : decode cX18_understand 126 = .ok (.aload_n 0, 1) := by decide +kernel
theorem dX18_understand_127 : decode cX18_understand 127 = .ok (.invokevirtual 53, 3) := by decide +kernel
theorem dX18_understand_130 : decode cX18_understand 130 = .ok (.aload_n 0, 1) := by decide +kernel
theorem dX18_understand_131 : decode cX18_understand 131 = .ok (.aload_n 0, 1) := by decide +kernel
theorem dX18_understand_132 : decode cX18_understand 132 = .ok (.getfield 20, 3) := by decide +kernel
theorem dX18_understand_135 : decode cX18_understand 135 = .ok (.i2l, 1) := by decide +kernel
theorem dX18_understand_136 : decode cX18_understand 136 = .ok (.ldc2_w 340, 3) := by decide +kernel
theorem dX18_understand_139 : decode cX18_understand 139 = .ok (.land, 1) := by decide +kernel
theorem dX18_understand_140 : decode cX18_understand 140 = .ok (.invokevirtual 39, 3) := by decide +kernel
theorem dX18_understand_143 : decode cX18_understand 143 = .ok (.return_, 1) := by decide +kernel
theorem dX18_read_0 : decode cX18_read 0 = .ok (.aload_n 0, 1) := by decide +kernel
theorem dX18_read_1 : decode cX18_read 1 = .ok (.iload_n 1, 1) := by decide +kernel
theorem dX18_read_2 : decode cX18_read 2 = .ok (.iconst 3, 1) := by decide +kernel
theorem dX18_read_3 : decode cX18_read 3 = .ok (.iand, 1) := by decide +kernel
theorem dX18_read_4 : decode cX18_read 4 = .ok (.iconst 3, 1) := by decide +kernel
theorem dX18_read_5 : decode cX18_read 5 = .ok (.if_icmp .ne 7, 3) := by decide +kernel
theorem dX18_read_8 : decode cX18_read 8 = .ok (.iload_n 1, 1) := by decide +kernel
theorem dX18_read_9 : decode cX18_read 9 = .ok (.goto 8, 3) := by decide +kernel
theorem dX18_read_12 : decode cX18_read 12 = .ok (.iload_n 1, 1) := by decide +kernel
theorem dX18_read_13 : decode cX18_read 13 = .ok (.ldc_w 342, 3) := by decide +kernel
theorem dX18_read_16 : decode cX18_read 16 = .ok (.iand, 1) := by decide +kernel
theorem dX18_read_17 : decode cX18_read 17 = .ok (.putfield 20, 3) := by decide +kernel
theorem dX18_read_20 : decode cX18_read 20 = .ok (.aload_n 0, 1) := by decide +kernel
theorem dX18_read_21 : decode cX18_read 21 = .ok (.invokevirtual 343, 3) := by decide +kernel
theorem dX18_read_24 : decode cX18_read 24 = .ok (.aload_n 0, 1) := by decide +kernel
theorem dX18_read_25 : decode cX18_read 25 = .ok (.getfield 24, 3) := by decide +kernel
theorem dX18_read_28 : decode cX18_read 28 = .ok (.ireturn, 1) := by decide +kernel
theorem dX18_letter_0 : decode cX18_letter 0 = .ok (.aload_n 0, 1) := by decide +kernel
theorem dX18_letter_1 : decode cX18_letter 1 = .ok (.getfield 7, 3) := by decide +kernel
theorem dX18_letter_4 : decode cX18_letter 4 = .ok (.iload_n 1, 1) := by decide +kernel
