theorem dX18_system_0 : decode cX18_system 0 = .ok (.aload_n 0, 1) := by decide +kernel
theorem dX18_system_1 : decode cX18_system 1 = .ok (.getfield 20, 3) := by decide +kernel
theorem dX18_system_4 : decode cX18_system 4 = .ok (.bipush 115, 2) := by decide +kernel
theorem dX18_system_6 : decode cX18_system 6 = .ok (.if_icmp .eq 12, 3) := by decide +kernel
theorem dX18_system_9 : decode cX18_system 9 = .ok (.aload_n 0, 1) := by decide +kernel
theorem dX18_system_10 : decode cX18_system 10 = .ok (.getfield 20, 3) := by decide +kernel
theorem dX18_system_13 : decode cX18_system 13 = .ok (.ldc 203, 2) := by decide +kernel
theorem dX18_system_15 : decode cX18_system 15 = .ok (.if_icmp .ne 25, 3) := by decide +kernel
theorem dX18_system_18 : decode cX18_system 18 = .ok (.aload_n 0, 1) := by decide +kernel
theorem dX18_system_19 : decode cX18_system 19 = .ok (.aload_n 0, 1) := by decide +kernel
theorem dX18_system_20 : decode cX18_system 20 = .ok (.getfield 20, 3) := by decide +kernel
theorem dX18_system_23 : decode cX18_system 23 = .ok (.bipush 115, 2) := by decide +kernel
theorem dX18_system_25 : decode cX18_system 25 = .ok (.if_icmp .ne 9, 3) := by decide +kernel
theorem dX18_system_28 : decode cX18_system 28 = .ok (.ldc2_w 204, 3) := by decide +kernel
theorem dX18_system_31 : decode cX18_system 31 = .ok (.goto 6, 3) := by decide +kernel
theorem dX18_system_34 : decode cX18_system 34 = .ok (.ldc2_w 206, 3) := by decide +kernel
theorem dX18_system_37 : decode cX18_system 37 = .ok (.invokevirtual 65, 3) := by decide +kernel
theorem dX18_system_40 : decode cX18_system 40 = .ok (.aload_n 0, 1) := by decide +kernel
theorem dX18_system_41 : decode cX18_system 41 = .ok (.bipush 20, 2) := by decide +kernel
theorem dX18_system_43 : decode cX18_system 43 = .ok (.bipush 12, 2) := by decide +kernel
theorem dX18_system_45 : decode cX18_system 45 = .ok (.invokevirtual 172, 3) := by decide +kernel
theorem dX18_system_48 : decode cX18_system 48 = .ok (.istore_n 1, 1) := by decide +kernel
theorem dX18_system_49 : decode cX18_system 49 = .ok (.iload_n 1, 1) := by decide +kernel
theorem dX18_system_50 : decode cX18_system 50 = .ok (.bipush 127, 2) := by decide +kernel
theorem dX18_system_52 : decode cX18_system 52 = .ok (.iand, 1) := by decide +kernel
theorem dX18_system_53 : decode cX18_system 53 = .ok (.istore_n 2, 1) := by decide +kernel
theorem dX18_system_54 : decode cX18_system 54 = .ok (.aload_n 0, 1) := by decide +kernel
theorem dX18_system_55 : decode cX18_system 55 = .ok (.getfield 80, 3) := by decide +kernel
theorem dX18_system_58 : decode cX18_system 58 = .ok (.iconst 2, 1) := by decide +kernel
theorem dX18_system_59 : decode cX18_system 59 = .ok (.if_icmp .ne 33, 3) := by decide +kernel
theorem dX18_system_62 : decode cX18_system 62 = .ok (.aload_n 0, 1) := by decide +kernel
theorem dX18_system_63 : decode cX18_system 63 = .ok (.getfield 74, 3) := by decide +kernel
theorem dX18_system_66 : decode cX18_system 66 = .ok (.ifCond .ne 26, 3) := by decide +kernel
theorem dX18_system_69 : decode cX18_system 69 = .ok (.iload_n 1, 1) := by decide +kernel
theorem dX18_system_70 : decode cX18_system 70 = .ok (.iload_n 2, 1) := by decide +kernel
theorem dX18_system_71 : decode cX18_system 71 = .ok (.isub, 1) := by decide +kernel
theorem dX18_system_72 : decode cX18_system 72 = .ok (.sipush 3072, 3) := by decide +kernel
theorem dX18_system_75 : decode cX18_system 75 = .ok (.if_icmp .eq 12, 3) := by decide +kernel
theorem dX18_system_78 : decode cX18_system 78 = .ok (.iload_n 1, 1) := by decide +kernel
theorem dX18_system_79 : decode cX18_system 79 = .ok (.iload_n 2, 1) := by decide +kernel
theorem dX18_system_80 : decode cX18_system 80 = .ok (.isub, 1) := by decide +kernel
theorem dX18_system_81 : decode cX18_system 81 = .ok (.sipush 3200, 3) := by decide +kernel
theorem dX18_system_84 : decode cX18_system 84 = .ok (.if_icmp .ne 8, 3) := by decide +kernel
theorem dX18_system_87 : decode cX18_system 87 = .ok (.iload_n 2, 1) := by decide +kernel
theorem dX18_system_88 : decode cX18_system 88 = .ok (.iconst 2, 1) := by decide +kernel
theorem dX18_system_89 : decode cX18_system 89 = .ok (.if_icmp .le 4, 3) := by decide +kernel
theorem dX18_system_92 : decode cX18_system 92 = .ok (.return_, 1) := by decide +kernel
theorem dX18_system_93 : decode cX18_system 93 = .ok (.aload_n 0, 1) := by decide +kernel
theorem dX18_system_94 : decode cX18_system 94 = .ok (.ldc2_w 208, 3) := by decide +kernel
theorem dX18_system_97 : decode cX18_system 97 = .ok (.invokevirtual 65, 3) := by decide +kernel
theorem dX18_system_100 : decode cX18_system 100 = .ok (.aload_n 0, 1) := by decide +kernel
theorem dX18_system_101 : decode cX18_system 101 = .ok (.iload_n 2, 1) := by decide +kernel
theorem dX18_system_102 : decode cX18_system 102 = .ok (.ifCond .ne 9, 3) := by decide +kernel
theorem dX18_system_105 : decode cX18_system 105 = .ok (.ldc2_w 210, 3) := by decide +kernel
theorem dX18_system_108 : decode cX18_system 108 = .ok (.goto 17, 3) := by decide +kernel
theorem dX18_system_111 : decode cX18_system 111 = .ok (.iload_n 2, 1) := by decide +kernel
theorem dX18_system_112 : decode cX18_system 112 = .ok (.iconst 1, 1) := by decide +kernel
theorem dX18_system_113 : decode cX18_system 113 = .ok (.if_icmp .ne 9, 3) := by decide +kernel
theorem dX18_system_116 : decode cX18_system 116 = .ok (.ldc2_w 212, 3) := by decide +kernel
theorem dX18_system_119 : decode cX18_system 119 = .ok (.goto 6, 3) := by decide +kernel
theorem dX18_system_122 : decode cX18_system 122 = .ok (.ldc2_w 214, 3) := by decide +kernel
theorem dX18_system_125 : decode cX18_system 125 = .ok (.invokevirtual 50, 3) := by decide +kernel
theorem dX18_system_128 : decode cX18_system 128 = .ok (.iload_n 1, 1) := by decide +kernel
theorem dX18_system_129 : decode cX18_system 129 = .ok (.sipush 3200, 3) := by decide +kernel
theorem dX18_system_132 : decode cX18_system 132 = .ok (.if_icmp .lt 9, 3) := by decide +kernel
theorem dX18_system_135 : decode cX18_system 135 = .ok (.aload_n 0, 1) := by decide +kernel
theorem dX18_system_136 : decode cX18_system 136 = .ok (.bipush 104, 2) := by decide +kernel
theorem dX18_system_138 : decode cX18_system 138 = .ok (.invokevirtual 29, 3) := by decide +kernel
theorem dX18_system_141 : decode cX18_system 141 = .ok (.aload_n 0, 1) := by decide +kernel
theorem dX18_system_142 : decode cX18_system 142 = .ok (.aload_n 0, 1) := by decide +kernel
theorem dX18_system_143 : decode cX18_system 143 = .ok (.getfield 68, 3) := by decide +kernel
theorem dX18_system_146 : decode cX18_system 146 = .ok (.invokevirtual 71, 3) := by decide +kernel
theorem dX18_system_149 : decode cX18_system 149 = .ok (.return_, 1) := by decide +kernel
theorem dX18_longOne_0 : decode cX18_longOne 0 = .ok (.aload_n 0, 1) := by decide +kernel
theorem dX18_longOne_1 : decode cX18_longOne 1 = .ok (.aload_n 0, 1) := by decide +kernel
theorem dX18_longOne_2 : decode cX18_longOne 2 = .ok (.bipush 7, 2) := by decide +kernel
theorem dX18_longOne_4 : decode cX18_longOne 4 = .ok (.iconst 5, 1) := by decide +kernel
theorem dX18_longOne_5 : decode cX18_longOne 5 = .ok (.invokevirtual 172, 3) := by decide +kernel
theorem dX18_longOne_8 : decode cX18_longOne 8 = .ok (.putfield 68, 3) := by decide +kernel
theorem dX18_longOne_11 : decode cX18_longOne 11 = .ok (.aload_n 0, 1) := by decide +kernel
theorem dX18_longOne_12 : decode cX18_longOne 12 = .ok (.aload_n 0, 1) := by decide +kernel
theorem dX18_longOne_13 : decode cX18_longOne 13 = .ok (.bipush 12, 2) := by decide +kernel
theorem dX18_longOne_15 : decode cX18_longOne 15 = .ok (.iconst 3, 1) := by decide +kernel
theorem dX18_longOne_16 : decode cX18_longOne 16 = .ok (.invokevirtual 172, 3) := by decide +kernel
theorem dX18_longOne_19 : decode cX18_longOne 19 = .ok (.putfield 80, 3) := by decide +kernel
theorem dX18_longOne_22 : decode cX18_longOne 22 = .ok (.aload_n 0, 1) := by decide +kernel
theorem dX18_longOne_23 : decode cX18_longOne 23 = .ok (.aload_n 0, 1) := by decide +kernel
theorem dX18_longOne_24 : decode cX18_longOne 24 = .ok (.bipush 15, 2) := by decide +kernel
theorem dX18_longOne_26 : decode cX18_longOne 26 = .ok (.iconst 5, 1) := by decide +kernel
theorem dX18_longOne_27 : decode cX18_longOne 27 = .ok (.invokevirtual 172, 3) := by decide +kernel
theorem dX18_longOne_30 : decode cX18_longOne 30 = .ok (.putfield 74, 3) := by decide +kernel
theorem dX18_longOne_33 : decode cX18_longOne 33 = .ok (.aload_n 0, 1) := by decide +kernel
theorem dX18_longOne_34 : decode cX18_longOne 34 = .ok (.aload_n 0, 1) := by decide +kernel
theorem dX18_longOne_35 : decode cX18_longOne 35 = .ok (.bipush 20, 2) := by decide +kernel
theorem dX18_longOne_37 : decode cX18_longOne 37 = .ok (.iconst 5, 1) := by decide +kernel
theorem dX18_longOne_38 : decode cX18_longOne 38 = .ok (.invokevirtual 172, 3) := by decide +kernel
theorem dX18_longOne_41 : decode cX18_longOne 41 = .ok (.putfield 77, 3) := by decide +kernel
theorem dX18_longOne_44 : decode cX18_longOne 44 = .ok (.aload_n 0, 1) := by decide +kernel
theorem dX18_longOne_45 : decode cX18_longOne 45 = .ok (.bipush 25, 2) := by decide +kernel
theorem dX18_longOne_47 : decode cX18_longOne 47 = .ok (.bipush 7, 2) := by decide +kernel
theorem dX18_longOne_49 : decode cX18_longOne 49 = .ok (.invokevirtual 172, 3) := by decide +kernel
theorem dX18_longOne_52 : decode cX18_longOne 52 = .ok (.istore_n 1, 1) := by decide +kernel
theorem dX18_longOne_53 : decode cX18_longOne 53 = .ok (.aload_n 0, 1) := by decide +kernel
theorem dX18_longOne_54 : decode cX18_longOne 54 = .ok (.getfield 20, 3) := by decide +kernel
theorem dX18_longOne_57 : decode cX18_longOne 57 = .ok (.bipush 127, 2) := by decide +kernel
theorem dX18_longOne_59 : decode cX18_longOne 59 = .ok (.iand, 1) := by decide +kernel
theorem dX18_longOne_60 : decode cX18_longOne 60 = .ok (.lookupswitch 126 #[(3, 84), (19, 76), (35, 91), (47, 105), (51, 68), (99, 98), (115, 119)], 68) := by decide +kernel
theorem dX18_longOne_128 : decode cX18_longOne 128 = .ok (.aload_n 0, 1) := by decide +kernel
theorem dX18_longOne_129 : decode cX18_longOne 129 = .ok (.iload_n 1, 1) := by decide +kernel
theorem dX18_longOne_130 : decode cX18_longOne 130 = .ok (.invokevirtual 216, 3) := by decide +kernel
theorem dX18_longOne_133 : decode cX18_longOne 133 = .ok (.goto 57, 3) := by decide +kernel
theorem dX18_longOne_136 : decode cX18_longOne 136 = .ok (.aload_n 0, 1) := by decide +kernel
theorem dX18_longOne_137 : decode cX18_longOne 137 = .ok (.iload_n 1, 1) := by decide +kernel
theorem dX18_longOne_138 : decode cX18_longOne 138 = .ok (.invokevirtual 219, 3) := by decide +kernel
theorem dX18_longOne_141 : decode cX18_longOne 141 = .ok (.goto 49, 3) := by decide +kernel
theorem dX18_longOne_144 : decode cX18_longOne 144 = .ok (.aload_n 0, 1) := by decide +kernel
theorem dX18_longOne_145 : decode cX18_longOne 145 = .ok (.invokevirtual 222, 3) := by decide +kernel
theorem dX18_longOne_148 : decode cX18_longOne 148 = .ok (.goto 42, 3) := by decide +kernel
theorem dX18_longOne_151 : decode cX18_longOne 151 = .ok (.aload_n 0, 1) := by decide +kernel
theorem dX18_longOne_152 : decode cX18_longOne 152 = .ok (.invokevirtual 225, 3) := by decide +kernel
theorem dX18_longOne_155 : decode cX18_longOne 155 = .ok (.goto 35, 3) := by decide +kernel
theorem dX18_longOne_158 : decode cX18_longOne 158 = .ok (.aload_n 0, 1) := by decide +kernel
theorem dX18_longOne_159 : decode cX18_longOne 159 = .ok (.invokevirtual 228, 3) := by decide +kernel
theorem dX18_longOne_162 : decode cX18_longOne 162 = .ok (.goto 28, 3) := by decide +kernel
theorem dX18_longOne_165 : decode cX18_longOne 165 = .ok (.aload_n 0, 1) := by decide +kernel
theorem dX18_longOne_166 : decode cX18_longOne 166 = .ok (.aload_n 0, 1) := by decide +kernel
theorem dX18_longOne_167 : decode cX18_longOne 167 = .ok (.bipush 27, 2) := by decide +kernel
theorem dX18_longOne_169 : decode cX18_longOne 169 = .ok (.iconst 5, 1) := by decide +kernel
theorem dX18_longOne_170 : decode cX18_longOne 170 = .ok (.invokevirtual 172, 3) := by decide +kernel
theorem dX18_longOne_173 : decode cX18_longOne 173 = .ok (.invokevirtual 231, 3) := by decide +kernel
theorem dX18_longOne_176 : decode cX18_longOne 176 = .ok (.goto 14, 3) := by decide +kernel
theorem dX18_longOne_179 : decode cX18_longOne 179 = .ok (.aload_n 0, 1) := by decide +kernel
theorem dX18_longOne_180 : decode cX18_longOne 180 = .ok (.invokevirtual 234, 3) := by decide +kernel
theorem dX18_longOne_183 : decode cX18_longOne 183 = .ok (.goto 7, 3) := by decide +kernel
theorem dX18_longOne_186 : decode cX18_longOne 186 = .ok (.aload_n 0, 1) := by decide +kernel
theorem dX18_longOne_187 : decode cX18_longOne 187 = .ok (.invokevirtual 237, 3) := by decide +kernel
theorem dX18_longOne_190 : decode cX18_longOne 190 = .ok (.return_, 1) := by decide +kernel
theorem dX18_others_0 : decode cX18_others 0 = .ok (.aload_n 0, 1) := by decide +kernel
theorem dX18_others_1 : decode cX18_others 1 = .ok (.getfield 20, 3) := by decide +kernel
theorem dX18_others_4 : decode cX18_others 4 = .ok (.bipush 127, 2) := by decide +kernel
theorem dX18_others_6 : decode cX18_others 6 = .ok (.iand, 1) := by decide +kernel
theorem dX18_others_7 : decode cX18_others 7 = .ok (.istore_n 1, 1) := by decide +kernel
theorem dX18_others_8 : decode cX18_others 8 = .ok (.iload_n 1, 1) := by decide +kernel
theorem dX18_others_9 : decode cX18_others 9 = .ok (.bipush 55, 2) := by decide +kernel
theorem dX18_others_11 : decode cX18_others 11 = .ok (.if_icmp .eq 9, 3) := by decide +kernel
theorem dX18_others_14 : decode cX18_others 14 = .ok (.iload_n 1, 1) := by decide +kernel
theorem dX18_others_15 : decode cX18_others 15 = .ok (.bipush 23, 2) := by decide +kernel
theorem dX18_others_17 : decode cX18_others 17 = .ok (.if_icmp .ne 44, 3) := by decide +kernel
theorem dX18_others_20 : decode cX18_others 20 = .ok (.aload_n 0, 1) := by decide +kernel
theorem dX18_others_21 : decode cX18_others 21 = .ok (.iload_n 1, 1) := by decide +kernel
theorem dX18_others_22 : decode cX18_others 22 = .ok (.bipush 55, 2) := by decide +kernel
theorem dX18_others_24 : decode cX18_others 24 = .ok (.if_icmp .ne 9, 3) := by decide +kernel
theorem dX18_others_27 : decode cX18_others 27 = .ok (.ldc2_w 240, 3) := by decide +kernel
theorem dX18_others_30 : decode cX18_others 30 = .ok (.goto 6, 3) := by decide +kernel
theorem dX18_others_33 : decode cX18_others 33 = .ok (.ldc2_w 242, 3) := by decide +kernel
theorem dX18_others_36 : decode cX18_others 36 = .ok (.invokevirtual 65, 3) := by decide +kernel
theorem dX18_others_39 : decode cX18_others 39 = .ok (.aload_n 0, 1) := by decide +kernel
theorem dX18_others_40 : decode cX18_others 40 = .ok (.aload_n 0, 1) := by decide +kernel
theorem dX18_others_41 : decode cX18_others 41 = .ok (.getfield 68, 3) := by decide +kernel
theorem dX18_others_44 : decode cX18_others 44 = .ok (.invokevirtual 71, 3) := by decide +kernel
theorem dX18_others_47 : decode cX18_others 47 = .ok (.aload_n 0, 1) := by decide +kernel
theorem dX18_others_48 : decode cX18_others 48 = .ok (.aload_n 0, 1) := by decide +kernel
theorem dX18_others_49 : decode cX18_others 49 = .ok (.getfield 20, 3) := by decide +kernel
theorem dX18_others_52 : decode cX18_others 52 = .ok (.bipush 12, 2) := by decide +kernel
theorem dX18_others_54 : decode cX18_others 54 = .ok (.iushr, 1) := by decide +kernel
theorem dX18_others_55 : decode cX18_others 55 = .ok (.invokevirtual 59, 3) := by decide +kernel
theorem dX18_others_58 : decode cX18_others 58 = .ok (.goto 157, 3) := by decide +kernel
theorem dX18_others_61 : decode cX18_others 61 = .ok (.iload_n 1, 1) := by decide +kernel
theorem dX18_others_62 : decode cX18_others 62 = .ok (.bipush 103, 2) := by decide +kernel
theorem dX18_others_64 : decode cX18_others 64 = .ok (.if_icmp .ne 43, 3) := by decide +kernel
theorem dX18_others_67 : decode cX18_others 67 = .ok (.aload_n 0, 1) := by decide +kernel
theorem dX18_others_68 : decode cX18_others 68 = .ok (.getfield 80, 3) := by decide +kernel
theorem dX18_others_71 : decode cX18_others 71 = .ok (.ifCond .ne 36, 3) := by decide +kernel
theorem dX18_others_74 : decode cX18_others 74 = .ok (.aload_n 0, 1) := by decide +kernel
theorem dX18_others_75 : decode cX18_others 75 = .ok (.ldc2_w 244, 3) := by decide +kernel
theorem dX18_others_78 : decode cX18_others 78 = .ok (.invokevirtual 65, 3) := by decide +kernel
theorem dX18_others_81 : decode cX18_others 81 = .ok (.aload_n 0, 1) := by decide +kernel
theorem dX18_others_82 : decode cX18_others 82 = .ok (.aload_n 0, 1) := by decide +kernel
theorem dX18_others_83 : decode cX18_others 83 = .ok (.getfield 68, 3) := by decide +kernel
theorem dX18_others_86 : decode cX18_others 86 = .ok (.invokevirtual 71, 3) := by decide +kernel
theorem dX18_others_89 : decode cX18_others 89 = .ok (.aload_n 0, 1) := by decide +kernel
theorem dX18_others_90 : decode cX18_others 90 = .ok (.aload_n 0, 1) := by decide +kernel
theorem dX18_others_91 : decode cX18_others 91 = .ok (.getfield 20, 3) := by decide +kernel
theorem dX18_others_94 : decode cX18_others 94 = .ok (.bipush 20, 2) := by decide +kernel
theorem dX18_others_96 : decode cX18_others 96 = .ok (.ishr, 1) := by decide +kernel
theorem dX18_others_97 : decode cX18_others 97 = .ok (.aload_n 0, 1) := by decide +kernel
theorem dX18_others_98 : decode cX18_others 98 = .ok (.getfield 74, 3) := by decide +kernel
theorem dX18_others_101 : decode cX18_others 101 = .ok (.invokevirtual 150, 3) := by decide +kernel
theorem dX18_others_104 : decode cX18_others 104 = .ok (.goto 111, 3) := by decide +kernel
theorem dX18_others_107 : decode cX18_others 107 = .ok (.iload_n 1, 1) := by decide +kernel
theorem dX18_others_108 : decode cX18_others 108 = .ok (.bipush 111, 2) := by decide +kernel
theorem dX18_others_110 : decode cX18_others 110 = .ok (.if_icmp .ne 69, 3) := by decide +kernel
theorem dX18_others_113 : decode cX18_others 113 = .ok (.aload_n 0, 1) := by decide +kernel
theorem dX18_others_114 : decode cX18_others 114 = .ok (.ldc2_w 246, 3) := by decide +kernel
theorem dX18_others_117 : decode cX18_others 117 = .ok (.invokevirtual 65, 3) := by decide +kernel
theorem dX18_others_120 : decode cX18_others 120 = .ok (.aload_n 0, 1) := by decide +kernel
theorem dX18_others_121 : decode cX18_others 121 = .ok (.aload_n 0, 1) := by decide +kernel
theorem dX18_others_122 : decode cX18_others 122 = .ok (.getfield 68, 3) := by decide +kernel
theorem dX18_others_125 : decode cX18_others 125 = .ok (.invokevirtual 71, 3) := by decide +kernel
theorem dX18_others_128 : decode cX18_others 128 = .ok (.aload_n 0, 1) := by decide +kernel
theorem dX18_others_129 : decode cX18_others 129 = .ok (.aload_n 0, 1) := by decide +kernel
theorem dX18_others_130 : decode cX18_others 130 = .ok (.getfield 20, 3) := by decide +kernel
theorem dX18_others_133 : decode cX18_others 133 = .ok (.bipush 31, 2) := by decide +kernel
theorem dX18_others_135 : decode cX18_others 135 = .ok (.ishr, 1) := by decide +kernel
theorem dX18_others_136 : decode cX18_others 136 = .ok (.bipush 20, 2) := by decide +kernel
theorem dX18_others_138 : decode cX18_others 138 = .ok (.ishl, 1) := by decide +kernel
theorem dX18_others_139 : decode cX18_others 139 = .ok (.aload_n 0, 1) := by decide +kernel
theorem dX18_others_140 : decode cX18_others 140 = .ok (.bipush 12, 2) := by decide +kernel
theorem dX18_others_142 : decode cX18_others 142 = .ok (.bipush 8, 2) := by decide +kernel
theorem dX18_others_144 : decode cX18_others 144 = .ok (.invokevirtual 172, 3) := by decide +kernel
theorem dX18_others_147 : decode cX18_others 147 = .ok (.bipush 12, 2) := by decide +kernel
theorem dX18_others_149 : decode cX18_others 149 = .ok (.ishl, 1) := by decide +kernel
theorem dX18_others_150 : decode cX18_others 150 = .ok (.ior, 1) := by decide +kernel
theorem dX18_others_151 : decode cX18_others 151 = .ok (.aload_n 0, 1) := by decide +kernel
theorem dX18_others_152 : decode cX18_others 152 = .ok (.bipush 20, 2) := by decide +kernel
theorem dX18_others_154 : decode cX18_others 154 = .ok (.iconst 1, 1) := by decide +kernel
theorem dX18_others_155 : decode cX18_others 155 = .ok (.invokevirtual 172, 3) := by decide +kernel
theorem dX18_others_158 : decode cX18_others 158 = .ok (.bipush 11, 2) := by decide +kernel
theorem dX18_others_160 : decode cX18_others 160 = .ok (.ishl, 1) := by decide +kernel
theorem dX18_others_161 : decode cX18_others 161 = .ok (.ior, 1) := by decide +kernel
theorem dX18_others_162 : decode cX18_others 162 = .ok (.aload_n 0, 1) := by decide +kernel
theorem dX18_others_163 : decode cX18_others 163 = .ok (.bipush 21, 2) := by decide +kernel
theorem dX18_others_165 : decode cX18_others 165 = .ok (.bipush 10, 2) := by decide +kernel
theorem dX18_others_167 : decode cX18_others 167 = .ok (.invokevirtual 172, 3) := by decide +kernel
theorem dX18_others_170 : decode cX18_others 170 = .ok (.iconst 1, 1) := by decide +kernel
theorem dX18_others_171 : decode cX18_others 171 = .ok (.ishl, 1) := by decide +kernel
theorem dX18_others_172 : decode cX18_others 172 = .ok (.ior, 1) := by decide +kernel
theorem dX18_others_173 : decode cX18_others 173 = .ok (.invokevirtual 176, 3) := by decide +kernel
theorem dX18_others_176 : decode cX18_others 176 = .ok (.goto 39, 3) := by decide +kernel
theorem dX18_others_179 : decode cX18_others 179 = .ok (.aload_n 0, 1) := by decide +kernel
theorem dX18_others_180 : decode cX18_others 180 = .ok (.getfield 20, 3) := by decide +kernel
theorem dX18_others_183 : decode cX18_others 183 = .ok (.ldc 248, 2) := by decide +kernel
theorem dX18_others_185 : decode cX18_others 185 = .ok (.if_icmp .ne 13, 3) := by decide +kernel
theorem dX18_others_188 : decode cX18_others 188 = .ok (.aload_n 0, 1) := by decide +kernel
theorem dX18_others_189 : decode cX18_others 189 = .ok (.ldc2_w 249, 3) := by decide +kernel
theorem dX18_others_192 : decode cX18_others 192 = .ok (.invokevirtual 65, 3) := by decide +kernel
theorem dX18_others_195 : decode cX18_others 195 = .ok (.goto 20, 3) := by decide +kernel
theorem dX18_others_198 : decode cX18_others 198 = .ok (.aload_n 0, 1) := by decide +kernel
theorem dX18_others_199 : decode cX18_others 199 = .ok (.getfield 20, 3) := by decide +kernel
theorem dX18_others_202 : decode cX18_others 202 = .ok (.sipush 4111, 3) := by decide +kernel
theorem dX18_others_205 : decode cX18_others 205 = .ok (.if_icmp .ne 10, 3) := by decide +kernel
theorem dX18_others_208 : decode cX18_others 208 = .ok (.aload_n 0, 1) := by decide +kernel
theorem dX18_others_209 : decode cX18_others 209 = .ok (.ldc2_w 251, 3) := by decide +kernel
theorem dX18_others_212 : decode cX18_others 212 = .ok (.invokevirtual 65, 3) := by decide +kernel
theorem dX18_others_215 : decode cX18_others 215 = .ok (.return_, 1) := by decide +kernel
theorem dX18_six_0 : decode cX18_six 0 = .ok (.aload_n 0, 1) := by decide +kernel
theorem dX18_six_1 : decode cX18_six 1 = .ok (.iconst 2, 1) := by decide +kernel
theorem dX18_six_2 : decode cX18_six 2 = .ok (.iconst 5, 1) := by decide +kernel
theorem dX18_six_3 : decode cX18_six 3 = .ok (.invokevirtual 172, 3) := by decide +kernel
theorem dX18_six_6 : decode cX18_six 6 = .ok (.bipush 32, 2) := by decide +kernel
theorem dX18_six_8 : decode cX18_six 8 = .ok (.aload_n 0, 1) := by decide +kernel
theorem dX18_six_9 : decode cX18_six 9 = .ok (.bipush 12, 2) := by decide +kernel
theorem dX18_six_11 : decode cX18_six 11 = .ok (.iconst 1, 1) := by decide +kernel
theorem dX18_six_12 : decode cX18_six 12 = .ok (.invokevirtual 172, 3) := by decide +kernel
theorem dX18_six_15 : decode cX18_six 15 = .ok (.imul, 1) := by decide +kernel
theorem dX18_six_16 : decode cX18_six 16 = .ok (.isub, 1) := by decide +kernel
theorem dX18_six_17 : decode cX18_six 17 = .ok (.ireturn, 1) := by decide +kernel
theorem dX18_first_0 : decode cX18_first 0 = .ok (.bipush 8, 2) := by decide +kernel
theorem dX18_first_2 : decode cX18_first 2 = .ok (.aload_n 0, 1) := by decide +kernel
theorem dX18_first_3 : decode cX18_first 3 = .ok (.iconst 2, 1) := by decide +kernel
theorem dX18_first_4 : decode cX18_first 4 = .ok (.iconst 3, 1) := by decide +kernel
theorem dX18_first_5 : decode cX18_first 5 = .ok (.invokevirtual 172, 3) := by decide +kernel
theorem dX18_first_8 : decode cX18_first 8 = .ok (.iadd, 1) := by decide +kernel
theorem dX18_first_9 : decode cX18_first 9 = .ok (.istore_n 1, 1) := by decide +kernel
theorem dX18_first_10 : decode cX18_first 10 = .ok (.bipush 8, 2) := by decide +kernel
theorem dX18_first_12 : decode cX18_first 12 = .ok (.aload_n 0, 1) := by decide +kernel
theorem dX18_first_13 : decode cX18_first 13 = .ok (.bipush 7, 2) := by decide +kernel
theorem dX18_first_15 : decode cX18_first 15 = .ok (.iconst 3, 1) := by decide +kernel
theorem dX18_first_16 : decode cX18_first 16 = .ok (.invokevirtual 172, 3) := by decide +kernel
theorem dX18_first_19 : decode cX18_first 19 = .ok (.iadd, 1) := by decide +kernel
theorem dX18_first_20 : decode cX18_first 20 = .ok (.istore_n 2, 1) := by decide +kernel
theorem dX18_first_21 : decode cX18_first 21 = .ok (.aload_n 0, 1) := by decide +kernel
theorem dX18_first_22 : decode cX18_first 22 = .ok (.bipush 11, 2) := by decide +kernel
theorem dX18_first_24 : decode cX18_first 24 = .ok (.iconst 2, 1) := by decide +kernel
theorem dX18_first_25 : decode cX18_first 25 = .ok (.invokevirtual 172, 3) := by decide +kernel
theorem dX18_first_28 : decode cX18_first 28 = .ok (.iconst 4, 1) := by decide +kernel
theorem dX18_first_29 : decode cX18_first 29 = .ok (.ishl, 1) := by decide +kernel
theorem dX18_first_30 : decode cX18_first 30 = .ok (.aload_n 0, 1) := by decide +kernel
theorem dX18_first_31 : decode cX18_first 31 = .ok (.bipush 7, 2) := by decide +kernel
theorem dX18_first_33 : decode cX18_first 33 = .ok (.iconst 4, 1) := by decide +kernel
theorem dX18_first_34 : decode cX18_first 34 = .ok (.invokevirtual 172, 3) := by decide +kernel
theorem dX18_first_37 : decode cX18_first 37 = .ok (.bipush 6, 2) := by decide +kernel
theorem dX18_first_39 : decode cX18_first 39 = .ok (.ishl, 1) := by decide +kernel
theorem dX18_first_40 : decode cX18_first 40 = .ok (.ior, 1) := by decide +kernel
theorem dX18_first_41 : decode cX18_first 41 = .ok (.aload_n 0, 1) := by decide +kernel
theorem dX18_first_42 : decode cX18_first 42 = .ok (.bipush 6, 2) := by decide +kernel
theorem dX18_first_44 : decode cX18_first 44 = .ok (.iconst 1, 1) := by decide +kernel
theorem dX18_first_45 : decode cX18_first 45 = .ok (.invokevirtual 172, 3) := by decide +kernel
theorem dX18_first_48 : decode cX18_first 48 = .ok (.iconst 2, 1) := by decide +kernel
theorem dX18_first_49 : decode cX18_first 49 = .ok (.ishl, 1) := by decide +kernel
theorem dX18_first_50 : decode cX18_first 50 = .ok (.ior, 1) := by decide +kernel
theorem dX18_first_51 : decode cX18_first 51 = .ok (.aload_n 0, 1) := by decide +kernel
theorem dX18_first_52 : decode cX18_first 52 = .ok (.iconst 5, 1) := by decide +kernel
theorem dX18_first_53 : decode cX18_first 53 = .ok (.iconst 1, 1) := by decide +kernel
theorem dX18_first_54 : decode cX18_first 54 = .ok (.invokevirtual 172, 3) := by decide +kernel
theorem dX18_first_57 : decode cX18_first 57 = .ok (.iconst 3, 1) := by decide +kernel
theorem dX18_first_58 : decode cX18_first 58 = .ok (.ishl, 1) := by decide +kernel
theorem dX18_first_59 : decode cX18_first 59 = .ok (.ior, 1) := by decide +kernel
theorem dX18_first_60 : decode cX18_first 60 = .ok (.istore_n 3, 1) := by decide +kernel
theorem dX18_first_61 : decode cX18_first 61 = .ok (.aload_n 0, 1) := by decide +kernel
theorem dX18_first_62 : decode cX18_first 62 = .ok (.bipush 10, 2) := by decide +kernel
theorem dX18_first_64 : decode cX18_first 64 = .ok (.iconst 3, 1) := by decide +kernel
theorem dX18_first_65 : decode cX18_first 65 = .ok (.invokevirtual 172, 3) := by decide +kernel
theorem dX18_first_68 : decode cX18_first 68 = .ok (.iconst 3, 1) := by decide +kernel
theorem dX18_first_69 : decode cX18_first 69 = .ok (.ishl, 1) := by decide +kernel
theorem dX18_first_70 : decode cX18_first 70 = .ok (.aload_n 0, 1) := by decide +kernel
theorem dX18_first_71 : decode cX18_first 71 = .ok (.bipush 6, 2) := by decide +kernel
theorem dX18_first_73 : decode cX18_first 73 = .ok (.iconst 1, 1) := by decide +kernel
theorem dX18_first_74 : decode cX18_first 74 = .ok (.invokevirtual 172, 3) := by decide +kernel
theorem dX18_first_77 : decode cX18_first 77 = .ok (.iconst 2, 1) := by decide +kernel
theorem dX18_first_78 : decode cX18_first 78 = .ok (.ishl, 1) := by decide +kernel
theorem dX18_first_79 : decode cX18_first 79 = .ok (.ior, 1) := by decide +kernel
theorem dX18_first_80 : decode cX18_first 80 = .ok (.aload_n 0, 1) := by decide +kernel
theorem dX18_first_81 : decode cX18_first 81 = .ok (.iconst 5, 1) := by decide +kernel
theorem dX18_first_82 : decode cX18_first 82 = .ok (.iconst 1, 1) := by decide +kernel
theorem dX18_first_83 : decode cX18_first 83 = .ok (.invokevirtual 172, 3) := by decide +kernel
theorem dX18_first_86 : decode cX18_first 86 = .ok (.bipush 6, 2) := by decide +kernel
theorem dX18_first_88 : decode cX18_first 88 = .ok (.ishl, 1) := by decide +kernel
theorem dX18_first_89 : decode cX18_first 89 = .ok (.ior, 1) := by decide +kernel
theorem dX18_first_90 : decode cX18_first 90 = .ok (.istore 4, 2) := by decide +kernel
theorem dX18_first_92 : decode cX18_first 92 = .ok (.aload_n 0, 1) := by decide +kernel
theorem dX18_first_93 : decode cX18_first 93 = .ok (.getfield 80, 3) := by decide +kernel
theorem dX18_first_96 : decode cX18_first 96 = .ok (.ifCond .ne 34, 3) := by decide +kernel
theorem dX18_first_99 : decode cX18_first 99 = .ok (.iload_n 3, 1) := by decide +kernel
theorem dX18_first_100 : decode cX18_first 100 = .ok (.ifCond .le 30, 3) := by decide +kernel
theorem dX18_first_103 : decode cX18_first 103 = .ok (.aload_n 0, 1) := by decide +kernel
theorem dX18_first_104 : decode cX18_first 104 = .ok (.ldc2_w 253, 3) := by decide +kernel
theorem dX18_first_107 : decode cX18_first 107 = .ok (.invokevirtual 65, 3) := by decide +kernel
theorem dX18_first_110 : decode cX18_first 110 = .ok (.aload_n 0, 1) := by decide +kernel
theorem dX18_first_111 : decode cX18_first 111 = .ok (.ldc2_w 255, 3) := by decide +kernel
theorem dX18_first_114 : decode cX18_first 114 = .ok (.invokevirtual 50, 3) := by decide +kernel
theorem dX18_first_117 : decode cX18_first 117 = .ok (.aload_n 0, 1) := by decide +kernel
theorem dX18_first_118 : decode cX18_first 118 = .ok (.iload_n 1, 1) := by decide +kernel
theorem dX18_first_119 : decode cX18_first 119 = .ok (.invokevirtual 71, 3) := by decide +kernel
theorem dX18_first_122 : decode cX18_first 122 = .ok (.aload_n 0, 1) := by decide +kernel
theorem dX18_first_123 : decode cX18_first 123 = .ok (.iload_n 3, 1) := by decide +kernel
theorem dX18_first_124 : decode cX18_first 124 = .ok (.invokevirtual 59, 3) := by decide +kernel
theorem dX18_first_127 : decode cX18_first 127 = .ok (.goto 53, 3) := by decide +kernel
theorem dX18_first_130 : decode cX18_first 130 = .ok (.aload_n 0, 1) := by decide +kernel
theorem dX18_first_131 : decode cX18_first 131 = .ok (.getfield 80, 3) := by decide +kernel
theorem dX18_first_134 : decode cX18_first 134 = .ok (.iconst 2, 1) := by decide +kernel
theorem dX18_first_135 : decode cX18_first 135 = .ok (.if_icmp .eq 12, 3) := by decide +kernel
theorem dX18_first_138 : decode cX18_first 138 = .ok (.aload_n 0, 1) := by decide +kernel
theorem dX18_first_139 : decode cX18_first 139 = .ok (.getfield 80, 3) := by decide +kernel
theorem dX18_first_142 : decode cX18_first 142 = .ok (.bipush 6, 2) := by decide +kernel
theorem dX18_first_144 : decode cX18_first 144 = .ok (.if_icmp .ne 36, 3) := by decide +kernel
theorem dX18_first_147 : decode cX18_first 147 = .ok (.aload_n 0, 1) := by decide +kernel
theorem dX18_first_148 : decode cX18_first 148 = .ok (.aload_n 0, 1) := by decide +kernel
theorem dX18_first_149 : decode cX18_first 149 = .ok (.getfield 80, 3) := by decide +kernel
theorem dX18_first_152 : decode cX18_first 152 = .ok (.iconst 2, 1) := by decide +kernel
