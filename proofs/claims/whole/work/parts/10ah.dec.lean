theorem dX18_first_153 : decode cX18_first 153 = .ok (.if_icmp .ne 9, 3) := by decide +kernel
theorem dX18_first_156 : decode cX18_first 156 = .ok (.ldc2_w 257, 3) := by decide +kernel
theorem dX18_first_159 : decode cX18_first 159 = .ok (.goto 6, 3) := by decide +kernel
theorem dX18_first_162 : decode cX18_first 162 = .ok (.ldc2_w 259, 3) := by decide +kernel
theorem dX18_first_165 : decode cX18_first 165 = .ok (.invokevirtual 65, 3) := by decide +kernel
theorem dX18_first_168 : decode cX18_first 168 = .ok (.aload_n 0, 1) := by decide +kernel
theorem dX18_first_169 : decode cX18_first 169 = .ok (.iload_n 1, 1) := by decide +kernel
theorem dX18_first_170 : decode cX18_first 170 = .ok (.invokevirtual 71, 3) := by decide +kernel
theorem dX18_first_173 : decode cX18_first 173 = .ok (.aload_n 0, 1) := by decide +kernel
theorem dX18_first_174 : decode cX18_first 174 = .ok (.iload 4, 2) := by decide +kernel
theorem dX18_first_176 : decode cX18_first 176 = .ok (.iload_n 2, 1) := by decide +kernel
theorem dX18_first_177 : decode cX18_first 177 = .ok (.invokevirtual 150, 3) := by decide +kernel
theorem dX18_first_180 : decode cX18_first 180 = .ok (.return_, 1) := by decide +kernel
theorem dX18_jump_0 : decode cX18_jump 0 = .ok (.aload_n 0, 1) := by decide +kernel
theorem dX18_jump_1 : decode cX18_jump 1 = .ok (.lload_n 1, 1) := by decide +kernel
theorem dX18_jump_2 : decode cX18_jump 2 = .ok (.invokevirtual 65, 3) := by decide +kernel
theorem dX18_jump_5 : decode cX18_jump 5 = .ok (.aload_n 0, 1) := by decide +kernel
theorem dX18_jump_6 : decode cX18_jump 6 = .ok (.aload_n 0, 1) := by decide +kernel
theorem dX18_jump_7 : decode cX18_jump 7 = .ok (.iconst 3, 1) := by decide +kernel
theorem dX18_jump_8 : decode cX18_jump 8 = .ok (.iconst 3, 1) := by decide +kernel
theorem dX18_jump_9 : decode cX18_jump 9 = .ok (.invokevirtual 172, 3) := by decide +kernel
theorem dX18_jump_12 : decode cX18_jump 12 = .ok (.iconst 1, 1) := by decide +kernel
theorem dX18_jump_13 : decode cX18_jump 13 = .ok (.ishl, 1) := by decide +kernel
theorem dX18_jump_14 : decode cX18_jump 14 = .ok (.aload_n 0, 1) := by decide +kernel
theorem dX18_jump_15 : decode cX18_jump 15 = .ok (.bipush 11, 2) := by decide +kernel
theorem dX18_jump_17 : decode cX18_jump 17 = .ok (.iconst 1, 1) := by decide +kernel
theorem dX18_jump_18 : decode cX18_jump 18 = .ok (.invokevirtual 172, 3) := by decide +kernel
theorem dX18_jump_21 : decode cX18_jump 21 = .ok (.iconst 4, 1) := by decide +kernel
theorem dX18_jump_22 : decode cX18_jump 22 = .ok (.ishl, 1) := by decide +kernel
theorem dX18_jump_23 : decode cX18_jump 23 = .ok (.ior, 1) := by decide +kernel
theorem dX18_jump_24 : decode cX18_jump 24 = .ok (.aload_n 0, 1) := by decide +kernel
theorem dX18_jump_25 : decode cX18_jump 25 = .ok (.iconst 2, 1) := by decide +kernel
theorem dX18_jump_26 : decode cX18_jump 26 = .ok (.iconst 1, 1) := by decide +kernel
theorem dX18_jump_27 : decode cX18_jump 27 = .ok (.invokevirtual 172, 3) := by decide +kernel
theorem dX18_jump_30 : decode cX18_jump 30 = .ok (.iconst 5, 1) := by decide +kernel
theorem dX18_jump_31 : decode cX18_jump 31 = .ok (.ishl, 1) := by decide +kernel
theorem dX18_jump_32 : decode cX18_jump 32 = .ok (.ior, 1) := by decide +kernel
theorem dX18_jump_33 : decode cX18_jump 33 = .ok (.aload_n 0, 1) := by decide +kernel
theorem dX18_jump_34 : decode cX18_jump 34 = .ok (.bipush 7, 2) := by decide +kernel
theorem dX18_jump_36 : decode cX18_jump 36 = .ok (.iconst 1, 1) := by decide +kernel
theorem dX18_jump_37 : decode cX18_jump 37 = .ok (.invokevirtual 172, 3) := by decide +kernel
theorem dX18_jump_40 : decode cX18_jump 40 = .ok (.bipush 6, 2) := by decide +kernel
theorem dX18_jump_42 : decode cX18_jump 42 = .ok (.ishl, 1) := by decide +kernel
theorem dX18_jump_43 : decode cX18_jump 43 = .ok (.ior, 1) := by decide +kernel
theorem dX18_jump_44 : decode cX18_jump 44 = .ok (.aload_n 0, 1) := by decide +kernel
theorem dX18_jump_45 : decode cX18_jump 45 = .ok (.bipush 6, 2) := by decide +kernel
theorem dX18_jump_47 : decode cX18_jump 47 = .ok (.iconst 1, 1) := by decide +kernel
theorem dX18_jump_48 : decode cX18_jump 48 = .ok (.invokevirtual 172, 3) := by decide +kernel
theorem dX18_jump_51 : decode cX18_jump 51 = .ok (.bipush 7, 2) := by decide +kernel
theorem dX18_jump_53 : decode cX18_jump 53 = .ok (.ishl, 1) := by decide +kernel
theorem dX18_jump_54 : decode cX18_jump 54 = .ok (.ior, 1) := by decide +kernel
theorem dX18_jump_55 : decode cX18_jump 55 = .ok (.aload_n 0, 1) := by decide +kernel
theorem dX18_jump_56 : decode cX18_jump 56 = .ok (.bipush 9, 2) := by decide +kernel
theorem dX18_jump_58 : decode cX18_jump 58 = .ok (.iconst 2, 1) := by decide +kernel
theorem dX18_jump_59 : decode cX18_jump 59 = .ok (.invokevirtual 172, 3) := by decide +kernel
theorem dX18_jump_62 : decode cX18_jump 62 = .ok (.bipush 8, 2) := by decide +kernel
theorem dX18_jump_64 : decode cX18_jump 64 = .ok (.ishl, 1) := by decide +kernel
theorem dX18_jump_65 : decode cX18_jump 65 = .ok (.ior, 1) := by decide +kernel
theorem dX18_jump_66 : decode cX18_jump 66 = .ok (.aload_n 0, 1) := by decide +kernel
theorem dX18_jump_67 : decode cX18_jump 67 = .ok (.bipush 8, 2) := by decide +kernel
theorem dX18_jump_69 : decode cX18_jump 69 = .ok (.iconst 1, 1) := by decide +kernel
theorem dX18_jump_70 : decode cX18_jump 70 = .ok (.invokevirtual 172, 3) := by decide +kernel
theorem dX18_jump_73 : decode cX18_jump 73 = .ok (.bipush 10, 2) := by decide +kernel
theorem dX18_jump_75 : decode cX18_jump 75 = .ok (.ishl, 1) := by decide +kernel
theorem dX18_jump_76 : decode cX18_jump 76 = .ok (.ior, 1) := by decide +kernel
theorem dX18_jump_77 : decode cX18_jump 77 = .ok (.aload_n 0, 1) := by decide +kernel
theorem dX18_jump_78 : decode cX18_jump 78 = .ok (.bipush 12, 2) := by decide +kernel
theorem dX18_jump_80 : decode cX18_jump 80 = .ok (.iconst 1, 1) := by decide +kernel
theorem dX18_jump_81 : decode cX18_jump 81 = .ok (.invokevirtual 172, 3) := by decide +kernel
theorem dX18_jump_84 : decode cX18_jump 84 = .ok (.ineg, 1) := by decide +kernel
theorem dX18_jump_85 : decode cX18_jump 85 = .ok (.bipush 11, 2) := by decide +kernel
theorem dX18_jump_87 : decode cX18_jump 87 = .ok (.ishl, 1) := by decide +kernel
theorem dX18_jump_88 : decode cX18_jump 88 = .ok (.ior, 1) := by decide +kernel
theorem dX18_jump_89 : decode cX18_jump 89 = .ok (.invokevirtual 176, 3) := by decide +kernel
theorem dX18_jump_92 : decode cX18_jump 92 = .ok (.return_, 1) := by decide +kernel
theorem dX18_reckon_0 : decode cX18_reckon 0 = .ok (.bipush 8, 2) := by decide +kernel
theorem dX18_reckon_2 : decode cX18_reckon 2 = .ok (.aload_n 0, 1) := by decide +kernel
theorem dX18_reckon_3 : decode cX18_reckon 3 = .ok (.iconst 2, 1) := by decide +kernel
theorem dX18_reckon_4 : decode cX18_reckon 4 = .ok (.iconst 3, 1) := by decide +kernel
theorem dX18_reckon_5 : decode cX18_reckon 5 = .ok (.invokevirtual 172, 3) := by decide +kernel
theorem dX18_reckon_8 : decode cX18_reckon 8 = .ok (.iadd, 1) := by decide +kernel
theorem dX18_reckon_9 : decode cX18_reckon 9 = .ok (.istore_n 2, 1) := by decide +kernel
theorem dX18_reckon_10 : decode cX18_reckon 10 = .ok (.bipush 8, 2) := by decide +kernel
theorem dX18_reckon_12 : decode cX18_reckon 12 = .ok (.aload_n 0, 1) := by decide +kernel
theorem dX18_reckon_13 : decode cX18_reckon 13 = .ok (.bipush 7, 2) := by decide +kernel
theorem dX18_reckon_15 : decode cX18_reckon 15 = .ok (.iconst 3, 1) := by decide +kernel
theorem dX18_reckon_16 : decode cX18_reckon 16 = .ok (.invokevirtual 172, 3) := by decide +kernel
theorem dX18_reckon_19 : decode cX18_reckon 19 = .ok (.iadd, 1) := by decide +kernel
theorem dX18_reckon_20 : decode cX18_reckon 20 = .ok (.istore_n 3, 1) := by decide +kernel
theorem dX18_reckon_21 : decode cX18_reckon 21 = .ok (.iload_n 1, 1) := by decide +kernel
theorem dX18_reckon_22 : decode cX18_reckon 22 = .ok (.iconst 2, 1) := by decide +kernel
theorem dX18_reckon_23 : decode cX18_reckon 23 = .ok (.if_icmp .eq 15, 3) := by decide +kernel
theorem dX18_reckon_26 : decode cX18_reckon 26 = .ok (.aload_n 0, 1) := by decide +kernel
theorem dX18_reckon_27 : decode cX18_reckon 27 = .ok (.bipush 12, 2) := by decide +kernel
theorem dX18_reckon_29 : decode cX18_reckon 29 = .ok (.iconst 1, 1) := by decide +kernel
theorem dX18_reckon_30 : decode cX18_reckon 30 = .ok (.invokevirtual 172, 3) := by decide +kernel
theorem dX18_reckon_33 : decode cX18_reckon 33 = .ok (.iconst 1, 1) := by decide +kernel
theorem dX18_reckon_34 : decode cX18_reckon 34 = .ok (.if_icmp .ne 4, 3) := by decide +kernel
theorem dX18_reckon_37 : decode cX18_reckon 37 = .ok (.return_, 1) := by decide +kernel
theorem dX18_reckon_38 : decode cX18_reckon 38 = .ok (.iload_n 1, 1) := by decide +kernel
theorem dX18_reckon_39 : decode cX18_reckon 39 = .ok (.iconst 3, 1) := by decide +kernel
theorem dX18_reckon_40 : decode cX18_reckon 40 = .ok (.if_icmp .ge 59, 3) := by decide +kernel
theorem dX18_reckon_43 : decode cX18_reckon 43 = .ok (.aload_n 0, 1) := by decide +kernel
theorem dX18_reckon_44 : decode cX18_reckon 44 = .ok (.iload_n 1, 1) := by decide +kernel
theorem dX18_reckon_45 : decode cX18_reckon 45 = .ok (.ifCond .ne 9, 3) := by decide +kernel
theorem dX18_reckon_48 : decode cX18_reckon 48 = .ok (.ldc2_w 261, 3) := by decide +kernel
theorem dX18_reckon_51 : decode cX18_reckon 51 = .ok (.goto 17, 3) := by decide +kernel
theorem dX18_reckon_54 : decode cX18_reckon 54 = .ok (.iload_n 1, 1) := by decide +kernel
theorem dX18_reckon_55 : decode cX18_reckon 55 = .ok (.iconst 1, 1) := by decide +kernel
theorem dX18_reckon_56 : decode cX18_reckon 56 = .ok (.if_icmp .ne 9, 3) := by decide +kernel
theorem dX18_reckon_59 : decode cX18_reckon 59 = .ok (.ldc2_w 263, 3) := by decide +kernel
theorem dX18_reckon_62 : decode cX18_reckon 62 = .ok (.goto 6, 3) := by decide +kernel
theorem dX18_reckon_65 : decode cX18_reckon 65 = .ok (.ldc2_w 265, 3) := by decide +kernel
theorem dX18_reckon_68 : decode cX18_reckon 68 = .ok (.invokevirtual 65, 3) := by decide +kernel
theorem dX18_reckon_71 : decode cX18_reckon 71 = .ok (.aload_n 0, 1) := by decide +kernel
theorem dX18_reckon_72 : decode cX18_reckon 72 = .ok (.iload_n 3, 1) := by decide +kernel
theorem dX18_reckon_73 : decode cX18_reckon 73 = .ok (.invokevirtual 71, 3) := by decide +kernel
theorem dX18_reckon_76 : decode cX18_reckon 76 = .ok (.aload_n 0, 1) := by decide +kernel
theorem dX18_reckon_77 : decode cX18_reckon 77 = .ok (.iload_n 1, 1) := by decide +kernel
theorem dX18_reckon_78 : decode cX18_reckon 78 = .ok (.iconst 2, 1) := by decide +kernel
theorem dX18_reckon_79 : decode cX18_reckon 79 = .ok (.if_icmp .ne 10, 3) := by decide +kernel
theorem dX18_reckon_82 : decode cX18_reckon 82 = .ok (.aload_n 0, 1) := by decide +kernel
theorem dX18_reckon_83 : decode cX18_reckon 83 = .ok (.invokevirtual 267, 3) := by decide +kernel
theorem dX18_reckon_86 : decode cX18_reckon 86 = .ok (.goto 9, 3) := by decide +kernel
theorem dX18_reckon_89 : decode cX18_reckon 89 = .ok (.aload_n 0, 1) := by decide +kernel
theorem dX18_reckon_90 : decode cX18_reckon 90 = .ok (.iconst 2, 1) := by decide +kernel
theorem dX18_reckon_91 : decode cX18_reckon 91 = .ok (.iconst 5, 1) := by decide +kernel
theorem dX18_reckon_92 : decode cX18_reckon 92 = .ok (.invokevirtual 172, 3) := by decide +kernel
theorem dX18_reckon_95 : decode cX18_reckon 95 = .ok (.invokevirtual 59, 3) := by decide +kernel
theorem dX18_reckon_98 : decode cX18_reckon 98 = .ok (.return_, 1) := by decide +kernel
theorem dX18_reckon_99 : decode cX18_reckon 99 = .ok (.aload_n 0, 1) := by decide +kernel
theorem dX18_reckon_100 : decode cX18_reckon 100 = .ok (.iconst 5, 1) := by decide +kernel
theorem dX18_reckon_101 : decode cX18_reckon 101 = .ok (.iconst 2, 1) := by decide +kernel
theorem dX18_reckon_102 : decode cX18_reckon 102 = .ok (.invokevirtual 172, 3) := by decide +kernel
theorem dX18_reckon_105 : decode cX18_reckon 105 = .ok (.istore 4, 2) := by decide +kernel
theorem dX18_reckon_107 : decode cX18_reckon 107 = .ok (.aload_n 0, 1) := by decide +kernel
theorem dX18_reckon_108 : decode cX18_reckon 108 = .ok (.iload 4, 2) := by decide +kernel
theorem dX18_reckon_110 : decode cX18_reckon 110 = .ok (.ifCond .ne 9, 3) := by decide +kernel
theorem dX18_reckon_113 : decode cX18_reckon 113 = .ok (.ldc2_w 271, 3) := by decide +kernel
theorem dX18_reckon_116 : decode cX18_reckon 116 = .ok (.goto 30, 3) := by decide +kernel
theorem dX18_reckon_119 : decode cX18_reckon 119 = .ok (.iload 4, 2) := by decide +kernel
theorem dX18_reckon_121 : decode cX18_reckon 121 = .ok (.iconst 1, 1) := by decide +kernel
theorem dX18_reckon_122 : decode cX18_reckon 122 = .ok (.if_icmp .ne 9, 3) := by decide +kernel
theorem dX18_reckon_125 : decode cX18_reckon 125 = .ok (.ldc2_w 273, 3) := by decide +kernel
theorem dX18_reckon_128 : decode cX18_reckon 128 = .ok (.goto 18, 3) := by decide +kernel
theorem dX18_reckon_131 : decode cX18_reckon 131 = .ok (.iload 4, 2) := by decide +kernel
theorem dX18_reckon_133 : decode cX18_reckon 133 = .ok (.iconst 2, 1) := by decide +kernel
theorem dX18_reckon_134 : decode cX18_reckon 134 = .ok (.if_icmp .ne 9, 3) := by decide +kernel
theorem dX18_reckon_137 : decode cX18_reckon 137 = .ok (.ldc2_w 275, 3) := by decide +kernel
theorem dX18_reckon_140 : decode cX18_reckon 140 = .ok (.goto 6, 3) := by decide +kernel
theorem dX18_reckon_143 : decode cX18_reckon 143 = .ok (.ldc2_w 277, 3) := by decide +kernel
theorem dX18_reckon_146 : decode cX18_reckon 146 = .ok (.invokevirtual 65, 3) := by decide +kernel
theorem dX18_reckon_149 : decode cX18_reckon 149 = .ok (.aload_n 0, 1) := by decide +kernel
theorem dX18_reckon_150 : decode cX18_reckon 150 = .ok (.iload_n 3, 1) := by decide +kernel
theorem dX18_reckon_151 : decode cX18_reckon 151 = .ok (.invokevirtual 71, 3) := by decide +kernel
theorem dX18_reckon_154 : decode cX18_reckon 154 = .ok (.aload_n 0, 1) := by decide +kernel
theorem dX18_reckon_155 : decode cX18_reckon 155 = .ok (.iload_n 2, 1) := by decide +kernel
theorem dX18_reckon_156 : decode cX18_reckon 156 = .ok (.invokevirtual 71, 3) := by decide +kernel
theorem dX18_reckon_159 : decode cX18_reckon 159 = .ok (.return_, 1) := by decide +kernel
theorem dX18_upper_0 : decode cX18_upper 0 = .ok (.aload_n 0, 1) := by decide +kernel
theorem dX18_upper_1 : decode cX18_upper 1 = .ok (.bipush 6, 2) := by decide +kernel
theorem dX18_upper_3 : decode cX18_upper 3 = .ok (.iconst 1, 1) := by decide +kernel
theorem dX18_upper_4 : decode cX18_upper 4 = .ok (.invokevirtual 172, 3) := by decide +kernel
theorem dX18_upper_7 : decode cX18_upper 7 = .ok (.iconst 4, 1) := by decide +kernel
theorem dX18_upper_8 : decode cX18_upper 8 = .ok (.ishl, 1) := by decide +kernel
theorem dX18_upper_9 : decode cX18_upper 9 = .ok (.aload_n 0, 1) := by decide +kernel
theorem dX18_upper_10 : decode cX18_upper 10 = .ok (.iconst 5, 1) := by decide +kernel
theorem dX18_upper_11 : decode cX18_upper 11 = .ok (.iconst 1, 1) := by decide +kernel
theorem dX18_upper_12 : decode cX18_upper 12 = .ok (.invokevirtual 172, 3) := by decide +kernel
theorem dX18_upper_15 : decode cX18_upper 15 = .ok (.bipush 6, 2) := by decide +kernel
theorem dX18_upper_17 : decode cX18_upper 17 = .ok (.ishl, 1) := by decide +kernel
theorem dX18_upper_18 : decode cX18_upper 18 = .ok (.ior, 1) := by decide +kernel
theorem dX18_upper_19 : decode cX18_upper 19 = .ok (.aload_n 0, 1) := by decide +kernel
theorem dX18_upper_20 : decode cX18_upper 20 = .ok (.iconst 3, 1) := by decide +kernel
theorem dX18_upper_21 : decode cX18_upper 21 = .ok (.iconst 2, 1) := by decide +kernel
theorem dX18_upper_22 : decode cX18_upper 22 = .ok (.invokevirtual 172, 3) := by decide +kernel
theorem dX18_upper_25 : decode cX18_upper 25 = .ok (.bipush 7, 2) := by decide +kernel
theorem dX18_upper_27 : decode cX18_upper 27 = .ok (.ishl, 1) := by decide +kernel
theorem dX18_upper_28 : decode cX18_upper 28 = .ok (.ior, 1) := by decide +kernel
theorem dX18_upper_29 : decode cX18_upper 29 = .ok (.aload_n 0, 1) := by decide +kernel
theorem dX18_upper_30 : decode cX18_upper 30 = .ok (.iconst 2, 1) := by decide +kernel
theorem dX18_upper_31 : decode cX18_upper 31 = .ok (.iconst 1, 1) := by decide +kernel
theorem dX18_upper_32 : decode cX18_upper 32 = .ok (.invokevirtual 172, 3) := by decide +kernel
theorem dX18_upper_35 : decode cX18_upper 35 = .ok (.iconst 5, 1) := by decide +kernel
theorem dX18_upper_36 : decode cX18_upper 36 = .ok (.ishl, 1) := by decide +kernel
theorem dX18_upper_37 : decode cX18_upper 37 = .ok (.ior, 1) := by decide +kernel
theorem dX18_upper_38 : decode cX18_upper 38 = .ok (.aload_n 0, 1) := by decide +kernel
theorem dX18_upper_39 : decode cX18_upper 39 = .ok (.bipush 12, 2) := by decide +kernel
theorem dX18_upper_41 : decode cX18_upper 41 = .ok (.iconst 1, 1) := by decide +kernel
theorem dX18_upper_42 : decode cX18_upper 42 = .ok (.invokevirtual 172, 3) := by decide +kernel
theorem dX18_upper_45 : decode cX18_upper 45 = .ok (.ineg, 1) := by decide +kernel
theorem dX18_upper_46 : decode cX18_upper 46 = .ok (.bipush 9, 2) := by decide +kernel
theorem dX18_upper_48 : decode cX18_upper 48 = .ok (.ishl, 1) := by decide +kernel
theorem dX18_upper_49 : decode cX18_upper 49 = .ok (.ior, 1) := by decide +kernel
theorem dX18_upper_50 : decode cX18_upper 50 = .ok (.istore_n 1, 1) := by decide +kernel
theorem dX18_upper_51 : decode cX18_upper 51 = .ok (.aload_n 0, 1) := by decide +kernel
theorem dX18_upper_52 : decode cX18_upper 52 = .ok (.getfield 68, 3) := by decide +kernel
theorem dX18_upper_55 : decode cX18_upper 55 = .ok (.iconst 2, 1) := by decide +kernel
theorem dX18_upper_56 : decode cX18_upper 56 = .ok (.if_icmp .ne 10, 3) := by decide +kernel
theorem dX18_upper_59 : decode cX18_upper 59 = .ok (.iload_n 1, 1) := by decide +kernel
theorem dX18_upper_60 : decode cX18_upper 60 = .ok (.ifCond .ne 14, 3) := by decide +kernel
theorem dX18_upper_63 : decode cX18_upper 63 = .ok (.goto 10, 3) := by decide +kernel
theorem dX18_upper_66 : decode cX18_upper 66 = .ok (.aload_n 0, 1) := by decide +kernel
theorem dX18_upper_67 : decode cX18_upper 67 = .ok (.invokevirtual 267, 3) := by decide +kernel
theorem dX18_upper_70 : decode cX18_upper 70 = .ok (.ifCond .ne 4, 3) := by decide +kernel
theorem dX18_upper_73 : decode cX18_upper 73 = .ok (.return_, 1) := by decide +kernel
theorem dX18_upper_74 : decode cX18_upper 74 = .ok (.aload_n 0, 1) := by decide +kernel
theorem dX18_upper_75 : decode cX18_upper 75 = .ok (.getfield 68, 3) := by decide +kernel
theorem dX18_upper_78 : decode cX18_upper 78 = .ok (.iconst 2, 1) := by decide +kernel
theorem dX18_upper_79 : decode cX18_upper 79 = .ok (.if_icmp .ne 23, 3) := by decide +kernel
theorem dX18_upper_82 : decode cX18_upper 82 = .ok (.aload_n 0, 1) := by decide +kernel
theorem dX18_upper_83 : decode cX18_upper 83 = .ok (.ldc2_w 279, 3) := by decide +kernel
theorem dX18_upper_86 : decode cX18_upper 86 = .ok (.invokevirtual 65, 3) := by decide +kernel
theorem dX18_upper_89 : decode cX18_upper 89 = .ok (.aload_n 0, 1) := by decide +kernel
theorem dX18_upper_90 : decode cX18_upper 90 = .ok (.ldc2_w 281, 3) := by decide +kernel
theorem dX18_upper_93 : decode cX18_upper 93 = .ok (.invokevirtual 50, 3) := by decide +kernel
theorem dX18_upper_96 : decode cX18_upper 96 = .ok (.aload_n 0, 1) := by decide +kernel
theorem dX18_upper_97 : decode cX18_upper 97 = .ok (.iload_n 1, 1) := by decide +kernel
theorem dX18_upper_98 : decode cX18_upper 98 = .ok (.invokevirtual 59, 3) := by decide +kernel
theorem dX18_upper_101 : decode cX18_upper 101 = .ok (.return_, 1) := by decide +kernel
theorem dX18_upper_102 : decode cX18_upper 102 = .ok (.aload_n 0, 1) := by decide +kernel
theorem dX18_upper_103 : decode cX18_upper 103 = .ok (.ldc2_w 283, 3) := by decide +kernel
theorem dX18_upper_106 : decode cX18_upper 106 = .ok (.invokevirtual 65, 3) := by decide +kernel
theorem dX18_upper_109 : decode cX18_upper 109 = .ok (.aload_n 0, 1) := by decide +kernel
theorem dX18_upper_110 : decode cX18_upper 110 = .ok (.aload_n 0, 1) := by decide +kernel
theorem dX18_upper_111 : decode cX18_upper 111 = .ok (.getfield 68, 3) := by decide +kernel
theorem dX18_upper_114 : decode cX18_upper 114 = .ok (.invokevirtual 71, 3) := by decide +kernel
theorem dX18_upper_117 : decode cX18_upper 117 = .ok (.aload_n 0, 1) := by decide +kernel
theorem dX18_upper_118 : decode cX18_upper 118 = .ok (.aload_n 0, 1) := by decide +kernel
theorem dX18_upper_119 : decode cX18_upper 119 = .ok (.invokevirtual 267, 3) := by decide +kernel
theorem dX18_upper_122 : decode cX18_upper 122 = .ok (.invokevirtual 59, 3) := by decide +kernel
theorem dX18_upper_125 : decode cX18_upper 125 = .ok (.return_, 1) := by decide +kernel
theorem dX18_second_0 : decode cX18_second 0 = .ok (.aload_n 0, 1) := by decide +kernel
theorem dX18_second_1 : decode cX18_second 1 = .ok (.getfield 20, 3) := by decide +kernel
theorem dX18_second_4 : decode cX18_second 4 = .ok (.iconst 1, 1) := by decide +kernel
theorem dX18_second_5 : decode cX18_second 5 = .ok (.if_icmp .ne 13, 3) := by decide +kernel
theorem dX18_second_8 : decode cX18_second 8 = .ok (.aload_n 0, 1) := by decide +kernel
theorem dX18_second_9 : decode cX18_second 9 = .ok (.ldc2_w 285, 3) := by decide +kernel
theorem dX18_second_12 : decode cX18_second 12 = .ok (.invokevirtual 65, 3) := by decide +kernel
theorem dX18_second_15 : decode cX18_second 15 = .ok (.goto 223, 3) := by decide +kernel
theorem dX18_second_18 : decode cX18_second 18 = .ok (.aload_n 0, 1) := by decide +kernel
theorem dX18_second_19 : decode cX18_second 19 = .ok (.getfield 80, 3) := by decide +kernel
theorem dX18_second_22 : decode cX18_second 22 = .ok (.ifCond .eq 11, 3) := by decide +kernel
theorem dX18_second_25 : decode cX18_second 25 = .ok (.aload_n 0, 1) := by decide +kernel
theorem dX18_second_26 : decode cX18_second 26 = .ok (.getfield 80, 3) := by decide +kernel
theorem dX18_second_29 : decode cX18_second 29 = .ok (.iconst 2, 1) := by decide +kernel
theorem dX18_second_30 : decode cX18_second 30 = .ok (.if_icmp .ne 42, 3) := by decide +kernel
theorem dX18_second_33 : decode cX18_second 33 = .ok (.aload_n 0, 1) := by decide +kernel
theorem dX18_second_34 : decode cX18_second 34 = .ok (.aload_n 0, 1) := by decide +kernel
theorem dX18_second_35 : decode cX18_second 35 = .ok (.getfield 80, 3) := by decide +kernel
theorem dX18_second_38 : decode cX18_second 38 = .ok (.ifCond .ne 9, 3) := by decide +kernel
theorem dX18_second_41 : decode cX18_second 41 = .ok (.ldc2_w 287, 3) := by decide +kernel
theorem dX18_second_44 : decode cX18_second 44 = .ok (.goto 6, 3) := by decide +kernel
theorem dX18_second_47 : decode cX18_second 47 = .ok (.ldc2_w 289, 3) := by decide +kernel
theorem dX18_second_50 : decode cX18_second 50 = .ok (.invokevirtual 65, 3) := by decide +kernel
theorem dX18_second_53 : decode cX18_second 53 = .ok (.aload_n 0, 1) := by decide +kernel
theorem dX18_second_54 : decode cX18_second 54 = .ok (.aload_n 0, 1) := by decide +kernel
theorem dX18_second_55 : decode cX18_second 55 = .ok (.getfield 68, 3) := by decide +kernel
theorem dX18_second_58 : decode cX18_second 58 = .ok (.invokevirtual 71, 3) := by decide +kernel
theorem dX18_second_61 : decode cX18_second 61 = .ok (.aload_n 0, 1) := by decide +kernel
theorem dX18_second_62 : decode cX18_second 62 = .ok (.aload_n 0, 1) := by decide +kernel
theorem dX18_second_63 : decode cX18_second 63 = .ok (.invokevirtual 267, 3) := by decide +kernel
theorem dX18_second_66 : decode cX18_second 66 = .ok (.invokevirtual 59, 3) := by decide +kernel
theorem dX18_second_69 : decode cX18_second 69 = .ok (.goto 169, 3) := by decide +kernel
theorem dX18_second_72 : decode cX18_second 72 = .ok (.aload_n 0, 1) := by decide +kernel
theorem dX18_second_73 : decode cX18_second 73 = .ok (.getfield 80, 3) := by decide +kernel
theorem dX18_second_76 : decode cX18_second 76 = .ok (.iconst 1, 1) := by decide +kernel
theorem dX18_second_77 : decode cX18_second 77 = .ok (.if_icmp .eq 11, 3) := by decide +kernel
theorem dX18_second_80 : decode cX18_second 80 = .ok (.aload_n 0, 1) := by decide +kernel
theorem dX18_second_81 : decode cX18_second 81 = .ok (.getfield 80, 3) := by decide +kernel
theorem dX18_second_84 : decode cX18_second 84 = .ok (.iconst 5, 1) := by decide +kernel
theorem dX18_second_85 : decode cX18_second 85 = .ok (.if_icmp .ne 27, 3) := by decide +kernel
theorem dX18_second_88 : decode cX18_second 88 = .ok (.aload_n 0, 1) := by decide +kernel
theorem dX18_second_89 : decode cX18_second 89 = .ok (.aload_n 0, 1) := by decide +kernel
theorem dX18_second_90 : decode cX18_second 90 = .ok (.getfield 80, 3) := by decide +kernel
theorem dX18_second_93 : decode cX18_second 93 = .ok (.iconst 1, 1) := by decide +kernel
theorem dX18_second_94 : decode cX18_second 94 = .ok (.if_icmp .ne 9, 3) := by decide +kernel
theorem dX18_second_97 : decode cX18_second 97 = .ok (.ldc2_w 291, 3) := by decide +kernel
theorem dX18_second_100 : decode cX18_second 100 = .ok (.goto 6, 3) := by decide +kernel
theorem dX18_second_103 : decode cX18_second 103 = .ok (.ldc2_w 293, 3) := by decide +kernel
theorem dX18_second_106 : decode cX18_second 106 = .ok (.invokevirtual 295, 3) := by decide +kernel
theorem dX18_second_109 : decode cX18_second 109 = .ok (.goto 129, 3) := by decide +kernel
theorem dX18_second_112 : decode cX18_second 112 = .ok (.aload_n 0, 1) := by decide +kernel
theorem dX18_second_113 : decode cX18_second 113 = .ok (.getfield 80, 3) := by decide +kernel
theorem dX18_second_116 : decode cX18_second 116 = .ok (.iconst 3, 1) := by decide +kernel
theorem dX18_second_117 : decode cX18_second 117 = .ok (.if_icmp .ne 10, 3) := by decide +kernel
theorem dX18_second_120 : decode cX18_second 120 = .ok (.aload_n 0, 1) := by decide +kernel
theorem dX18_second_121 : decode cX18_second 121 = .ok (.invokevirtual 298, 3) := by decide +kernel
theorem dX18_second_124 : decode cX18_second 124 = .ok (.goto 114, 3) := by decide +kernel
theorem dX18_second_127 : decode cX18_second 127 = .ok (.aload_n 0, 1) := by decide +kernel
theorem dX18_second_128 : decode cX18_second 128 = .ok (.getfield 80, 3) := by decide +kernel
theorem dX18_second_131 : decode cX18_second 131 = .ok (.iconst 4, 1) := by decide +kernel
theorem dX18_second_132 : decode cX18_second 132 = .ok (.if_icmp .ne 17, 3) := by decide +kernel
theorem dX18_second_135 : decode cX18_second 135 = .ok (.aload_n 0, 1) := by decide +kernel
theorem dX18_second_136 : decode cX18_second 136 = .ok (.aload_n 0, 1) := by decide +kernel
theorem dX18_second_137 : decode cX18_second 137 = .ok (.bipush 10, 2) := by decide +kernel
theorem dX18_second_139 : decode cX18_second 139 = .ok (.iconst 2, 1) := by decide +kernel
theorem dX18_second_140 : decode cX18_second 140 = .ok (.invokevirtual 172, 3) := by decide +kernel
theorem dX18_second_143 : decode cX18_second 143 = .ok (.invokevirtual 301, 3) := by decide +kernel
theorem dX18_second_146 : decode cX18_second 146 = .ok (.goto 92, 3) := by decide +kernel
theorem dX18_second_149 : decode cX18_second 149 = .ok (.aload_n 0, 1) := by decide +kernel
theorem dX18_second_150 : decode cX18_second 150 = .ok (.aload_n 0, 1) := by decide +kernel
theorem dX18_second_151 : decode cX18_second 151 = .ok (.getfield 80, 3) := by decide +kernel
theorem dX18_second_154 : decode cX18_second 154 = .ok (.bipush 6, 2) := by decide +kernel
theorem dX18_second_156 : decode cX18_second 156 = .ok (.if_icmp .ne 9, 3) := by decide +kernel
theorem dX18_second_159 : decode cX18_second 159 = .ok (.ldc2_w 304, 3) := by decide +kernel
theorem dX18_second_162 : decode cX18_second 162 = .ok (.goto 6, 3) := by decide +kernel
theorem dX18_second_165 : decode cX18_second 165 = .ok (.ldc2_w 306, 3) := by decide +kernel
theorem dX18_second_168 : decode cX18_second 168 = .ok (.invokevirtual 65, 3) := by decide +kernel
theorem dX18_second_171 : decode cX18_second 171 = .ok (.aload_n 0, 1) := by decide +kernel
theorem dX18_second_172 : decode cX18_second 172 = .ok (.bipush 8, 2) := by decide +kernel
theorem dX18_second_174 : decode cX18_second 174 = .ok (.aload_n 0, 1) := by decide +kernel
theorem dX18_second_175 : decode cX18_second 175 = .ok (.bipush 7, 2) := by decide +kernel
theorem dX18_second_177 : decode cX18_second 177 = .ok (.iconst 3, 1) := by decide +kernel
theorem dX18_second_178 : decode cX18_second 178 = .ok (.invokevirtual 172, 3) := by decide +kernel
theorem dX18_second_181 : decode cX18_second 181 = .ok (.iadd, 1) := by decide +kernel
theorem dX18_second_182 : decode cX18_second 182 = .ok (.invokevirtual 71, 3) := by decide +kernel
theorem dX18_second_185 : decode cX18_second 185 = .ok (.aload_n 0, 1) := by decide +kernel
theorem dX18_second_186 : decode cX18_second 186 = .ok (.aload_n 0, 1) := by decide +kernel
theorem dX18_second_187 : decode cX18_second 187 = .ok (.iconst 3, 1) := by decide +kernel
theorem dX18_second_188 : decode cX18_second 188 = .ok (.iconst 2, 1) := by decide +kernel
theorem dX18_second_189 : decode cX18_second 189 = .ok (.invokevirtual 172, 3) := by decide +kernel
theorem dX18_second_192 : decode cX18_second 192 = .ok (.iconst 1, 1) := by decide +kernel
theorem dX18_second_193 : decode cX18_second 193 = .ok (.ishl, 1) := by decide +kernel
theorem dX18_second_194 : decode cX18_second 194 = .ok (.aload_n 0, 1) := by decide +kernel
theorem dX18_second_195 : decode cX18_second 195 = .ok (.bipush 10, 2) := by decide +kernel
theorem dX18_second_197 : decode cX18_second 197 = .ok (.iconst 2, 1) := by decide +kernel
theorem dX18_second_198 : decode cX18_second 198 = .ok (.invokevirtual 172, 3) := by decide +kernel
theorem dX18_second_201 : decode cX18_second 201 = .ok (.iconst 3, 1) := by decide +kernel
theorem dX18_second_202 : decode cX18_second 202 = .ok (.ishl, 1) := by decide +kernel
theorem dX18_second_203 : decode cX18_second 203 = .ok (.ior, 1) := by decide +kernel
theorem dX18_second_204 : decode cX18_second 204 = .ok (.aload_n 0, 1) := by decide +kernel
theorem dX18_second_205 : decode cX18_second 205 = .ok (.iconst 2, 1) := by decide +kernel
theorem dX18_second_206 : decode cX18_second 206 = .ok (.iconst 1, 1) := by decide +kernel
theorem dX18_second_207 : decode cX18_second 207 = .ok (.invokevirtual 172, 3) := by decide +kernel
theorem dX18_second_210 : decode cX18_second 210 = .ok (.iconst 5, 1) := by decide +kernel
theorem dX18_second_211 : decode cX18_second 211 = .ok (.ishl, 1) := by decide +kernel
theorem dX18_second_212 : decode cX18_second 212 = .ok (.ior, 1) := by decide +kernel
theorem dX18_second_213 : decode cX18_second 213 = .ok (.aload_n 0, 1) := by decide +kernel
theorem dX18_second_214 : decode cX18_second 214 = .ok (.iconst 5, 1) := by decide +kernel
theorem dX18_second_215 : decode cX18_second 215 = .ok (.iconst 2, 1) := by decide +kernel
theorem dX18_second_216 : decode cX18_second 216 = .ok (.invokevirtual 172, 3) := by decide +kernel
theorem dX18_second_219 : decode cX18_second 219 = .ok (.bipush 6, 2) := by decide +kernel
theorem dX18_second_221 : decode cX18_second 221 = .ok (.ishl, 1) := by decide +kernel
theorem dX18_second_222 : decode cX18_second 222 = .ok (.ior, 1) := by decide +kernel
theorem dX18_second_223 : decode cX18_second 223 = .ok (.aload_n 0, 1) := by decide +kernel
theorem dX18_second_224 : decode cX18_second 224 = .ok (.bipush 12, 2) := by decide +kernel
theorem dX18_second_226 : decode cX18_second 226 = .ok (.iconst 1, 1) := by decide +kernel
theorem dX18_second_227 : decode cX18_second 227 = .ok (.invokevirtual 172, 3) := by decide +kernel
theorem dX18_second_230 : decode cX18_second 230 = .ok (.ineg, 1) := by decide +kernel
