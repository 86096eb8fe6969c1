theorem dX13_readAll_2 : decode cX13_readAll 2 = .ok (.putfield 374, 3) := by decide +kernel
theorem dX13_readAll_5 : decode cX13_readAll 5 = .ok (.aload_n 0, 1) := by decide +kernel
theorem dX13_readAll_6 : decode cX13_readAll 6 = .ok (.iconst 1, 1) := by decide +kernel
theorem dX13_readAll_7 : decode cX13_readAll 7 = .ok (.putfield 413, 3) := by decide +kernel
theorem dX13_readAll_10 : decode cX13_readAll 10 = .ok (.aload_n 0, 1) := by decide +kernel
theorem dX13_readAll_11 : decode cX13_readAll 11 = .ok (.iconst 0, 1) := by decide +kernel
theorem dX13_readAll_12 : decode cX13_readAll 12 = .ok (.putfield 634, 3) := by decide +kernel
theorem dX13_readAll_15 : decode cX13_readAll 15 = .ok (.aload_n 0, 1) := by decide +kernel
theorem dX13_readAll_16 : decode cX13_readAll 16 = .ok (.iconst 0, 1) := by decide +kernel
theorem dX13_readAll_17 : decode cX13_readAll 17 = .ok (.putfield 673, 3) := by decide +kernel
theorem dX13_readAll_20 : decode cX13_readAll 20 = .ok (.aload_n 0, 1) := by decide +kernel
theorem dX13_readAll_21 : decode cX13_readAll 21 = .ok (.iconst 0, 1) := by decide +kernel
theorem dX13_readAll_22 : decode cX13_readAll 22 = .ok (.putfield 439, 3) := by decide +kernel
theorem dX13_readAll_25 : decode cX13_readAll 25 = .ok (.aload_n 0, 1) := by decide +kernel
theorem dX13_readAll_26 : decode cX13_readAll 26 = .ok (.getfield 410, 3) := by decide +kernel
theorem dX13_readAll_29 : decode cX13_readAll 29 = .ok (.ifCond .ne 172, 3) := by decide +kernel
theorem dX13_readAll_32 : decode cX13_readAll 32 = .ok (.aload_n 0, 1) := by decide +kernel
theorem dX13_readAll_33 : decode cX13_readAll 33 = .ok (.getfield 374, 3) := by decide +kernel
theorem dX13_readAll_36 : decode cX13_readAll 36 = .ok (.aload_n 0, 1) := by decide +kernel
theorem dX13_readAll_37 : decode cX13_readAll 37 = .ok (.getfield 347, 3) := by decide +kernel
theorem dX13_readAll_40 : decode cX13_readAll 40 = .ok (.if_icmp .ge 161, 3) := by decide +kernel
theorem dX13_readAll_43 : decode cX13_readAll 43 = .ok (.aload_n 0, 1) := by decide +kernel
theorem dX13_readAll_44 : decode cX13_readAll 44 = .ok (.invokevirtual 676, 3) := by decide +kernel
theorem dX13_readAll_47 : decode cX13_readAll 47 = .ok (.ifCond .eq 105, 3) := by decide +kernel
theorem dX13_readAll_50 : decode cX13_readAll 50 = .ok (.aload_n 0, 1) := by decide +kernel
theorem dX13_readAll_51 : decode cX13_readAll 51 = .ok (.aload_n 0, 1) := by decide +kernel
theorem dX13_readAll_52 : decode cX13_readAll 52 = .ok (.getfield 673, 3) := by decide +kernel
theorem dX13_readAll_55 : decode cX13_readAll 55 = .ok (.putfield 454, 3) := by decide +kernel
theorem dX13_readAll_58 : decode cX13_readAll 58 = .ok (.aload_n 0, 1) := by decide +kernel
theorem dX13_readAll_59 : decode cX13_readAll 59 = .ok (.getfield 374, 3) := by decide +kernel
theorem dX13_readAll_62 : decode cX13_readAll 62 = .ok (.istore_n 1, 1) := by decide +kernel
theorem dX13_readAll_63 : decode cX13_readAll 63 = .ok (.aload_n 0, 1) := by decide +kernel
theorem dX13_readAll_64 : decode cX13_readAll 64 = .ok (.getfield 328, 3) := by decide +kernel
theorem dX13_readAll_67 : decode cX13_readAll 67 = .ok (.aload_n 0, 1) := by decide +kernel
theorem dX13_readAll_68 : decode cX13_readAll 68 = .ok (.getfield 454, 3) := by decide +kernel
theorem dX13_readAll_71 : decode cX13_readAll 71 = .ok (.iload_n 1, 1) := by decide +kernel
theorem dX13_readAll_72 : decode cX13_readAll 72 = .ok (.aload_n 0, 1) := by decide +kernel
theorem dX13_readAll_73 : decode cX13_readAll 73 = .ok (.getfield 634, 3) := by decide +kernel
theorem dX13_readAll_76 : decode cX13_readAll 76 = .ok (.bipush 19, 2) := by decide +kernel
theorem dX13_readAll_78 : decode cX13_readAll 78 = .ok (.ishl, 1) := by decide +kernel
theorem dX13_readAll_79 : decode cX13_readAll 79 = .ok (.ior, 1) := by decide +kernel
theorem dX13_readAll_80 : decode cX13_readAll 80 = .ok (.iastore, 1) := by decide +kernel
theorem dX13_readAll_81 : decode cX13_readAll 81 = .ok (.aload_n 0, 1) := by decide +kernel
theorem dX13_readAll_82 : decode cX13_readAll 82 = .ok (.getfield 334, 3) := by decide +kernel
theorem dX13_readAll_85 : decode cX13_readAll 85 = .ok (.aload_n 0, 1) := by decide +kernel
theorem dX13_readAll_86 : decode cX13_readAll 86 = .ok (.getfield 454, 3) := by decide +kernel
theorem dX13_readAll_89 : decode cX13_readAll 89 = .ok (.iconst 0, 1) := by decide +kernel
theorem dX13_readAll_90 : decode cX13_readAll 90 = .ok (.iastore, 1) := by decide +kernel
theorem dX13_readAll_91 : decode cX13_readAll 91 = .ok (.aload_n 0, 1) := by decide +kernel
theorem dX13_readAll_92 : decode cX13_readAll 92 = .ok (.getfield 634, 3) := by decide +kernel
theorem dX13_readAll_95 : decode cX13_readAll 95 = .ok (.istore_n 2, 1) := by decide +kernel
theorem dX13_readAll_96 : decode cX13_readAll 96 = .ok (.aload_n 0, 1) := by decide +kernel
theorem dX13_readAll_97 : decode cX13_readAll 97 = .ok (.iload_n 1, 1) := by decide +kernel
theorem dX13_readAll_98 : decode cX13_readAll 98 = .ok (.iconst 0, 1) := by decide +kernel
theorem dX13_readAll_99 : decode cX13_readAll 99 = .ok (.invokevirtual 679, 3) := by decide +kernel
theorem dX13_readAll_102 : decode cX13_readAll 102 = .ok (.iload_n 2, 1) := by decide +kernel
theorem dX13_readAll_103 : decode cX13_readAll 103 = .ok (.aload_n 0, 1) := by decide +kernel
theorem dX13_readAll_104 : decode cX13_readAll 104 = .ok (.getfield 634, 3) := by decide +kernel
theorem dX13_readAll_107 : decode cX13_readAll 107 = .ok (.if_icmp .ne 10, 3) := by decide +kernel
theorem dX13_readAll_110 : decode cX13_readAll 110 = .ok (.aload_n 0, 1) := by decide +kernel
theorem dX13_readAll_111 : decode cX13_readAll 111 = .ok (.getfield 454, 3) := by decide +kernel
theorem dX13_readAll_114 : decode cX13_readAll 114 = .ok (.goto 4, 3) := by decide +kernel
theorem dX13_readAll_117 : decode cX13_readAll 117 = .ok (.iconst (-1), 1) := by decide +kernel
theorem dX13_readAll_118 : decode cX13_readAll 118 = .ok (.istore_n 3, 1) := by decide +kernel
theorem dX13_readAll_119 : decode cX13_readAll 119 = .ok (.iload_n 3, 1) := by decide +kernel
theorem dX13_readAll_120 : decode cX13_readAll 120 = .ok (.ifCond .lt 32, 3) := by decide +kernel
theorem dX13_readAll_123 : decode cX13_readAll 123 = .ok (.aload_n 0, 1) := by decide +kernel
theorem dX13_readAll_124 : decode cX13_readAll 124 = .ok (.dup, 1) := by decide +kernel
theorem dX13_readAll_125 : decode cX13_readAll 125 = .ok (.getfield 673, 3) := by decide +kernel
theorem dX13_readAll_128 : decode cX13_readAll 128 = .ok (.iconst 1, 1) := by decide +kernel
theorem dX13_readAll_129 : decode cX13_readAll 129 = .ok (.iadd, 1) := by decide +kernel
theorem dX13_readAll_130 : decode cX13_readAll 130 = .ok (.putfield 673, 3) := by decide +kernel
theorem dX13_readAll_133 : decode cX13_readAll 133 = .ok (.aload_n 0, 1) := by decide +kernel
theorem dX13_readAll_134 : decode cX13_readAll 134 = .ok (.getfield 334, 3) := by decide +kernel
theorem dX13_readAll_137 : decode cX13_readAll 137 = .ok (.iload_n 3, 1) := by decide +kernel
theorem dX13_readAll_138 : decode cX13_readAll 138 = .ok (.iaload, 1) := by decide +kernel
theorem dX13_readAll_139 : decode cX13_readAll 139 = .ok (.ifCond .ne 13, 3) := by decide +kernel
theorem dX13_readAll_142 : decode cX13_readAll 142 = .ok (.aload_n 0, 1) := by decide +kernel
theorem dX13_readAll_143 : decode cX13_readAll 143 = .ok (.getfield 334, 3) := by decide +kernel
theorem dX13_readAll_146 : decode cX13_readAll 146 = .ok (.iload_n 3, 1) := by decide +kernel
theorem dX13_readAll_147 : decode cX13_readAll 147 = .ok (.aload_n 0, 1) := by decide +kernel
theorem dX13_readAll_148 : decode cX13_readAll 148 = .ok (.getfield 541, 3) := by decide +kernel
theorem dX13_readAll_151 : decode cX13_readAll 151 = .ok (.iastore, 1) := by decide +kernel
theorem dX13_readAll_152 : decode cX13_readAll 152 = .ok (.aload_n 0, 1) := by decide +kernel
theorem dX13_readAll_153 : decode cX13_readAll 153 = .ok (.aload_n 0, 1) := by decide +kernel
theorem dX13_readAll_154 : decode cX13_readAll 154 = .ok (.getfield 374, 3) := by decide +kernel
theorem dX13_readAll_157 : decode cX13_readAll 157 = .ok (.invokevirtual 358, 3) := by decide +kernel
theorem dX13_readAll_160 : decode cX13_readAll 160 = .ok (.bipush 10, 2) := by decide +kernel
theorem dX13_readAll_162 : decode cX13_readAll 162 = .ok (.if_icmp .eq 16, 3) := by decide +kernel
theorem dX13_readAll_165 : decode cX13_readAll 165 = .ok (.aload_n 0, 1) := by decide +kernel
theorem dX13_readAll_166 : decode cX13_readAll 166 = .ok (.dup, 1) := by decide +kernel
theorem dX13_readAll_167 : decode cX13_readAll 167 = .ok (.getfield 374, 3) := by decide +kernel
theorem dX13_readAll_170 : decode cX13_readAll 170 = .ok (.iconst 1, 1) := by decide +kernel
theorem dX13_readAll_171 : decode cX13_readAll 171 = .ok (.iadd, 1) := by decide +kernel
theorem dX13_readAll_172 : decode cX13_readAll 172 = .ok (.putfield 374, 3) := by decide +kernel
theorem dX13_readAll_175 : decode cX13_readAll 175 = .ok (.goto (-23), 3) := by decide +kernel
theorem dX13_readAll_178 : decode cX13_readAll 178 = .ok (.aload_n 0, 1) := by decide +kernel
theorem dX13_readAll_179 : decode cX13_readAll 179 = .ok (.dup, 1) := by decide +kernel
theorem dX13_readAll_180 : decode cX13_readAll 180 = .ok (.getfield 374, 3) := by decide +kernel
theorem dX13_readAll_183 : decode cX13_readAll 183 = .ok (.iconst 1, 1) := by decide +kernel
theorem dX13_readAll_184 : decode cX13_readAll 184 = .ok (.iadd, 1) := by decide +kernel
theorem dX13_readAll_185 : decode cX13_readAll 185 = .ok (.putfield 374, 3) := by decide +kernel
theorem dX13_readAll_188 : decode cX13_readAll 188 = .ok (.aload_n 0, 1) := by decide +kernel
theorem dX13_readAll_189 : decode cX13_readAll 189 = .ok (.dup, 1) := by decide +kernel
theorem dX13_readAll_190 : decode cX13_readAll 190 = .ok (.getfield 413, 3) := by decide +kernel
theorem dX13_readAll_193 : decode cX13_readAll 193 = .ok (.iconst 1, 1) := by decide +kernel
theorem dX13_readAll_194 : decode cX13_readAll 194 = .ok (.iadd, 1) := by decide +kernel
theorem dX13_readAll_195 : decode cX13_readAll 195 = .ok (.putfield 413, 3) := by decide +kernel
theorem dX13_readAll_198 : decode cX13_readAll 198 = .ok (.goto (-173), 3) := by decide +kernel
theorem dX13_readAll_201 : decode cX13_readAll 201 = .ok (.return_, 1) := by decide +kernel
theorem dX13_sizeAt_0 : decode cX13_sizeAt 0 = .ok (.aload_n 0, 1) := by decide +kernel
theorem dX13_sizeAt_1 : decode cX13_sizeAt 1 = .ok (.getfield 334, 3) := by decide +kernel
theorem dX13_sizeAt_4 : decode cX13_sizeAt 4 = .ok (.iload_n 1, 1) := by decide +kernel
theorem dX13_sizeAt_5 : decode cX13_sizeAt 5 = .ok (.iaload, 1) := by decide +kernel
theorem dX13_sizeAt_6 : decode cX13_sizeAt 6 = .ok (.ifCond .ge 19, 3) := by decide +kernel
theorem dX13_sizeAt_9 : decode cX13_sizeAt 9 = .ok (.iload_n 2, 1) := by decide +kernel
theorem dX13_sizeAt_10 : decode cX13_sizeAt 10 = .ok (.ineg, 1) := by decide +kernel
theorem dX13_sizeAt_11 : decode cX13_sizeAt 11 = .ok (.iconst 1, 1) := by decide +kernel
theorem dX13_sizeAt_12 : decode cX13_sizeAt 12 = .ok (.iconst (-1), 1) := by decide +kernel
theorem dX13_sizeAt_13 : decode cX13_sizeAt 13 = .ok (.aload_n 0, 1) := by decide +kernel
theorem dX13_sizeAt_14 : decode cX13_sizeAt 14 = .ok (.getfield 334, 3) := by decide +kernel
theorem dX13_sizeAt_17 : decode cX13_sizeAt 17 = .ok (.iload_n 1, 1) := by decide +kernel
theorem dX13_sizeAt_18 : decode cX13_sizeAt 18 = .ok (.iaload, 1) := by decide +kernel
theorem dX13_sizeAt_19 : decode cX13_sizeAt 19 = .ok (.isub, 1) := by decide +kernel
theorem dX13_sizeAt_20 : decode cX13_sizeAt 20 = .ok (.ishl, 1) := by decide +kernel
theorem dX13_sizeAt_21 : decode cX13_sizeAt 21 = .ok (.iconst 1, 1) := by decide +kernel
theorem dX13_sizeAt_22 : decode cX13_sizeAt 22 = .ok (.isub, 1) := by decide +kernel
theorem dX13_sizeAt_23 : decode cX13_sizeAt 23 = .ok (.iand, 1) := by decide +kernel
theorem dX13_sizeAt_24 : decode cX13_sizeAt 24 = .ok (.ireturn, 1) := by decide +kernel
theorem dX13_sizeAt_25 : decode cX13_sizeAt 25 = .ok (.aload_n 0, 1) := by decide +kernel
theorem dX13_sizeAt_26 : decode cX13_sizeAt 26 = .ok (.getfield 328, 3) := by decide +kernel
theorem dX13_sizeAt_29 : decode cX13_sizeAt 29 = .ok (.iload_n 1, 1) := by decide +kernel
theorem dX13_sizeAt_30 : decode cX13_sizeAt 30 = .ok (.iaload, 1) := by decide +kernel
theorem dX13_sizeAt_31 : decode cX13_sizeAt 31 = .ok (.bipush 20, 2) := by decide +kernel
theorem dX13_sizeAt_33 : decode cX13_sizeAt 33 = .ok (.ishr, 1) := by decide +kernel
theorem dX13_sizeAt_34 : decode cX13_sizeAt 34 = .ok (.ifCond .le 19, 3) := by decide +kernel
theorem dX13_sizeAt_37 : decode cX13_sizeAt 37 = .ok (.iconst 2, 1) := by decide +kernel
theorem dX13_sizeAt_38 : decode cX13_sizeAt 38 = .ok (.aload_n 0, 1) := by decide +kernel
theorem dX13_sizeAt_39 : decode cX13_sizeAt 39 = .ok (.getfield 328, 3) := by decide +kernel
theorem dX13_sizeAt_42 : decode cX13_sizeAt 42 = .ok (.iload_n 1, 1) := by decide +kernel
theorem dX13_sizeAt_43 : decode cX13_sizeAt 43 = .ok (.iaload, 1) := by decide +kernel
theorem dX13_sizeAt_44 : decode cX13_sizeAt 44 = .ok (.bipush 17, 2) := by decide +kernel
theorem dX13_sizeAt_46 : decode cX13_sizeAt 46 = .ok (.ishr, 1) := by decide +kernel
theorem dX13_sizeAt_47 : decode cX13_sizeAt 47 = .ok (.iconst 3, 1) := by decide +kernel
theorem dX13_sizeAt_48 : decode cX13_sizeAt 48 = .ok (.iand, 1) := by decide +kernel
theorem dX13_sizeAt_49 : decode cX13_sizeAt 49 = .ok (.ishl, 1) := by decide +kernel
theorem dX13_sizeAt_50 : decode cX13_sizeAt 50 = .ok (.goto 9, 3) := by decide +kernel
theorem dX13_sizeAt_53 : decode cX13_sizeAt 53 = .ok (.aload_n 0, 1) := by decide +kernel
theorem dX13_sizeAt_54 : decode cX13_sizeAt 54 = .ok (.getfield 334, 3) := by decide +kernel
theorem dX13_sizeAt_57 : decode cX13_sizeAt 57 = .ok (.iload_n 1, 1) := by decide +kernel
theorem dX13_sizeAt_58 : decode cX13_sizeAt 58 = .ok (.iaload, 1) := by decide +kernel
theorem dX13_sizeAt_59 : decode cX13_sizeAt 59 = .ok (.ireturn, 1) := by decide +kernel
theorem dX13_sectionOf_0 : decode cX13_sectionOf 0 = .ok (.aload_n 0, 1) := by decide +kernel
theorem dX13_sectionOf_1 : decode cX13_sectionOf 1 = .ok (.getfield 328, 3) := by decide +kernel
theorem dX13_sectionOf_4 : decode cX13_sectionOf 4 = .ok (.iload_n 1, 1) := by decide +kernel
theorem dX13_sectionOf_5 : decode cX13_sectionOf 5 = .ok (.iaload, 1) := by decide +kernel
theorem dX13_sectionOf_6 : decode cX13_sectionOf 6 = .ok (.bipush 19, 2) := by decide +kernel
theorem dX13_sectionOf_8 : decode cX13_sectionOf 8 = .ok (.ishr, 1) := by decide +kernel
theorem dX13_sectionOf_9 : decode cX13_sectionOf 9 = .ok (.iconst 1, 1) := by decide +kernel
theorem dX13_sectionOf_10 : decode cX13_sectionOf 10 = .ok (.iand, 1) := by decide +kernel
theorem dX13_sectionOf_11 : decode cX13_sectionOf 11 = .ok (.ireturn, 1) := by decide +kernel
theorem dX13_layout_0 : decode cX13_layout 0 = .ok (.aload_n 0, 1) := by decide +kernel
theorem dX13_layout_1 : decode cX13_layout 1 = .ok (.iconst 0, 1) := by decide +kernel
theorem dX13_layout_2 : decode cX13_layout 2 = .ok (.putfield 447, 3) := by decide +kernel
theorem dX13_layout_5 : decode cX13_layout 5 = .ok (.aload_n 0, 1) := by decide +kernel
theorem dX13_layout_6 : decode cX13_layout 6 = .ok (.iconst 0, 1) := by decide +kernel
theorem dX13_layout_7 : decode cX13_layout 7 = .ok (.putfield 682, 3) := by decide +kernel
theorem dX13_layout_10 : decode cX13_layout 10 = .ok (.iconst 0, 1) := by decide +kernel
theorem dX13_layout_11 : decode cX13_layout 11 = .ok (.istore_n 1, 1) := by decide +kernel
theorem dX13_layout_12 : decode cX13_layout 12 = .ok (.iconst 0, 1) := by decide +kernel
theorem dX13_layout_13 : decode cX13_layout 13 = .ok (.istore_n 2, 1) := by decide +kernel
theorem dX13_layout_14 : decode cX13_layout 14 = .ok (.iload_n 2, 1) := by decide +kernel
theorem dX13_layout_15 : decode cX13_layout 15 = .ok (.aload_n 0, 1) := by decide +kernel
theorem dX13_layout_16 : decode cX13_layout 16 = .ok (.getfield 673, 3) := by decide +kernel
theorem dX13_layout_19 : decode cX13_layout 19 = .ok (.if_icmp .gt 204, 3) := by decide +kernel
theorem dX13_layout_22 : decode cX13_layout 22 = .ok (.iload_n 2, 1) := by decide +kernel
theorem dX13_layout_23 : decode cX13_layout 23 = .ok (.aload_n 0, 1) := by decide +kernel
theorem dX13_layout_24 : decode cX13_layout 24 = .ok (.getfield 673, 3) := by decide +kernel
theorem dX13_layout_27 : decode cX13_layout 27 = .ok (.if_icmp .ge 16, 3) := by decide +kernel
theorem dX13_layout_30 : decode cX13_layout 30 = .ok (.aload_n 0, 1) := by decide +kernel
theorem dX13_layout_31 : decode cX13_layout 31 = .ok (.getfield 328, 3) := by decide +kernel
theorem dX13_layout_34 : decode cX13_layout 34 = .ok (.iload_n 2, 1) := by decide +kernel
theorem dX13_layout_35 : decode cX13_layout 35 = .ok (.iaload, 1) := by decide +kernel
theorem dX13_layout_36 : decode cX13_layout 36 = .ok (.ldc_w 442, 3) := by decide +kernel
theorem dX13_layout_39 : decode cX13_layout 39 = .ok (.iand, 1) := by decide +kernel
theorem dX13_layout_40 : decode cX13_layout 40 = .ok (.goto 6, 3) := by decide +kernel
theorem dX13_layout_43 : decode cX13_layout 43 = .ok (.ldc_w 442, 3) := by decide +kernel
theorem dX13_layout_46 : decode cX13_layout 46 = .ok (.istore_n 3, 1) := by decide +kernel
theorem dX13_layout_47 : decode cX13_layout 47 = .ok (.iload_n 1, 1) := by decide +kernel
theorem dX13_layout_48 : decode cX13_layout 48 = .ok (.aload_n 0, 1) := by decide +kernel
theorem dX13_layout_49 : decode cX13_layout 49 = .ok (.getfield 439, 3) := by decide +kernel
theorem dX13_layout_52 : decode cX13_layout 52 = .ok (.if_icmp .ge 69, 3) := by decide +kernel
theorem dX13_layout_55 : decode cX13_layout 55 = .ok (.aload_n 0, 1) := by decide +kernel
theorem dX13_layout_56 : decode cX13_layout 56 = .ok (.getfield 337, 3) := by decide +kernel
theorem dX13_layout_59 : decode cX13_layout 59 = .ok (.iload_n 1, 1) := by decide +kernel
theorem dX13_layout_60 : decode cX13_layout 60 = .ok (.iaload, 1) := by decide +kernel
theorem dX13_layout_61 : decode cX13_layout 61 = .ok (.ldc_w 442, 3) := by decide +kernel
theorem dX13_layout_64 : decode cX13_layout 64 = .ok (.iand, 1) := by decide +kernel
theorem dX13_layout_65 : decode cX13_layout 65 = .ok (.iload_n 3, 1) := by decide +kernel
theorem dX13_layout_66 : decode cX13_layout 66 = .ok (.if_icmp .ge 55, 3) := by decide +kernel
theorem dX13_layout_69 : decode cX13_layout 69 = .ok (.aload_n 0, 1) := by decide +kernel
theorem dX13_layout_70 : decode cX13_layout 70 = .ok (.getfield 337, 3) := by decide +kernel
theorem dX13_layout_73 : decode cX13_layout 73 = .ok (.iload_n 1, 1) := by decide +kernel
theorem dX13_layout_74 : decode cX13_layout 74 = .ok (.iaload, 1) := by decide +kernel
theorem dX13_layout_75 : decode cX13_layout 75 = .ok (.bipush 17, 2) := by decide +kernel
theorem dX13_layout_77 : decode cX13_layout 77 = .ok (.ishr, 1) := by decide +kernel
theorem dX13_layout_78 : decode cX13_layout 78 = .ok (.istore 4, 2) := by decide +kernel
theorem dX13_layout_80 : decode cX13_layout 80 = .ok (.iload 4, 2) := by decide +kernel
theorem dX13_layout_82 : decode cX13_layout 82 = .ok (.iconst 2, 1) := by decide +kernel
theorem dX13_layout_83 : decode cX13_layout 83 = .ok (.if_icmp .eq 32, 3) := by decide +kernel
theorem dX13_layout_86 : decode cX13_layout 86 = .ok (.aload_n 0, 1) := by decide +kernel
theorem dX13_layout_87 : decode cX13_layout 87 = .ok (.getfield 340, 3) := by decide +kernel
theorem dX13_layout_90 : decode cX13_layout 90 = .ok (.iload_n 1, 1) := by decide +kernel
theorem dX13_layout_91 : decode cX13_layout 91 = .ok (.iload 4, 2) := by decide +kernel
theorem dX13_layout_93 : decode cX13_layout 93 = .ok (.iconst 1, 1) := by decide +kernel
theorem dX13_layout_94 : decode cX13_layout 94 = .ok (.if_icmp .eq 9, 3) := by decide +kernel
theorem dX13_layout_97 : decode cX13_layout 97 = .ok (.iload 4, 2) := by decide +kernel
theorem dX13_layout_99 : decode cX13_layout 99 = .ok (.iconst 4, 1) := by decide +kernel
theorem dX13_layout_100 : decode cX13_layout 100 = .ok (.if_icmp .ne 10, 3) := by decide +kernel
theorem dX13_layout_103 : decode cX13_layout 103 = .ok (.aload_n 0, 1) := by decide +kernel
theorem dX13_layout_104 : decode cX13_layout 104 = .ok (.getfield 682, 3) := by decide +kernel
theorem dX13_layout_107 : decode cX13_layout 107 = .ok (.goto 7, 3) := by decide +kernel
theorem dX13_layout_110 : decode cX13_layout 110 = .ok (.aload_n 0, 1) := by decide +kernel
theorem dX13_layout_111 : decode cX13_layout 111 = .ok (.getfield 447, 3) := by decide +kernel
theorem dX13_layout_114 : decode cX13_layout 114 = .ok (.iastore, 1) := by decide +kernel
theorem dX13_layout_115 : decode cX13_layout 115 = .ok (.iinc 1 1, 3) := by decide +kernel
theorem dX13_layout_118 : decode cX13_layout 118 = .ok (.goto (-71), 3) := by decide +kernel
theorem dX13_layout_121 : decode cX13_layout 121 = .ok (.iload_n 2, 1) := by decide +kernel
theorem dX13_layout_122 : decode cX13_layout 122 = .ok (.aload_n 0, 1) := by decide +kernel
theorem dX13_layout_123 : decode cX13_layout 123 = .ok (.getfield 673, 3) := by decide +kernel
theorem dX13_layout_126 : decode cX13_layout 126 = .ok (.if_icmp .ne 4, 3) := by decide +kernel
theorem dX13_layout_129 : decode cX13_layout 129 = .ok (.return_, 1) := by decide +kernel
theorem dX13_layout_130 : decode cX13_layout 130 = .ok (.aload_n 0, 1) := by decide +kernel
theorem dX13_layout_131 : decode cX13_layout 131 = .ok (.getfield 331, 3) := by decide +kernel
theorem dX13_layout_134 : decode cX13_layout 134 = .ok (.iload_n 2, 1) := by decide +kernel
theorem dX13_layout_135 : decode cX13_layout 135 = .ok (.aload_n 0, 1) := by decide +kernel
theorem dX13_layout_136 : decode cX13_layout 136 = .ok (.iload_n 2, 1) := by decide +kernel
theorem dX13_layout_137 : decode cX13_layout 137 = .ok (.invokevirtual 685, 3) := by decide +kernel
theorem dX13_layout_140 : decode cX13_layout 140 = .ok (.iconst 1, 1) := by decide +kernel
theorem dX13_layout_141 : decode cX13_layout 141 = .ok (.if_icmp .ne 10, 3) := by decide +kernel
theorem dX13_layout_144 : decode cX13_layout 144 = .ok (.aload_n 0, 1) := by decide +kernel
theorem dX13_layout_145 : decode cX13_layout 145 = .ok (.getfield 682, 3) := by decide +kernel
theorem dX13_layout_148 : decode cX13_layout 148 = .ok (.goto 7, 3) := by decide +kernel
theorem dX13_layout_151 : decode cX13_layout 151 = .ok (.aload_n 0, 1) := by decide +kernel
theorem dX13_layout_152 : decode cX13_layout 152 = .ok (.getfield 447, 3) := by decide +kernel
theorem dX13_layout_155 : decode cX13_layout 155 = .ok (.iastore, 1) := by decide +kernel
theorem dX13_layout_156 : decode cX13_layout 156 = .ok (.aload_n 0, 1) := by decide +kernel
theorem dX13_layout_157 : decode cX13_layout 157 = .ok (.iload_n 2, 1) := by decide +kernel
theorem dX13_layout_158 : decode cX13_layout 158 = .ok (.aload_n 0, 1) := by decide +kernel
theorem dX13_layout_159 : decode cX13_layout 159 = .ok (.getfield 331, 3) := by decide +kernel
theorem dX13_layout_162 : decode cX13_layout 162 = .ok (.iload_n 2, 1) := by decide +kernel
theorem dX13_layout_163 : decode cX13_layout 163 = .ok (.iaload, 1) := by decide +kernel
theorem dX13_layout_164 : decode cX13_layout 164 = .ok (.invokevirtual 688, 3) := by decide +kernel
theorem dX13_layout_167 : decode cX13_layout 167 = .ok (.istore 4, 2) := by decide +kernel
theorem dX13_layout_169 : decode cX13_layout 169 = .ok (.aload_n 0, 1) := by decide +kernel
theorem dX13_layout_170 : decode cX13_layout 170 = .ok (.dup, 1) := by decide +kernel
theorem dX13_layout_171 : decode cX13_layout 171 = .ok (.getfield 682, 3) := by decide +kernel
theorem dX13_layout_174 : decode cX13_layout 174 = .ok (.aload_n 0, 1) := by decide +kernel
theorem dX13_layout_175 : decode cX13_layout 175 = .ok (.iload_n 2, 1) := by decide +kernel
theorem dX13_layout_176 : decode cX13_layout 176 = .ok (.invokevirtual 685, 3) := by decide +kernel
theorem dX13_layout_179 : decode cX13_layout 179 = .ok (.iconst 1, 1) := by decide +kernel
theorem dX13_layout_180 : decode cX13_layout 180 = .ok (.if_icmp .ne 8, 3) := by decide +kernel
theorem dX13_layout_183 : decode cX13_layout 183 = .ok (.iload 4, 2) := by decide +kernel
theorem dX13_layout_185 : decode cX13_layout 185 = .ok (.goto 4, 3) := by decide +kernel
theorem dX13_layout_188 : decode cX13_layout 188 = .ok (.iconst 0, 1) := by decide +kernel
theorem dX13_layout_189 : decode cX13_layout 189 = .ok (.iadd, 1) := by decide +kernel
theorem dX13_layout_190 : decode cX13_layout 190 = .ok (.putfield 682, 3) := by decide +kernel
theorem dX13_layout_193 : decode cX13_layout 193 = .ok (.aload_n 0, 1) := by decide +kernel
theorem dX13_layout_194 : decode cX13_layout 194 = .ok (.dup, 1) := by decide +kernel
theorem dX13_layout_195 : decode cX13_layout 195 = .ok (.getfield 447, 3) := by decide +kernel
theorem dX13_layout_198 : decode cX13_layout 198 = .ok (.aload_n 0, 1) := by decide +kernel
theorem dX13_layout_199 : decode cX13_layout 199 = .ok (.iload_n 2, 1) := by decide +kernel
theorem dX13_layout_200 : decode cX13_layout 200 = .ok (.invokevirtual 685, 3) := by decide +kernel
theorem dX13_layout_203 : decode cX13_layout 203 = .ok (.iconst 1, 1) := by decide +kernel
theorem dX13_layout_204 : decode cX13_layout 204 = .ok (.if_icmp .ne 7, 3) := by decide +kernel
theorem dX13_layout_207 : decode cX13_layout 207 = .ok (.iconst 0, 1) := by decide +kernel
theorem dX13_layout_208 : decode cX13_layout 208 = .ok (.goto 5, 3) := by decide +kernel
theorem dX13_layout_211 : decode cX13_layout 211 = .ok (.iload 4, 2) := by decide +kernel
theorem dX13_layout_213 : decode cX13_layout 213 = .ok (.iadd, 1) := by decide +kernel
theorem dX13_layout_214 : decode cX13_layout 214 = .ok (.putfield 447, 3) := by decide +kernel
theorem dX13_layout_217 : decode cX13_layout 217 = .ok (.iinc 2 1, 3) := by decide +kernel
theorem dX13_layout_220 : decode cX13_layout 220 = .ok (.goto (-206), 3) := by decide +kernel
theorem dX13_layout_223 : decode cX13_layout 223 = .ok (.return_, 1) := by decide +kernel
theorem dX13_addressOf_0 : decode cX13_addressOf 0 = .ok (.aload_n 0, 1) := by decide +kernel
theorem dX13_addressOf_1 : decode cX13_addressOf 1 = .ok (.getfield 331, 3) := by decide +kernel
theorem dX13_addressOf_4 : decode cX13_addressOf 4 = .ok (.iload_n 1, 1) := by decide +kernel
theorem dX13_addressOf_5 : decode cX13_addressOf 5 = .ok (.iaload, 1) := by decide +kernel
theorem dX13_addressOf_6 : decode cX13_addressOf 6 = .ok (.aload_n 0, 1) := by decide +kernel
theorem dX13_addressOf_7 : decode cX13_addressOf 7 = .ok (.iload_n 1, 1) := by decide +kernel
theorem dX13_addressOf_8 : decode cX13_addressOf 8 = .ok (.invokevirtual 685, 3) := by decide +kernel
theorem dX13_addressOf_11 : decode cX13_addressOf 11 = .ok (.iconst 1, 1) := by decide +kernel
theorem dX13_addressOf_12 : decode cX13_addressOf 12 = .ok (.if_icmp .ne 10, 3) := by decide +kernel
theorem dX13_addressOf_15 : decode cX13_addressOf 15 = .ok (.aload_n 0, 1) := by decide +kernel
theorem dX13_addressOf_16 : decode cX13_addressOf 16 = .ok (.invokevirtual 450, 3) := by decide +kernel
theorem dX13_addressOf_19 : decode cX13_addressOf 19 = .ok (.goto 4, 3) := by decide +kernel
theorem dX13_addressOf_22 : decode cX13_addressOf 22 = .ok (.iconst 0, 1) := by decide +kernel
theorem dX13_addressOf_23 : decode cX13_addressOf 23 = .ok (.iadd, 1) := by decide +kernel
theorem dX13_addressOf_24 : decode cX13_addressOf 24 = .ok (.ireturn, 1) := by decide +kernel
theorem dX13_again_0 : decode cX13_again 0 = .ok (.aload_n 0, 1) := by decide +kernel
theorem dX13_again_1 : decode cX13_again 1 = .ok (.iload_n 1, 1) := by decide +kernel
theorem dX13_again_2 : decode cX13_again 2 = .ok (.putfield 454, 3) := by decide +kernel
theorem dX13_again_5 : decode cX13_again 5 = .ok (.aload_n 0, 1) := by decide +kernel
theorem dX13_again_6 : decode cX13_again 6 = .ok (.aload_n 0, 1) := by decide +kernel
theorem dX13_again_7 : decode cX13_again 7 = .ok (.iload_n 1, 1) := by decide +kernel
theorem dX13_again_8 : decode cX13_again 8 = .ok (.invokevirtual 691, 3) := by decide +kernel
theorem dX13_again_11 : decode cX13_again 11 = .ok (.putfield 486, 3) := by decide +kernel
theorem dX13_again_14 : decode cX13_again 14 = .ok (.aload_n 0, 1) := by decide +kernel
theorem dX13_again_15 : decode cX13_again 15 = .ok (.aload_n 0, 1) := by decide +kernel
theorem dX13_again_16 : decode cX13_again 16 = .ok (.iload_n 1, 1) := by decide +kernel
theorem dX13_again_17 : decode cX13_again 17 = .ok (.invokevirtual 685, 3) := by decide +kernel
theorem dX13_again_20 : decode cX13_again 20 = .ok (.putfield 634, 3) := by decide +kernel
theorem dX13_again_23 : decode cX13_again 23 = .ok (.aload_n 0, 1) := by decide +kernel
theorem dX13_again_24 : decode cX13_again 24 = .ok (.aload_n 0, 1) := by decide +kernel
theorem dX13_again_25 : decode cX13_again 25 = .ok (.getfield 328, 3) := by decide +kernel
theorem dX13_again_28 : decode cX13_again 28 = .ok (.iload_n 1, 1) := by decide +kernel
theorem dX13_again_29 : decode cX13_again 29 = .ok (.iaload, 1) := by decide +kernel
theorem dX13_again_30 : decode cX13_again 30 = .ok (.ldc_w 442, 3) := by decide +kernel
theorem dX13_again_33 : decode cX13_again 33 = .ok (.iand, 1) := by decide +kernel
theorem dX13_again_34 : decode cX13_again 34 = .ok (.iload_n 2, 1) := by decide +kernel
theorem dX13_again_35 : decode cX13_again 35 = .ok (.invokevirtual 679, 3) := by decide +kernel
theorem dX13_again_38 : decode cX13_again 38 = .ok (.return_, 1) := by decide +kernel
theorem dX13_stretch_0 : decode cX13_stretch 0 = .ok (.aload_n 0, 1) := by decide +kernel
theorem dX13_stretch_1 : decode cX13_stretch 1 = .ok (.iconst 0, 1) := by decide +kernel
theorem dX13_stretch_2 : decode cX13_stretch 2 = .ok (.putfield 694, 3) := by decide +kernel
theorem dX13_stretch_5 : decode cX13_stretch 5 = .ok (.iconst 1, 1) := by decide +kernel
theorem dX13_stretch_6 : decode cX13_stretch 6 = .ok (.istore_n 1, 1) := by decide +kernel
theorem dX13_stretch_7 : decode cX13_stretch 7 = .ok (.iload_n 1, 1) := by decide +kernel
theorem dX13_stretch_8 : decode cX13_stretch 8 = .ok (.ifCond .eq 111, 3) := by decide +kernel
theorem dX13_stretch_11 : decode cX13_stretch 11 = .ok (.iconst 0, 1) := by decide +kernel
theorem dX13_stretch_12 : decode cX13_stretch 12 = .ok (.istore_n 1, 1) := by decide +kernel
theorem dX13_stretch_13 : decode cX13_stretch 13 = .ok (.aload_n 0, 1) := by decide +kernel
theorem dX13_stretch_14 : decode cX13_stretch 14 = .ok (.invokevirtual 697, 3) := by decide +kernel
theorem dX13_stretch_17 : decode cX13_stretch 17 = .ok (.iconst 0, 1) := by decide +kernel
theorem dX13_stretch_18 : decode cX13_stretch 18 = .ok (.istore_n 2, 1) := by decide +kernel
theorem dX13_stretch_19 : decode cX13_stretch 19 = .ok (.iload_n 2, 1) := by decide +kernel
theorem dX13_stretch_20 : decode cX13_stretch 20 = .ok (.aload_n 0, 1) := by decide +kernel
theorem dX13_stretch_21 : decode cX13_stretch 21 = .ok (.getfield 673, 3) := by decide +kernel
theorem dX13_stretch_24 : decode cX13_stretch 24 = .ok (.if_icmp .ge 71, 3) := by decide +kernel
theorem dX13_stretch_27 : decode cX13_stretch 27 = .ok (.aload_n 0, 1) := by decide +kernel
theorem dX13_stretch_28 : decode cX13_stretch 28 = .ok (.getfield 328, 3) := by decide +kernel
theorem dX13_stretch_31 : decode cX13_stretch 31 = .ok (.iload_n 2, 1) := by decide +kernel
theorem dX13_stretch_32 : decode cX13_stretch 32 = .ok (.iaload, 1) := by decide +kernel
theorem dX13_stretch_33 : decode cX13_stretch 33 = .ok (.bipush 20, 2) := by decide +kernel
theorem dX13_stretch_35 : decode cX13_stretch 35 = .ok (.ishr, 1) := by decide +kernel
theorem dX13_stretch_36 : decode cX13_stretch 36 = .ok (.ifCond .ne 6, 3) := by decide +kernel
theorem dX13_stretch_39 : decode cX13_stretch 39 = .ok (.goto 50, 3) := by decide +kernel
theorem dX13_stretch_42 : decode cX13_stretch 42 = .ok (.aload_n 0, 1) := by decide +kernel
theorem dX13_stretch_43 : decode cX13_stretch 43 = .ok (.iconst 0, 1) := by decide +kernel
theorem dX13_stretch_44 : decode cX13_stretch 44 = .ok (.putfield 558, 3) := by decide +kernel
theorem dX13_stretch_47 : decode cX13_stretch 47 = .ok (.aload_n 0, 1) := by decide +kernel
