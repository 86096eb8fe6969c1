theorem dX1_start_0 : decode cX1_start 0 = .ok (.aload_n 0, 1) := by decide +kernel
theorem dX1_start_1 : decode cX1_start 1 = .ok (.getfield 12, 3) := by decide +kernel
theorem dX1_start_4 : decode cX1_start 4 = .ok (.aload_n 1, 1) := by decide +kernel
theorem dX1_start_5 : decode cX1_start 5 = .ok (.invokevirtual 61, 3) := by decide +kernel
theorem dX1_start_8 : decode cX1_start 8 = .ok (.aload_n 0, 1) := by decide +kernel
theorem dX1_start_9 : decode cX1_start 9 = .ok (.iconst 0, 1) := by decide +kernel
theorem dX1_start_10 : decode cX1_start 10 = .ok (.putfield 65, 3) := by decide +kernel
theorem dX1_start_13 : decode cX1_start 13 = .ok (.aload_n 0, 1) := by decide +kernel
theorem dX1_start_14 : decode cX1_start 14 = .ok (.iconst 0, 1) := by decide +kernel
theorem dX1_start_15 : decode cX1_start 15 = .ok (.putfield 68, 3) := by decide +kernel
theorem dX1_start_18 : decode cX1_start 18 = .ok (.aload_n 0, 1) := by decide +kernel
theorem dX1_start_19 : decode cX1_start 19 = .ok (.iconst 0, 1) := by decide +kernel
theorem dX1_start_20 : decode cX1_start 20 = .ok (.putfield 32, 3) := by decide +kernel
theorem dX1_start_23 : decode cX1_start 23 = .ok (.aload_n 0, 1) := by decide +kernel
theorem dX1_start_24 : decode cX1_start 24 = .ok (.iconst 0, 1) := by decide +kernel
theorem dX1_start_25 : decode cX1_start 25 = .ok (.putfield 36, 3) := by decide +kernel
theorem dX1_start_28 : decode cX1_start 28 = .ok (.aload_n 0, 1) := by decide +kernel
theorem dX1_start_29 : decode cX1_start 29 = .ok (.iconst 0, 1) := by decide +kernel
theorem dX1_start_30 : decode cX1_start 30 = .ok (.putfield 71, 3) := by decide +kernel
theorem dX1_start_33 : decode cX1_start 33 = .ok (.aload_n 0, 1) := by decide +kernel
theorem dX1_start_34 : decode cX1_start 34 = .ok (.iconst 0, 1) := by decide +kernel
theorem dX1_start_35 : decode cX1_start 35 = .ok (.putfield 74, 3) := by decide +kernel
theorem dX1_start_38 : decode cX1_start 38 = .ok (.iconst 1, 1) := by decide +kernel
theorem dX1_start_39 : decode cX1_start 39 = .ok (.istore_n 3, 1) := by decide +kernel
theorem dX1_start_40 : decode cX1_start 40 = .ok (.iconst 0, 1) := by decide +kernel
theorem dX1_start_41 : decode cX1_start 41 = .ok (.istore 4, 2) := by decide +kernel
theorem dX1_start_43 : decode cX1_start 43 = .ok (.iload 4, 2) := by decide +kernel
theorem dX1_start_45 : decode cX1_start 45 = .ok (.iload_n 2, 1) := by decide +kernel
theorem dX1_start_46 : decode cX1_start 46 = .ok (.if_icmp .ge 66, 3) := by decide +kernel
theorem dX1_start_49 : decode cX1_start 49 = .ok (.aload_n 0, 1) := by decide +kernel
theorem dX1_start_50 : decode cX1_start 50 = .ok (.getfield 32, 3) := by decide +kernel
theorem dX1_start_53 : decode cX1_start 53 = .ok (.ifCond .ne 59, 3) := by decide +kernel
theorem dX1_start_56 : decode cX1_start 56 = .ok (.aload_n 1, 1) := by decide +kernel
theorem dX1_start_57 : decode cX1_start 57 = .ok (.iload 4, 2) := by decide +kernel
theorem dX1_start_59 : decode cX1_start 59 = .ok (.baload, 1) := by decide +kernel
theorem dX1_start_60 : decode cX1_start 60 = .ok (.istore 5, 2) := by decide +kernel
theorem dX1_start_62 : decode cX1_start 62 = .ok (.iload 5, 2) := by decide +kernel
theorem dX1_start_64 : decode cX1_start 64 = .ok (.bipush 10, 2) := by decide +kernel
theorem dX1_start_66 : decode cX1_start 66 = .ok (.if_icmp .ne 9, 3) := by decide +kernel
theorem dX1_start_69 : decode cX1_start 69 = .ok (.iinc 3 1, 3) := by decide +kernel
theorem dX1_start_72 : decode cX1_start 72 = .ok (.goto 34, 3) := by decide +kernel
theorem dX1_start_75 : decode cX1_start 75 = .ok (.iload 5, 2) := by decide +kernel
theorem dX1_start_77 : decode cX1_start 77 = .ok (.bipush 9, 2) := by decide +kernel
theorem dX1_start_79 : decode cX1_start 79 = .ok (.if_icmp .eq 27, 3) := by decide +kernel
theorem dX1_start_82 : decode cX1_start 82 = .ok (.iload 5, 2) := by decide +kernel
theorem dX1_start_84 : decode cX1_start 84 = .ok (.bipush 32, 2) := by decide +kernel
theorem dX1_start_86 : decode cX1_start 86 = .ok (.if_icmp .lt 10, 3) := by decide +kernel
theorem dX1_start_89 : decode cX1_start 89 = .ok (.iload 5, 2) := by decide +kernel
theorem dX1_start_91 : decode cX1_start 91 = .ok (.bipush 126, 2) := by decide +kernel
theorem dX1_start_93 : decode cX1_start 93 = .ok (.if_icmp .le 13, 3) := by decide +kernel
theorem dX1_start_96 : decode cX1_start 96 = .ok (.aload_n 0, 1) := by decide +kernel
theorem dX1_start_97 : decode cX1_start 97 = .ok (.iconst 1, 1) := by decide +kernel
theorem dX1_start_98 : decode cX1_start 98 = .ok (.invokevirtual 77, 3) := by decide +kernel
theorem dX1_start_101 : decode cX1_start 101 = .ok (.aload_n 0, 1) := by decide +kernel
theorem dX1_start_102 : decode cX1_start 102 = .ok (.iload_n 3, 1) := by decide +kernel
theorem dX1_start_103 : decode cX1_start 103 = .ok (.putfield 36, 3) := by decide +kernel
theorem dX1_start_106 : decode cX1_start 106 = .ok (.iinc 4 1, 3) := by decide +kernel
theorem dX1_start_109 : decode cX1_start 109 = .ok (.goto (-66), 3) := by decide +kernel
theorem dX1_start_112 : decode cX1_start 112 = .ok (.return_, 1) := by decide +kernel
theorem dX1_blame_0 : decode cX1_blame 0 = .ok (.aload_n 0, 1) := by decide +kernel
theorem dX1_blame_1 : decode cX1_blame 1 = .ok (.getfield 32, 3) := by decide +kernel
theorem dX1_blame_4 : decode cX1_blame 4 = .ok (.ifCond .ne 8, 3) := by decide +kernel
theorem dX1_blame_7 : decode cX1_blame 7 = .ok (.aload_n 0, 1) := by decide +kernel
theorem dX1_blame_8 : decode cX1_blame 8 = .ok (.iload_n 1, 1) := by decide +kernel
theorem dX1_blame_9 : decode cX1_blame 9 = .ok (.putfield 32, 3) := by decide +kernel
theorem dX1_blame_12 : decode cX1_blame 12 = .ok (.return_, 1) := by decide +kernel
theorem dX1_readLabel_0 : decode cX1_readLabel 0 = .ok (.iload_n 3, 1) := by decide +kernel
theorem dX1_readLabel_1 : decode cX1_readLabel 1 = .ok (.ifCond .lt 21, 3) := by decide +kernel
theorem dX1_readLabel_4 : decode cX1_readLabel 4 = .ok (.aload_n 0, 1) := by decide +kernel
theorem dX1_readLabel_5 : decode cX1_readLabel 5 = .ok (.getfield 12, 3) := by decide +kernel
theorem dX1_readLabel_8 : decode cX1_readLabel 8 = .ok (.aload_n 0, 1) := by decide +kernel
theorem dX1_readLabel_9 : decode cX1_readLabel 9 = .ok (.getfield 65, 3) := by decide +kernel
theorem dX1_readLabel_12 : decode cX1_readLabel 12 = .ok (.aload_n 0, 1) := by decide +kernel
theorem dX1_readLabel_13 : decode cX1_readLabel 13 = .ok (.getfield 71, 3) := by decide +kernel
theorem dX1_readLabel_16 : decode cX1_readLabel 16 = .ok (.iload_n 3, 1) := by decide +kernel
theorem dX1_readLabel_17 : decode cX1_readLabel 17 = .ok (.invokevirtual 112, 3) := by decide +kernel
theorem dX1_readLabel_20 : decode cX1_readLabel 20 = .ok (.pop, 1) := by decide +kernel
theorem dX1_readLabel_21 : decode cX1_readLabel 21 = .ok (.return_, 1) := by decide +kernel
theorem dX1_readLabel_22 : decode cX1_readLabel 22 = .ok (.aload_n 0, 1) := by decide +kernel
theorem dX1_readLabel_23 : decode cX1_readLabel 23 = .ok (.getfield 12, 3) := by decide +kernel
theorem dX1_readLabel_26 : decode cX1_readLabel 26 = .ok (.iload_n 1, 1) := by decide +kernel
theorem dX1_readLabel_27 : decode cX1_readLabel 27 = .ok (.iload_n 2, 1) := by decide +kernel
theorem dX1_readLabel_28 : decode cX1_readLabel 28 = .ok (.invokevirtual 116, 3) := by decide +kernel
theorem dX1_readLabel_31 : decode cX1_readLabel 31 = .ok (.istore 4, 2) := by decide +kernel
theorem dX1_readLabel_33 : decode cX1_readLabel 33 = .ok (.aload_n 0, 1) := by decide +kernel
theorem dX1_readLabel_34 : decode cX1_readLabel 34 = .ok (.getfield 12, 3) := by decide +kernel
theorem dX1_readLabel_37 : decode cX1_readLabel 37 = .ok (.getfield 120, 3) := by decide +kernel
theorem dX1_readLabel_40 : decode cX1_readLabel 40 = .ok (.iload_n 1, 1) := by decide +kernel
theorem dX1_readLabel_41 : decode cX1_readLabel 41 = .ok (.iload_n 2, 1) := by decide +kernel
theorem dX1_readLabel_42 : decode cX1_readLabel 42 = .ok (.invokestatic 123, 3) := by decide +kernel
theorem dX1_readLabel_45 : decode cX1_readLabel 45 = .ok (.ifCond .ge 15, 3) := by decide +kernel
theorem dX1_readLabel_48 : decode cX1_readLabel 48 = .ok (.aload_n 0, 1) := by decide +kernel
theorem dX1_readLabel_49 : decode cX1_readLabel 49 = .ok (.getfield 12, 3) := by decide +kernel
theorem dX1_readLabel_52 : decode cX1_readLabel 52 = .ok (.iload 4, 2) := by decide +kernel
theorem dX1_readLabel_54 : decode cX1_readLabel 54 = .ok (.invokevirtual 129, 3) := by decide +kernel
theorem dX1_readLabel_57 : decode cX1_readLabel 57 = .ok (.ifCond .eq 9, 3) := by decide +kernel
theorem dX1_readLabel_60 : decode cX1_readLabel 60 = .ok (.aload_n 0, 1) := by decide +kernel
theorem dX1_readLabel_61 : decode cX1_readLabel 61 = .ok (.iconst 4, 1) := by decide +kernel
theorem dX1_readLabel_62 : decode cX1_readLabel 62 = .ok (.invokevirtual 77, 3) := by decide +kernel
theorem dX1_readLabel_65 : decode cX1_readLabel 65 = .ok (.return_, 1) := by decide +kernel
theorem dX1_readLabel_66 : decode cX1_readLabel 66 = .ok (.aload_n 0, 1) := by decide +kernel
theorem dX1_readLabel_67 : decode cX1_readLabel 67 = .ok (.getfield 12, 3) := by decide +kernel
theorem dX1_readLabel_70 : decode cX1_readLabel 70 = .ok (.iload 4, 2) := by decide +kernel
theorem dX1_readLabel_72 : decode cX1_readLabel 72 = .ok (.iconst 2, 1) := by decide +kernel
theorem dX1_readLabel_73 : decode cX1_readLabel 73 = .ok (.aload_n 0, 1) := by decide +kernel
theorem dX1_readLabel_74 : decode cX1_readLabel 74 = .ok (.getfield 12, 3) := by decide +kernel
theorem dX1_readLabel_77 : decode cX1_readLabel 77 = .ok (.aload_n 0, 1) := by decide +kernel
theorem dX1_readLabel_78 : decode cX1_readLabel 78 = .ok (.getfield 65, 3) := by decide +kernel
theorem dX1_readLabel_81 : decode cX1_readLabel 81 = .ok (.aload_n 0, 1) := by decide +kernel
theorem dX1_readLabel_82 : decode cX1_readLabel 82 = .ok (.getfield 71, 3) := by decide +kernel
theorem dX1_readLabel_85 : decode cX1_readLabel 85 = .ok (.iconst (-1), 1) := by decide +kernel
theorem dX1_readLabel_86 : decode cX1_readLabel 86 = .ok (.invokevirtual 112, 3) := by decide +kernel
theorem dX1_readLabel_89 : decode cX1_readLabel 89 = .ok (.invokevirtual 132, 3) := by decide +kernel
theorem dX1_readLabel_92 : decode cX1_readLabel 92 = .ok (.return_, 1) := by decide +kernel
theorem dX1_readConstant_0 : decode cX1_readConstant 0 = .ok (.aload_n 0, 1) := by decide +kernel
theorem dX1_readConstant_1 : decode cX1_readConstant 1 = .ok (.getfield 12, 3) := by decide +kernel
theorem dX1_readConstant_4 : decode cX1_readConstant 4 = .ok (.getfield 85, 3) := by decide +kernel
theorem dX1_readConstant_7 : decode cX1_readConstant 7 = .ok (.iconst 1, 1) := by decide +kernel
theorem dX1_readConstant_8 : decode cX1_readConstant 8 = .ok (.if_icmp .eq 9, 3) := by decide +kernel
theorem dX1_readConstant_11 : decode cX1_readConstant 11 = .ok (.aload_n 0, 1) := by decide +kernel
theorem dX1_readConstant_12 : decode cX1_readConstant 12 = .ok (.iconst 1, 1) := by decide +kernel
theorem dX1_readConstant_13 : decode cX1_readConstant 13 = .ok (.invokevirtual 77, 3) := by decide +kernel
theorem dX1_readConstant_16 : decode cX1_readConstant 16 = .ok (.return_, 1) := by decide +kernel
theorem dX1_readConstant_17 : decode cX1_readConstant 17 = .ok (.aload_n 0, 1) := by decide +kernel
theorem dX1_readConstant_18 : decode cX1_readConstant 18 = .ok (.getfield 12, 3) := by decide +kernel
theorem dX1_readConstant_21 : decode cX1_readConstant 21 = .ok (.getfield 91, 3) := by decide +kernel
theorem dX1_readConstant_24 : decode cX1_readConstant 24 = .ok (.aload_n 0, 1) := by decide +kernel
theorem dX1_readConstant_25 : decode cX1_readConstant 25 = .ok (.getfield 12, 3) := by decide +kernel
theorem dX1_readConstant_28 : decode cX1_readConstant 28 = .ok (.getfield 88, 3) := by decide +kernel
theorem dX1_readConstant_31 : decode cX1_readConstant 31 = .ok (.isub, 1) := by decide +kernel
theorem dX1_readConstant_32 : decode cX1_readConstant 32 = .ok (.istore_n 1, 1) := by decide +kernel
theorem dX1_readConstant_33 : decode cX1_readConstant 33 = .ok (.aload_n 0, 1) := by decide +kernel
theorem dX1_readConstant_34 : decode cX1_readConstant 34 = .ok (.getfield 12, 3) := by decide +kernel
theorem dX1_readConstant_37 : decode cX1_readConstant 37 = .ok (.aload_n 0, 1) := by decide +kernel
theorem dX1_readConstant_38 : decode cX1_readConstant 38 = .ok (.getfield 12, 3) := by decide +kernel
theorem dX1_readConstant_41 : decode cX1_readConstant 41 = .ok (.getfield 88, 3) := by decide +kernel
theorem dX1_readConstant_44 : decode cX1_readConstant 44 = .ok (.iload_n 1, 1) := by decide +kernel
theorem dX1_readConstant_45 : decode cX1_readConstant 45 = .ok (.invokevirtual 116, 3) := by decide +kernel
theorem dX1_readConstant_48 : decode cX1_readConstant 48 = .ok (.istore_n 2, 1) := by decide +kernel
theorem dX1_readConstant_49 : decode cX1_readConstant 49 = .ok (.aload_n 0, 1) := by decide +kernel
theorem dX1_readConstant_50 : decode cX1_readConstant 50 = .ok (.getfield 12, 3) := by decide +kernel
theorem dX1_readConstant_53 : decode cX1_readConstant 53 = .ok (.getfield 120, 3) := by decide +kernel
theorem dX1_readConstant_56 : decode cX1_readConstant 56 = .ok (.aload_n 0, 1) := by decide +kernel
theorem dX1_readConstant_57 : decode cX1_readConstant 57 = .ok (.getfield 12, 3) := by decide +kernel
theorem dX1_readConstant_60 : decode cX1_readConstant 60 = .ok (.getfield 88, 3) := by decide +kernel
theorem dX1_readConstant_63 : decode cX1_readConstant 63 = .ok (.iload_n 1, 1) := by decide +kernel
theorem dX1_readConstant_64 : decode cX1_readConstant 64 = .ok (.invokestatic 123, 3) := by decide +kernel
theorem dX1_readConstant_67 : decode cX1_readConstant 67 = .ok (.ifCond .ge 14, 3) := by decide +kernel
theorem dX1_readConstant_70 : decode cX1_readConstant 70 = .ok (.aload_n 0, 1) := by decide +kernel
theorem dX1_readConstant_71 : decode cX1_readConstant 71 = .ok (.getfield 12, 3) := by decide +kernel
theorem dX1_readConstant_74 : decode cX1_readConstant 74 = .ok (.iload_n 2, 1) := by decide +kernel
theorem dX1_readConstant_75 : decode cX1_readConstant 75 = .ok (.invokevirtual 129, 3) := by decide +kernel
theorem dX1_readConstant_78 : decode cX1_readConstant 78 = .ok (.ifCond .eq 9, 3) := by decide +kernel
theorem dX1_readConstant_81 : decode cX1_readConstant 81 = .ok (.aload_n 0, 1) := by decide +kernel
theorem dX1_readConstant_82 : decode cX1_readConstant 82 = .ok (.iconst 4, 1) := by decide +kernel
theorem dX1_readConstant_83 : decode cX1_readConstant 83 = .ok (.invokevirtual 77, 3) := by decide +kernel
theorem dX1_readConstant_86 : decode cX1_readConstant 86 = .ok (.return_, 1) := by decide +kernel
theorem dX1_readConstant_87 : decode cX1_readConstant 87 = .ok (.aload_n 0, 1) := by decide +kernel
theorem dX1_readConstant_88 : decode cX1_readConstant 88 = .ok (.getfield 12, 3) := by decide +kernel
theorem dX1_readConstant_91 : decode cX1_readConstant 91 = .ok (.invokevirtual 97, 3) := by decide +kernel
theorem dX1_readConstant_94 : decode cX1_readConstant 94 = .ok (.aload_n 0, 1) := by decide +kernel
theorem dX1_readConstant_95 : decode cX1_readConstant 95 = .ok (.bipush 44, 2) := by decide +kernel
theorem dX1_readConstant_97 : decode cX1_readConstant 97 = .ok (.invokevirtual 194, 3) := by decide +kernel
theorem dX1_readConstant_100 : decode cX1_readConstant 100 = .ok (.aload_n 0, 1) := by decide +kernel
theorem dX1_readConstant_101 : decode cX1_readConstant 101 = .ok (.getfield 32, 3) := by decide +kernel
theorem dX1_readConstant_104 : decode cX1_readConstant 104 = .ok (.ifCond .ne 13, 3) := by decide +kernel
theorem dX1_readConstant_107 : decode cX1_readConstant 107 = .ok (.aload_n 0, 1) := by decide +kernel
theorem dX1_readConstant_108 : decode cX1_readConstant 108 = .ok (.getfield 12, 3) := by decide +kernel
theorem dX1_readConstant_111 : decode cX1_readConstant 111 = .ok (.invokevirtual 170, 3) := by decide +kernel
theorem dX1_readConstant_114 : decode cX1_readConstant 114 = .ok (.goto 4, 3) := by decide +kernel
theorem dX1_readConstant_117 : decode cX1_readConstant 117 = .ok (.iconst 0, 1) := by decide +kernel
theorem dX1_readConstant_118 : decode cX1_readConstant 118 = .ok (.istore_n 3, 1) := by decide +kernel
theorem dX1_readConstant_119 : decode cX1_readConstant 119 = .ok (.aload_n 0, 1) := by decide +kernel
theorem dX1_readConstant_120 : decode cX1_readConstant 120 = .ok (.iload_n 3, 1) := by decide +kernel
theorem dX1_readConstant_121 : decode cX1_readConstant 121 = .ok (.ldc 199, 2) := by decide +kernel
theorem dX1_readConstant_123 : decode cX1_readConstant 123 = .ok (.ldc 200, 2) := by decide +kernel
theorem dX1_readConstant_125 : decode cX1_readConstant 125 = .ok (.invokevirtual 173, 3) := by decide +kernel
theorem dX1_readConstant_128 : decode cX1_readConstant 128 = .ok (.istore 4, 2) := by decide +kernel
theorem dX1_readConstant_130 : decode cX1_readConstant 130 = .ok (.aload_n 0, 1) := by decide +kernel
theorem dX1_readConstant_131 : decode cX1_readConstant 131 = .ok (.getfield 32, 3) := by decide +kernel
theorem dX1_readConstant_134 : decode cX1_readConstant 134 = .ok (.ifCond .ne 24, 3) := by decide +kernel
theorem dX1_readConstant_137 : decode cX1_readConstant 137 = .ok (.aload_n 0, 1) := by decide +kernel
theorem dX1_readConstant_138 : decode cX1_readConstant 138 = .ok (.getfield 12, 3) := by decide +kernel
theorem dX1_readConstant_141 : decode cX1_readConstant 141 = .ok (.iload_n 2, 1) := by decide +kernel
theorem dX1_readConstant_142 : decode cX1_readConstant 142 = .ok (.iconst 1, 1) := by decide +kernel
theorem dX1_readConstant_143 : decode cX1_readConstant 143 = .ok (.iload 4, 2) := by decide +kernel
theorem dX1_readConstant_145 : decode cX1_readConstant 145 = .ok (.invokevirtual 132, 3) := by decide +kernel
theorem dX1_readConstant_148 : decode cX1_readConstant 148 = .ok (.aload_n 0, 1) := by decide +kernel
theorem dX1_readConstant_149 : decode cX1_readConstant 149 = .ok (.dup, 1) := by decide +kernel
theorem dX1_readConstant_150 : decode cX1_readConstant 150 = .ok (.getfield 74, 3) := by decide +kernel
theorem dX1_readConstant_153 : decode cX1_readConstant 153 = .ok (.iconst 1, 1) := by decide +kernel
theorem dX1_readConstant_154 : decode cX1_readConstant 154 = .ok (.iadd, 1) := by decide +kernel
theorem dX1_readConstant_155 : decode cX1_readConstant 155 = .ok (.putfield 74, 3) := by decide +kernel
theorem dX1_readConstant_158 : decode cX1_readConstant 158 = .ok (.return_, 1) := by decide +kernel
theorem dX1_readList_0 : decode cX1_readList 0 = .ok (.aload_n 0, 1) := by decide +kernel
theorem dX1_readList_1 : decode cX1_readList 1 = .ok (.getfield 12, 3) := by decide +kernel
theorem dX1_readList_4 : decode cX1_readList 4 = .ok (.getfield 201, 3) := by decide +kernel
theorem dX1_readList_7 : decode cX1_readList 7 = .ok (.istore_n 2, 1) := by decide +kernel
theorem dX1_readList_8 : decode cX1_readList 8 = .ok (.iconst 0, 1) := by decide +kernel
theorem dX1_readList_9 : decode cX1_readList 9 = .ok (.istore_n 3, 1) := by decide +kernel
theorem dX1_readList_10 : decode cX1_readList 10 = .ok (.aload_n 0, 1) := by decide +kernel
theorem dX1_readList_11 : decode cX1_readList 11 = .ok (.getfield 12, 3) := by decide +kernel
theorem dX1_readList_14 : decode cX1_readList 14 = .ok (.getfield 120, 3) := by decide +kernel
theorem dX1_readList_17 : decode cX1_readList 17 = .ok (.arraylength, 1) := by decide +kernel
theorem dX1_readList_18 : decode cX1_readList 18 = .ok (.istore 4, 2) := by decide +kernel
theorem dX1_readList_20 : decode cX1_readList 20 = .ok (.iload 4, 2) := by decide +kernel
theorem dX1_readList_22 : decode cX1_readList 22 = .ok (.ifCond .lt 56, 3) := by decide +kernel
theorem dX1_readList_25 : decode cX1_readList 25 = .ok (.aload_n 0, 1) := by decide +kernel
theorem dX1_readList_26 : decode cX1_readList 26 = .ok (.getfield 32, 3) := by decide +kernel
theorem dX1_readList_29 : decode cX1_readList 29 = .ok (.ifCond .ne 49, 3) := by decide +kernel
theorem dX1_readList_32 : decode cX1_readList 32 = .ok (.aload_n 0, 1) := by decide +kernel
theorem dX1_readList_33 : decode cX1_readList 33 = .ok (.getfield 12, 3) := by decide +kernel
theorem dX1_readList_36 : decode cX1_readList 36 = .ok (.invokevirtual 170, 3) := by decide +kernel
theorem dX1_readList_39 : decode cX1_readList 39 = .ok (.ifCond .ge 8, 3) := by decide +kernel
theorem dX1_readList_42 : decode cX1_readList 42 = .ok (.aload_n 0, 1) := by decide +kernel
theorem dX1_readList_43 : decode cX1_readList 43 = .ok (.iconst 1, 1) := by decide +kernel
theorem dX1_readList_44 : decode cX1_readList 44 = .ok (.invokevirtual 77, 3) := by decide +kernel
theorem dX1_readList_47 : decode cX1_readList 47 = .ok (.iinc 3 1, 3) := by decide +kernel
theorem dX1_readList_50 : decode cX1_readList 50 = .ok (.aload_n 0, 1) := by decide +kernel
theorem dX1_readList_51 : decode cX1_readList 51 = .ok (.getfield 12, 3) := by decide +kernel
theorem dX1_readList_54 : decode cX1_readList 54 = .ok (.bipush 44, 2) := by decide +kernel
theorem dX1_readList_56 : decode cX1_readList 56 = .ok (.invokevirtual 100, 3) := by decide +kernel
theorem dX1_readList_59 : decode cX1_readList 59 = .ok (.ifCond .ne 6, 3) := by decide +kernel
theorem dX1_readList_62 : decode cX1_readList 62 = .ok (.goto 16, 3) := by decide +kernel
theorem dX1_readList_65 : decode cX1_readList 65 = .ok (.aload_n 0, 1) := by decide +kernel
theorem dX1_readList_66 : decode cX1_readList 66 = .ok (.getfield 12, 3) := by decide +kernel
theorem dX1_readList_69 : decode cX1_readList 69 = .ok (.invokevirtual 97, 3) := by decide +kernel
theorem dX1_readList_72 : decode cX1_readList 72 = .ok (.iinc 4 (-1), 3) := by decide +kernel
theorem dX1_readList_75 : decode cX1_readList 75 = .ok (.goto (-55), 3) := by decide +kernel
theorem dX1_readList_78 : decode cX1_readList 78 = .ok (.aload_n 0, 1) := by decide +kernel
theorem dX1_readList_79 : decode cX1_readList 79 = .ok (.iconst 5, 1) := by decide +kernel
theorem dX1_readList_80 : decode cX1_readList 80 = .ok (.iload_n 3, 1) := by decide +kernel
theorem dX1_readList_81 : decode cX1_readList 81 = .ok (.iload_n 1, 1) := by decide +kernel
theorem dX1_readList_82 : decode cX1_readList 82 = .ok (.imul, 1) := by decide +kernel
theorem dX1_readList_83 : decode cX1_readList 83 = .ok (.iload_n 1, 1) := by decide +kernel
theorem dX1_readList_84 : decode cX1_readList 84 = .ok (.iload_n 2, 1) := by decide +kernel
theorem dX1_readList_85 : decode cX1_readList 85 = .ok (.invokevirtual 176, 3) := by decide +kernel
theorem dX1_readList_88 : decode cX1_readList 88 = .ok (.return_, 1) := by decide +kernel
theorem dX1_readTexts_0 : decode cX1_readTexts 0 = .ok (.aload_n 0, 1) := by decide +kernel
theorem dX1_readTexts_1 : decode cX1_readTexts 1 = .ok (.getfield 68, 3) := by decide +kernel
theorem dX1_readTexts_4 : decode cX1_readTexts 4 = .ok (.istore_n 2, 1) := by decide +kernel
theorem dX1_readTexts_5 : decode cX1_readTexts 5 = .ok (.aload_n 0, 1) := by decide +kernel
theorem dX1_readTexts_6 : decode cX1_readTexts 6 = .ok (.getfield 12, 3) := by decide +kernel
theorem dX1_readTexts_9 : decode cX1_readTexts 9 = .ok (.getfield 120, 3) := by decide +kernel
theorem dX1_readTexts_12 : decode cX1_readTexts 12 = .ok (.arraylength, 1) := by decide +kernel
theorem dX1_readTexts_13 : decode cX1_readTexts 13 = .ok (.istore_n 3, 1) := by decide +kernel
theorem dX1_readTexts_14 : decode cX1_readTexts 14 = .ok (.iload_n 3, 1) := by decide +kernel
theorem dX1_readTexts_15 : decode cX1_readTexts 15 = .ok (.ifCond .lt 75, 3) := by decide +kernel
theorem dX1_readTexts_18 : decode cX1_readTexts 18 = .ok (.aload_n 0, 1) := by decide +kernel
theorem dX1_readTexts_19 : decode cX1_readTexts 19 = .ok (.getfield 32, 3) := by decide +kernel
theorem dX1_readTexts_22 : decode cX1_readTexts 22 = .ok (.ifCond .ne 68, 3) := by decide +kernel
theorem dX1_readTexts_25 : decode cX1_readTexts 25 = .ok (.aload_n 0, 1) := by decide +kernel
theorem dX1_readTexts_26 : decode cX1_readTexts 26 = .ok (.getfield 12, 3) := by decide +kernel
theorem dX1_readTexts_29 : decode cX1_readTexts 29 = .ok (.getfield 85, 3) := by decide +kernel
theorem dX1_readTexts_32 : decode cX1_readTexts 32 = .ok (.iconst 4, 1) := by decide +kernel
theorem dX1_readTexts_33 : decode cX1_readTexts 33 = .ok (.if_icmp .eq 9, 3) := by decide +kernel
theorem dX1_readTexts_36 : decode cX1_readTexts 36 = .ok (.aload_n 0, 1) := by decide +kernel
theorem dX1_readTexts_37 : decode cX1_readTexts 37 = .ok (.iconst 1, 1) := by decide +kernel
theorem dX1_readTexts_38 : decode cX1_readTexts 38 = .ok (.invokevirtual 77, 3) := by decide +kernel
theorem dX1_readTexts_41 : decode cX1_readTexts 41 = .ok (.return_, 1) := by decide +kernel
theorem dX1_readTexts_42 : decode cX1_readTexts 42 = .ok (.aload_n 0, 1) := by decide +kernel
theorem dX1_readTexts_43 : decode cX1_readTexts 43 = .ok (.invokevirtual 204, 3) := by decide +kernel
theorem dX1_readTexts_46 : decode cX1_readTexts 46 = .ok (.iload_n 1, 1) := by decide +kernel
theorem dX1_readTexts_47 : decode cX1_readTexts 47 = .ok (.ifCond .eq 8, 3) := by decide +kernel
theorem dX1_readTexts_50 : decode cX1_readTexts 50 = .ok (.aload_n 0, 1) := by decide +kernel
theorem dX1_readTexts_51 : decode cX1_readTexts 51 = .ok (.iconst 0, 1) := by decide +kernel
theorem dX1_readTexts_52 : decode cX1_readTexts 52 = .ok (.invokevirtual 207, 3) := by decide +kernel
theorem dX1_readTexts_55 : decode cX1_readTexts 55 = .ok (.aload_n 0, 1) := by decide +kernel
theorem dX1_readTexts_56 : decode cX1_readTexts 56 = .ok (.getfield 12, 3) := by decide +kernel
theorem dX1_readTexts_59 : decode cX1_readTexts 59 = .ok (.invokevirtual 97, 3) := by decide +kernel
theorem dX1_readTexts_62 : decode cX1_readTexts 62 = .ok (.aload_n 0, 1) := by decide +kernel
theorem dX1_readTexts_63 : decode cX1_readTexts 63 = .ok (.getfield 12, 3) := by decide +kernel
theorem dX1_readTexts_66 : decode cX1_readTexts 66 = .ok (.bipush 44, 2) := by decide +kernel
theorem dX1_readTexts_68 : decode cX1_readTexts 68 = .ok (.invokevirtual 100, 3) := by decide +kernel
theorem dX1_readTexts_71 : decode cX1_readTexts 71 = .ok (.ifCond .ne 6, 3) := by decide +kernel
theorem dX1_readTexts_74 : decode cX1_readTexts 74 = .ok (.goto 16, 3) := by decide +kernel
theorem dX1_readTexts_77 : decode cX1_readTexts 77 = .ok (.aload_n 0, 1) := by decide +kernel
theorem dX1_readTexts_78 : decode cX1_readTexts 78 = .ok (.getfield 12, 3) := by decide +kernel
theorem dX1_readTexts_81 : decode cX1_readTexts 81 = .ok (.invokevirtual 97, 3) := by decide +kernel
theorem dX1_readTexts_84 : decode cX1_readTexts 84 = .ok (.iinc 3 (-1), 3) := by decide +kernel
theorem dX1_readTexts_87 : decode cX1_readTexts 87 = .ok (.goto (-73), 3) := by decide +kernel
theorem dX1_readTexts_90 : decode cX1_readTexts 90 = .ok (.aload_n 0, 1) := by decide +kernel
theorem dX1_readTexts_91 : decode cX1_readTexts 91 = .ok (.bipush 6, 2) := by decide +kernel
theorem dX1_readTexts_93 : decode cX1_readTexts 93 = .ok (.aload_n 0, 1) := by decide +kernel
theorem dX1_readTexts_94 : decode cX1_readTexts 94 = .ok (.getfield 68, 3) := by decide +kernel
theorem dX1_readTexts_97 : decode cX1_readTexts 97 = .ok (.iload_n 2, 1) := by decide +kernel
theorem dX1_readTexts_98 : decode cX1_readTexts 98 = .ok (.isub, 1) := by decide +kernel
theorem dX1_readTexts_99 : decode cX1_readTexts 99 = .ok (.iconst 0, 1) := by decide +kernel
theorem dX1_readTexts_100 : decode cX1_readTexts 100 = .ok (.iload_n 2, 1) := by decide +kernel
theorem dX1_readTexts_101 : decode cX1_readTexts 101 = .ok (.invokevirtual 176, 3) := by decide +kernel
theorem dX1_readTexts_104 : decode cX1_readTexts 104 = .ok (.return_, 1) := by decide +kernel
theorem dX1_keepText_0 : decode cX1_keepText 0 = .ok (.aload_n 0, 1) := by decide +kernel
theorem dX1_keepText_1 : decode cX1_keepText 1 = .ok (.getfield 12, 3) := by decide +kernel
theorem dX1_keepText_4 : decode cX1_keepText 4 = .ok (.getfield 88, 3) := by decide +kernel
theorem dX1_keepText_7 : decode cX1_keepText 7 = .ok (.iconst 1, 1) := by decide +kernel
theorem dX1_keepText_8 : decode cX1_keepText 8 = .ok (.iadd, 1) := by decide +kernel
theorem dX1_keepText_9 : decode cX1_keepText 9 = .ok (.istore_n 1, 1) := by decide +kernel
theorem dX1_keepText_10 : decode cX1_keepText 10 = .ok (.iload_n 1, 1) := by decide +kernel
theorem dX1_keepText_11 : decode cX1_keepText 11 = .ok (.aload_n 0, 1) := by decide +kernel
theorem dX1_keepText_12 : decode cX1_keepText 12 = .ok (.getfield 12, 3) := by decide +kernel
theorem dX1_keepText_15 : decode cX1_keepText 15 = .ok (.getfield 91, 3) := by decide +kernel
theorem dX1_keepText_18 : decode cX1_keepText 18 = .ok (.iconst 1, 1) := by decide +kernel
theorem dX1_keepText_19 : decode cX1_keepText 19 = .ok (.isub, 1) := by decide +kernel
theorem dX1_keepText_20 : decode cX1_keepText 20 = .ok (.if_icmp .ge 31, 3) := by decide +kernel
theorem dX1_keepText_23 : decode cX1_keepText 23 = .ok (.aload_n 0, 1) := by decide +kernel
theorem dX1_keepText_24 : decode cX1_keepText 24 = .ok (.aload_n 0, 1) := by decide +kernel
theorem dX1_keepText_25 : decode cX1_keepText 25 = .ok (.getfield 12, 3) := by decide +kernel
theorem dX1_keepText_28 : decode cX1_keepText 28 = .ok (.iload_n 1, 1) := by decide +kernel
theorem dX1_keepText_29 : decode cX1_keepText 29 = .ok (.bipush 34, 2) := by decide +kernel
theorem dX1_keepText_31 : decode cX1_keepText 31 = .ok (.invokevirtual 210, 3) := by decide +kernel
theorem dX1_keepText_34 : decode cX1_keepText 34 = .ok (.invokevirtual 207, 3) := by decide +kernel
theorem dX1_keepText_37 : decode cX1_keepText 37 = .ok (.iload_n 1, 1) := by decide +kernel
theorem dX1_keepText_38 : decode cX1_keepText 38 = .ok (.aload_n 0, 1) := by decide +kernel
theorem dX1_keepText_39 : decode cX1_keepText 39 = .ok (.getfield 12, 3) := by decide +kernel
theorem dX1_keepText_42 : decode cX1_keepText 42 = .ok (.iload_n 1, 1) := by decide +kernel
theorem dX1_keepText_43 : decode cX1_keepText 43 = .ok (.invokevirtual 213, 3) := by decide +kernel
theorem dX1_keepText_46 : decode cX1_keepText 46 = .ok (.iadd, 1) := by decide +kernel
theorem dX1_keepText_47 : decode cX1_keepText 47 = .ok (.istore_n 1, 1) := by decide +kernel
theorem dX1_keepText_48 : decode cX1_keepText 48 = .ok (.goto (-38), 3) := by decide +kernel
theorem dX1_keepText_51 : decode cX1_keepText 51 = .ok (.return_, 1) := by decide +kernel
theorem dX1_keepLetter_0 : decode cX1_keepLetter 0 = .ok (.aload_n 0, 1) := by decide +kernel
theorem dX1_keepLetter_1 : decode cX1_keepLetter 1 = .ok (.getfield 68, 3) := by decide +kernel
theorem dX1_keepLetter_4 : decode cX1_keepLetter 4 = .ok (.aload_n 0, 1) := by decide +kernel
theorem dX1_keepLetter_5 : decode cX1_keepLetter 5 = .ok (.getfield 24, 3) := by decide +kernel
theorem dX1_keepLetter_8 : decode cX1_keepLetter 8 = .ok (.arraylength, 1) := by decide +kernel
theorem dX1_keepLetter_9 : decode cX1_keepLetter 9 = .ok (.if_icmp .ge 24, 3) := by decide +kernel
theorem dX1_keepLetter_12 : decode cX1_keepLetter 12 = .ok (.aload_n 0, 1) := by decide +kernel
theorem dX1_keepLetter_13 : decode cX1_keepLetter 13 = .ok (.getfield 24, 3) := by decide +kernel
theorem dX1_keepLetter_16 : decode cX1_keepLetter 16 = .ok (.aload_n 0, 1) := by decide +kernel
theorem dX1_keepLetter_17 : decode cX1_keepLetter 17 = .ok (.getfield 68, 3) := by decide +kernel
theorem dX1_keepLetter_20 : decode cX1_keepLetter 20 = .ok (.iload_n 1, 1) := by decide +kernel
theorem dX1_keepLetter_21 : decode cX1_keepLetter 21 = .ok (.i2b, 1) := by decide +kernel
theorem dX1_keepLetter_22 : decode cX1_keepLetter 22 = .ok (.bastore, 1) := by decide +kernel
theorem dX1_keepLetter_23 : decode cX1_keepLetter 23 = .ok (.aload_n 0, 1) := by decide +kernel
theorem dX1_keepLetter_24 : decode cX1_keepLetter 24 = .ok (.dup, 1) := by decide +kernel
theorem dX1_keepLetter_25 : decode cX1_keepLetter 25 = .ok (.getfield 68, 3) := by decide +kernel
theorem dX1_keepLetter_28 : decode cX1_keepLetter 28 = .ok (.iconst 1, 1) := by decide +kernel
theorem dX1_keepLetter_29 : decode cX1_keepLetter 29 = .ok (.iadd, 1) := by decide +kernel
theorem dX1_keepLetter_30 : decode cX1_keepLetter 30 = .ok (.putfield 68, 3) := by decide +kernel
theorem dX1_keepLetter_33 : decode cX1_keepLetter 33 = .ok (.return_, 1) := by decide +kernel
theorem dX1_fixed_0 : decode cX1_fixed 0 = .ok (.aload_n 0, 1) := by decide +kernel
theorem dX1_fixed_1 : decode cX1_fixed 1 = .ok (.getfield 32, 3) := by decide +kernel
theorem dX1_fixed_4 : decode cX1_fixed 4 = .ok (.ifCond .eq 5, 3) := by decide +kernel
theorem dX1_fixed_7 : decode cX1_fixed 7 = .ok (.iconst 0, 1) := by decide +kernel
theorem dX1_fixed_8 : decode cX1_fixed 8 = .ok (.ireturn, 1) := by decide +kernel
theorem dX1_fixed_9 : decode cX1_fixed 9 = .ok (.iload_n 1, 1) := by decide +kernel
theorem dX1_fixed_10 : decode cX1_fixed 10 = .ok (.ifCond .lt 13, 3) := by decide +kernel
theorem dX1_fixed_13 : decode cX1_fixed 13 = .ok (.aload_n 0, 1) := by decide +kernel
theorem dX1_fixed_14 : decode cX1_fixed 14 = .ok (.getfield 12, 3) := by decide +kernel
theorem dX1_fixed_17 : decode cX1_fixed 17 = .ok (.getfield 217, 3) := by decide +kernel
theorem dX1_fixed_20 : decode cX1_fixed 20 = .ok (.ifCond .ne 18, 3) := by decide +kernel
theorem dX1_fixed_23 : decode cX1_fixed 23 = .ok (.aload_n 0, 1) := by decide +kernel
theorem dX1_fixed_24 : decode cX1_fixed 24 = .ok (.iload_n 1, 1) := by decide +kernel
theorem dX1_fixed_25 : decode cX1_fixed 25 = .ok (.ifCond .ge 7, 3) := by decide +kernel
theorem dX1_fixed_28 : decode cX1_fixed 28 = .ok (.iconst 1, 1) := by decide +kernel
theorem dX1_fixed_29 : decode cX1_fixed 29 = .ok (.goto 4, 3) := by decide +kernel
theorem dX1_fixed_32 : decode cX1_fixed 32 = .ok (.iconst 5, 1) := by decide +kernel
theorem dX1_fixed_33 : decode cX1_fixed 33 = .ok (.invokevirtual 77, 3) := by decide +kernel
theorem dX1_fixed_36 : decode cX1_fixed 36 = .ok (.iconst 0, 1) := by decide +kernel
theorem dX1_fixed_37 : decode cX1_fixed 37 = .ok (.ireturn, 1) := by decide +kernel
theorem dX1_fixed_38 : decode cX1_fixed 38 = .ok (.aload_n 0, 1) := by decide +kernel
theorem dX1_fixed_39 : decode cX1_fixed 39 = .ok (.getfield 12, 3) := by decide +kernel
theorem dX1_fixed_42 : decode cX1_fixed 42 = .ok (.iload_n 1, 1) := by decide +kernel
theorem dX1_fixed_43 : decode cX1_fixed 43 = .ok (.iconst 0, 1) := by decide +kernel
theorem dX1_fixed_44 : decode cX1_fixed 44 = .ok (.invokevirtual 220, 3) := by decide +kernel
theorem dX1_fixed_47 : decode cX1_fixed 47 = .ok (.istore 4, 2) := by decide +kernel
theorem dX1_fixed_49 : decode cX1_fixed 49 = .ok (.aload_n 0, 1) := by decide +kernel
theorem dX1_fixed_50 : decode cX1_fixed 50 = .ok (.getfield 12, 3) := by decide +kernel
theorem dX1_fixed_53 : decode cX1_fixed 53 = .ok (.getfield 223, 3) := by decide +kernel
theorem dX1_fixed_56 : decode cX1_fixed 56 = .ok (.ifCond .ne 15, 3) := by decide +kernel
theorem dX1_fixed_59 : decode cX1_fixed 59 = .ok (.iload 4, 2) := by decide +kernel
theorem dX1_fixed_61 : decode cX1_fixed 61 = .ok (.iload_n 2, 1) := by decide +kernel
theorem dX1_fixed_62 : decode cX1_fixed 62 = .ok (.if_icmp .lt 9, 3) := by decide +kernel
theorem dX1_fixed_65 : decode cX1_fixed 65 = .ok (.iload 4, 2) := by decide +kernel
theorem dX1_fixed_67 : decode cX1_fixed 67 = .ok (.iload_n 3, 1) := by decide +kernel
theorem dX1_fixed_68 : decode cX1_fixed 68 = .ok (.if_icmp .le 31, 3) := by decide +kernel
theorem dX1_fixed_71 : decode cX1_fixed 71 = .ok (.aload_n 0, 1) := by decide +kernel
theorem dX1_fixed_72 : decode cX1_fixed 72 = .ok (.aload_n 0, 1) := by decide +kernel
theorem dX1_fixed_73 : decode cX1_fixed 73 = .ok (.getfield 12, 3) := by decide +kernel
theorem dX1_fixed_76 : decode cX1_fixed 76 = .ok (.getfield 223, 3) := by decide +kernel
theorem dX1_fixed_79 : decode cX1_fixed 79 = .ok (.ifCond .eq 13, 3) := by decide +kernel
theorem dX1_fixed_82 : decode cX1_fixed 82 = .ok (.aload_n 0, 1) := by decide +kernel
theorem dX1_fixed_83 : decode cX1_fixed 83 = .ok (.getfield 12, 3) := by decide +kernel
theorem dX1_fixed_86 : decode cX1_fixed 86 = .ok (.getfield 223, 3) := by decide +kernel
theorem dX1_fixed_89 : decode cX1_fixed 89 = .ok (.goto 5, 3) := by decide +kernel
theorem dX1_fixed_92 : decode cX1_fixed 92 = .ok (.bipush 6, 2) := by decide +kernel
theorem dX1_fixed_94 : decode cX1_fixed 94 = .ok (.invokevirtual 77, 3) := by decide +kernel
theorem dX1_fixed_97 : decode cX1_fixed 97 = .ok (.iconst 0, 1) := by decide +kernel
theorem dX1_fixed_98 : decode cX1_fixed 98 = .ok (.ireturn, 1) := by decide +kernel
theorem dX1_fixed_99 : decode cX1_fixed 99 = .ok (.iload 4, 2) := by decide +kernel
theorem dX1_fixed_101 : decode cX1_fixed 101 = .ok (.ireturn, 1) := by decide +kernel
theorem dX1_expect_0 : decode cX1_expect 0 = .ok (.aload_n 0, 1) := by decide +kernel
theorem dX1_expect_1 : decode cX1_expect 1 = .ok (.getfield 32, 3) := by decide +kernel
theorem dX1_expect_4 : decode cX1_expect 4 = .ok (.ifCond .ne 19, 3) := by decide +kernel
theorem dX1_expect_7 : decode cX1_expect 7 = .ok (.aload_n 0, 1) := by decide +kernel
theorem dX1_expect_8 : decode cX1_expect 8 = .ok (.getfield 12, 3) := by decide +kernel
theorem dX1_expect_11 : decode cX1_expect 11 = .ok (.iload_n 1, 1) := by decide +kernel
theorem dX1_expect_12 : decode cX1_expect 12 = .ok (.invokevirtual 100, 3) := by decide +kernel
theorem dX1_expect_15 : decode cX1_expect 15 = .ok (.ifCond .ne 8, 3) := by decide +kernel
theorem dX1_expect_18 : decode cX1_expect 18 = .ok (.aload_n 0, 1) := by decide +kernel
theorem dX1_expect_19 : decode cX1_expect 19 = .ok (.iconst 1, 1) := by decide +kernel
theorem dX1_expect_20 : decode cX1_expect 20 = .ok (.invokevirtual 77, 3) := by decide +kernel
theorem dX1_expect_23 : decode cX1_expect 23 = .ok (.aload_n 0, 1) := by decide +kernel
theorem dX1_expect_24 : decode cX1_expect 24 = .ok (.getfield 32, 3) := by decide +kernel
theorem dX1_expect_27 : decode cX1_expect 27 = .ok (.ifCond .ne 10, 3) := by decide +kernel
theorem dX1_expect_30 : decode cX1_expect 30 = .ok (.aload_n 0, 1) := by decide +kernel
theorem dX1_expect_31 : decode cX1_expect 31 = .ok (.getfield 12, 3) := by decide +kernel
theorem dX1_expect_34 : decode cX1_expect 34 = .ok (.invokevirtual 97, 3) := by decide +kernel
theorem dX1_expect_37 : decode cX1_expect 37 = .ok (.return_, 1) := by decide +kernel
theorem dX1_isRegister_0 : decode cX1_isRegister 0 = .ok (.aload_n 0, 1) := by decide +kernel
theorem dX1_isRegister_1 : decode cX1_isRegister 1 = .ok (.getfield 12, 3) := by decide +kernel
theorem dX1_isRegister_4 : decode cX1_isRegister 4 = .ok (.getfield 85, 3) := by decide +kernel
theorem dX1_isRegister_7 : decode cX1_isRegister 7 = .ok (.iconst 1, 1) := by decide +kernel
theorem dX1_isRegister_8 : decode cX1_isRegister 8 = .ok (.if_icmp .ne 42, 3) := by decide +kernel
theorem dX1_isRegister_11 : decode cX1_isRegister 11 = .ok (.aload_n 0, 1) := by decide +kernel
theorem dX1_isRegister_12 : decode cX1_isRegister 12 = .ok (.getfield 12, 3) := by decide +kernel
theorem dX1_isRegister_15 : decode cX1_isRegister 15 = .ok (.getfield 120, 3) := by decide +kernel
theorem dX1_isRegister_18 : decode cX1_isRegister 18 = .ok (.aload_n 0, 1) := by decide +kernel
theorem dX1_isRegister_19 : decode cX1_isRegister 19 = .ok (.getfield 12, 3) := by decide +kernel
theorem dX1_isRegister_22 : decode cX1_isRegister 22 = .ok (.getfield 88, 3) := by decide +kernel
theorem dX1_isRegister_25 : decode cX1_isRegister 25 = .ok (.aload_n 0, 1) := by decide +kernel
theorem dX1_isRegister_26 : decode cX1_isRegister 26 = .ok (.getfield 12, 3) := by decide +kernel
theorem dX1_isRegister_29 : decode cX1_isRegister 29 = .ok (.getfield 91, 3) := by decide +kernel
theorem dX1_isRegister_32 : decode cX1_isRegister 32 = .ok (.aload_n 0, 1) := by decide +kernel
theorem dX1_isRegister_33 : decode cX1_isRegister 33 = .ok (.getfield 12, 3) := by decide +kernel
theorem dX1_isRegister_36 : decode cX1_isRegister 36 = .ok (.getfield 88, 3) := by decide +kernel
theorem dX1_isRegister_39 : decode cX1_isRegister 39 = .ok (.isub, 1) := by decide +kernel
theorem dX1_isRegister_40 : decode cX1_isRegister 40 = .ok (.invokestatic 123, 3) := by decide +kernel
theorem dX1_isRegister_43 : decode cX1_isRegister 43 = .ok (.ifCond .lt 7, 3) := by decide +kernel
theorem dX1_isRegister_46 : decode cX1_isRegister 46 = .ok (.iconst 1, 1) := by decide +kernel
theorem dX1_isRegister_47 : decode cX1_isRegister 47 = .ok (.goto 4, 3) := by decide +kernel
theorem dX1_isRegister_50 : decode cX1_isRegister 50 = .ok (.iconst 0, 1) := by decide +kernel
theorem dX1_isRegister_51 : decode cX1_isRegister 51 = .ok (.ireturn, 1) := by decide +kernel
theorem dX1_readRegister_0 : decode cX1_readRegister 0 = .ok (.aload_n 0, 1) := by decide +kernel
theorem dX1_readRegister_1 : decode cX1_readRegister 1 = .ok (.getfield 32, 3) := by decide +kernel
theorem dX1_readRegister_4 : decode cX1_readRegister 4 = .ok (.ifCond .eq 5, 3) := by decide +kernel
theorem dX1_readRegister_7 : decode cX1_readRegister 7 = .ok (.iconst 0, 1) := by decide +kernel
theorem dX1_readRegister_8 : decode cX1_readRegister 8 = .ok (.ireturn, 1) := by decide +kernel
theorem dX1_readRegister_9 : decode cX1_readRegister 9 = .ok (.aload_n 0, 1) := by decide +kernel
theorem dX1_readRegister_10 : decode cX1_readRegister 10 = .ok (.getfield 12, 3) := by decide +kernel
theorem dX1_readRegister_13 : decode cX1_readRegister 13 = .ok (.getfield 85, 3) := by decide +kernel
theorem dX1_readRegister_16 : decode cX1_readRegister 16 = .ok (.ifCond .eq 15, 3) := by decide +kernel
theorem dX1_readRegister_19 : decode cX1_readRegister 19 = .ok (.aload_n 0, 1) := by decide +kernel
theorem dX1_readRegister_20 : decode cX1_readRegister 20 = .ok (.getfield 12, 3) := by decide +kernel
theorem dX1_readRegister_23 : decode cX1_readRegister 23 = .ok (.getfield 85, 3) := by decide +kernel
theorem dX1_readRegister_26 : decode cX1_readRegister 26 = .ok (.bipush 6, 2) := by decide +kernel
theorem dX1_readRegister_28 : decode cX1_readRegister 28 = .ok (.if_icmp .ne 10, 3) := by decide +kernel
theorem dX1_readRegister_31 : decode cX1_readRegister 31 = .ok (.aload_n 0, 1) := by decide +kernel
theorem dX1_readRegister_32 : decode cX1_readRegister 32 = .ok (.iconst 1, 1) := by decide +kernel
theorem dX1_readRegister_33 : decode cX1_readRegister 33 = .ok (.invokevirtual 77, 3) := by decide +kernel
theorem dX1_readRegister_36 : decode cX1_readRegister 36 = .ok (.iconst 0, 1) := by decide +kernel
theorem dX1_readRegister_37 : decode cX1_readRegister 37 = .ok (.ireturn, 1) := by decide +kernel
theorem dX1_readRegister_38 : decode cX1_readRegister 38 = .ok (.aload_n 0, 1) := by decide +kernel
theorem dX1_readRegister_39 : decode cX1_readRegister 39 = .ok (.getfield 12, 3) := by decide +kernel
theorem dX1_readRegister_42 : decode cX1_readRegister 42 = .ok (.getfield 91, 3) := by decide +kernel
theorem dX1_readRegister_45 : decode cX1_readRegister 45 = .ok (.aload_n 0, 1) := by decide +kernel
theorem dX1_readRegister_46 : decode cX1_readRegister 46 = .ok (.getfield 12, 3) := by decide +kernel
theorem dX1_readRegister_49 : decode cX1_readRegister 49 = .ok (.getfield 88, 3) := by decide +kernel
theorem dX1_readRegister_52 : decode cX1_readRegister 52 = .ok (.isub, 1) := by decide +kernel
theorem dX1_readRegister_53 : decode cX1_readRegister 53 = .ok (.istore_n 2, 1) := by decide +kernel
theorem dX1_readRegister_54 : decode cX1_readRegister 54 = .ok (.aload_n 0, 1) := by decide +kernel
theorem dX1_readRegister_55 : decode cX1_readRegister 55 = .ok (.getfield 12, 3) := by decide +kernel
theorem dX1_readRegister_58 : decode cX1_readRegister 58 = .ok (.getfield 85, 3) := by decide +kernel
theorem dX1_readRegister_61 : decode cX1_readRegister 61 = .ok (.iconst 1, 1) := by decide +kernel
theorem dX1_readRegister_62 : decode cX1_readRegister 62 = .ok (.if_icmp .ne 24, 3) := by decide +kernel
theorem dX1_readRegister_65 : decode cX1_readRegister 65 = .ok (.aload_n 0, 1) := by decide +kernel
theorem dX1_readRegister_66 : decode cX1_readRegister 66 = .ok (.getfield 12, 3) := by decide +kernel
theorem dX1_readRegister_69 : decode cX1_readRegister 69 = .ok (.getfield 120, 3) := by decide +kernel
theorem dX1_readRegister_72 : decode cX1_readRegister 72 = .ok (.aload_n 0, 1) := by decide +kernel
theorem dX1_readRegister_73 : decode cX1_readRegister 73 = .ok (.getfield 12, 3) := by decide +kernel
theorem dX1_readRegister_76 : decode cX1_readRegister 76 = .ok (.getfield 88, 3) := by decide +kernel
theorem dX1_readRegister_79 : decode cX1_readRegister 79 = .ok (.iload_n 2, 1) := by decide +kernel
theorem dX1_readRegister_80 : decode cX1_readRegister 80 = .ok (.invokestatic 123, 3) := by decide +kernel
theorem dX1_readRegister_83 : decode cX1_readRegister 83 = .ok (.goto 4, 3) := by decide +kernel
theorem dX1_readRegister_86 : decode cX1_readRegister 86 = .ok (.iconst (-1), 1) := by decide +kernel
theorem dX1_readRegister_87 : decode cX1_readRegister 87 = .ok (.istore_n 3, 1) := by decide +kernel
theorem dX1_readRegister_88 : decode cX1_readRegister 88 = .ok (.iload_n 3, 1) := by decide +kernel
theorem dX1_readRegister_89 : decode cX1_readRegister 89 = .ok (.ifCond .lt 11, 3) := by decide +kernel
theorem dX1_readRegister_92 : decode cX1_readRegister 92 = .ok (.iload_n 1, 1) := by decide +kernel
theorem dX1_readRegister_93 : decode cX1_readRegister 93 = .ok (.iload_n 3, 1) := by decide +kernel
theorem dX1_readRegister_94 : decode cX1_readRegister 94 = .ok (.invokestatic 257, 3) := by decide +kernel
theorem dX1_readRegister_97 : decode cX1_readRegister 97 = .ok (.ifCond .ne 10, 3) := by decide +kernel
theorem dX1_readRegister_100 : decode cX1_readRegister 100 = .ok (.aload_n 0, 1) := by decide +kernel
theorem dX1_readRegister_101 : decode cX1_readRegister 101 = .ok (.iconst 3, 1) := by decide +kernel
theorem dX1_readRegister_102 : decode cX1_readRegister 102 = .ok (.invokevirtual 77, 3) := by decide +kernel
theorem dX1_readRegister_105 : decode cX1_readRegister 105 = .ok (.iconst 0, 1) := by decide +kernel
theorem dX1_readRegister_106 : decode cX1_readRegister 106 = .ok (.ireturn, 1) := by decide +kernel
theorem dX1_readRegister_107 : decode cX1_readRegister 107 = .ok (.aload_n 0, 1) := by decide +kernel
theorem dX1_readRegister_108 : decode cX1_readRegister 108 = .ok (.getfield 12, 3) := by decide +kernel
theorem dX1_readRegister_111 : decode cX1_readRegister 111 = .ok (.invokevirtual 97, 3) := by decide +kernel
theorem dX1_readRegister_114 : decode cX1_readRegister 114 = .ok (.iload_n 1, 1) := by decide +kernel
theorem dX1_readRegister_115 : decode cX1_readRegister 115 = .ok (.iload_n 3, 1) := by decide +kernel
theorem dX1_readRegister_116 : decode cX1_readRegister 116 = .ok (.invokestatic 261, 3) := by decide +kernel
theorem dX1_readRegister_119 : decode cX1_readRegister 119 = .ok (.ireturn, 1) := by decide +kernel
theorem dX1_addNumber_0 : decode cX1_addNumber 0 = .ok (.bipush 8, 2) := by decide +kernel
theorem dX1_addNumber_2 : decode cX1_addNumber 2 = .ok (.istore_n 3, 1) := by decide +kernel
theorem dX1_addNumber_3 : decode cX1_addNumber 3 = .ok (.bipush 78, 2) := by decide +kernel
theorem dX1_addNumber_5 : decode cX1_addNumber 5 = .ok (.iload_n 2, 1) := by decide +kernel
theorem dX1_addNumber_6 : decode cX1_addNumber 6 = .ok (.invokestatic 257, 3) := by decide +kernel
theorem dX1_addNumber_9 : decode cX1_addNumber 9 = .ok (.ifCond .eq 12, 3) := by decide +kernel
theorem dX1_addNumber_12 : decode cX1_addNumber 12 = .ok (.iload_n 1, 1) := by decide +kernel
theorem dX1_addNumber_13 : decode cX1_addNumber 13 = .ok (.ifCond .eq 8, 3) := by decide +kernel
theorem dX1_addNumber_16 : decode cX1_addNumber 16 = .ok (.iconst 2, 1) := by decide +kernel
theorem dX1_addNumber_17 : decode cX1_addNumber 17 = .ok (.istore_n 3, 1) := by decide +kernel
theorem dX1_addNumber_18 : decode cX1_addNumber 18 = .ok (.goto 21, 3) := by decide +kernel
theorem dX1_addNumber_21 : decode cX1_addNumber 21 = .ok (.bipush 73, 2) := by decide +kernel
theorem dX1_addNumber_23 : decode cX1_addNumber 23 = .ok (.iload_n 2, 1) := by decide +kernel
theorem dX1_addNumber_24 : decode cX1_addNumber 24 = .ok (.invokestatic 257, 3) := by decide +kernel
theorem dX1_addNumber_27 : decode cX1_addNumber 27 = .ok (.ifCond .ne 10, 3) := by decide +kernel
theorem dX1_addNumber_30 : decode cX1_addNumber 30 = .ok (.iload_n 2, 1) := by decide +kernel
theorem dX1_addNumber_31 : decode cX1_addNumber 31 = .ok (.invokestatic 265, 3) := by decide +kernel
theorem dX1_addNumber_34 : decode cX1_addNumber 34 = .ok (.ifCond .ne 5, 3) := by decide +kernel
theorem dX1_addNumber_37 : decode cX1_addNumber 37 = .ok (.iconst 4, 1) := by decide +kernel
theorem dX1_addNumber_38 : decode cX1_addNumber 38 = .ok (.istore_n 3, 1) := by decide +kernel
theorem dX1_addNumber_39 : decode cX1_addNumber 39 = .ok (.aload_n 0, 1) := by decide +kernel
theorem dX1_addNumber_40 : decode cX1_addNumber 40 = .ok (.iconst 4, 1) := by decide +kernel
theorem dX1_addNumber_41 : decode cX1_addNumber 41 = .ok (.iload_n 3, 1) := by decide +kernel
theorem dX1_addNumber_42 : decode cX1_addNumber 42 = .ok (.iload_n 1, 1) := by decide +kernel
theorem dX1_addNumber_43 : decode cX1_addNumber 43 = .ok (.iload_n 2, 1) := by decide +kernel
theorem dX1_addNumber_44 : decode cX1_addNumber 44 = .ok (.invokevirtual 176, 3) := by decide +kernel
theorem dX1_addNumber_47 : decode cX1_addNumber 47 = .ok (.return_, 1) := by decide +kernel
theorem dX1_add_0 : decode cX1_add 0 = .ok (.aload_n 0, 1) := by decide +kernel
theorem dX1_add_1 : decode cX1_add 1 = .ok (.getfield 32, 3) := by decide +kernel
theorem dX1_add_4 : decode cX1_add 4 = .ok (.ifCond .ne 13, 3) := by decide +kernel
theorem dX1_add_7 : decode cX1_add 7 = .ok (.aload_n 0, 1) := by decide +kernel
theorem dX1_add_8 : decode cX1_add 8 = .ok (.getfield 65, 3) := by decide +kernel
theorem dX1_add_11 : decode cX1_add 11 = .ok (.sipush 8194, 3) := by decide +kernel
theorem dX1_add_14 : decode cX1_add 14 = .ok (.if_icmp .lt 4, 3) := by decide +kernel
theorem dX1_add_17 : decode cX1_add 17 = .ok (.return_, 1) := by decide +kernel
theorem dX1_add_18 : decode cX1_add 18 = .ok (.aload_n 0, 1) := by decide +kernel
theorem dX1_add_19 : decode cX1_add 19 = .ok (.getfield 65, 3) := by decide +kernel
theorem dX1_add_22 : decode cX1_add 22 = .ok (.bipush 8, 2) := by decide +kernel
theorem dX1_add_24 : decode cX1_add 24 = .ok (.imul, 1) := by decide +kernel
theorem dX1_add_25 : decode cX1_add 25 = .ok (.istore 5, 2) := by decide +kernel
theorem dX1_add_27 : decode cX1_add 27 = .ok (.aload_n 0, 1) := by decide +kernel
theorem dX1_add_28 : decode cX1_add 28 = .ok (.getfield 19, 3) := by decide +kernel
theorem dX1_add_31 : decode cX1_add 31 = .ok (.iload 5, 2) := by decide +kernel
theorem dX1_add_33 : decode cX1_add 33 = .ok (.iconst 0, 1) := by decide +kernel
theorem dX1_add_34 : decode cX1_add 34 = .ok (.iadd, 1) := by decide +kernel
theorem dX1_add_35 : decode cX1_add 35 = .ok (.aload_n 0, 1) := by decide +kernel
theorem dX1_add_36 : decode cX1_add 36 = .ok (.getfield 36, 3) := by decide +kernel
theorem dX1_add_39 : decode cX1_add 39 = .ok (.iastore, 1) := by decide +kernel
theorem dX1_add_40 : decode cX1_add 40 = .ok (.aload_n 0, 1) := by decide +kernel
theorem dX1_add_41 : decode cX1_add 41 = .ok (.getfield 19, 3) := by decide +kernel
theorem dX1_add_44 : decode cX1_add 44 = .ok (.iload 5, 2) := by decide +kernel
theorem dX1_add_46 : decode cX1_add 46 = .ok (.iconst 1, 1) := by decide +kernel
theorem dX1_add_47 : decode cX1_add 47 = .ok (.iadd, 1) := by decide +kernel
theorem dX1_add_48 : decode cX1_add 48 = .ok (.aload_n 0, 1) := by decide +kernel
theorem dX1_add_49 : decode cX1_add 49 = .ok (.getfield 71, 3) := by decide +kernel
theorem dX1_add_52 : decode cX1_add 52 = .ok (.iastore, 1) := by decide +kernel
theorem dX1_add_53 : decode cX1_add 53 = .ok (.aload_n 0, 1) := by decide +kernel
theorem dX1_add_54 : decode cX1_add 54 = .ok (.getfield 19, 3) := by decide +kernel
theorem dX1_add_57 : decode cX1_add 57 = .ok (.iload 5, 2) := by decide +kernel
theorem dX1_add_59 : decode cX1_add 59 = .ok (.iconst 2, 1) := by decide +kernel
theorem dX1_add_60 : decode cX1_add 60 = .ok (.iadd, 1) := by decide +kernel
theorem dX1_add_61 : decode cX1_add 61 = .ok (.iconst 0, 1) := by decide +kernel
theorem dX1_add_62 : decode cX1_add 62 = .ok (.iastore, 1) := by decide +kernel
theorem dX1_add_63 : decode cX1_add 63 = .ok (.aload_n 0, 1) := by decide +kernel
theorem dX1_add_64 : decode cX1_add 64 = .ok (.getfield 19, 3) := by decide +kernel
theorem dX1_add_67 : decode cX1_add 67 = .ok (.iload 5, 2) := by decide +kernel
theorem dX1_add_69 : decode cX1_add 69 = .ok (.iconst 3, 1) := by decide +kernel
theorem dX1_add_70 : decode cX1_add 70 = .ok (.iadd, 1) := by decide +kernel
theorem dX1_add_71 : decode cX1_add 71 = .ok (.iload_n 2, 1) := by decide +kernel
theorem dX1_add_72 : decode cX1_add 72 = .ok (.iastore, 1) := by decide +kernel
theorem dX1_add_73 : decode cX1_add 73 = .ok (.aload_n 0, 1) := by decide +kernel
theorem dX1_add_74 : decode cX1_add 74 = .ok (.getfield 19, 3) := by decide +kernel
theorem dX1_add_77 : decode cX1_add 77 = .ok (.iload 5, 2) := by decide +kernel
theorem dX1_add_79 : decode cX1_add 79 = .ok (.iconst 4, 1) := by decide +kernel
theorem dX1_add_80 : decode cX1_add 80 = .ok (.iadd, 1) := by decide +kernel
theorem dX1_add_81 : decode cX1_add 81 = .ok (.iload_n 1, 1) := by decide +kernel
theorem dX1_add_82 : decode cX1_add 82 = .ok (.iastore, 1) := by decide +kernel
theorem dX1_add_83 : decode cX1_add 83 = .ok (.aload_n 0, 1) := by decide +kernel
theorem dX1_add_84 : decode cX1_add 84 = .ok (.getfield 19, 3) := by decide +kernel
theorem dX1_add_87 : decode cX1_add 87 = .ok (.iload 5, 2) := by decide +kernel
theorem dX1_add_89 : decode cX1_add 89 = .ok (.iconst 5, 1) := by decide +kernel
theorem dX1_add_90 : decode cX1_add 90 = .ok (.iadd, 1) := by decide +kernel
theorem dX1_add_91 : decode cX1_add 91 = .ok (.iload_n 3, 1) := by decide +kernel
theorem dX1_add_92 : decode cX1_add 92 = .ok (.iastore, 1) := by decide +kernel
theorem dX1_add_93 : decode cX1_add 93 = .ok (.aload_n 0, 1) := by decide +kernel
theorem dX1_add_94 : decode cX1_add 94 = .ok (.getfield 19, 3) := by decide +kernel
theorem dX1_add_97 : decode cX1_add 97 = .ok (.iload 5, 2) := by decide +kernel
theorem dX1_add_99 : decode cX1_add 99 = .ok (.bipush 6, 2) := by decide +kernel
theorem dX1_add_101 : decode cX1_add 101 = .ok (.iadd, 1) := by decide +kernel
theorem dX1_add_102 : decode cX1_add 102 = .ok (.iload 4, 2) := by decide +kernel
theorem dX1_add_104 : decode cX1_add 104 = .ok (.iastore, 1) := by decide +kernel
theorem dX1_add_105 : decode cX1_add 105 = .ok (.aload_n 0, 1) := by decide +kernel
theorem dX1_add_106 : decode cX1_add 106 = .ok (.getfield 19, 3) := by decide +kernel
theorem dX1_add_109 : decode cX1_add 109 = .ok (.iload 5, 2) := by decide +kernel
theorem dX1_add_111 : decode cX1_add 111 = .ok (.bipush 7, 2) := by decide +kernel
theorem dX1_add_113 : decode cX1_add 113 = .ok (.iadd, 1) := by decide +kernel
theorem dX1_add_114 : decode cX1_add 114 = .ok (.iconst 0, 1) := by decide +kernel
theorem dX1_add_115 : decode cX1_add 115 = .ok (.iastore, 1) := by decide +kernel
theorem dX1_add_116 : decode cX1_add 116 = .ok (.aload_n 0, 1) := by decide +kernel
theorem dX1_add_117 : decode cX1_add 117 = .ok (.dup, 1) := by decide +kernel
theorem dX1_add_118 : decode cX1_add 118 = .ok (.getfield 65, 3) := by decide +kernel
theorem dX1_add_121 : decode cX1_add 121 = .ok (.iconst 1, 1) := by decide +kernel
theorem dX1_add_122 : decode cX1_add 122 = .ok (.iadd, 1) := by decide +kernel
theorem dX1_add_123 : decode cX1_add 123 = .ok (.putfield 65, 3) := by decide +kernel
theorem dX1_add_126 : decode cX1_add 126 = .ok (.return_, 1) := by decide +kernel
theorem dX1_setLetter_0 : decode cX1_setLetter 0 = .ok (.aload_n 0, 1) := by decide +kernel
theorem dX1_setLetter_1 : decode cX1_setLetter 1 = .ok (.getfield 32, 3) := by decide +kernel
theorem dX1_setLetter_4 : decode cX1_setLetter 4 = .ok (.ifCond .ne 28, 3) := by decide +kernel
theorem dX1_setLetter_7 : decode cX1_setLetter 7 = .ok (.aload_n 0, 1) := by decide +kernel
theorem dX1_setLetter_8 : decode cX1_setLetter 8 = .ok (.getfield 65, 3) := by decide +kernel
theorem dX1_setLetter_11 : decode cX1_setLetter 11 = .ok (.ifCond .le 21, 3) := by decide +kernel
theorem dX1_setLetter_14 : decode cX1_setLetter 14 = .ok (.aload_n 0, 1) := by decide +kernel
theorem dX1_setLetter_15 : decode cX1_setLetter 15 = .ok (.getfield 19, 3) := by decide +kernel
theorem dX1_setLetter_18 : decode cX1_setLetter 18 = .ok (.aload_n 0, 1) := by decide +kernel
theorem dX1_setLetter_19 : decode cX1_setLetter 19 = .ok (.getfield 65, 3) := by decide +kernel
theorem dX1_setLetter_22 : decode cX1_setLetter 22 = .ok (.iconst 1, 1) := by decide +kernel
theorem dX1_setLetter_23 : decode cX1_setLetter 23 = .ok (.isub, 1) := by decide +kernel
theorem dX1_setLetter_24 : decode cX1_setLetter 24 = .ok (.bipush 8, 2) := by decide +kernel
theorem dX1_setLetter_26 : decode cX1_setLetter 26 = .ok (.imul, 1) := by decide +kernel
theorem dX1_setLetter_27 : decode cX1_setLetter 27 = .ok (.bipush 7, 2) := by decide +kernel
theorem dX1_setLetter_29 : decode cX1_setLetter 29 = .ok (.iadd, 1) := by decide +kernel
theorem dX1_setLetter_30 : decode cX1_setLetter 30 = .ok (.iload_n 1, 1) := by decide +kernel
theorem dX1_setLetter_31 : decode cX1_setLetter 31 = .ok (.iastore, 1) := by decide +kernel
theorem dX1_setLetter_32 : decode cX1_setLetter 32 = .ok (.return_, 1) := by decide +kernel
theorem dX1_layOut_0 : decode cX1_layOut 0 = .ok (.iconst 1, 1) := by decide +kernel
theorem dX1_layOut_1 : decode cX1_layOut 1 = .ok (.istore_n 1, 1) := by decide +kernel
theorem dX1_layOut_2 : decode cX1_layOut 2 = .ok (.iconst 2, 1) := by decide +kernel
theorem dX1_layOut_3 : decode cX1_layOut 3 = .ok (.aload_n 0, 1) := by decide +kernel
theorem dX1_layOut_4 : decode cX1_layOut 4 = .ok (.getfield 65, 3) := by decide +kernel
theorem dX1_layOut_7 : decode cX1_layOut 7 = .ok (.imul, 1) := by decide +kernel
theorem dX1_layOut_8 : decode cX1_layOut 8 = .ok (.istore_n 2, 1) := by decide +kernel
theorem dX1_layOut_9 : decode cX1_layOut 9 = .ok (.iload_n 1, 1) := by decide +kernel
theorem dX1_layOut_10 : decode cX1_layOut 10 = .ok (.ifCond .eq 22, 3) := by decide +kernel
theorem dX1_layOut_13 : decode cX1_layOut 13 = .ok (.iload_n 2, 1) := by decide +kernel
theorem dX1_layOut_14 : decode cX1_layOut 14 = .ok (.ifCond .lt 18, 3) := by decide +kernel
theorem dX1_layOut_17 : decode cX1_layOut 17 = .ok (.aload_n 0, 1) := by decide +kernel
theorem dX1_layOut_18 : decode cX1_layOut 18 = .ok (.invokevirtual 268, 3) := by decide +kernel
theorem dX1_layOut_21 : decode cX1_layOut 21 = .ok (.aload_n 0, 1) := by decide +kernel
theorem dX1_layOut_22 : decode cX1_layOut 22 = .ok (.invokevirtual 271, 3) := by decide +kernel
theorem dX1_layOut_25 : decode cX1_layOut 25 = .ok (.istore_n 1, 1) := by decide +kernel
theorem dX1_layOut_26 : decode cX1_layOut 26 = .ok (.iinc 2 (-1), 3) := by decide +kernel
theorem dX1_layOut_29 : decode cX1_layOut 29 = .ok (.goto (-20), 3) := by decide +kernel
theorem dX1_layOut_32 : decode cX1_layOut 32 = .ok (.return_, 1) := by decide +kernel
theorem dX1_findAddresses_0 : decode cX1_findAddresses 0 = .ok (.iconst 0, 1) := by decide +kernel
theorem dX1_findAddresses_1 : decode cX1_findAddresses 1 = .ok (.istore_n 1, 1) := by decide +kernel
theorem dX1_findAddresses_2 : decode cX1_findAddresses 2 = .ok (.iconst 0, 1) := by decide +kernel
theorem dX1_findAddresses_3 : decode cX1_findAddresses 3 = .ok (.istore_n 2, 1) := by decide +kernel
theorem dX1_findAddresses_4 : decode cX1_findAddresses 4 = .ok (.iconst 0, 1) := by decide +kernel
theorem dX1_findAddresses_5 : decode cX1_findAddresses 5 = .ok (.istore_n 3, 1) := by decide +kernel
theorem dX1_findAddresses_6 : decode cX1_findAddresses 6 = .ok (.iconst 0, 1) := by decide +kernel
theorem dX1_findAddresses_7 : decode cX1_findAddresses 7 = .ok (.istore 4, 2) := by decide +kernel
theorem dX1_findAddresses_9 : decode cX1_findAddresses 9 = .ok (.iload 4, 2) := by decide +kernel
theorem dX1_findAddresses_11 : decode cX1_findAddresses 11 = .ok (.aload_n 0, 1) := by decide +kernel
theorem dX1_findAddresses_12 : decode cX1_findAddresses 12 = .ok (.getfield 65, 3) := by decide +kernel
theorem dX1_findAddresses_15 : decode cX1_findAddresses 15 = .ok (.if_icmp .gt 172, 3) := by decide +kernel
theorem dX1_findAddresses_18 : decode cX1_findAddresses 18 = .ok (.iload_n 3, 1) := by decide +kernel
theorem dX1_findAddresses_19 : decode cX1_findAddresses 19 = .ok (.aload_n 0, 1) := by decide +kernel
theorem dX1_findAddresses_20 : decode cX1_findAddresses 20 = .ok (.getfield 12, 3) := by decide +kernel
theorem dX1_findAddresses_23 : decode cX1_findAddresses 23 = .ok (.getfield 274, 3) := by decide +kernel
theorem dX1_findAddresses_26 : decode cX1_findAddresses 26 = .ok (.if_icmp .ge 32, 3) := by decide +kernel
theorem dX1_findAddresses_29 : decode cX1_findAddresses 29 = .ok (.aload_n 0, 1) := by decide +kernel
theorem dX1_findAddresses_30 : decode cX1_findAddresses 30 = .ok (.getfield 12, 3) := by decide +kernel
theorem dX1_findAddresses_33 : decode cX1_findAddresses 33 = .ok (.iload_n 3, 1) := by decide +kernel
theorem dX1_findAddresses_34 : decode cX1_findAddresses 34 = .ok (.iload 4, 2) := by decide +kernel
theorem dX1_findAddresses_36 : decode cX1_findAddresses 36 = .ok (.invokevirtual 277, 3) := by decide +kernel
theorem dX1_findAddresses_39 : decode cX1_findAddresses 39 = .ok (.ifCond .eq 19, 3) := by decide +kernel
theorem dX1_findAddresses_42 : decode cX1_findAddresses 42 = .ok (.aload_n 0, 1) := by decide +kernel
theorem dX1_findAddresses_43 : decode cX1_findAddresses 43 = .ok (.getfield 12, 3) := by decide +kernel
theorem dX1_findAddresses_46 : decode cX1_findAddresses 46 = .ok (.iload_n 3, 1) := by decide +kernel
theorem dX1_findAddresses_47 : decode cX1_findAddresses 47 = .ok (.iload_n 1, 1) := by decide +kernel
theorem dX1_findAddresses_48 : decode cX1_findAddresses 48 = .ok (.iload_n 2, 1) := by decide +kernel
theorem dX1_findAddresses_49 : decode cX1_findAddresses 49 = .ok (.invokevirtual 281, 3) := by decide +kernel
theorem dX1_findAddresses_52 : decode cX1_findAddresses 52 = .ok (.iinc 3 1, 3) := by decide +kernel
theorem dX1_findAddresses_55 : decode cX1_findAddresses 55 = .ok (.goto (-37), 3) := by decide +kernel
theorem dX1_findAddresses_58 : decode cX1_findAddresses 58 = .ok (.iload 4, 2) := by decide +kernel
theorem dX1_findAddresses_60 : decode cX1_findAddresses 60 = .ok (.aload_n 0, 1) := by decide +kernel
theorem dX1_findAddresses_61 : decode cX1_findAddresses 61 = .ok (.getfield 65, 3) := by decide +kernel
theorem dX1_findAddresses_64 : decode cX1_findAddresses 64 = .ok (.if_icmp .ge 117, 3) := by decide +kernel
theorem dX1_findAddresses_67 : decode cX1_findAddresses 67 = .ok (.iload 4, 2) := by decide +kernel
theorem dX1_findAddresses_69 : decode cX1_findAddresses 69 = .ok (.bipush 8, 2) := by decide +kernel
theorem dX1_findAddresses_71 : decode cX1_findAddresses 71 = .ok (.imul, 1) := by decide +kernel
theorem dX1_findAddresses_72 : decode cX1_findAddresses 72 = .ok (.istore 5, 2) := by decide +kernel
theorem dX1_findAddresses_74 : decode cX1_findAddresses 74 = .ok (.aload_n 0, 1) := by decide +kernel
theorem dX1_findAddresses_75 : decode cX1_findAddresses 75 = .ok (.getfield 19, 3) := by decide +kernel
theorem dX1_findAddresses_78 : decode cX1_findAddresses 78 = .ok (.iload 5, 2) := by decide +kernel
theorem dX1_findAddresses_80 : decode cX1_findAddresses 80 = .ok (.iconst 1, 1) := by decide +kernel
theorem dX1_findAddresses_81 : decode cX1_findAddresses 81 = .ok (.iadd, 1) := by decide +kernel
theorem dX1_findAddresses_82 : decode cX1_findAddresses 82 = .ok (.iaload, 1) := by decide +kernel
theorem dX1_findAddresses_83 : decode cX1_findAddresses 83 = .ok (.ifCond .ne 7, 3) := by decide +kernel
theorem dX1_findAddresses_86 : decode cX1_findAddresses 86 = .ok (.iload_n 1, 1) := by decide +kernel
theorem dX1_findAddresses_87 : decode cX1_findAddresses 87 = .ok (.goto 4, 3) := by decide +kernel
theorem dX1_findAddresses_90 : decode cX1_findAddresses 90 = .ok (.iload_n 2, 1) := by decide +kernel
theorem dX1_findAddresses_91 : decode cX1_findAddresses 91 = .ok (.istore 6, 2) := by decide +kernel
theorem dX1_findAddresses_93 : decode cX1_findAddresses 93 = .ok (.aload_n 0, 1) := by decide +kernel
theorem dX1_findAddresses_94 : decode cX1_findAddresses 94 = .ok (.getfield 19, 3) := by decide +kernel
theorem dX1_findAddresses_97 : decode cX1_findAddresses 97 = .ok (.iload 5, 2) := by decide +kernel
theorem dX1_findAddresses_99 : decode cX1_findAddresses 99 = .ok (.iconst 2, 1) := by decide +kernel
theorem dX1_findAddresses_100 : decode cX1_findAddresses 100 = .ok (.iadd, 1) := by decide +kernel
theorem dX1_findAddresses_101 : decode cX1_findAddresses 101 = .ok (.iload 6, 2) := by decide +kernel
theorem dX1_findAddresses_103 : decode cX1_findAddresses 103 = .ok (.iastore, 1) := by decide +kernel
theorem dX1_findAddresses_104 : decode cX1_findAddresses 104 = .ok (.aload_n 0, 1) := by decide +kernel
theorem dX1_findAddresses_105 : decode cX1_findAddresses 105 = .ok (.getfield 19, 3) := by decide +kernel
theorem dX1_findAddresses_108 : decode cX1_findAddresses 108 = .ok (.iload 5, 2) := by decide +kernel
theorem dX1_findAddresses_110 : decode cX1_findAddresses 110 = .ok (.iconst 4, 1) := by decide +kernel
theorem dX1_findAddresses_111 : decode cX1_findAddresses 111 = .ok (.iadd, 1) := by decide +kernel
theorem dX1_findAddresses_112 : decode cX1_findAddresses 112 = .ok (.iaload, 1) := by decide +kernel
theorem dX1_findAddresses_113 : decode cX1_findAddresses 113 = .ok (.bipush 8, 2) := by decide +kernel
theorem dX1_findAddresses_115 : decode cX1_findAddresses 115 = .ok (.if_icmp .ne 27, 3) := by decide +kernel
theorem dX1_findAddresses_118 : decode cX1_findAddresses 118 = .ok (.aload_n 0, 1) := by decide +kernel
theorem dX1_findAddresses_119 : decode cX1_findAddresses 119 = .ok (.getfield 19, 3) := by decide +kernel
theorem dX1_findAddresses_122 : decode cX1_findAddresses 122 = .ok (.iload 5, 2) := by decide +kernel
theorem dX1_findAddresses_124 : decode cX1_findAddresses 124 = .ok (.iconst 3, 1) := by decide +kernel
theorem dX1_findAddresses_125 : decode cX1_findAddresses 125 = .ok (.iadd, 1) := by decide +kernel
theorem dX1_findAddresses_126 : decode cX1_findAddresses 126 = .ok (.iload 6, 2) := by decide +kernel
theorem dX1_findAddresses_128 : decode cX1_findAddresses 128 = .ok (.ineg, 1) := by decide +kernel
theorem dX1_findAddresses_129 : decode cX1_findAddresses 129 = .ok (.aload_n 0, 1) := by decide +kernel
theorem dX1_findAddresses_130 : decode cX1_findAddresses 130 = .ok (.getfield 19, 3) := by decide +kernel
theorem dX1_findAddresses_133 : decode cX1_findAddresses 133 = .ok (.iload 5, 2) := by decide +kernel
theorem dX1_findAddresses_135 : decode cX1_findAddresses 135 = .ok (.iconst 5, 1) := by decide +kernel
theorem dX1_findAddresses_136 : decode cX1_findAddresses 136 = .ok (.iadd, 1) := by decide +kernel
theorem dX1_findAddresses_137 : decode cX1_findAddresses 137 = .ok (.iaload, 1) := by decide +kernel
theorem dX1_findAddresses_138 : decode cX1_findAddresses 138 = .ok (.iconst 1, 1) := by decide +kernel
theorem dX1_findAddresses_139 : decode cX1_findAddresses 139 = .ok (.isub, 1) := by decide +kernel
theorem dX1_findAddresses_140 : decode cX1_findAddresses 140 = .ok (.iand, 1) := by decide +kernel
theorem dX1_findAddresses_141 : decode cX1_findAddresses 141 = .ok (.iastore, 1) := by decide +kernel
theorem dX1_findAddresses_142 : decode cX1_findAddresses 142 = .ok (.aload_n 0, 1) := by decide +kernel
theorem dX1_findAddresses_143 : decode cX1_findAddresses 143 = .ok (.getfield 19, 3) := by decide +kernel
theorem dX1_findAddresses_146 : decode cX1_findAddresses 146 = .ok (.iload 5, 2) := by decide +kernel
theorem dX1_findAddresses_148 : decode cX1_findAddresses 148 = .ok (.iconst 1, 1) := by decide +kernel
theorem dX1_findAddresses_149 : decode cX1_findAddresses 149 = .ok (.iadd, 1) := by decide +kernel
theorem dX1_findAddresses_150 : decode cX1_findAddresses 150 = .ok (.iaload, 1) := by decide +kernel
theorem dX1_findAddresses_151 : decode cX1_findAddresses 151 = .ok (.ifCond .ne 18, 3) := by decide +kernel
theorem dX1_findAddresses_154 : decode cX1_findAddresses 154 = .ok (.iload_n 1, 1) := by decide +kernel
theorem dX1_findAddresses_155 : decode cX1_findAddresses 155 = .ok (.aload_n 0, 1) := by decide +kernel
theorem dX1_findAddresses_156 : decode cX1_findAddresses 156 = .ok (.getfield 19, 3) := by decide +kernel
theorem dX1_findAddresses_159 : decode cX1_findAddresses 159 = .ok (.iload 5, 2) := by decide +kernel
theorem dX1_findAddresses_161 : decode cX1_findAddresses 161 = .ok (.iconst 3, 1) := by decide +kernel
theorem dX1_findAddresses_162 : decode cX1_findAddresses 162 = .ok (.iadd, 1) := by decide +kernel
theorem dX1_findAddresses_163 : decode cX1_findAddresses 163 = .ok (.iaload, 1) := by decide +kernel
theorem dX1_findAddresses_164 : decode cX1_findAddresses 164 = .ok (.iadd, 1) := by decide +kernel
theorem dX1_findAddresses_165 : decode cX1_findAddresses 165 = .ok (.istore_n 1, 1) := by decide +kernel
theorem dX1_findAddresses_166 : decode cX1_findAddresses 166 = .ok (.goto 15, 3) := by decide +kernel
theorem dX1_findAddresses_169 : decode cX1_findAddresses 169 = .ok (.iload_n 2, 1) := by decide +kernel
theorem dX1_findAddresses_170 : decode cX1_findAddresses 170 = .ok (.aload_n 0, 1) := by decide +kernel
theorem dX1_findAddresses_171 : decode cX1_findAddresses 171 = .ok (.getfield 19, 3) := by decide +kernel
theorem dX1_findAddresses_174 : decode cX1_findAddresses 174 = .ok (.iload 5, 2) := by decide +kernel
theorem dX1_findAddresses_176 : decode cX1_findAddresses 176 = .ok (.iconst 3, 1) := by decide +kernel
theorem dX1_findAddresses_177 : decode cX1_findAddresses 177 = .ok (.iadd, 1) := by decide +kernel
theorem dX1_findAddresses_178 : decode cX1_findAddresses 178 = .ok (.iaload, 1) := by decide +kernel
theorem dX1_findAddresses_179 : decode cX1_findAddresses 179 = .ok (.iadd, 1) := by decide +kernel
theorem dX1_findAddresses_180 : decode cX1_findAddresses 180 = .ok (.istore_n 2, 1) := by decide +kernel
theorem dX1_findAddresses_181 : decode cX1_findAddresses 181 = .ok (.iinc 4 1, 3) := by decide +kernel
theorem dX1_findAddresses_184 : decode cX1_findAddresses 184 = .ok (.goto (-175), 3) := by decide +kernel
theorem dX1_findAddresses_187 : decode cX1_findAddresses 187 = .ok (.aload_n 0, 1) := by decide +kernel
theorem dX1_findAddresses_188 : decode cX1_findAddresses 188 = .ok (.iload_n 1, 1) := by decide +kernel
theorem dX1_findAddresses_189 : decode cX1_findAddresses 189 = .ok (.putfield 284, 3) := by decide +kernel
theorem dX1_findAddresses_192 : decode cX1_findAddresses 192 = .ok (.aload_n 0, 1) := by decide +kernel
theorem dX1_findAddresses_193 : decode cX1_findAddresses 193 = .ok (.iload_n 1, 1) := by decide +kernel
theorem dX1_findAddresses_194 : decode cX1_findAddresses 194 = .ok (.sipush 1024, 3) := by decide +kernel
theorem dX1_findAddresses_197 : decode cX1_findAddresses 197 = .ok (.iadd, 1) := by decide +kernel
theorem dX1_findAddresses_198 : decode cX1_findAddresses 198 = .ok (.iconst 1, 1) := by decide +kernel
theorem dX1_findAddresses_199 : decode cX1_findAddresses 199 = .ok (.isub, 1) := by decide +kernel
theorem dX1_findAddresses_200 : decode cX1_findAddresses 200 = .ok (.sipush 1024, 3) := by decide +kernel
theorem dX1_findAddresses_203 : decode cX1_findAddresses 203 = .ok (.idiv, 1) := by decide +kernel
theorem dX1_findAddresses_204 : decode cX1_findAddresses 204 = .ok (.sipush 1024, 3) := by decide +kernel
theorem dX1_findAddresses_207 : decode cX1_findAddresses 207 = .ok (.imul, 1) := by decide +kernel
theorem dX1_findAddresses_208 : decode cX1_findAddresses 208 = .ok (.putfield 287, 3) := by decide +kernel
theorem dX1_findAddresses_211 : decode cX1_findAddresses 211 = .ok (.aload_n 0, 1) := by decide +kernel
theorem dX1_findAddresses_212 : decode cX1_findAddresses 212 = .ok (.iload_n 2, 1) := by decide +kernel
theorem dX1_findAddresses_213 : decode cX1_findAddresses 213 = .ok (.ifCond .le 12, 3) := by decide +kernel
theorem dX1_findAddresses_216 : decode cX1_findAddresses 216 = .ok (.aload_n 0, 1) := by decide +kernel
theorem dX1_findAddresses_217 : decode cX1_findAddresses 217 = .ok (.getfield 287, 3) := by decide +kernel
theorem dX1_findAddresses_220 : decode cX1_findAddresses 220 = .ok (.iload_n 2, 1) := by decide +kernel
theorem dX1_findAddresses_221 : decode cX1_findAddresses 221 = .ok (.iadd, 1) := by decide +kernel
theorem dX1_findAddresses_222 : decode cX1_findAddresses 222 = .ok (.goto 4, 3) := by decide +kernel
theorem dX1_findAddresses_225 : decode cX1_findAddresses 225 = .ok (.iload_n 1, 1) := by decide +kernel
theorem dX1_findAddresses_226 : decode cX1_findAddresses 226 = .ok (.putfield 50, 3) := by decide +kernel
theorem dX1_findAddresses_229 : decode cX1_findAddresses 229 = .ok (.aload_n 0, 1) := by decide +kernel
theorem dX1_findAddresses_230 : decode cX1_findAddresses 230 = .ok (.invokevirtual 290, 3) := by decide +kernel
theorem dX1_findAddresses_233 : decode cX1_findAddresses 233 = .ok (.return_, 1) := by decide +kernel
theorem dX1_moveData_0 : decode cX1_moveData 0 = .ok (.iconst 0, 1) := by decide +kernel
theorem dX1_moveData_1 : decode cX1_moveData 1 = .ok (.istore_n 1, 1) := by decide +kernel
theorem dX1_moveData_2 : decode cX1_moveData 2 = .ok (.iload_n 1, 1) := by decide +kernel
theorem dX1_moveData_3 : decode cX1_moveData 3 = .ok (.aload_n 0, 1) := by decide +kernel
theorem dX1_moveData_4 : decode cX1_moveData 4 = .ok (.getfield 65, 3) := by decide +kernel
theorem dX1_moveData_7 : decode cX1_moveData 7 = .ok (.if_icmp .ge 42, 3) := by decide +kernel
theorem dX1_moveData_10 : decode cX1_moveData 10 = .ok (.aload_n 0, 1) := by decide +kernel
theorem dX1_moveData_11 : decode cX1_moveData 11 = .ok (.getfield 19, 3) := by decide +kernel
theorem dX1_moveData_14 : decode cX1_moveData 14 = .ok (.iload_n 1, 1) := by decide +kernel
theorem dX1_moveData_15 : decode cX1_moveData 15 = .ok (.bipush 8, 2) := by decide +kernel
theorem dX1_moveData_17 : decode cX1_moveData 17 = .ok (.imul, 1) := by decide +kernel
theorem dX1_moveData_18 : decode cX1_moveData 18 = .ok (.iconst 1, 1) := by decide +kernel
theorem dX1_moveData_19 : decode cX1_moveData 19 = .ok (.iadd, 1) := by decide +kernel
theorem dX1_moveData_20 : decode cX1_moveData 20 = .ok (.iaload, 1) := by decide +kernel
theorem dX1_moveData_21 : decode cX1_moveData 21 = .ok (.iconst 1, 1) := by decide +kernel
theorem dX1_moveData_22 : decode cX1_moveData 22 = .ok (.if_icmp .ne 21, 3) := by decide +kernel
theorem dX1_moveData_25 : decode cX1_moveData 25 = .ok (.aload_n 0, 1) := by decide +kernel
theorem dX1_moveData_26 : decode cX1_moveData 26 = .ok (.getfield 19, 3) := by decide +kernel
theorem dX1_moveData_29 : decode cX1_moveData 29 = .ok (.iload_n 1, 1) := by decide +kernel
theorem dX1_moveData_30 : decode cX1_moveData 30 = .ok (.bipush 8, 2) := by decide +kernel
theorem dX1_moveData_32 : decode cX1_moveData 32 = .ok (.imul, 1) := by decide +kernel
theorem dX1_moveData_33 : decode cX1_moveData 33 = .ok (.iconst 2, 1) := by decide +kernel
theorem dX1_moveData_34 : decode cX1_moveData 34 = .ok (.iadd, 1) := by decide +kernel
theorem dX1_moveData_35 : decode cX1_moveData 35 = .ok (.dup2, 1) := by decide +kernel
theorem dX1_moveData_36 : decode cX1_moveData 36 = .ok (.iaload, 1) := by decide +kernel
theorem dX1_moveData_37 : decode cX1_moveData 37 = .ok (.aload_n 0, 1) := by decide +kernel
theorem dX1_moveData_38 : decode cX1_moveData 38 = .ok (.getfield 287, 3) := by decide +kernel
theorem dX1_moveData_41 : decode cX1_moveData 41 = .ok (.iadd, 1) := by decide +kernel
theorem dX1_moveData_42 : decode cX1_moveData 42 = .ok (.iastore, 1) := by decide +kernel
theorem dX1_moveData_43 : decode cX1_moveData 43 = .ok (.iinc 1 1, 3) := by decide +kernel
theorem dX1_moveData_46 : decode cX1_moveData 46 = .ok (.goto (-44), 3) := by decide +kernel
theorem dX1_moveData_49 : decode cX1_moveData 49 = .ok (.iconst 0, 1) := by decide +kernel
theorem dX1_moveData_50 : decode cX1_moveData 50 = .ok (.istore_n 1, 1) := by decide +kernel
theorem dX1_moveData_51 : decode cX1_moveData 51 = .ok (.iload_n 1, 1) := by decide +kernel
theorem dX1_moveData_52 : decode cX1_moveData 52 = .ok (.aload_n 0, 1) := by decide +kernel
theorem dX1_moveData_53 : decode cX1_moveData 53 = .ok (.getfield 12, 3) := by decide +kernel
theorem dX1_moveData_56 : decode cX1_moveData 56 = .ok (.getfield 274, 3) := by decide +kernel
theorem dX1_moveData_59 : decode cX1_moveData 59 = .ok (.if_icmp .ge 46, 3) := by decide +kernel
theorem dX1_moveData_62 : decode cX1_moveData 62 = .ok (.aload_n 0, 1) := by decide +kernel
theorem dX1_moveData_63 : decode cX1_moveData 63 = .ok (.getfield 12, 3) := by decide +kernel
theorem dX1_moveData_66 : decode cX1_moveData 66 = .ok (.getfield 293, 3) := by decide +kernel
theorem dX1_moveData_69 : decode cX1_moveData 69 = .ok (.iload_n 1, 1) := by decide +kernel
theorem dX1_moveData_70 : decode cX1_moveData 70 = .ok (.iconst 5, 1) := by decide +kernel
theorem dX1_moveData_71 : decode cX1_moveData 71 = .ok (.imul, 1) := by decide +kernel
theorem dX1_moveData_72 : decode cX1_moveData 72 = .ok (.iconst 1, 1) := by decide +kernel
theorem dX1_moveData_73 : decode cX1_moveData 73 = .ok (.iadd, 1) := by decide +kernel
theorem dX1_moveData_74 : decode cX1_moveData 74 = .ok (.iaload, 1) := by decide +kernel
theorem dX1_moveData_75 : decode cX1_moveData 75 = .ok (.iconst 1, 1) := by decide +kernel
theorem dX1_moveData_76 : decode cX1_moveData 76 = .ok (.if_icmp .ne 23, 3) := by decide +kernel
theorem dX1_moveData_79 : decode cX1_moveData 79 = .ok (.aload_n 0, 1) := by decide +kernel
theorem dX1_moveData_80 : decode cX1_moveData 80 = .ok (.getfield 12, 3) := by decide +kernel
theorem dX1_moveData_83 : decode cX1_moveData 83 = .ok (.getfield 293, 3) := by decide +kernel
theorem dX1_moveData_86 : decode cX1_moveData 86 = .ok (.iload_n 1, 1) := by decide +kernel
theorem dX1_moveData_87 : decode cX1_moveData 87 = .ok (.iconst 5, 1) := by decide +kernel
theorem dX1_moveData_88 : decode cX1_moveData 88 = .ok (.imul, 1) := by decide +kernel
theorem dX1_moveData_89 : decode cX1_moveData 89 = .ok (.iconst 2, 1) := by decide +kernel
theorem dX1_moveData_90 : decode cX1_moveData 90 = .ok (.iadd, 1) := by decide +kernel
theorem dX1_moveData_91 : decode cX1_moveData 91 = .ok (.dup2, 1) := by decide +kernel
theorem dX1_moveData_92 : decode cX1_moveData 92 = .ok (.iaload, 1) := by decide +kernel
theorem dX1_moveData_93 : decode cX1_moveData 93 = .ok (.aload_n 0, 1) := by decide +kernel
theorem dX1_moveData_94 : decode cX1_moveData 94 = .ok (.getfield 287, 3) := by decide +kernel
theorem dX1_moveData_97 : decode cX1_moveData 97 = .ok (.iadd, 1) := by decide +kernel
theorem dX1_moveData_98 : decode cX1_moveData 98 = .ok (.iastore, 1) := by decide +kernel
theorem dX1_moveData_99 : decode cX1_moveData 99 = .ok (.iinc 1 1, 3) := by decide +kernel
theorem dX1_moveData_102 : decode cX1_moveData 102 = .ok (.goto (-51), 3) := by decide +kernel
theorem dX1_moveData_105 : decode cX1_moveData 105 = .ok (.return_, 1) := by decide +kernel
theorem dX1_grow_0 : decode cX1_grow 0 = .ok (.iconst 0, 1) := by decide +kernel
theorem dX1_grow_1 : decode cX1_grow 1 = .ok (.istore_n 1, 1) := by decide +kernel
theorem dX1_grow_2 : decode cX1_grow 2 = .ok (.iconst 0, 1) := by decide +kernel
theorem dX1_grow_3 : decode cX1_grow 3 = .ok (.istore_n 2, 1) := by decide +kernel
theorem dX1_grow_4 : decode cX1_grow 4 = .ok (.iload_n 2, 1) := by decide +kernel
theorem dX1_grow_5 : decode cX1_grow 5 = .ok (.aload_n 0, 1) := by decide +kernel
theorem dX1_grow_6 : decode cX1_grow 6 = .ok (.getfield 65, 3) := by decide +kernel
theorem dX1_grow_9 : decode cX1_grow 9 = .ok (.if_icmp .ge 133, 3) := by decide +kernel
theorem dX1_grow_12 : decode cX1_grow 12 = .ok (.iload_n 2, 1) := by decide +kernel
theorem dX1_grow_13 : decode cX1_grow 13 = .ok (.bipush 8, 2) := by decide +kernel
theorem dX1_grow_15 : decode cX1_grow 15 = .ok (.imul, 1) := by decide +kernel
theorem dX1_grow_16 : decode cX1_grow 16 = .ok (.istore_n 3, 1) := by decide +kernel
theorem dX1_grow_17 : decode cX1_grow 17 = .ok (.aload_n 0, 1) := by decide +kernel
theorem dX1_grow_18 : decode cX1_grow 18 = .ok (.getfield 19, 3) := by decide +kernel
theorem dX1_grow_21 : decode cX1_grow 21 = .ok (.iload_n 3, 1) := by decide +kernel
theorem dX1_grow_22 : decode cX1_grow 22 = .ok (.iconst 4, 1) := by decide +kernel
theorem dX1_grow_23 : decode cX1_grow 23 = .ok (.iadd, 1) := by decide +kernel
theorem dX1_grow_24 : decode cX1_grow 24 = .ok (.iaload, 1) := by decide +kernel
theorem dX1_grow_25 : decode cX1_grow 25 = .ok (.istore 4, 2) := by decide +kernel
theorem dX1_grow_27 : decode cX1_grow 27 = .ok (.aload_n 0, 1) := by decide +kernel
theorem dX1_grow_28 : decode cX1_grow 28 = .ok (.getfield 19, 3) := by decide +kernel
theorem dX1_grow_31 : decode cX1_grow 31 = .ok (.iload_n 3, 1) := by decide +kernel
theorem dX1_grow_32 : decode cX1_grow 32 = .ok (.iconst 3, 1) := by decide +kernel
theorem dX1_grow_33 : decode cX1_grow 33 = .ok (.iadd, 1) := by decide +kernel
theorem dX1_grow_34 : decode cX1_grow 34 = .ok (.iaload, 1) := by decide +kernel
theorem dX1_grow_35 : decode cX1_grow 35 = .ok (.istore 5, 2) := by decide +kernel
theorem dX1_grow_37 : decode cX1_grow 37 = .ok (.iload 4, 2) := by decide +kernel
theorem dX1_grow_39 : decode cX1_grow 39 = .ok (.iconst 1, 1) := by decide +kernel
theorem dX1_grow_40 : decode cX1_grow 40 = .ok (.if_icmp .ne 9, 3) := by decide +kernel
theorem dX1_grow_43 : decode cX1_grow 43 = .ok (.iload 5, 2) := by decide +kernel
theorem dX1_grow_45 : decode cX1_grow 45 = .ok (.iconst 4, 1) := by decide +kernel
theorem dX1_grow_46 : decode cX1_grow 46 = .ok (.if_icmp .lt 16, 3) := by decide +kernel
theorem dX1_grow_49 : decode cX1_grow 49 = .ok (.iload 4, 2) := by decide +kernel
theorem dX1_grow_51 : decode cX1_grow 51 = .ok (.iconst 2, 1) := by decide +kernel
theorem dX1_grow_52 : decode cX1_grow 52 = .ok (.if_icmp .ne 84, 3) := by decide +kernel
theorem dX1_grow_55 : decode cX1_grow 55 = .ok (.iload 5, 2) := by decide +kernel
theorem dX1_grow_57 : decode cX1_grow 57 = .ok (.bipush 8, 2) := by decide +kernel
theorem dX1_grow_59 : decode cX1_grow 59 = .ok (.if_icmp .ge 77, 3) := by decide +kernel
theorem dX1_grow_62 : decode cX1_grow 62 = .ok (.aload_n 0, 1) := by decide +kernel
theorem dX1_grow_63 : decode cX1_grow 63 = .ok (.getfield 12, 3) := by decide +kernel
theorem dX1_grow_66 : decode cX1_grow 66 = .ok (.aload_n 0, 1) := by decide +kernel
theorem dX1_grow_67 : decode cX1_grow 67 = .ok (.getfield 19, 3) := by decide +kernel
theorem dX1_grow_70 : decode cX1_grow 70 = .ok (.iload_n 3, 1) := by decide +kernel
theorem dX1_grow_71 : decode cX1_grow 71 = .ok (.bipush 6, 2) := by decide +kernel
theorem dX1_grow_73 : decode cX1_grow 73 = .ok (.iadd, 1) := by decide +kernel
theorem dX1_grow_74 : decode cX1_grow 74 = .ok (.iaload, 1) := by decide +kernel
theorem dX1_grow_75 : decode cX1_grow 75 = .ok (.aload_n 0, 1) := by decide +kernel
theorem dX1_grow_76 : decode cX1_grow 76 = .ok (.getfield 19, 3) := by decide +kernel
theorem dX1_grow_79 : decode cX1_grow 79 = .ok (.iload_n 3, 1) := by decide +kernel
theorem dX1_grow_80 : decode cX1_grow 80 = .ok (.iconst 2, 1) := by decide +kernel
theorem dX1_grow_81 : decode cX1_grow 81 = .ok (.iadd, 1) := by decide +kernel
theorem dX1_grow_82 : decode cX1_grow 82 = .ok (.iaload, 1) := by decide +kernel
theorem dX1_grow_83 : decode cX1_grow 83 = .ok (.invokevirtual 220, 3) := by decide +kernel
theorem dX1_grow_86 : decode cX1_grow 86 = .ok (.aload_n 0, 1) := by decide +kernel
theorem dX1_grow_87 : decode cX1_grow 87 = .ok (.getfield 19, 3) := by decide +kernel
theorem dX1_grow_90 : decode cX1_grow 90 = .ok (.iload_n 3, 1) := by decide +kernel
theorem dX1_grow_91 : decode cX1_grow 91 = .ok (.iconst 2, 1) := by decide +kernel
theorem dX1_grow_92 : decode cX1_grow 92 = .ok (.iadd, 1) := by decide +kernel
theorem dX1_grow_93 : decode cX1_grow 93 = .ok (.iaload, 1) := by decide +kernel
theorem dX1_grow_94 : decode cX1_grow 94 = .ok (.isub, 1) := by decide +kernel
