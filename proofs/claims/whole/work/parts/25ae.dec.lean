theorem dX1_putNumber_97 : decode cX1_putNumber 97 = .ok (.iload 6, 2) := by decide +kernel
theorem dX1_putNumber_99 : decode cX1_putNumber 99 = .ok (.invokestatic 261, 3) := by decide +kernel
theorem dX1_putNumber_102 : decode cX1_putNumber 102 = .ok (.ior, 1) := by decide +kernel
theorem dX1_putNumber_103 : decode cX1_putNumber 103 = .ok (.invokevirtual 340, 3) := by decide +kernel
theorem dX1_putNumber_106 : decode cX1_putNumber 106 = .ok (.goto 70, 3) := by decide +kernel
theorem dX1_putNumber_109 : decode cX1_putNumber 109 = .ok (.aload_n 0, 1) := by decide +kernel
theorem dX1_putNumber_110 : decode cX1_putNumber 110 = .ok (.aload_n 1, 1) := by decide +kernel
theorem dX1_putNumber_111 : decode cX1_putNumber 111 = .ok (.iload_n 3, 1) := by decide +kernel
theorem dX1_putNumber_112 : decode cX1_putNumber 112 = .ok (.iconst 4, 1) := by decide +kernel
theorem dX1_putNumber_113 : decode cX1_putNumber 113 = .ok (.bipush 55, 2) := by decide +kernel
theorem dX1_putNumber_115 : decode cX1_putNumber 115 = .ok (.iload 5, 2) := by decide +kernel
theorem dX1_putNumber_117 : decode cX1_putNumber 117 = .ok (.bipush 7, 2) := by decide +kernel
theorem dX1_putNumber_119 : decode cX1_putNumber 119 = .ok (.ishl, 1) := by decide +kernel
theorem dX1_putNumber_120 : decode cX1_putNumber 120 = .ok (.ior, 1) := by decide +kernel
theorem dX1_putNumber_121 : decode cX1_putNumber 121 = .ok (.bipush 85, 2) := by decide +kernel
theorem dX1_putNumber_123 : decode cX1_putNumber 123 = .ok (.iload 6, 2) := by decide +kernel
theorem dX1_putNumber_125 : decode cX1_putNumber 125 = .ok (.invokestatic 346, 3) := by decide +kernel
theorem dX1_putNumber_128 : decode cX1_putNumber 128 = .ok (.invokestatic 261, 3) := by decide +kernel
theorem dX1_putNumber_131 : decode cX1_putNumber 131 = .ok (.ior, 1) := by decide +kernel
theorem dX1_putNumber_132 : decode cX1_putNumber 132 = .ok (.invokevirtual 340, 3) := by decide +kernel
theorem dX1_putNumber_135 : decode cX1_putNumber 135 = .ok (.iload 4, 2) := by decide +kernel
theorem dX1_putNumber_137 : decode cX1_putNumber 137 = .ok (.bipush 8, 2) := by decide +kernel
theorem dX1_putNumber_139 : decode cX1_putNumber 139 = .ok (.if_icmp .ne 37, 3) := by decide +kernel
theorem dX1_putNumber_142 : decode cX1_putNumber 142 = .ok (.aload_n 0, 1) := by decide +kernel
theorem dX1_putNumber_143 : decode cX1_putNumber 143 = .ok (.aload_n 1, 1) := by decide +kernel
theorem dX1_putNumber_144 : decode cX1_putNumber 144 = .ok (.iload_n 3, 1) := by decide +kernel
theorem dX1_putNumber_145 : decode cX1_putNumber 145 = .ok (.iconst 4, 1) := by decide +kernel
theorem dX1_putNumber_146 : decode cX1_putNumber 146 = .ok (.iadd, 1) := by decide +kernel
theorem dX1_putNumber_147 : decode cX1_putNumber 147 = .ok (.iconst 4, 1) := by decide +kernel
theorem dX1_putNumber_148 : decode cX1_putNumber 148 = .ok (.bipush 19, 2) := by decide +kernel
theorem dX1_putNumber_150 : decode cX1_putNumber 150 = .ok (.iload 5, 2) := by decide +kernel
theorem dX1_putNumber_152 : decode cX1_putNumber 152 = .ok (.bipush 7, 2) := by decide +kernel
theorem dX1_putNumber_154 : decode cX1_putNumber 154 = .ok (.ishl, 1) := by decide +kernel
theorem dX1_putNumber_155 : decode cX1_putNumber 155 = .ok (.ior, 1) := by decide +kernel
theorem dX1_putNumber_156 : decode cX1_putNumber 156 = .ok (.iload 5, 2) := by decide +kernel
theorem dX1_putNumber_158 : decode cX1_putNumber 158 = .ok (.bipush 15, 2) := by decide +kernel
theorem dX1_putNumber_160 : decode cX1_putNumber 160 = .ok (.ishl, 1) := by decide +kernel
theorem dX1_putNumber_161 : decode cX1_putNumber 161 = .ok (.ior, 1) := by decide +kernel
theorem dX1_putNumber_162 : decode cX1_putNumber 162 = .ok (.bipush 73, 2) := by decide +kernel
theorem dX1_putNumber_164 : decode cX1_putNumber 164 = .ok (.iload 6, 2) := by decide +kernel
theorem dX1_putNumber_166 : decode cX1_putNumber 166 = .ok (.invokestatic 265, 3) := by decide +kernel
theorem dX1_putNumber_169 : decode cX1_putNumber 169 = .ok (.invokestatic 261, 3) := by decide +kernel
theorem dX1_putNumber_172 : decode cX1_putNumber 172 = .ok (.ior, 1) := by decide +kernel
theorem dX1_putNumber_173 : decode cX1_putNumber 173 = .ok (.invokevirtual 340, 3) := by decide +kernel
theorem dX1_putNumber_176 : decode cX1_putNumber 176 = .ok (.return_, 1) := by decide +kernel
theorem dX1_putList_0 : decode cX1_putList 0 = .ok (.aload_n 0, 1) := by decide +kernel
theorem dX1_putList_1 : decode cX1_putList 1 = .ok (.getfield 19, 3) := by decide +kernel
theorem dX1_putList_4 : decode cX1_putList 4 = .ok (.iload_n 2, 1) := by decide +kernel
theorem dX1_putList_5 : decode cX1_putList 5 = .ok (.iconst 5, 1) := by decide +kernel
theorem dX1_putList_6 : decode cX1_putList 6 = .ok (.iadd, 1) := by decide +kernel
theorem dX1_putList_7 : decode cX1_putList 7 = .ok (.iaload, 1) := by decide +kernel
theorem dX1_putList_8 : decode cX1_putList 8 = .ok (.istore_n 3, 1) := by decide +kernel
theorem dX1_putList_9 : decode cX1_putList 9 = .ok (.aload_n 0, 1) := by decide +kernel
theorem dX1_putList_10 : decode cX1_putList 10 = .ok (.getfield 19, 3) := by decide +kernel
theorem dX1_putList_13 : decode cX1_putList 13 = .ok (.iload_n 2, 1) := by decide +kernel
theorem dX1_putList_14 : decode cX1_putList 14 = .ok (.bipush 6, 2) := by decide +kernel
theorem dX1_putList_16 : decode cX1_putList 16 = .ok (.iadd, 1) := by decide +kernel
theorem dX1_putList_17 : decode cX1_putList 17 = .ok (.iaload, 1) := by decide +kernel
theorem dX1_putList_18 : decode cX1_putList 18 = .ok (.istore 4, 2) := by decide +kernel
theorem dX1_putList_20 : decode cX1_putList 20 = .ok (.aload_n 0, 1) := by decide +kernel
theorem dX1_putList_21 : decode cX1_putList 21 = .ok (.getfield 19, 3) := by decide +kernel
theorem dX1_putList_24 : decode cX1_putList 24 = .ok (.iload_n 2, 1) := by decide +kernel
theorem dX1_putList_25 : decode cX1_putList 25 = .ok (.iconst 2, 1) := by decide +kernel
theorem dX1_putList_26 : decode cX1_putList 26 = .ok (.iadd, 1) := by decide +kernel
theorem dX1_putList_27 : decode cX1_putList 27 = .ok (.iaload, 1) := by decide +kernel
theorem dX1_putList_28 : decode cX1_putList 28 = .ok (.istore 5, 2) := by decide +kernel
theorem dX1_putList_30 : decode cX1_putList 30 = .ok (.iconst 0, 1) := by decide +kernel
theorem dX1_putList_31 : decode cX1_putList 31 = .ok (.istore 6, 2) := by decide +kernel
theorem dX1_putList_33 : decode cX1_putList 33 = .ok (.iload 6, 2) := by decide +kernel
theorem dX1_putList_35 : decode cX1_putList 35 = .ok (.aload_n 0, 1) := by decide +kernel
theorem dX1_putList_36 : decode cX1_putList 36 = .ok (.getfield 19, 3) := by decide +kernel
theorem dX1_putList_39 : decode cX1_putList 39 = .ok (.iload_n 2, 1) := by decide +kernel
theorem dX1_putList_40 : decode cX1_putList 40 = .ok (.iconst 3, 1) := by decide +kernel
theorem dX1_putList_41 : decode cX1_putList 41 = .ok (.iadd, 1) := by decide +kernel
theorem dX1_putList_42 : decode cX1_putList 42 = .ok (.iaload, 1) := by decide +kernel
theorem dX1_putList_43 : decode cX1_putList 43 = .ok (.if_icmp .ge 53, 3) := by decide +kernel
theorem dX1_putList_46 : decode cX1_putList 46 = .ok (.aload_n 0, 1) := by decide +kernel
theorem dX1_putList_47 : decode cX1_putList 47 = .ok (.getfield 32, 3) := by decide +kernel
theorem dX1_putList_50 : decode cX1_putList 50 = .ok (.ifCond .ne 46, 3) := by decide +kernel
theorem dX1_putList_53 : decode cX1_putList 53 = .ok (.aload_n 0, 1) := by decide +kernel
theorem dX1_putList_54 : decode cX1_putList 54 = .ok (.aload_n 1, 1) := by decide +kernel
theorem dX1_putList_55 : decode cX1_putList 55 = .ok (.iload 5, 2) := by decide +kernel
theorem dX1_putList_57 : decode cX1_putList 57 = .ok (.iload 6, 2) := by decide +kernel
theorem dX1_putList_59 : decode cX1_putList 59 = .ok (.iadd, 1) := by decide +kernel
theorem dX1_putList_60 : decode cX1_putList 60 = .ok (.iload_n 3, 1) := by decide +kernel
theorem dX1_putList_61 : decode cX1_putList 61 = .ok (.aload_n 0, 1) := by decide +kernel
theorem dX1_putList_62 : decode cX1_putList 62 = .ok (.iload 4, 2) := by decide +kernel
theorem dX1_putList_64 : decode cX1_putList 64 = .ok (.iload 5, 2) := by decide +kernel
theorem dX1_putList_66 : decode cX1_putList 66 = .ok (.invokevirtual 330, 3) := by decide +kernel
theorem dX1_putList_69 : decode cX1_putList 69 = .ok (.invokevirtual 340, 3) := by decide +kernel
theorem dX1_putList_72 : decode cX1_putList 72 = .ok (.aload_n 0, 1) := by decide +kernel
theorem dX1_putList_73 : decode cX1_putList 73 = .ok (.getfield 12, 3) := by decide +kernel
theorem dX1_putList_76 : decode cX1_putList 76 = .ok (.iload 4, 2) := by decide +kernel
theorem dX1_putList_78 : decode cX1_putList 78 = .ok (.invokevirtual 349, 3) := by decide +kernel
theorem dX1_putList_81 : decode cX1_putList 81 = .ok (.istore 4, 2) := by decide +kernel
theorem dX1_putList_83 : decode cX1_putList 83 = .ok (.iload 6, 2) := by decide +kernel
theorem dX1_putList_85 : decode cX1_putList 85 = .ok (.iconst 1, 1) := by decide +kernel
theorem dX1_putList_86 : decode cX1_putList 86 = .ok (.iload_n 3, 1) := by decide +kernel
theorem dX1_putList_87 : decode cX1_putList 87 = .ok (.invokestatic 352, 3) := by decide +kernel
theorem dX1_putList_90 : decode cX1_putList 90 = .ok (.iadd, 1) := by decide +kernel
theorem dX1_putList_91 : decode cX1_putList 91 = .ok (.istore 6, 2) := by decide +kernel
theorem dX1_putList_93 : decode cX1_putList 93 = .ok (.goto (-60), 3) := by decide +kernel
theorem dX1_putList_96 : decode cX1_putList 96 = .ok (.return_, 1) := by decide +kernel
theorem dX1_putTexts_0 : decode cX1_putTexts 0 = .ok (.iconst 0, 1) := by decide +kernel
theorem dX1_putTexts_1 : decode cX1_putTexts 1 = .ok (.istore_n 3, 1) := by decide +kernel
theorem dX1_putTexts_2 : decode cX1_putTexts 2 = .ok (.iload_n 3, 1) := by decide +kernel
theorem dX1_putTexts_3 : decode cX1_putTexts 3 = .ok (.aload_n 0, 1) := by decide +kernel
theorem dX1_putTexts_4 : decode cX1_putTexts 4 = .ok (.getfield 19, 3) := by decide +kernel
theorem dX1_putTexts_7 : decode cX1_putTexts 7 = .ok (.iload_n 2, 1) := by decide +kernel
theorem dX1_putTexts_8 : decode cX1_putTexts 8 = .ok (.iconst 3, 1) := by decide +kernel
theorem dX1_putTexts_9 : decode cX1_putTexts 9 = .ok (.iadd, 1) := by decide +kernel
theorem dX1_putTexts_10 : decode cX1_putTexts 10 = .ok (.iaload, 1) := by decide +kernel
theorem dX1_putTexts_11 : decode cX1_putTexts 11 = .ok (.if_icmp .ge 60, 3) := by decide +kernel
theorem dX1_putTexts_14 : decode cX1_putTexts 14 = .ok (.aload_n 0, 1) := by decide +kernel
theorem dX1_putTexts_15 : decode cX1_putTexts 15 = .ok (.getfield 19, 3) := by decide +kernel
theorem dX1_putTexts_18 : decode cX1_putTexts 18 = .ok (.iload_n 2, 1) := by decide +kernel
theorem dX1_putTexts_19 : decode cX1_putTexts 19 = .ok (.bipush 6, 2) := by decide +kernel
theorem dX1_putTexts_21 : decode cX1_putTexts 21 = .ok (.iadd, 1) := by decide +kernel
theorem dX1_putTexts_22 : decode cX1_putTexts 22 = .ok (.iaload, 1) := by decide +kernel
theorem dX1_putTexts_23 : decode cX1_putTexts 23 = .ok (.iload_n 3, 1) := by decide +kernel
theorem dX1_putTexts_24 : decode cX1_putTexts 24 = .ok (.iadd, 1) := by decide +kernel
theorem dX1_putTexts_25 : decode cX1_putTexts 25 = .ok (.istore 4, 2) := by decide +kernel
theorem dX1_putTexts_27 : decode cX1_putTexts 27 = .ok (.iload 4, 2) := by decide +kernel
theorem dX1_putTexts_29 : decode cX1_putTexts 29 = .ok (.ifCond .lt 36, 3) := by decide +kernel
theorem dX1_putTexts_32 : decode cX1_putTexts 32 = .ok (.iload 4, 2) := by decide +kernel
theorem dX1_putTexts_34 : decode cX1_putTexts 34 = .ok (.aload_n 0, 1) := by decide +kernel
theorem dX1_putTexts_35 : decode cX1_putTexts 35 = .ok (.getfield 24, 3) := by decide +kernel
theorem dX1_putTexts_38 : decode cX1_putTexts 38 = .ok (.arraylength, 1) := by decide +kernel
theorem dX1_putTexts_39 : decode cX1_putTexts 39 = .ok (.if_icmp .ge 26, 3) := by decide +kernel
theorem dX1_putTexts_42 : decode cX1_putTexts 42 = .ok (.aload_n 0, 1) := by decide +kernel
theorem dX1_putTexts_43 : decode cX1_putTexts 43 = .ok (.aload_n 1, 1) := by decide +kernel
theorem dX1_putTexts_44 : decode cX1_putTexts 44 = .ok (.aload_n 0, 1) := by decide +kernel
theorem dX1_putTexts_45 : decode cX1_putTexts 45 = .ok (.getfield 19, 3) := by decide +kernel
theorem dX1_putTexts_48 : decode cX1_putTexts 48 = .ok (.iload_n 2, 1) := by decide +kernel
theorem dX1_putTexts_49 : decode cX1_putTexts 49 = .ok (.iconst 2, 1) := by decide +kernel
theorem dX1_putTexts_50 : decode cX1_putTexts 50 = .ok (.iadd, 1) := by decide +kernel
theorem dX1_putTexts_51 : decode cX1_putTexts 51 = .ok (.iaload, 1) := by decide +kernel
theorem dX1_putTexts_52 : decode cX1_putTexts 52 = .ok (.iload_n 3, 1) := by decide +kernel
theorem dX1_putTexts_53 : decode cX1_putTexts 53 = .ok (.iadd, 1) := by decide +kernel
theorem dX1_putTexts_54 : decode cX1_putTexts 54 = .ok (.iconst 1, 1) := by decide +kernel
theorem dX1_putTexts_55 : decode cX1_putTexts 55 = .ok (.aload_n 0, 1) := by decide +kernel
theorem dX1_putTexts_56 : decode cX1_putTexts 56 = .ok (.getfield 24, 3) := by decide +kernel
theorem dX1_putTexts_59 : decode cX1_putTexts 59 = .ok (.iload 4, 2) := by decide +kernel
theorem dX1_putTexts_61 : decode cX1_putTexts 61 = .ok (.baload, 1) := by decide +kernel
theorem dX1_putTexts_62 : decode cX1_putTexts 62 = .ok (.invokevirtual 340, 3) := by decide +kernel
theorem dX1_putTexts_65 : decode cX1_putTexts 65 = .ok (.iinc 3 1, 3) := by decide +kernel
theorem dX1_putTexts_68 : decode cX1_putTexts 68 = .ok (.goto (-66), 3) := by decide +kernel
theorem dX1_putTexts_71 : decode cX1_putTexts 71 = .ok (.return_, 1) := by decide +kernel
theorem dX1_describe_0 : decode cX1_describe 0 = .ok (.aload_n 1, 1) := by decide +kernel
theorem dX1_describe_1 : decode cX1_describe 1 = .ok (.aload_n 0, 1) := by decide +kernel
theorem dX1_describe_2 : decode cX1_describe 2 = .ok (.getfield 284, 3) := by decide +kernel
theorem dX1_describe_5 : decode cX1_describe 5 = .ok (.aload_n 0, 1) := by decide +kernel
theorem dX1_describe_6 : decode cX1_describe 6 = .ok (.getfield 287, 3) := by decide +kernel
theorem dX1_describe_9 : decode cX1_describe 9 = .ok (.aload_n 0, 1) := by decide +kernel
theorem dX1_describe_10 : decode cX1_describe 10 = .ok (.getfield 50, 3) := by decide +kernel
theorem dX1_describe_13 : decode cX1_describe 13 = .ok (.invokevirtual 357, 3) := by decide +kernel
theorem dX1_describe_16 : decode cX1_describe 16 = .ok (.aload_n 1, 1) := by decide +kernel
theorem dX1_describe_17 : decode cX1_describe 17 = .ok (.aload_n 0, 1) := by decide +kernel
theorem dX1_describe_18 : decode cX1_describe 18 = .ok (.getfield 74, 3) := by decide +kernel
theorem dX1_describe_21 : decode cX1_describe 21 = .ok (.putfield 360, 3) := by decide +kernel
theorem dX1_describe_24 : decode cX1_describe 24 = .ok (.iconst 0, 1) := by decide +kernel
theorem dX1_describe_25 : decode cX1_describe 25 = .ok (.istore_n 2, 1) := by decide +kernel
theorem dX1_describe_26 : decode cX1_describe 26 = .ok (.iload_n 2, 1) := by decide +kernel
theorem dX1_describe_27 : decode cX1_describe 27 = .ok (.aload_n 0, 1) := by decide +kernel
theorem dX1_describe_28 : decode cX1_describe 28 = .ok (.getfield 65, 3) := by decide +kernel
theorem dX1_describe_31 : decode cX1_describe 31 = .ok (.bipush 8, 2) := by decide +kernel
theorem dX1_describe_33 : decode cX1_describe 33 = .ok (.imul, 1) := by decide +kernel
theorem dX1_describe_34 : decode cX1_describe 34 = .ok (.if_icmp .ge 40, 3) := by decide +kernel
theorem dX1_describe_37 : decode cX1_describe 37 = .ok (.aload_n 0, 1) := by decide +kernel
theorem dX1_describe_38 : decode cX1_describe 38 = .ok (.getfield 19, 3) := by decide +kernel
theorem dX1_describe_41 : decode cX1_describe 41 = .ok (.iload_n 2, 1) := by decide +kernel
theorem dX1_describe_42 : decode cX1_describe 42 = .ok (.iconst 3, 1) := by decide +kernel
theorem dX1_describe_43 : decode cX1_describe 43 = .ok (.iadd, 1) := by decide +kernel
theorem dX1_describe_44 : decode cX1_describe 44 = .ok (.iaload, 1) := by decide +kernel
theorem dX1_describe_45 : decode cX1_describe 45 = .ok (.ifCond .le 23, 3) := by decide +kernel
theorem dX1_describe_48 : decode cX1_describe 48 = .ok (.aload_n 1, 1) := by decide +kernel
theorem dX1_describe_49 : decode cX1_describe 49 = .ok (.aload_n 0, 1) := by decide +kernel
theorem dX1_describe_50 : decode cX1_describe 50 = .ok (.getfield 19, 3) := by decide +kernel
theorem dX1_describe_53 : decode cX1_describe 53 = .ok (.iload_n 2, 1) := by decide +kernel
theorem dX1_describe_54 : decode cX1_describe 54 = .ok (.iconst 2, 1) := by decide +kernel
theorem dX1_describe_55 : decode cX1_describe 55 = .ok (.iadd, 1) := by decide +kernel
theorem dX1_describe_56 : decode cX1_describe 56 = .ok (.iaload, 1) := by decide +kernel
theorem dX1_describe_57 : decode cX1_describe 57 = .ok (.aload_n 0, 1) := by decide +kernel
theorem dX1_describe_58 : decode cX1_describe 58 = .ok (.getfield 19, 3) := by decide +kernel
theorem dX1_describe_61 : decode cX1_describe 61 = .ok (.iload_n 2, 1) := by decide +kernel
theorem dX1_describe_62 : decode cX1_describe 62 = .ok (.iconst 0, 1) := by decide +kernel
theorem dX1_describe_63 : decode cX1_describe 63 = .ok (.iadd, 1) := by decide +kernel
theorem dX1_describe_64 : decode cX1_describe 64 = .ok (.iaload, 1) := by decide +kernel
theorem dX1_describe_65 : decode cX1_describe 65 = .ok (.invokevirtual 361, 3) := by decide +kernel
theorem dX1_describe_68 : decode cX1_describe 68 = .ok (.iinc 2 8, 3) := by decide +kernel
theorem dX1_describe_71 : decode cX1_describe 71 = .ok (.goto (-45), 3) := by decide +kernel
theorem dX1_describe_74 : decode cX1_describe 74 = .ok (.iconst 0, 1) := by decide +kernel
theorem dX1_describe_75 : decode cX1_describe 75 = .ok (.istore_n 2, 1) := by decide +kernel
theorem dX1_describe_76 : decode cX1_describe 76 = .ok (.iload_n 2, 1) := by decide +kernel
theorem dX1_describe_77 : decode cX1_describe 77 = .ok (.aload_n 0, 1) := by decide +kernel
theorem dX1_describe_78 : decode cX1_describe 78 = .ok (.getfield 12, 3) := by decide +kernel
theorem dX1_describe_81 : decode cX1_describe 81 = .ok (.getfield 274, 3) := by decide +kernel
theorem dX1_describe_84 : decode cX1_describe 84 = .ok (.iconst 5, 1) := by decide +kernel
theorem dX1_describe_85 : decode cX1_describe 85 = .ok (.imul, 1) := by decide +kernel
theorem dX1_describe_86 : decode cX1_describe 86 = .ok (.if_icmp .ge 39, 3) := by decide +kernel
theorem dX1_describe_89 : decode cX1_describe 89 = .ok (.aload_n 0, 1) := by decide +kernel
theorem dX1_describe_90 : decode cX1_describe 90 = .ok (.getfield 12, 3) := by decide +kernel
theorem dX1_describe_93 : decode cX1_describe 93 = .ok (.getfield 293, 3) := by decide +kernel
theorem dX1_describe_96 : decode cX1_describe 96 = .ok (.iload_n 2, 1) := by decide +kernel
theorem dX1_describe_97 : decode cX1_describe 97 = .ok (.iconst 4, 1) := by decide +kernel
theorem dX1_describe_98 : decode cX1_describe 98 = .ok (.iadd, 1) := by decide +kernel
theorem dX1_describe_99 : decode cX1_describe 99 = .ok (.iaload, 1) := by decide +kernel
theorem dX1_describe_100 : decode cX1_describe 100 = .ok (.iconst 1, 1) := by decide +kernel
theorem dX1_describe_101 : decode cX1_describe 101 = .ok (.if_icmp .ne 18, 3) := by decide +kernel
theorem dX1_describe_104 : decode cX1_describe 104 = .ok (.aload_n 1, 1) := by decide +kernel
theorem dX1_describe_105 : decode cX1_describe 105 = .ok (.aload_n 0, 1) := by decide +kernel
theorem dX1_describe_106 : decode cX1_describe 106 = .ok (.getfield 12, 3) := by decide +kernel
theorem dX1_describe_109 : decode cX1_describe 109 = .ok (.getfield 293, 3) := by decide +kernel
theorem dX1_describe_112 : decode cX1_describe 112 = .ok (.iload_n 2, 1) := by decide +kernel
theorem dX1_describe_113 : decode cX1_describe 113 = .ok (.iconst 2, 1) := by decide +kernel
theorem dX1_describe_114 : decode cX1_describe 114 = .ok (.iadd, 1) := by decide +kernel
theorem dX1_describe_115 : decode cX1_describe 115 = .ok (.iaload, 1) := by decide +kernel
theorem dX1_describe_116 : decode cX1_describe 116 = .ok (.invokevirtual 364, 3) := by decide +kernel
theorem dX1_describe_119 : decode cX1_describe 119 = .ok (.iinc 2 5, 3) := by decide +kernel
theorem dX1_describe_122 : decode cX1_describe 122 = .ok (.goto (-46), 3) := by decide +kernel
theorem dX1_describe_125 : decode cX1_describe 125 = .ok (.return_, 1) := by decide +kernel
theorem dX9_open_0 : decode cX9_open 0 = .ok (.aload_n 0, 1) := by decide +kernel
theorem dX9_open_1 : decode cX9_open 1 = .ok (.aload_n 1, 1) := by decide +kernel
theorem dX9_open_2 : decode cX9_open 2 = .ok (.putfield 9, 3) := by decide +kernel
theorem dX9_open_5 : decode cX9_open 5 = .ok (.aload_n 0, 1) := by decide +kernel
theorem dX9_open_6 : decode cX9_open 6 = .ok (.iconst 0, 1) := by decide +kernel
theorem dX9_open_7 : decode cX9_open 7 = .ok (.putfield 39, 3) := by decide +kernel
theorem dX9_open_10 : decode cX9_open 10 = .ok (.aload_n 0, 1) := by decide +kernel
theorem dX9_open_11 : decode cX9_open 11 = .ok (.iconst 0, 1) := by decide +kernel
theorem dX9_open_12 : decode cX9_open 12 = .ok (.putfield 43, 3) := by decide +kernel
theorem dX9_open_15 : decode cX9_open 15 = .ok (.aload_n 0, 1) := by decide +kernel
theorem dX9_open_16 : decode cX9_open 16 = .ok (.iconst 0, 1) := by decide +kernel
theorem dX9_open_17 : decode cX9_open 17 = .ok (.putfield 46, 3) := by decide +kernel
theorem dX9_open_20 : decode cX9_open 20 = .ok (.aload_n 0, 1) := by decide +kernel
theorem dX9_open_21 : decode cX9_open 21 = .ok (.getfield 30, 3) := by decide +kernel
theorem dX9_open_24 : decode cX9_open 24 = .ok (.iconst 0, 1) := by decide +kernel
theorem dX9_open_25 : decode cX9_open 25 = .ok (.invokestatic 49, 3) := by decide +kernel
theorem dX9_open_28 : decode cX9_open 28 = .ok (.aload_n 0, 1) := by decide +kernel
theorem dX9_open_29 : decode cX9_open 29 = .ok (.getfield 33, 3) := by decide +kernel
theorem dX9_open_32 : decode cX9_open 32 = .ok (.iconst 0, 1) := by decide +kernel
theorem dX9_open_33 : decode cX9_open 33 = .ok (.invokestatic 49, 3) := by decide +kernel
theorem dX9_open_36 : decode cX9_open 36 = .ok (.return_, 1) := by decide +kernel
theorem dX9_isInName_0 : decode cX9_isInName 0 = .ok (.iload_n 0, 1) := by decide +kernel
theorem dX9_isInName_1 : decode cX9_isInName 1 = .ok (.bipush 97, 2) := by decide +kernel
theorem dX9_isInName_3 : decode cX9_isInName 3 = .ok (.if_icmp .lt 9, 3) := by decide +kernel
theorem dX9_isInName_6 : decode cX9_isInName 6 = .ok (.iload_n 0, 1) := by decide +kernel
theorem dX9_isInName_7 : decode cX9_isInName 7 = .ok (.bipush 122, 2) := by decide +kernel
theorem dX9_isInName_9 : decode cX9_isInName 9 = .ok (.if_icmp .le 45, 3) := by decide +kernel
theorem dX9_isInName_12 : decode cX9_isInName 12 = .ok (.iload_n 0, 1) := by decide +kernel
theorem dX9_isInName_13 : decode cX9_isInName 13 = .ok (.bipush 65, 2) := by decide +kernel
theorem dX9_isInName_15 : decode cX9_isInName 15 = .ok (.if_icmp .lt 9, 3) := by decide +kernel
theorem dX9_isInName_18 : decode cX9_isInName 18 = .ok (.iload_n 0, 1) := by decide +kernel
theorem dX9_isInName_19 : decode cX9_isInName 19 = .ok (.bipush 90, 2) := by decide +kernel
theorem dX9_isInName_21 : decode cX9_isInName 21 = .ok (.if_icmp .le 33, 3) := by decide +kernel
theorem dX9_isInName_24 : decode cX9_isInName 24 = .ok (.iload_n 0, 1) := by decide +kernel
theorem dX9_isInName_25 : decode cX9_isInName 25 = .ok (.bipush 48, 2) := by decide +kernel
theorem dX9_isInName_27 : decode cX9_isInName 27 = .ok (.if_icmp .lt 9, 3) := by decide +kernel
theorem dX9_isInName_30 : decode cX9_isInName 30 = .ok (.iload_n 0, 1) := by decide +kernel
theorem dX9_isInName_31 : decode cX9_isInName 31 = .ok (.bipush 57, 2) := by decide +kernel
theorem dX9_isInName_33 : decode cX9_isInName 33 = .ok (.if_icmp .le 21, 3) := by decide +kernel
theorem dX9_isInName_36 : decode cX9_isInName 36 = .ok (.iload_n 0, 1) := by decide +kernel
theorem dX9_isInName_37 : decode cX9_isInName 37 = .ok (.bipush 95, 2) := by decide +kernel
theorem dX9_isInName_39 : decode cX9_isInName 39 = .ok (.if_icmp .eq 15, 3) := by decide +kernel
theorem dX9_isInName_42 : decode cX9_isInName 42 = .ok (.iload_n 0, 1) := by decide +kernel
theorem dX9_isInName_43 : decode cX9_isInName 43 = .ok (.bipush 46, 2) := by decide +kernel
theorem dX9_isInName_45 : decode cX9_isInName 45 = .ok (.if_icmp .eq 9, 3) := by decide +kernel
theorem dX9_isInName_48 : decode cX9_isInName 48 = .ok (.iload_n 0, 1) := by decide +kernel
theorem dX9_isInName_49 : decode cX9_isInName 49 = .ok (.bipush 36, 2) := by decide +kernel
theorem dX9_isInName_51 : decode cX9_isInName 51 = .ok (.if_icmp .ne 7, 3) := by decide +kernel
theorem dX9_isInName_54 : decode cX9_isInName 54 = .ok (.iconst 1, 1) := by decide +kernel
theorem dX9_isInName_55 : decode cX9_isInName 55 = .ok (.goto 4, 3) := by decide +kernel
theorem dX9_isInName_58 : decode cX9_isInName 58 = .ok (.iconst 0, 1) := by decide +kernel
theorem dX9_isInName_59 : decode cX9_isInName 59 = .ok (.ireturn, 1) := by decide +kernel
theorem dX9_readNumber_0 : decode cX9_readNumber 0 = .ok (.aload_n 0, 1) := by decide +kernel
theorem dX9_readNumber_1 : decode cX9_readNumber 1 = .ok (.getfield 55, 3) := by decide +kernel
theorem dX9_readNumber_4 : decode cX9_readNumber 4 = .ok (.aload_n 0, 1) := by decide +kernel
theorem dX9_readNumber_5 : decode cX9_readNumber 5 = .ok (.getfield 70, 3) := by decide +kernel
theorem dX9_readNumber_8 : decode cX9_readNumber 8 = .ok (.isub, 1) := by decide +kernel
theorem dX9_readNumber_9 : decode cX9_readNumber 9 = .ok (.istore_n 1, 1) := by decide +kernel
theorem dX9_readNumber_10 : decode cX9_readNumber 10 = .ok (.iload_n 1, 1) := by decide +kernel
theorem dX9_readNumber_11 : decode cX9_readNumber 11 = .ok (.iconst 1, 1) := by decide +kernel
theorem dX9_readNumber_12 : decode cX9_readNumber 12 = .ok (.if_icmp .le 17, 3) := by decide +kernel
theorem dX9_readNumber_15 : decode cX9_readNumber 15 = .ok (.aload_n 0, 1) := by decide +kernel
theorem dX9_readNumber_16 : decode cX9_readNumber 16 = .ok (.getfield 9, 3) := by decide +kernel
theorem dX9_readNumber_19 : decode cX9_readNumber 19 = .ok (.aload_n 0, 1) := by decide +kernel
theorem dX9_readNumber_20 : decode cX9_readNumber 20 = .ok (.getfield 70, 3) := by decide +kernel
theorem dX9_readNumber_23 : decode cX9_readNumber 23 = .ok (.iconst 1, 1) := by decide +kernel
theorem dX9_readNumber_24 : decode cX9_readNumber 24 = .ok (.iadd, 1) := by decide +kernel
theorem dX9_readNumber_25 : decode cX9_readNumber 25 = .ok (.baload, 1) := by decide +kernel
theorem dX9_readNumber_26 : decode cX9_readNumber 26 = .ok (.goto 4, 3) := by decide +kernel
theorem dX9_readNumber_29 : decode cX9_readNumber 29 = .ok (.iconst 0, 1) := by decide +kernel
theorem dX9_readNumber_30 : decode cX9_readNumber 30 = .ok (.istore_n 2, 1) := by decide +kernel
theorem dX9_readNumber_31 : decode cX9_readNumber 31 = .ok (.iload_n 1, 1) := by decide +kernel
theorem dX9_readNumber_32 : decode cX9_readNumber 32 = .ok (.iconst 2, 1) := by decide +kernel
theorem dX9_readNumber_33 : decode cX9_readNumber 33 = .ok (.if_icmp .ne 37, 3) := by decide +kernel
theorem dX9_readNumber_36 : decode cX9_readNumber 36 = .ok (.iload_n 2, 1) := by decide +kernel
theorem dX9_readNumber_37 : decode cX9_readNumber 37 = .ok (.bipush 102, 2) := by decide +kernel
theorem dX9_readNumber_39 : decode cX9_readNumber 39 = .ok (.if_icmp .eq 9, 3) := by decide +kernel
theorem dX9_readNumber_42 : decode cX9_readNumber 42 = .ok (.iload_n 2, 1) := by decide +kernel
theorem dX9_readNumber_43 : decode cX9_readNumber 43 = .ok (.bipush 98, 2) := by decide +kernel
theorem dX9_readNumber_45 : decode cX9_readNumber 45 = .ok (.if_icmp .ne 25, 3) := by decide +kernel
theorem dX9_readNumber_48 : decode cX9_readNumber 48 = .ok (.aload_n 0, 1) := by decide +kernel
theorem dX9_readNumber_49 : decode cX9_readNumber 49 = .ok (.iconst 3, 1) := by decide +kernel
theorem dX9_readNumber_50 : decode cX9_readNumber 50 = .ok (.putfield 73, 3) := by decide +kernel
theorem dX9_readNumber_53 : decode cX9_readNumber 53 = .ok (.aload_n 0, 1) := by decide +kernel
theorem dX9_readNumber_54 : decode cX9_readNumber 54 = .ok (.aload_n 0, 1) := by decide +kernel
theorem dX9_readNumber_55 : decode cX9_readNumber 55 = .ok (.getfield 9, 3) := by decide +kernel
theorem dX9_readNumber_58 : decode cX9_readNumber 58 = .ok (.aload_n 0, 1) := by decide +kernel
theorem dX9_readNumber_59 : decode cX9_readNumber 59 = .ok (.getfield 70, 3) := by decide +kernel
theorem dX9_readNumber_62 : decode cX9_readNumber 62 = .ok (.baload, 1) := by decide +kernel
theorem dX9_readNumber_63 : decode cX9_readNumber 63 = .ok (.bipush 48, 2) := by decide +kernel
theorem dX9_readNumber_65 : decode cX9_readNumber 65 = .ok (.isub, 1) := by decide +kernel
theorem dX9_readNumber_66 : decode cX9_readNumber 66 = .ok (.putfield 93, 3) := by decide +kernel
theorem dX9_readNumber_69 : decode cX9_readNumber 69 = .ok (.return_, 1) := by decide +kernel
theorem dX9_readNumber_70 : decode cX9_readNumber 70 = .ok (.iload_n 1, 1) := by decide +kernel
theorem dX9_readNumber_71 : decode cX9_readNumber 71 = .ok (.iconst 2, 1) := by decide +kernel
theorem dX9_readNumber_72 : decode cX9_readNumber 72 = .ok (.if_icmp .le 27, 3) := by decide +kernel
theorem dX9_readNumber_75 : decode cX9_readNumber 75 = .ok (.aload_n 0, 1) := by decide +kernel
theorem dX9_readNumber_76 : decode cX9_readNumber 76 = .ok (.getfield 9, 3) := by decide +kernel
theorem dX9_readNumber_79 : decode cX9_readNumber 79 = .ok (.aload_n 0, 1) := by decide +kernel
theorem dX9_readNumber_80 : decode cX9_readNumber 80 = .ok (.getfield 70, 3) := by decide +kernel
theorem dX9_readNumber_83 : decode cX9_readNumber 83 = .ok (.baload, 1) := by decide +kernel
theorem dX9_readNumber_84 : decode cX9_readNumber 84 = .ok (.bipush 48, 2) := by decide +kernel
theorem dX9_readNumber_86 : decode cX9_readNumber 86 = .ok (.if_icmp .ne 13, 3) := by decide +kernel
theorem dX9_readNumber_89 : decode cX9_readNumber 89 = .ok (.iload_n 2, 1) := by decide +kernel
theorem dX9_readNumber_90 : decode cX9_readNumber 90 = .ok (.bipush 120, 2) := by decide +kernel
theorem dX9_readNumber_92 : decode cX9_readNumber 92 = .ok (.if_icmp .ne 7, 3) := by decide +kernel
theorem dX9_readNumber_95 : decode cX9_readNumber 95 = .ok (.iconst 1, 1) := by decide +kernel
theorem dX9_readNumber_96 : decode cX9_readNumber 96 = .ok (.goto 4, 3) := by decide +kernel
theorem dX9_readNumber_99 : decode cX9_readNumber 99 = .ok (.iconst 0, 1) := by decide +kernel
theorem dX9_readNumber_100 : decode cX9_readNumber 100 = .ok (.istore_n 3, 1) := by decide +kernel
theorem dX9_readNumber_101 : decode cX9_readNumber 101 = .ok (.iload_n 1, 1) := by decide +kernel
theorem dX9_readNumber_102 : decode cX9_readNumber 102 = .ok (.iconst 2, 1) := by decide +kernel
theorem dX9_readNumber_103 : decode cX9_readNumber 103 = .ok (.if_icmp .le 27, 3) := by decide +kernel
theorem dX9_readNumber_106 : decode cX9_readNumber 106 = .ok (.aload_n 0, 1) := by decide +kernel
theorem dX9_readNumber_107 : decode cX9_readNumber 107 = .ok (.getfield 9, 3) := by decide +kernel
theorem dX9_readNumber_110 : decode cX9_readNumber 110 = .ok (.aload_n 0, 1) := by decide +kernel
theorem dX9_readNumber_111 : decode cX9_readNumber 111 = .ok (.getfield 70, 3) := by decide +kernel
theorem dX9_readNumber_114 : decode cX9_readNumber 114 = .ok (.baload, 1) := by decide +kernel
theorem dX9_readNumber_115 : decode cX9_readNumber 115 = .ok (.bipush 48, 2) := by decide +kernel
theorem dX9_readNumber_117 : decode cX9_readNumber 117 = .ok (.if_icmp .ne 13, 3) := by decide +kernel
theorem dX9_readNumber_120 : decode cX9_readNumber 120 = .ok (.iload_n 2, 1) := by decide +kernel
theorem dX9_readNumber_121 : decode cX9_readNumber 121 = .ok (.bipush 98, 2) := by decide +kernel
theorem dX9_readNumber_123 : decode cX9_readNumber 123 = .ok (.if_icmp .ne 7, 3) := by decide +kernel
theorem dX9_readNumber_126 : decode cX9_readNumber 126 = .ok (.iconst 1, 1) := by decide +kernel
theorem dX9_readNumber_127 : decode cX9_readNumber 127 = .ok (.goto 4, 3) := by decide +kernel
theorem dX9_readNumber_130 : decode cX9_readNumber 130 = .ok (.iconst 0, 1) := by decide +kernel
theorem dX9_readNumber_131 : decode cX9_readNumber 131 = .ok (.istore 4, 2) := by decide +kernel
theorem dX9_readNumber_133 : decode cX9_readNumber 133 = .ok (.iload_n 3, 1) := by decide +kernel
theorem dX9_readNumber_134 : decode cX9_readNumber 134 = .ok (.ifCond .eq 8, 3) := by decide +kernel
