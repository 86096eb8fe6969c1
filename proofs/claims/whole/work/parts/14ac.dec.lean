theorem dX3_readEntry_36 : decode cX3_readEntry 36 = .ok (.iconst 0, 1) := by decide +kernel
theorem dX3_readEntry_37 : decode cX3_readEntry 37 = .ok (.istore 7, 2) := by decide +kernel
theorem dX3_readEntry_39 : decode cX3_readEntry 39 = .ok (.iload 5, 2) := by decide +kernel
theorem dX3_readEntry_41 : decode cX3_readEntry 41 = .ok (.iload 6, 2) := by decide +kernel
theorem dX3_readEntry_43 : decode cX3_readEntry 43 = .ok (.iload 7, 2) := by decide +kernel
theorem dX3_readEntry_45 : decode cX3_readEntry 45 = .ok (.invokestatic 121, 3) := by decide +kernel
theorem dX3_readEntry_48 : decode cX3_readEntry 48 = .ok (.ifCond .ne 9, 3) := by decide +kernel
theorem dX3_readEntry_51 : decode cX3_readEntry 51 = .ok (.aload_n 0, 1) := by decide +kernel
theorem dX3_readEntry_52 : decode cX3_readEntry 52 = .ok (.iconst 1, 1) := by decide +kernel
theorem dX3_readEntry_53 : decode cX3_readEntry 53 = .ok (.iload_n 3, 1) := by decide +kernel
theorem dX3_readEntry_54 : decode cX3_readEntry 54 = .ok (.invokevirtual 107, 3) := by decide +kernel
theorem dX3_readEntry_57 : decode cX3_readEntry 57 = .ok (.aload_n 0, 1) := by decide +kernel
theorem dX3_readEntry_58 : decode cX3_readEntry 58 = .ok (.getfield 95, 3) := by decide +kernel
theorem dX3_readEntry_61 : decode cX3_readEntry 61 = .ok (.ifCond .eq 4, 3) := by decide +kernel
theorem dX3_readEntry_64 : decode cX3_readEntry 64 = .ok (.return_, 1) := by decide +kernel
theorem dX3_readEntry_65 : decode cX3_readEntry 65 = .ok (.iload 5, 2) := by decide +kernel
theorem dX3_readEntry_67 : decode cX3_readEntry 67 = .ok (.iconst 5, 1) := by decide +kernel
theorem dX3_readEntry_68 : decode cX3_readEntry 68 = .ok (.if_icmp .ne 12, 3) := by decide +kernel
theorem dX3_readEntry_71 : decode cX3_readEntry 71 = .ok (.aload_n 0, 1) := by decide +kernel
theorem dX3_readEntry_72 : decode cX3_readEntry 72 = .ok (.iload_n 3, 1) := by decide +kernel
theorem dX3_readEntry_73 : decode cX3_readEntry 73 = .ok (.iload 6, 2) := by decide +kernel
theorem dX3_readEntry_75 : decode cX3_readEntry 75 = .ok (.lload_n 1, 1) := by decide +kernel
theorem dX3_readEntry_76 : decode cX3_readEntry 76 = .ok (.invokevirtual 125, 3) := by decide +kernel
theorem dX3_readEntry_79 : decode cX3_readEntry 79 = .ok (.return_, 1) := by decide +kernel
theorem dX3_readEntry_80 : decode cX3_readEntry 80 = .ok (.iload 7, 2) := by decide +kernel
theorem dX3_readEntry_82 : decode cX3_readEntry 82 = .ok (.ifCond .eq 27, 3) := by decide +kernel
theorem dX3_readEntry_85 : decode cX3_readEntry 85 = .ok (.aload_n 0, 1) := by decide +kernel
theorem dX3_readEntry_86 : decode cX3_readEntry 86 = .ok (.getfield 39, 3) := by decide +kernel
theorem dX3_readEntry_89 : decode cX3_readEntry 89 = .ok (.ifCond .ne 7, 3) := by decide +kernel
theorem dX3_readEntry_92 : decode cX3_readEntry 92 = .ok (.lconst 0, 1) := by decide +kernel
theorem dX3_readEntry_93 : decode cX3_readEntry 93 = .ok (.goto 20, 3) := by decide +kernel
theorem dX3_readEntry_96 : decode cX3_readEntry 96 = .ok (.aload_n 0, 1) := by decide +kernel
theorem dX3_readEntry_97 : decode cX3_readEntry 97 = .ok (.aload_n 0, 1) := by decide +kernel
theorem dX3_readEntry_98 : decode cX3_readEntry 98 = .ok (.getfield 39, 3) := by decide +kernel
theorem dX3_readEntry_101 : decode cX3_readEntry 101 = .ok (.iconst 1, 1) := by decide +kernel
theorem dX3_readEntry_102 : decode cX3_readEntry 102 = .ok (.isub, 1) := by decide +kernel
theorem dX3_readEntry_103 : decode cX3_readEntry 103 = .ok (.invokevirtual 66, 3) := by decide +kernel
theorem dX3_readEntry_106 : decode cX3_readEntry 106 = .ok (.goto 7, 3) := by decide +kernel
theorem dX3_readEntry_109 : decode cX3_readEntry 109 = .ok (.aload_n 0, 1) := by decide +kernel
theorem dX3_readEntry_110 : decode cX3_readEntry 110 = .ok (.invokevirtual 101, 3) := by decide +kernel
theorem dX3_readEntry_113 : decode cX3_readEntry 113 = .ok (.lstore 8, 2) := by decide +kernel
theorem dX3_readEntry_115 : decode cX3_readEntry 115 = .ok (.aload_n 0, 1) := by decide +kernel
theorem dX3_readEntry_116 : decode cX3_readEntry 116 = .ok (.getfield 95, 3) := by decide +kernel
theorem dX3_readEntry_119 : decode cX3_readEntry 119 = .ok (.ifCond .ne 37, 3) := by decide +kernel
theorem dX3_readEntry_122 : decode cX3_readEntry 122 = .ok (.aload_n 0, 1) := by decide +kernel
theorem dX3_readEntry_123 : decode cX3_readEntry 123 = .ok (.iload_n 3, 1) := by decide +kernel
theorem dX3_readEntry_124 : decode cX3_readEntry 124 = .ok (.iload 5, 2) := by decide +kernel
theorem dX3_readEntry_126 : decode cX3_readEntry 126 = .ok (.iload 6, 2) := by decide +kernel
theorem dX3_readEntry_128 : decode cX3_readEntry 128 = .ok (.lload 8, 2) := by decide +kernel
theorem dX3_readEntry_130 : decode cX3_readEntry 130 = .ok (.aload_n 0, 1) := by decide +kernel
theorem dX3_readEntry_131 : decode cX3_readEntry 131 = .ok (.getfield 39, 3) := by decide +kernel
theorem dX3_readEntry_134 : decode cX3_readEntry 134 = .ok (.ifCond .ne 7, 3) := by decide +kernel
theorem dX3_readEntry_137 : decode cX3_readEntry 137 = .ok (.lconst 0, 1) := by decide +kernel
theorem dX3_readEntry_138 : decode cX3_readEntry 138 = .ok (.goto 14, 3) := by decide +kernel
theorem dX3_readEntry_141 : decode cX3_readEntry 141 = .ok (.aload_n 0, 1) := by decide +kernel
theorem dX3_readEntry_142 : decode cX3_readEntry 142 = .ok (.getfield 13, 3) := by decide +kernel
theorem dX3_readEntry_145 : decode cX3_readEntry 145 = .ok (.aload_n 0, 1) := by decide +kernel
theorem dX3_readEntry_146 : decode cX3_readEntry 146 = .ok (.getfield 39, 3) := by decide +kernel
theorem dX3_readEntry_149 : decode cX3_readEntry 149 = .ok (.iconst 1, 1) := by decide +kernel
theorem dX3_readEntry_150 : decode cX3_readEntry 150 = .ok (.isub, 1) := by decide +kernel
theorem dX3_readEntry_151 : decode cX3_readEntry 151 = .ok (.laload, 1) := by decide +kernel
theorem dX3_readEntry_152 : decode cX3_readEntry 152 = .ok (.ladd, 1) := by decide +kernel
theorem dX3_readEntry_153 : decode cX3_readEntry 153 = .ok (.invokevirtual 129, 3) := by decide +kernel
theorem dX3_readEntry_156 : decode cX3_readEntry 156 = .ok (.return_, 1) := by decide +kernel
theorem dX3_readRepeat_0 : decode cX3_readRepeat 0 = .ok (.aload_n 0, 1) := by decide +kernel
theorem dX3_readRepeat_1 : decode cX3_readRepeat 1 = .ok (.getfield 39, 3) := by decide +kernel
theorem dX3_readRepeat_4 : decode cX3_readRepeat 4 = .ok (.ifCond .ne 10, 3) := by decide +kernel
theorem dX3_readRepeat_7 : decode cX3_readRepeat 7 = .ok (.aload_n 0, 1) := by decide +kernel
theorem dX3_readRepeat_8 : decode cX3_readRepeat 8 = .ok (.iconst 4, 1) := by decide +kernel
theorem dX3_readRepeat_9 : decode cX3_readRepeat 9 = .ok (.iload_n 1, 1) := by decide +kernel
theorem dX3_readRepeat_10 : decode cX3_readRepeat 10 = .ok (.invokevirtual 107, 3) := by decide +kernel
theorem dX3_readRepeat_13 : decode cX3_readRepeat 13 = .ok (.return_, 1) := by decide +kernel
theorem dX3_readRepeat_14 : decode cX3_readRepeat 14 = .ok (.aload_n 0, 1) := by decide +kernel
theorem dX3_readRepeat_15 : decode cX3_readRepeat 15 = .ok (.getfield 44, 3) := by decide +kernel
theorem dX3_readRepeat_18 : decode cX3_readRepeat 18 = .ok (.istore 5, 2) := by decide +kernel
theorem dX3_readRepeat_20 : decode cX3_readRepeat 20 = .ok (.iload_n 2, 1) := by decide +kernel
theorem dX3_readRepeat_21 : decode cX3_readRepeat 21 = .ok (.ifCond .ne 10, 3) := by decide +kernel
theorem dX3_readRepeat_24 : decode cX3_readRepeat 24 = .ok (.aload_n 0, 1) := by decide +kernel
theorem dX3_readRepeat_25 : decode cX3_readRepeat 25 = .ok (.invokevirtual 101, 3) := by decide +kernel
theorem dX3_readRepeat_28 : decode cX3_readRepeat 28 = .ok (.goto 5, 3) := by decide +kernel
theorem dX3_readRepeat_31 : decode cX3_readRepeat 31 = .ok (.iload_n 2, 1) := by decide +kernel
theorem dX3_readRepeat_32 : decode cX3_readRepeat 32 = .ok (.i2l, 1) := by decide +kernel
theorem dX3_readRepeat_33 : decode cX3_readRepeat 33 = .ok (.lstore 6, 2) := by decide +kernel
theorem dX3_readRepeat_35 : decode cX3_readRepeat 35 = .ok (.lload 6, 2) := by decide +kernel
theorem dX3_readRepeat_37 : decode cX3_readRepeat 37 = .ok (.lconst 0, 1) := by decide +kernel
theorem dX3_readRepeat_38 : decode cX3_readRepeat 38 = .ok (.lcmp, 1) := by decide +kernel
theorem dX3_readRepeat_39 : decode cX3_readRepeat 39 = .ok (.ifCond .ne 10, 3) := by decide +kernel
theorem dX3_readRepeat_42 : decode cX3_readRepeat 42 = .ok (.aload_n 0, 1) := by decide +kernel
theorem dX3_readRepeat_43 : decode cX3_readRepeat 43 = .ok (.iconst 5, 1) := by decide +kernel
theorem dX3_readRepeat_44 : decode cX3_readRepeat 44 = .ok (.iload 5, 2) := by decide +kernel
theorem dX3_readRepeat_46 : decode cX3_readRepeat 46 = .ok (.invokevirtual 107, 3) := by decide +kernel
theorem dX3_readRepeat_49 : decode cX3_readRepeat 49 = .ok (.aload_n 0, 1) := by decide +kernel
theorem dX3_readRepeat_50 : decode cX3_readRepeat 50 = .ok (.getfield 39, 3) := by decide +kernel
theorem dX3_readRepeat_53 : decode cX3_readRepeat 53 = .ok (.i2l, 1) := by decide +kernel
theorem dX3_readRepeat_54 : decode cX3_readRepeat 54 = .ok (.lload 6, 2) := by decide +kernel
theorem dX3_readRepeat_56 : decode cX3_readRepeat 56 = .ok (.ladd, 1) := by decide +kernel
theorem dX3_readRepeat_57 : decode cX3_readRepeat 57 = .ok (.lload_n 3, 1) := by decide +kernel
theorem dX3_readRepeat_58 : decode cX3_readRepeat 58 = .ok (.lcmp, 1) := by decide +kernel
theorem dX3_readRepeat_59 : decode cX3_readRepeat 59 = .ok (.ifCond .le 10, 3) := by decide +kernel
theorem dX3_readRepeat_62 : decode cX3_readRepeat 62 = .ok (.aload_n 0, 1) := by decide +kernel
theorem dX3_readRepeat_63 : decode cX3_readRepeat 63 = .ok (.bipush 6, 2) := by decide +kernel
theorem dX3_readRepeat_65 : decode cX3_readRepeat 65 = .ok (.iload_n 1, 1) := by decide +kernel
theorem dX3_readRepeat_66 : decode cX3_readRepeat 66 = .ok (.invokevirtual 107, 3) := by decide +kernel
theorem dX3_readRepeat_69 : decode cX3_readRepeat 69 = .ok (.aload_n 0, 1) := by decide +kernel
theorem dX3_readRepeat_70 : decode cX3_readRepeat 70 = .ok (.aload_n 0, 1) := by decide +kernel
theorem dX3_readRepeat_71 : decode cX3_readRepeat 71 = .ok (.getfield 39, 3) := by decide +kernel
theorem dX3_readRepeat_74 : decode cX3_readRepeat 74 = .ok (.iconst 1, 1) := by decide +kernel
theorem dX3_readRepeat_75 : decode cX3_readRepeat 75 = .ok (.isub, 1) := by decide +kernel
theorem dX3_readRepeat_76 : decode cX3_readRepeat 76 = .ok (.invokevirtual 66, 3) := by decide +kernel
theorem dX3_readRepeat_79 : decode cX3_readRepeat 79 = .ok (.lstore 8, 2) := by decide +kernel
theorem dX3_readRepeat_81 : decode cX3_readRepeat 81 = .ok (.lload 6, 2) := by decide +kernel
theorem dX3_readRepeat_83 : decode cX3_readRepeat 83 = .ok (.lstore 10, 2) := by decide +kernel
theorem dX3_readRepeat_85 : decode cX3_readRepeat 85 = .ok (.lload 10, 2) := by decide +kernel
theorem dX3_readRepeat_87 : decode cX3_readRepeat 87 = .ok (.lconst 0, 1) := by decide +kernel
theorem dX3_readRepeat_88 : decode cX3_readRepeat 88 = .ok (.lcmp, 1) := by decide +kernel
theorem dX3_readRepeat_89 : decode cX3_readRepeat 89 = .ok (.ifCond .le 71, 3) := by decide +kernel
theorem dX3_readRepeat_92 : decode cX3_readRepeat 92 = .ok (.aload_n 0, 1) := by decide +kernel
theorem dX3_readRepeat_93 : decode cX3_readRepeat 93 = .ok (.getfield 95, 3) := by decide +kernel
theorem dX3_readRepeat_96 : decode cX3_readRepeat 96 = .ok (.ifCond .ne 64, 3) := by decide +kernel
theorem dX3_readRepeat_99 : decode cX3_readRepeat 99 = .ok (.aload_n 0, 1) := by decide +kernel
theorem dX3_readRepeat_100 : decode cX3_readRepeat 100 = .ok (.aload_n 0, 1) := by decide +kernel
theorem dX3_readRepeat_101 : decode cX3_readRepeat 101 = .ok (.getfield 9, 3) := by decide +kernel
theorem dX3_readRepeat_104 : decode cX3_readRepeat 104 = .ok (.aload_n 0, 1) := by decide +kernel
theorem dX3_readRepeat_105 : decode cX3_readRepeat 105 = .ok (.getfield 39, 3) := by decide +kernel
theorem dX3_readRepeat_108 : decode cX3_readRepeat 108 = .ok (.iconst 1, 1) := by decide +kernel
theorem dX3_readRepeat_109 : decode cX3_readRepeat 109 = .ok (.isub, 1) := by decide +kernel
theorem dX3_readRepeat_110 : decode cX3_readRepeat 110 = .ok (.iaload, 1) := by decide +kernel
theorem dX3_readRepeat_111 : decode cX3_readRepeat 111 = .ok (.aload_n 0, 1) := by decide +kernel
theorem dX3_readRepeat_112 : decode cX3_readRepeat 112 = .ok (.getfield 13, 3) := by decide +kernel
theorem dX3_readRepeat_115 : decode cX3_readRepeat 115 = .ok (.aload_n 0, 1) := by decide +kernel
theorem dX3_readRepeat_116 : decode cX3_readRepeat 116 = .ok (.getfield 39, 3) := by decide +kernel
theorem dX3_readRepeat_119 : decode cX3_readRepeat 119 = .ok (.iconst 1, 1) := by decide +kernel
theorem dX3_readRepeat_120 : decode cX3_readRepeat 120 = .ok (.isub, 1) := by decide +kernel
theorem dX3_readRepeat_121 : decode cX3_readRepeat 121 = .ok (.laload, 1) := by decide +kernel
theorem dX3_readRepeat_122 : decode cX3_readRepeat 122 = .ok (.lload 8, 2) := by decide +kernel
theorem dX3_readRepeat_124 : decode cX3_readRepeat 124 = .ok (.ladd, 1) := by decide +kernel
theorem dX3_readRepeat_125 : decode cX3_readRepeat 125 = .ok (.aload_n 0, 1) := by decide +kernel
theorem dX3_readRepeat_126 : decode cX3_readRepeat 126 = .ok (.getfield 17, 3) := by decide +kernel
theorem dX3_readRepeat_129 : decode cX3_readRepeat 129 = .ok (.aload_n 0, 1) := by decide +kernel
theorem dX3_readRepeat_130 : decode cX3_readRepeat 130 = .ok (.getfield 39, 3) := by decide +kernel
theorem dX3_readRepeat_133 : decode cX3_readRepeat 133 = .ok (.iconst 1, 1) := by decide +kernel
theorem dX3_readRepeat_134 : decode cX3_readRepeat 134 = .ok (.isub, 1) := by decide +kernel
theorem dX3_readRepeat_135 : decode cX3_readRepeat 135 = .ok (.laload, 1) := by decide +kernel
theorem dX3_readRepeat_136 : decode cX3_readRepeat 136 = .ok (.aload_n 0, 1) := by decide +kernel
theorem dX3_readRepeat_137 : decode cX3_readRepeat 137 = .ok (.getfield 20, 3) := by decide +kernel
theorem dX3_readRepeat_140 : decode cX3_readRepeat 140 = .ok (.aload_n 0, 1) := by decide +kernel
theorem dX3_readRepeat_141 : decode cX3_readRepeat 141 = .ok (.getfield 39, 3) := by decide +kernel
theorem dX3_readRepeat_144 : decode cX3_readRepeat 144 = .ok (.iconst 1, 1) := by decide +kernel
theorem dX3_readRepeat_145 : decode cX3_readRepeat 145 = .ok (.isub, 1) := by decide +kernel
theorem dX3_readRepeat_146 : decode cX3_readRepeat 146 = .ok (.iaload, 1) := by decide +kernel
theorem dX3_readRepeat_147 : decode cX3_readRepeat 147 = .ok (.invokevirtual 133, 3) := by decide +kernel
theorem dX3_readRepeat_150 : decode cX3_readRepeat 150 = .ok (.pop, 1) := by decide +kernel
theorem dX3_readRepeat_151 : decode cX3_readRepeat 151 = .ok (.lload 10, 2) := by decide +kernel
theorem dX3_readRepeat_153 : decode cX3_readRepeat 153 = .ok (.lconst 1, 1) := by decide +kernel
theorem dX3_readRepeat_154 : decode cX3_readRepeat 154 = .ok (.lsub, 1) := by decide +kernel
theorem dX3_readRepeat_155 : decode cX3_readRepeat 155 = .ok (.lstore 10, 2) := by decide +kernel
theorem dX3_readRepeat_157 : decode cX3_readRepeat 157 = .ok (.goto (-72), 3) := by decide +kernel
theorem dX3_readRepeat_160 : decode cX3_readRepeat 160 = .ok (.return_, 1) := by decide +kernel
theorem dX3_readBrought_0 : decode cX3_readBrought 0 = .ok (.iload_n 3, 1) := by decide +kernel
theorem dX3_readBrought_1 : decode cX3_readBrought 1 = .ok (.i2l, 1) := by decide +kernel
theorem dX3_readBrought_2 : decode cX3_readBrought 2 = .ok (.lstore 6, 2) := by decide +kernel
theorem dX3_readBrought_4 : decode cX3_readBrought 4 = .ok (.iconst 0, 1) := by decide +kernel
theorem dX3_readBrought_5 : decode cX3_readBrought 5 = .ok (.istore 8, 2) := by decide +kernel
theorem dX3_readBrought_7 : decode cX3_readBrought 7 = .ok (.aload_n 0, 1) := by decide +kernel
theorem dX3_readBrought_8 : decode cX3_readBrought 8 = .ok (.getfield 44, 3) := by decide +kernel
theorem dX3_readBrought_11 : decode cX3_readBrought 11 = .ok (.istore 9, 2) := by decide +kernel
theorem dX3_readBrought_13 : decode cX3_readBrought 13 = .ok (.iload_n 2, 1) := by decide +kernel
theorem dX3_readBrought_14 : decode cX3_readBrought 14 = .ok (.iconst 1, 1) := by decide +kernel
theorem dX3_readBrought_15 : decode cX3_readBrought 15 = .ok (.if_icmp .ne 75, 3) := by decide +kernel
theorem dX3_readBrought_18 : decode cX3_readBrought 18 = .ok (.iload_n 3, 1) := by decide +kernel
theorem dX3_readBrought_19 : decode cX3_readBrought 19 = .ok (.ifCond .ne 71, 3) := by decide +kernel
theorem dX3_readBrought_22 : decode cX3_readBrought 22 = .ok (.aload_n 0, 1) := by decide +kernel
theorem dX3_readBrought_23 : decode cX3_readBrought 23 = .ok (.invokevirtual 101, 3) := by decide +kernel
theorem dX3_readBrought_26 : decode cX3_readBrought 26 = .ok (.lstore 10, 2) := by decide +kernel
theorem dX3_readBrought_28 : decode cX3_readBrought 28 = .ok (.lload 10, 2) := by decide +kernel
theorem dX3_readBrought_30 : decode cX3_readBrought 30 = .ok (.lconst 0, 1) := by decide +kernel
theorem dX3_readBrought_31 : decode cX3_readBrought 31 = .ok (.lcmp, 1) := by decide +kernel
theorem dX3_readBrought_32 : decode cX3_readBrought 32 = .ok (.ifCond .ne 10, 3) := by decide +kernel
theorem dX3_readBrought_35 : decode cX3_readBrought 35 = .ok (.aload_n 0, 1) := by decide +kernel
theorem dX3_readBrought_36 : decode cX3_readBrought 36 = .ok (.iconst 5, 1) := by decide +kernel
theorem dX3_readBrought_37 : decode cX3_readBrought 37 = .ok (.iload 9, 2) := by decide +kernel
theorem dX3_readBrought_39 : decode cX3_readBrought 39 = .ok (.invokevirtual 107, 3) := by decide +kernel
theorem dX3_readBrought_42 : decode cX3_readBrought 42 = .ok (.aload_n 0, 1) := by decide +kernel
theorem dX3_readBrought_43 : decode cX3_readBrought 43 = .ok (.iconst 1, 1) := by decide +kernel
theorem dX3_readBrought_44 : decode cX3_readBrought 44 = .ok (.lload 10, 2) := by decide +kernel
theorem dX3_readBrought_46 : decode cX3_readBrought 46 = .ok (.aload_n 0, 1) := by decide +kernel
theorem dX3_readBrought_47 : decode cX3_readBrought 47 = .ok (.getfield 39, 3) := by decide +kernel
theorem dX3_readBrought_50 : decode cX3_readBrought 50 = .ok (.invokevirtual 80, 3) := by decide +kernel
theorem dX3_readBrought_53 : decode cX3_readBrought 53 = .ok (.istore 12, 2) := by decide +kernel
theorem dX3_readBrought_55 : decode cX3_readBrought 55 = .ok (.iload 12, 2) := by decide +kernel
theorem dX3_readBrought_57 : decode cX3_readBrought 57 = .ok (.ifCond .ge 12, 3) := by decide +kernel
theorem dX3_readBrought_60 : decode cX3_readBrought 60 = .ok (.aload_n 0, 1) := by decide +kernel
theorem dX3_readBrought_61 : decode cX3_readBrought 61 = .ok (.iconst 4, 1) := by decide +kernel
theorem dX3_readBrought_62 : decode cX3_readBrought 62 = .ok (.iload_n 1, 1) := by decide +kernel
theorem dX3_readBrought_63 : decode cX3_readBrought 63 = .ok (.invokevirtual 107, 3) := by decide +kernel
theorem dX3_readBrought_66 : decode cX3_readBrought 66 = .ok (.goto 21, 3) := by decide +kernel
theorem dX3_readBrought_69 : decode cX3_readBrought 69 = .ok (.aload_n 0, 1) := by decide +kernel
theorem dX3_readBrought_70 : decode cX3_readBrought 70 = .ok (.getfield 17, 3) := by decide +kernel
theorem dX3_readBrought_73 : decode cX3_readBrought 73 = .ok (.iload 12, 2) := by decide +kernel
theorem dX3_readBrought_75 : decode cX3_readBrought 75 = .ok (.laload, 1) := by decide +kernel
theorem dX3_readBrought_76 : decode cX3_readBrought 76 = .ok (.lstore 6, 2) := by decide +kernel
theorem dX3_readBrought_78 : decode cX3_readBrought 78 = .ok (.aload_n 0, 1) := by decide +kernel
theorem dX3_readBrought_79 : decode cX3_readBrought 79 = .ok (.getfield 20, 3) := by decide +kernel
theorem dX3_readBrought_82 : decode cX3_readBrought 82 = .ok (.iload 12, 2) := by decide +kernel
theorem dX3_readBrought_84 : decode cX3_readBrought 84 = .ok (.iaload, 1) := by decide +kernel
theorem dX3_readBrought_85 : decode cX3_readBrought 85 = .ok (.istore 8, 2) := by decide +kernel
theorem dX3_readBrought_87 : decode cX3_readBrought 87 = .ok (.goto 129, 3) := by decide +kernel
theorem dX3_readBrought_90 : decode cX3_readBrought 90 = .ok (.iload_n 2, 1) := by decide +kernel
theorem dX3_readBrought_91 : decode cX3_readBrought 91 = .ok (.iconst 1, 1) := by decide +kernel
theorem dX3_readBrought_92 : decode cX3_readBrought 92 = .ok (.if_icmp .ne 16, 3) := by decide +kernel
theorem dX3_readBrought_95 : decode cX3_readBrought 95 = .ok (.aload_n 0, 1) := by decide +kernel
theorem dX3_readBrought_96 : decode cX3_readBrought 96 = .ok (.iload_n 3, 1) := by decide +kernel
theorem dX3_readBrought_97 : decode cX3_readBrought 97 = .ok (.invokevirtual 137, 3) := by decide +kernel
theorem dX3_readBrought_100 : decode cX3_readBrought 100 = .ok (.lstore 6, 2) := by decide +kernel
theorem dX3_readBrought_102 : decode cX3_readBrought 102 = .ok (.iload_n 3, 1) := by decide +kernel
theorem dX3_readBrought_103 : decode cX3_readBrought 103 = .ok (.istore 8, 2) := by decide +kernel
theorem dX3_readBrought_105 : decode cX3_readBrought 105 = .ok (.goto 111, 3) := by decide +kernel
theorem dX3_readBrought_108 : decode cX3_readBrought 108 = .ok (.iload_n 2, 1) := by decide +kernel
theorem dX3_readBrought_109 : decode cX3_readBrought 109 = .ok (.iconst 2, 1) := by decide +kernel
theorem dX3_readBrought_110 : decode cX3_readBrought 110 = .ok (.if_icmp .ne 32, 3) := by decide +kernel
theorem dX3_readBrought_113 : decode cX3_readBrought 113 = .ok (.aload_n 0, 1) := by decide +kernel
theorem dX3_readBrought_114 : decode cX3_readBrought 114 = .ok (.invokevirtual 117, 3) := by decide +kernel
theorem dX3_readBrought_117 : decode cX3_readBrought 117 = .ok (.istore 8, 2) := by decide +kernel
theorem dX3_readBrought_119 : decode cX3_readBrought 119 = .ok (.iload 8, 2) := by decide +kernel
theorem dX3_readBrought_121 : decode cX3_readBrought 121 = .ok (.iconst 1, 1) := by decide +kernel
theorem dX3_readBrought_122 : decode cX3_readBrought 122 = .ok (.if_icmp .lt 10, 3) := by decide +kernel
theorem dX3_readBrought_125 : decode cX3_readBrought 125 = .ok (.iload 8, 2) := by decide +kernel
theorem dX3_readBrought_127 : decode cX3_readBrought 127 = .ok (.bipush 31, 2) := by decide +kernel
theorem dX3_readBrought_129 : decode cX3_readBrought 129 = .ok (.if_icmp .le 87, 3) := by decide +kernel
theorem dX3_readBrought_132 : decode cX3_readBrought 132 = .ok (.aload_n 0, 1) := by decide +kernel
theorem dX3_readBrought_133 : decode cX3_readBrought 133 = .ok (.iconst 5, 1) := by decide +kernel
theorem dX3_readBrought_134 : decode cX3_readBrought 134 = .ok (.iload 9, 2) := by decide +kernel
theorem dX3_readBrought_136 : decode cX3_readBrought 136 = .ok (.invokevirtual 107, 3) := by decide +kernel
theorem dX3_readBrought_139 : decode cX3_readBrought 139 = .ok (.goto 77, 3) := by decide +kernel
theorem dX3_readBrought_142 : decode cX3_readBrought 142 = .ok (.iload_n 2, 1) := by decide +kernel
theorem dX3_readBrought_143 : decode cX3_readBrought 143 = .ok (.iconst 3, 1) := by decide +kernel
theorem dX3_readBrought_144 : decode cX3_readBrought 144 = .ok (.if_icmp .ne 46, 3) := by decide +kernel
theorem dX3_readBrought_147 : decode cX3_readBrought 147 = .ok (.iload_n 3, 1) := by decide +kernel
theorem dX3_readBrought_148 : decode cX3_readBrought 148 = .ok (.iconst 1, 1) := by decide +kernel
theorem dX3_readBrought_149 : decode cX3_readBrought 149 = .ok (.if_icmp .ne 41, 3) := by decide +kernel
theorem dX3_readBrought_152 : decode cX3_readBrought 152 = .ok (.aload_n 0, 1) := by decide +kernel
theorem dX3_readBrought_153 : decode cX3_readBrought 153 = .ok (.iconst 3, 1) := by decide +kernel
theorem dX3_readBrought_154 : decode cX3_readBrought 154 = .ok (.lconst 1, 1) := by decide +kernel
theorem dX3_readBrought_155 : decode cX3_readBrought 155 = .ok (.aload_n 0, 1) := by decide +kernel
theorem dX3_readBrought_156 : decode cX3_readBrought 156 = .ok (.getfield 39, 3) := by decide +kernel
theorem dX3_readBrought_159 : decode cX3_readBrought 159 = .ok (.invokevirtual 80, 3) := by decide +kernel
theorem dX3_readBrought_162 : decode cX3_readBrought 162 = .ok (.istore 10, 2) := by decide +kernel
theorem dX3_readBrought_164 : decode cX3_readBrought 164 = .ok (.iload 10, 2) := by decide +kernel
theorem dX3_readBrought_166 : decode cX3_readBrought 166 = .ok (.ifCond .ge 12, 3) := by decide +kernel
theorem dX3_readBrought_169 : decode cX3_readBrought 169 = .ok (.aload_n 0, 1) := by decide +kernel
theorem dX3_readBrought_170 : decode cX3_readBrought 170 = .ok (.iconst 4, 1) := by decide +kernel
theorem dX3_readBrought_171 : decode cX3_readBrought 171 = .ok (.iload_n 1, 1) := by decide +kernel
theorem dX3_readBrought_172 : decode cX3_readBrought 172 = .ok (.invokevirtual 107, 3) := by decide +kernel
theorem dX3_readBrought_175 : decode cX3_readBrought 175 = .ok (.goto 12, 3) := by decide +kernel
theorem dX3_readBrought_178 : decode cX3_readBrought 178 = .ok (.aload_n 0, 1) := by decide +kernel
theorem dX3_readBrought_179 : decode cX3_readBrought 179 = .ok (.getfield 17, 3) := by decide +kernel
theorem dX3_readBrought_182 : decode cX3_readBrought 182 = .ok (.iload 10, 2) := by decide +kernel
theorem dX3_readBrought_184 : decode cX3_readBrought 184 = .ok (.laload, 1) := by decide +kernel
theorem dX3_readBrought_185 : decode cX3_readBrought 185 = .ok (.lstore 6, 2) := by decide +kernel
theorem dX3_readBrought_187 : decode cX3_readBrought 187 = .ok (.goto 29, 3) := by decide +kernel
theorem dX3_readBrought_190 : decode cX3_readBrought 190 = .ok (.iload_n 2, 1) := by decide +kernel
theorem dX3_readBrought_191 : decode cX3_readBrought 191 = .ok (.iconst 3, 1) := by decide +kernel
theorem dX3_readBrought_192 : decode cX3_readBrought 192 = .ok (.if_icmp .ne 12, 3) := by decide +kernel
theorem dX3_readBrought_195 : decode cX3_readBrought 195 = .ok (.aload_n 0, 1) := by decide +kernel
theorem dX3_readBrought_196 : decode cX3_readBrought 196 = .ok (.invokevirtual 101, 3) := by decide +kernel
theorem dX3_readBrought_199 : decode cX3_readBrought 199 = .ok (.lstore 6, 2) := by decide +kernel
theorem dX3_readBrought_201 : decode cX3_readBrought 201 = .ok (.goto 15, 3) := by decide +kernel
theorem dX3_readBrought_204 : decode cX3_readBrought 204 = .ok (.iload_n 2, 1) := by decide +kernel
theorem dX3_readBrought_205 : decode cX3_readBrought 205 = .ok (.iconst 4, 1) := by decide +kernel
theorem dX3_readBrought_206 : decode cX3_readBrought 206 = .ok (.if_icmp .ne 10, 3) := by decide +kernel
theorem dX3_readBrought_209 : decode cX3_readBrought 209 = .ok (.aload_n 0, 1) := by decide +kernel
theorem dX3_readBrought_210 : decode cX3_readBrought 210 = .ok (.iconst 4, 1) := by decide +kernel
theorem dX3_readBrought_211 : decode cX3_readBrought 211 = .ok (.invokevirtual 137, 3) := by decide +kernel
theorem dX3_readBrought_214 : decode cX3_readBrought 214 = .ok (.lstore 6, 2) := by decide +kernel
theorem dX3_readBrought_216 : decode cX3_readBrought 216 = .ok (.aload_n 0, 1) := by decide +kernel
theorem dX3_readBrought_217 : decode cX3_readBrought 217 = .ok (.getfield 95, 3) := by decide +kernel
theorem dX3_readBrought_220 : decode cX3_readBrought 220 = .ok (.ifCond .ne 15, 3) := by decide +kernel
theorem dX3_readBrought_223 : decode cX3_readBrought 223 = .ok (.aload_n 0, 1) := by decide +kernel
theorem dX3_readBrought_224 : decode cX3_readBrought 224 = .ok (.iload_n 2, 1) := by decide +kernel
theorem dX3_readBrought_225 : decode cX3_readBrought 225 = .ok (.lload 4, 2) := by decide +kernel
theorem dX3_readBrought_227 : decode cX3_readBrought 227 = .ok (.lload 6, 2) := by decide +kernel
theorem dX3_readBrought_229 : decode cX3_readBrought 229 = .ok (.iload 8, 2) := by decide +kernel
theorem dX3_readBrought_231 : decode cX3_readBrought 231 = .ok (.invokevirtual 133, 3) := by decide +kernel
theorem dX3_readBrought_234 : decode cX3_readBrought 234 = .ok (.pop, 1) := by decide +kernel
theorem dX3_readBrought_235 : decode cX3_readBrought 235 = .ok (.return_, 1) := by decide +kernel
theorem dX3_readBytes_0 : decode cX3_readBytes 0 = .ok (.lconst 0, 1) := by decide +kernel
theorem dX3_readBytes_1 : decode cX3_readBytes 1 = .ok (.lstore_n 2, 1) := by decide +kernel
theorem dX3_readBytes_2 : decode cX3_readBytes 2 = .ok (.iconst 0, 1) := by decide +kernel
theorem dX3_readBytes_3 : decode cX3_readBytes 3 = .ok (.istore 4, 2) := by decide +kernel
theorem dX3_readBytes_5 : decode cX3_readBytes 5 = .ok (.iload 4, 2) := by decide +kernel
theorem dX3_readBytes_7 : decode cX3_readBytes 7 = .ok (.iload_n 1, 1) := by decide +kernel
theorem dX3_readBytes_8 : decode cX3_readBytes 8 = .ok (.if_icmp .ge 27, 3) := by decide +kernel
theorem dX3_readBytes_11 : decode cX3_readBytes 11 = .ok (.aload_n 0, 1) := by decide +kernel
theorem dX3_readBytes_12 : decode cX3_readBytes 12 = .ok (.getfield 95, 3) := by decide +kernel
theorem dX3_readBytes_15 : decode cX3_readBytes 15 = .ok (.ifCond .ne 20, 3) := by decide +kernel
theorem dX3_readBytes_18 : decode cX3_readBytes 18 = .ok (.lload_n 2, 1) := by decide +kernel
theorem dX3_readBytes_19 : decode cX3_readBytes 19 = .ok (.bipush 8, 2) := by decide +kernel
theorem dX3_readBytes_21 : decode cX3_readBytes 21 = .ok (.lshl, 1) := by decide +kernel
theorem dX3_readBytes_22 : decode cX3_readBytes 22 = .ok (.aload_n 0, 1) := by decide +kernel
theorem dX3_readBytes_23 : decode cX3_readBytes 23 = .ok (.invokevirtual 117, 3) := by decide +kernel
theorem dX3_readBytes_26 : decode cX3_readBytes 26 = .ok (.i2l, 1) := by decide +kernel
theorem dX3_readBytes_27 : decode cX3_readBytes 27 = .ok (.lor, 1) := by decide +kernel
theorem dX3_readBytes_28 : decode cX3_readBytes 28 = .ok (.lstore_n 2, 1) := by decide +kernel
theorem dX3_readBytes_29 : decode cX3_readBytes 29 = .ok (.iinc 4 1, 3) := by decide +kernel
theorem dX3_readBytes_32 : decode cX3_readBytes 32 = .ok (.goto (-27), 3) := by decide +kernel
theorem dX3_readBytes_35 : decode cX3_readBytes 35 = .ok (.lload_n 2, 1) := by decide +kernel
theorem dX3_readBytes_36 : decode cX3_readBytes 36 = .ok (.lreturn, 1) := by decide +kernel
theorem dX7_named_0 : decode cX7_named 0 = .ok (.iconst 0, 1) := by decide +kernel
theorem dX7_named_1 : decode cX7_named 1 = .ok (.istore_n 3, 1) := by decide +kernel
theorem dX7_named_2 : decode cX7_named 2 = .ok (.iload_n 3, 1) := by decide +kernel
theorem dX7_named_3 : decode cX7_named 3 = .ok (.getstatic 423, 3) := by decide +kernel
theorem dX7_named_6 : decode cX7_named 6 = .ok (.arraylength, 1) := by decide +kernel
theorem dX7_named_7 : decode cX7_named 7 = .ok (.if_icmp .ge 32, 3) := by decide +kernel
theorem dX7_named_10 : decode cX7_named 10 = .ok (.getstatic 423, 3) := by decide +kernel
theorem dX7_named_13 : decode cX7_named 13 = .ok (.iload_n 3, 1) := by decide +kernel
theorem dX7_named_14 : decode cX7_named 14 = .ok (.aaload, 1) := by decide +kernel
theorem dX7_named_15 : decode cX7_named 15 = .ok (.getfield 409, 3) := by decide +kernel
theorem dX7_named_18 : decode cX7_named 18 = .ok (.aload_n 0, 1) := by decide +kernel
theorem dX7_named_19 : decode cX7_named 19 = .ok (.iload_n 1, 1) := by decide +kernel
theorem dX7_named_20 : decode cX7_named 20 = .ok (.iload_n 2, 1) := by decide +kernel
theorem dX7_named_21 : decode cX7_named 21 = .ok (.invokestatic 426, 3) := by decide +kernel
theorem dX7_named_24 : decode cX7_named 24 = .ok (.ifCond .eq 9, 3) := by decide +kernel
theorem dX7_named_27 : decode cX7_named 27 = .ok (.getstatic 423, 3) := by decide +kernel
theorem dX7_named_30 : decode cX7_named 30 = .ok (.iload_n 3, 1) := by decide +kernel
theorem dX7_named_31 : decode cX7_named 31 = .ok (.aaload, 1) := by decide +kernel
theorem dX7_named_32 : decode cX7_named 32 = .ok (.areturn, 1) := by decide +kernel
theorem dX7_named_33 : decode cX7_named 33 = .ok (.iinc 3 1, 3) := by decide +kernel
theorem dX7_named_36 : decode cX7_named 36 = .ok (.goto (-34), 3) := by decide +kernel
theorem dX7_named_39 : decode cX7_named 39 = .ok (.aconst_null, 1) := by decide +kernel
theorem dX7_named_40 : decode cX7_named 40 = .ok (.areturn, 1) := by decide +kernel
theorem dX7_stands_0 : decode cX7_stands 0 = .ok (.aload_n 0, 1) := by decide +kernel
theorem dX7_stands_1 : decode cX7_stands 1 = .ok (.invokevirtual 430, 3) := by decide +kernel
theorem dX7_stands_4 : decode cX7_stands 4 = .ok (.iload_n 3, 1) := by decide +kernel
theorem dX7_stands_5 : decode cX7_stands 5 = .ok (.if_icmp .ne 15, 3) := by decide +kernel
theorem dX7_stands_8 : decode cX7_stands 8 = .ok (.iload_n 2, 1) := by decide +kernel
theorem dX7_stands_9 : decode cX7_stands 9 = .ok (.ifCond .lt 11, 3) := by decide +kernel
theorem dX7_stands_12 : decode cX7_stands 12 = .ok (.iload_n 2, 1) := by decide +kernel
theorem dX7_stands_13 : decode cX7_stands 13 = .ok (.iload_n 3, 1) := by decide +kernel
theorem dX7_stands_14 : decode cX7_stands 14 = .ok (.iadd, 1) := by decide +kernel
theorem dX7_stands_15 : decode cX7_stands 15 = .ok (.aload_n 1, 1) := by decide +kernel
theorem dX7_stands_16 : decode cX7_stands 16 = .ok (.arraylength, 1) := by decide +kernel
theorem dX7_stands_17 : decode cX7_stands 17 = .ok (.if_icmp .le 5, 3) := by decide +kernel
theorem dX7_stands_20 : decode cX7_stands 20 = .ok (.iconst 0, 1) := by decide +kernel
theorem dX7_stands_21 : decode cX7_stands 21 = .ok (.ireturn, 1) := by decide +kernel
theorem dX7_stands_22 : decode cX7_stands 22 = .ok (.iconst 0, 1) := by decide +kernel
theorem dX7_stands_23 : decode cX7_stands 23 = .ok (.istore 4, 2) := by decide +kernel
theorem dX7_stands_25 : decode cX7_stands 25 = .ok (.iload 4, 2) := by decide +kernel
theorem dX7_stands_27 : decode cX7_stands 27 = .ok (.iload_n 3, 1) := by decide +kernel
theorem dX7_stands_28 : decode cX7_stands 28 = .ok (.if_icmp .ge 26, 3) := by decide +kernel
theorem dX7_stands_31 : decode cX7_stands 31 = .ok (.aload_n 0, 1) := by decide +kernel
theorem dX7_stands_32 : decode cX7_stands 32 = .ok (.iload 4, 2) := by decide +kernel
theorem dX7_stands_34 : decode cX7_stands 34 = .ok (.invokevirtual 436, 3) := by decide +kernel
theorem dX7_stands_37 : decode cX7_stands 37 = .ok (.aload_n 1, 1) := by decide +kernel
theorem dX7_stands_38 : decode cX7_stands 38 = .ok (.iload_n 2, 1) := by decide +kernel
theorem dX7_stands_39 : decode cX7_stands 39 = .ok (.iload 4, 2) := by decide +kernel
theorem dX7_stands_41 : decode cX7_stands 41 = .ok (.iadd, 1) := by decide +kernel
theorem dX7_stands_42 : decode cX7_stands 42 = .ok (.baload, 1) := by decide +kernel
theorem dX7_stands_43 : decode cX7_stands 43 = .ok (.if_icmp .eq 5, 3) := by decide +kernel
theorem dX7_stands_46 : decode cX7_stands 46 = .ok (.iconst 0, 1) := by decide +kernel
theorem dX7_stands_47 : decode cX7_stands 47 = .ok (.ireturn, 1) := by decide +kernel
theorem dX7_stands_48 : decode cX7_stands 48 = .ok (.iinc 4 1, 3) := by decide +kernel
theorem dX7_stands_51 : decode cX7_stands 51 = .ok (.goto (-26), 3) := by decide +kernel
theorem dX7_stands_54 : decode cX7_stands 54 = .ok (.iconst 1, 1) := by decide +kernel
theorem dX7_stands_55 : decode cX7_stands 55 = .ok (.ireturn, 1) := by decide +kernel
theorem dX7_order_0 : decode cX7_order 0 = .ok (.iload_n 2, 1) := by decide +kernel
theorem dX7_order_1 : decode cX7_order 1 = .ok (.iconst 5, 1) := by decide +kernel
theorem dX7_order_2 : decode cX7_order 2 = .ok (.if_icmp .le 23, 3) := by decide +kernel
theorem dX7_order_5 : decode cX7_order 5 = .ok (.ldc_w 440, 3) := by decide +kernel
theorem dX7_order_8 : decode cX7_order 8 = .ok (.aload_n 0, 1) := by decide +kernel
theorem dX7_order_9 : decode cX7_order 9 = .ok (.iload_n 1, 1) := by decide +kernel
theorem dX7_order_10 : decode cX7_order 10 = .ok (.iload_n 2, 1) := by decide +kernel
theorem dX7_order_11 : decode cX7_order 11 = .ok (.iadd, 1) := by decide +kernel
theorem dX7_order_12 : decode cX7_order 12 = .ok (.iconst 5, 1) := by decide +kernel
theorem dX7_order_13 : decode cX7_order 13 = .ok (.isub, 1) := by decide +kernel
theorem dX7_order_14 : decode cX7_order 14 = .ok (.iconst 5, 1) := by decide +kernel
theorem dX7_order_15 : decode cX7_order 15 = .ok (.invokestatic 426, 3) := by decide +kernel
theorem dX7_order_18 : decode cX7_order 18 = .ok (.ifCond .eq 7, 3) := by decide +kernel
theorem dX7_order_21 : decode cX7_order 21 = .ok (.ldc_w 442, 3) := by decide +kernel
theorem dX7_order_24 : decode cX7_order 24 = .ok (.ireturn, 1) := by decide +kernel
theorem dX7_order_25 : decode cX7_order 25 = .ok (.iload_n 2, 1) := by decide +kernel
theorem dX7_order_26 : decode cX7_order 26 = .ok (.iconst 3, 1) := by decide +kernel
theorem dX7_order_27 : decode cX7_order 27 = .ok (.if_icmp .le 23, 3) := by decide +kernel
theorem dX7_order_30 : decode cX7_order 30 = .ok (.ldc_w 443, 3) := by decide +kernel
theorem dX7_order_33 : decode cX7_order 33 = .ok (.aload_n 0, 1) := by decide +kernel
theorem dX7_order_34 : decode cX7_order 34 = .ok (.iload_n 1, 1) := by decide +kernel
theorem dX7_order_35 : decode cX7_order 35 = .ok (.iload_n 2, 1) := by decide +kernel
theorem dX7_order_36 : decode cX7_order 36 = .ok (.iadd, 1) := by decide +kernel
theorem dX7_order_37 : decode cX7_order 37 = .ok (.iconst 3, 1) := by decide +kernel
theorem dX7_order_38 : decode cX7_order 38 = .ok (.isub, 1) := by decide +kernel
theorem dX7_order_39 : decode cX7_order 39 = .ok (.iconst 3, 1) := by decide +kernel
theorem dX7_order_40 : decode cX7_order 40 = .ok (.invokestatic 426, 3) := by decide +kernel
theorem dX7_order_43 : decode cX7_order 43 = .ok (.ifCond .eq 7, 3) := by decide +kernel
theorem dX7_order_46 : decode cX7_order 46 = .ok (.ldc_w 445, 3) := by decide +kernel
theorem dX7_order_49 : decode cX7_order 49 = .ok (.ireturn, 1) := by decide +kernel
theorem dX7_order_50 : decode cX7_order 50 = .ok (.iload_n 2, 1) := by decide +kernel
theorem dX7_order_51 : decode cX7_order 51 = .ok (.iconst 3, 1) := by decide +kernel
theorem dX7_order_52 : decode cX7_order 52 = .ok (.if_icmp .le 25, 3) := by decide +kernel
theorem dX7_order_55 : decode cX7_order 55 = .ok (.ldc_w 446, 3) := by decide +kernel
theorem dX7_order_58 : decode cX7_order 58 = .ok (.aload_n 0, 1) := by decide +kernel
theorem dX7_order_59 : decode cX7_order 59 = .ok (.iload_n 1, 1) := by decide +kernel
theorem dX7_order_60 : decode cX7_order 60 = .ok (.iload_n 2, 1) := by decide +kernel
theorem dX7_order_61 : decode cX7_order 61 = .ok (.iadd, 1) := by decide +kernel
theorem dX7_order_62 : decode cX7_order 62 = .ok (.iconst 3, 1) := by decide +kernel
theorem dX7_order_63 : decode cX7_order 63 = .ok (.isub, 1) := by decide +kernel
theorem dX7_order_64 : decode cX7_order 64 = .ok (.iconst 3, 1) := by decide +kernel
theorem dX7_order_65 : decode cX7_order 65 = .ok (.invokestatic 426, 3) := by decide +kernel
theorem dX7_order_68 : decode cX7_order 68 = .ok (.ifCond .eq 9, 3) := by decide +kernel
theorem dX7_order_71 : decode cX7_order 71 = .ok (.ldc_w 448, 3) := by decide +kernel
theorem dX7_order_74 : decode cX7_order 74 = .ok (.goto 4, 3) := by decide +kernel
theorem dX7_order_77 : decode cX7_order 77 = .ok (.iconst 0, 1) := by decide +kernel
theorem dX7_order_78 : decode cX7_order 78 = .ok (.ireturn, 1) := by decide +kernel
theorem dX7_registerAt_0 : decode cX7_registerAt 0 = .ok (.ldc_w 449, 3) := by decide +kernel
theorem dX7_registerAt_3 : decode cX7_registerAt 3 = .ok (.aload_n 0, 1) := by decide +kernel
theorem dX7_registerAt_4 : decode cX7_registerAt 4 = .ok (.iload_n 1, 1) := by decide +kernel
theorem dX7_registerAt_5 : decode cX7_registerAt 5 = .ok (.iload_n 2, 1) := by decide +kernel
theorem dX7_registerAt_6 : decode cX7_registerAt 6 = .ok (.invokestatic 426, 3) := by decide +kernel
theorem dX7_registerAt_9 : decode cX7_registerAt 9 = .ok (.ifCond .eq 5, 3) := by decide +kernel
theorem dX7_registerAt_12 : decode cX7_registerAt 12 = .ok (.iconst 0, 1) := by decide +kernel
theorem dX7_registerAt_13 : decode cX7_registerAt 13 = .ok (.ireturn, 1) := by decide +kernel
theorem dX7_registerAt_14 : decode cX7_registerAt 14 = .ok (.ldc_w 451, 3) := by decide +kernel
theorem dX7_registerAt_17 : decode cX7_registerAt 17 = .ok (.aload_n 0, 1) := by decide +kernel
theorem dX7_registerAt_18 : decode cX7_registerAt 18 = .ok (.iload_n 1, 1) := by decide +kernel
theorem dX7_registerAt_19 : decode cX7_registerAt 19 = .ok (.iload_n 2, 1) := by decide +kernel
theorem dX7_registerAt_20 : decode cX7_registerAt 20 = .ok (.invokestatic 426, 3) := by decide +kernel
theorem dX7_registerAt_23 : decode cX7_registerAt 23 = .ok (.ifCond .eq 6, 3) := by decide +kernel
theorem dX7_registerAt_26 : decode cX7_registerAt 26 = .ok (.bipush 8, 2) := by decide +kernel
theorem dX7_registerAt_28 : decode cX7_registerAt 28 = .ok (.ireturn, 1) := by decide +kernel
theorem dX7_registerAt_29 : decode cX7_registerAt 29 = .ok (.iload_n 2, 1) := by decide +kernel
theorem dX7_registerAt_30 : decode cX7_registerAt 30 = .ok (.iconst 2, 1) := by decide +kernel
theorem dX7_registerAt_31 : decode cX7_registerAt 31 = .ok (.if_icmp .lt 20, 3) := by decide +kernel
theorem dX7_registerAt_34 : decode cX7_registerAt 34 = .ok (.iload_n 2, 1) := by decide +kernel
theorem dX7_registerAt_35 : decode cX7_registerAt 35 = .ok (.iconst 3, 1) := by decide +kernel
theorem dX7_registerAt_36 : decode cX7_registerAt 36 = .ok (.if_icmp .gt 15, 3) := by decide +kernel
theorem dX7_registerAt_39 : decode cX7_registerAt 39 = .ok (.iload_n 1, 1) := by decide +kernel
theorem dX7_registerAt_40 : decode cX7_registerAt 40 = .ok (.ifCond .lt 11, 3) := by decide +kernel
theorem dX7_registerAt_43 : decode cX7_registerAt 43 = .ok (.iload_n 1, 1) := by decide +kernel
theorem dX7_registerAt_44 : decode cX7_registerAt 44 = .ok (.iload_n 2, 1) := by decide +kernel
theorem dX7_registerAt_45 : decode cX7_registerAt 45 = .ok (.iadd, 1) := by decide +kernel
theorem dX7_registerAt_46 : decode cX7_registerAt 46 = .ok (.aload_n 0, 1) := by decide +kernel
theorem dX7_registerAt_47 : decode cX7_registerAt 47 = .ok (.arraylength, 1) := by decide +kernel
theorem dX7_registerAt_48 : decode cX7_registerAt 48 = .ok (.if_icmp .le 5, 3) := by decide +kernel
theorem dX7_registerAt_51 : decode cX7_registerAt 51 = .ok (.iconst (-1), 1) := by decide +kernel
theorem dX7_registerAt_52 : decode cX7_registerAt 52 = .ok (.ireturn, 1) := by decide +kernel
theorem dX7_registerAt_53 : decode cX7_registerAt 53 = .ok (.aload_n 0, 1) := by decide +kernel
theorem dX7_registerAt_54 : decode cX7_registerAt 54 = .ok (.iload_n 1, 1) := by decide +kernel
theorem dX7_registerAt_55 : decode cX7_registerAt 55 = .ok (.baload, 1) := by decide +kernel
theorem dX7_registerAt_56 : decode cX7_registerAt 56 = .ok (.bipush 120, 2) := by decide +kernel
theorem dX7_registerAt_58 : decode cX7_registerAt 58 = .ok (.if_icmp .ne 14, 3) := by decide +kernel
theorem dX7_registerAt_61 : decode cX7_registerAt 61 = .ok (.aload_n 0, 1) := by decide +kernel
theorem dX7_registerAt_62 : decode cX7_registerAt 62 = .ok (.iload_n 1, 1) := by decide +kernel
theorem dX7_registerAt_63 : decode cX7_registerAt 63 = .ok (.iconst 1, 1) := by decide +kernel
theorem dX7_registerAt_64 : decode cX7_registerAt 64 = .ok (.iadd, 1) := by decide +kernel
theorem dX7_registerAt_65 : decode cX7_registerAt 65 = .ok (.iload_n 2, 1) := by decide +kernel
theorem dX7_registerAt_66 : decode cX7_registerAt 66 = .ok (.iconst 1, 1) := by decide +kernel
theorem dX7_registerAt_67 : decode cX7_registerAt 67 = .ok (.isub, 1) := by decide +kernel
theorem dX7_registerAt_68 : decode cX7_registerAt 68 = .ok (.invokestatic 453, 3) := by decide +kernel
theorem dX7_registerAt_71 : decode cX7_registerAt 71 = .ok (.ireturn, 1) := by decide +kernel
theorem dX7_registerAt_72 : decode cX7_registerAt 72 = .ok (.iconst 1, 1) := by decide +kernel
theorem dX7_registerAt_73 : decode cX7_registerAt 73 = .ok (.istore_n 3, 1) := by decide +kernel
theorem dX7_registerAt_74 : decode cX7_registerAt 74 = .ok (.iload_n 3, 1) := by decide +kernel
theorem dX7_registerAt_75 : decode cX7_registerAt 75 = .ok (.bipush 32, 2) := by decide +kernel
theorem dX7_registerAt_77 : decode cX7_registerAt 77 = .ok (.if_icmp .ge 21, 3) := by decide +kernel
theorem dX7_registerAt_80 : decode cX7_registerAt 80 = .ok (.iload_n 3, 1) := by decide +kernel
theorem dX7_registerAt_81 : decode cX7_registerAt 81 = .ok (.aload_n 0, 1) := by decide +kernel
theorem dX7_registerAt_82 : decode cX7_registerAt 82 = .ok (.iload_n 1, 1) := by decide +kernel
theorem dX7_registerAt_83 : decode cX7_registerAt 83 = .ok (.iload_n 2, 1) := by decide +kernel
theorem dX7_registerAt_84 : decode cX7_registerAt 84 = .ok (.invokestatic 457, 3) := by decide +kernel
theorem dX7_registerAt_87 : decode cX7_registerAt 87 = .ok (.ifCond .eq 5, 3) := by decide +kernel
theorem dX7_registerAt_90 : decode cX7_registerAt 90 = .ok (.iload_n 3, 1) := by decide +kernel
theorem dX7_registerAt_91 : decode cX7_registerAt 91 = .ok (.ireturn, 1) := by decide +kernel
theorem dX7_registerAt_92 : decode cX7_registerAt 92 = .ok (.iinc 3 1, 3) := by decide +kernel
theorem dX7_registerAt_95 : decode cX7_registerAt 95 = .ok (.goto (-21), 3) := by decide +kernel
theorem dX7_registerAt_98 : decode cX7_registerAt 98 = .ok (.iconst (-1), 1) := by decide +kernel
theorem dX7_registerAt_99 : decode cX7_registerAt 99 = .ok (.ireturn, 1) := by decide +kernel
theorem dX7_numbered_0 : decode cX7_numbered 0 = .ok (.iconst 0, 1) := by decide +kernel
theorem dX7_numbered_1 : decode cX7_numbered 1 = .ok (.istore_n 3, 1) := by decide +kernel
theorem dX7_numbered_2 : decode cX7_numbered 2 = .ok (.iconst 0, 1) := by decide +kernel
theorem dX7_numbered_3 : decode cX7_numbered 3 = .ok (.istore 4, 2) := by decide +kernel
theorem dX7_numbered_5 : decode cX7_numbered 5 = .ok (.iload 4, 2) := by decide +kernel
theorem dX7_numbered_7 : decode cX7_numbered 7 = .ok (.iload_n 2, 1) := by decide +kernel
theorem dX7_numbered_8 : decode cX7_numbered 8 = .ok (.if_icmp .ge 42, 3) := by decide +kernel
theorem dX7_numbered_11 : decode cX7_numbered 11 = .ok (.aload_n 0, 1) := by decide +kernel
theorem dX7_numbered_12 : decode cX7_numbered 12 = .ok (.iload_n 1, 1) := by decide +kernel
theorem dX7_numbered_13 : decode cX7_numbered 13 = .ok (.iload 4, 2) := by decide +kernel
theorem dX7_numbered_15 : decode cX7_numbered 15 = .ok (.iadd, 1) := by decide +kernel
theorem dX7_numbered_16 : decode cX7_numbered 16 = .ok (.baload, 1) := by decide +kernel
theorem dX7_numbered_17 : decode cX7_numbered 17 = .ok (.bipush 48, 2) := by decide +kernel
theorem dX7_numbered_19 : decode cX7_numbered 19 = .ok (.isub, 1) := by decide +kernel
theorem dX7_numbered_20 : decode cX7_numbered 20 = .ok (.istore 5, 2) := by decide +kernel
theorem dX7_numbered_22 : decode cX7_numbered 22 = .ok (.iload 5, 2) := by decide +kernel
theorem dX7_numbered_24 : decode cX7_numbered 24 = .ok (.ifCond .lt 10, 3) := by decide +kernel
theorem dX7_numbered_27 : decode cX7_numbered 27 = .ok (.iload 5, 2) := by decide +kernel
theorem dX7_numbered_29 : decode cX7_numbered 29 = .ok (.bipush 9, 2) := by decide +kernel
theorem dX7_numbered_31 : decode cX7_numbered 31 = .ok (.if_icmp .le 5, 3) := by decide +kernel
theorem dX7_numbered_34 : decode cX7_numbered 34 = .ok (.iconst (-1), 1) := by decide +kernel
theorem dX7_numbered_35 : decode cX7_numbered 35 = .ok (.ireturn, 1) := by decide +kernel
theorem dX7_numbered_36 : decode cX7_numbered 36 = .ok (.iload_n 3, 1) := by decide +kernel
theorem dX7_numbered_37 : decode cX7_numbered 37 = .ok (.bipush 10, 2) := by decide +kernel
theorem dX7_numbered_39 : decode cX7_numbered 39 = .ok (.imul, 1) := by decide +kernel
theorem dX7_numbered_40 : decode cX7_numbered 40 = .ok (.iload 5, 2) := by decide +kernel
theorem dX7_numbered_42 : decode cX7_numbered 42 = .ok (.iadd, 1) := by decide +kernel
theorem dX7_numbered_43 : decode cX7_numbered 43 = .ok (.istore_n 3, 1) := by decide +kernel
theorem dX7_numbered_44 : decode cX7_numbered 44 = .ok (.iinc 4 1, 3) := by decide +kernel
theorem dX7_numbered_47 : decode cX7_numbered 47 = .ok (.goto (-42), 3) := by decide +kernel
theorem dX7_numbered_50 : decode cX7_numbered 50 = .ok (.iload_n 3, 1) := by decide +kernel
theorem dX7_numbered_51 : decode cX7_numbered 51 = .ok (.bipush 31, 2) := by decide +kernel
theorem dX7_numbered_53 : decode cX7_numbered 53 = .ok (.if_icmp .gt 14, 3) := by decide +kernel
theorem dX7_numbered_56 : decode cX7_numbered 56 = .ok (.iload_n 2, 1) := by decide +kernel
theorem dX7_numbered_57 : decode cX7_numbered 57 = .ok (.iconst 2, 1) := by decide +kernel
theorem dX7_numbered_58 : decode cX7_numbered 58 = .ok (.if_icmp .ne 13, 3) := by decide +kernel
theorem dX7_numbered_61 : decode cX7_numbered 61 = .ok (.iload_n 3, 1) := by decide +kernel
theorem dX7_numbered_62 : decode cX7_numbered 62 = .ok (.bipush 10, 2) := by decide +kernel
theorem dX7_numbered_64 : decode cX7_numbered 64 = .ok (.if_icmp .ge 7, 3) := by decide +kernel
theorem dX7_numbered_67 : decode cX7_numbered 67 = .ok (.iconst (-1), 1) := by decide +kernel
theorem dX7_numbered_68 : decode cX7_numbered 68 = .ok (.goto 4, 3) := by decide +kernel
theorem dX7_numbered_71 : decode cX7_numbered 71 = .ok (.iload_n 3, 1) := by decide +kernel
theorem dX7_numbered_72 : decode cX7_numbered 72 = .ok (.ireturn, 1) := by decide +kernel
theorem dX7_isNamed_0 : decode cX7_isNamed 0 = .ok (.iconst 0, 1) := by decide +kernel
theorem dX7_isNamed_1 : decode cX7_isNamed 1 = .ok (.istore 4, 2) := by decide +kernel
theorem dX7_isNamed_3 : decode cX7_isNamed 3 = .ok (.iload 4, 2) := by decide +kernel
theorem dX7_isNamed_5 : decode cX7_isNamed 5 = .ok (.iconst 3, 1) := by decide +kernel
theorem dX7_isNamed_6 : decode cX7_isNamed 6 = .ok (.if_icmp .ge 49, 3) := by decide +kernel
theorem dX7_isNamed_9 : decode cX7_isNamed 9 = .ok (.ldc_w 461, 3) := by decide +kernel
theorem dX7_isNamed_12 : decode cX7_isNamed 12 = .ok (.iload_n 0, 1) := by decide +kernel
theorem dX7_isNamed_13 : decode cX7_isNamed 13 = .ok (.iconst 1, 1) := by decide +kernel
theorem dX7_isNamed_14 : decode cX7_isNamed 14 = .ok (.isub, 1) := by decide +kernel
theorem dX7_isNamed_15 : decode cX7_isNamed 15 = .ok (.iconst 3, 1) := by decide +kernel
theorem dX7_isNamed_16 : decode cX7_isNamed 16 = .ok (.imul, 1) := by decide +kernel
theorem dX7_isNamed_17 : decode cX7_isNamed 17 = .ok (.iload 4, 2) := by decide +kernel
theorem dX7_isNamed_19 : decode cX7_isNamed 19 = .ok (.iadd, 1) := by decide +kernel
theorem dX7_isNamed_20 : decode cX7_isNamed 20 = .ok (.invokevirtual 436, 3) := by decide +kernel
theorem dX7_isNamed_23 : decode cX7_isNamed 23 = .ok (.istore 5, 2) := by decide +kernel
theorem dX7_isNamed_25 : decode cX7_isNamed 25 = .ok (.iload 5, 2) := by decide +kernel
theorem dX7_isNamed_27 : decode cX7_isNamed 27 = .ok (.iload 4, 2) := by decide +kernel
theorem dX7_isNamed_29 : decode cX7_isNamed 29 = .ok (.iload_n 3, 1) := by decide +kernel
theorem dX7_isNamed_30 : decode cX7_isNamed 30 = .ok (.if_icmp .ge 12, 3) := by decide +kernel
theorem dX7_isNamed_33 : decode cX7_isNamed 33 = .ok (.aload_n 1, 1) := by decide +kernel
theorem dX7_isNamed_34 : decode cX7_isNamed 34 = .ok (.iload_n 2, 1) := by decide +kernel
theorem dX7_isNamed_35 : decode cX7_isNamed 35 = .ok (.iload 4, 2) := by decide +kernel
theorem dX7_isNamed_37 : decode cX7_isNamed 37 = .ok (.iadd, 1) := by decide +kernel
theorem dX7_isNamed_38 : decode cX7_isNamed 38 = .ok (.baload, 1) := by decide +kernel
theorem dX7_isNamed_39 : decode cX7_isNamed 39 = .ok (.goto 5, 3) := by decide +kernel
theorem dX7_isNamed_42 : decode cX7_isNamed 42 = .ok (.bipush 32, 2) := by decide +kernel
theorem dX7_isNamed_44 : decode cX7_isNamed 44 = .ok (.if_icmp .eq 5, 3) := by decide +kernel
theorem dX7_isNamed_47 : decode cX7_isNamed 47 = .ok (.iconst 0, 1) := by decide +kernel
theorem dX7_isNamed_48 : decode cX7_isNamed 48 = .ok (.ireturn, 1) := by decide +kernel
theorem dX7_isNamed_49 : decode cX7_isNamed 49 = .ok (.iinc 4 1, 3) := by decide +kernel
theorem dX7_isNamed_52 : decode cX7_isNamed 52 = .ok (.goto (-49), 3) := by decide +kernel
theorem dX7_isNamed_55 : decode cX7_isNamed 55 = .ok (.iconst 1, 1) := by decide +kernel
theorem dX7_isNamed_56 : decode cX7_isNamed 56 = .ok (.ireturn, 1) := by decide +kernel
theorem dX7_isTarget_0 : decode cX7_isTarget 0 = .ok (.iload_n 0, 1) := by decide +kernel
theorem dX7_isTarget_1 : decode cX7_isTarget 1 = .ok (.bipush 84, 2) := by decide +kernel
theorem dX7_isTarget_3 : decode cX7_isTarget 3 = .ok (.if_icmp .eq 21, 3) := by decide +kernel
theorem dX7_isTarget_6 : decode cX7_isTarget 6 = .ok (.iload_n 0, 1) := by decide +kernel
theorem dX7_isTarget_7 : decode cX7_isTarget 7 = .ok (.bipush 74, 2) := by decide +kernel
theorem dX7_isTarget_9 : decode cX7_isTarget 9 = .ok (.if_icmp .eq 15, 3) := by decide +kernel
theorem dX7_isTarget_12 : decode cX7_isTarget 12 = .ok (.iload_n 0, 1) := by decide +kernel
theorem dX7_isTarget_13 : decode cX7_isTarget 13 = .ok (.bipush 75, 2) := by decide +kernel
theorem dX7_isTarget_15 : decode cX7_isTarget 15 = .ok (.if_icmp .eq 9, 3) := by decide +kernel
theorem dX7_isTarget_18 : decode cX7_isTarget 18 = .ok (.iload_n 0, 1) := by decide +kernel
theorem dX7_isTarget_19 : decode cX7_isTarget 19 = .ok (.bipush 76, 2) := by decide +kernel
theorem dX7_isTarget_21 : decode cX7_isTarget 21 = .ok (.if_icmp .ne 7, 3) := by decide +kernel
theorem dX7_isTarget_24 : decode cX7_isTarget 24 = .ok (.iconst 1, 1) := by decide +kernel
theorem dX7_isTarget_25 : decode cX7_isTarget 25 = .ok (.goto 4, 3) := by decide +kernel
theorem dX7_isTarget_28 : decode cX7_isTarget 28 = .ok (.iconst 0, 1) := by decide +kernel
theorem dX7_isTarget_29 : decode cX7_isTarget 29 = .ok (.ireturn, 1) := by decide +kernel
theorem dX7_fits_0 : decode cX7_fits 0 = .ok (.iload_n 0, 1) := by decide +kernel
theorem dX7_fits_1 : decode cX7_fits 1 = .ok (.tableswitch 555 72 122 #[278, 258, 337, 363, 389, 433, 415, 555, 532, 532, 555, 258, 311, 294, 278, 479, 455, 501, 555, 555, 555, 555, 555, 555, 555, 555, 555, 555, 555, 555, 555, 555, 555, 555, 555, 555, 555, 229, 219, 555, 240, 240, 555, 555, 555, 555, 555, 555, 555, 555, 219], 219) := by decide +kernel
theorem dX7_fits_220 : decode cX7_fits 220 = .ok (.iload_n 1, 1) := by decide +kernel
theorem dX7_fits_221 : decode cX7_fits 221 = .ok (.ifCond .eq 7, 3) := by decide +kernel
theorem dX7_fits_224 : decode cX7_fits 224 = .ok (.iconst 1, 1) := by decide +kernel
theorem dX7_fits_225 : decode cX7_fits 225 = .ok (.goto 4, 3) := by decide +kernel
theorem dX7_fits_228 : decode cX7_fits 228 = .ok (.iconst 0, 1) := by decide +kernel
theorem dX7_fits_229 : decode cX7_fits 229 = .ok (.ireturn, 1) := by decide +kernel
theorem dX7_fits_230 : decode cX7_fits 230 = .ok (.iload_n 1, 1) := by decide +kernel
theorem dX7_fits_231 : decode cX7_fits 231 = .ok (.iconst 2, 1) := by decide +kernel
theorem dX7_fits_232 : decode cX7_fits 232 = .ok (.if_icmp .eq 7, 3) := by decide +kernel
theorem dX7_fits_235 : decode cX7_fits 235 = .ok (.iconst 1, 1) := by decide +kernel
theorem dX7_fits_236 : decode cX7_fits 236 = .ok (.goto 4, 3) := by decide +kernel
theorem dX7_fits_239 : decode cX7_fits 239 = .ok (.iconst 0, 1) := by decide +kernel
theorem dX7_fits_240 : decode cX7_fits 240 = .ok (.ireturn, 1) := by decide +kernel
theorem dX7_fits_241 : decode cX7_fits 241 = .ok (.iload_n 1, 1) := by decide +kernel
theorem dX7_fits_242 : decode cX7_fits 242 = .ok (.bipush 8, 2) := by decide +kernel
theorem dX7_fits_244 : decode cX7_fits 244 = .ok (.if_icmp .lt 13, 3) := by decide +kernel
theorem dX7_fits_247 : decode cX7_fits 247 = .ok (.iload_n 1, 1) := by decide +kernel
theorem dX7_fits_248 : decode cX7_fits 248 = .ok (.bipush 15, 2) := by decide +kernel
theorem dX7_fits_250 : decode cX7_fits 250 = .ok (.if_icmp .gt 7, 3) := by decide +kernel
theorem dX7_fits_253 : decode cX7_fits 253 = .ok (.iconst 1, 1) := by decide +kernel
theorem dX7_fits_254 : decode cX7_fits 254 = .ok (.goto 4, 3) := by decide +kernel
theorem dX7_fits_257 : decode cX7_fits 257 = .ok (.iconst 0, 1) := by decide +kernel
theorem dX7_fits_258 : decode cX7_fits 258 = .ok (.ireturn, 1) := by decide +kernel
theorem dX7_fits_259 : decode cX7_fits 259 = .ok (.iload_n 1, 1) := by decide +kernel
theorem dX7_fits_260 : decode cX7_fits 260 = .ok (.sipush (-2048), 3) := by decide +kernel
theorem dX7_fits_263 : decode cX7_fits 263 = .ok (.if_icmp .lt 14, 3) := by decide +kernel
theorem dX7_fits_266 : decode cX7_fits 266 = .ok (.iload_n 1, 1) := by decide +kernel
theorem dX7_fits_267 : decode cX7_fits 267 = .ok (.sipush 2047, 3) := by decide +kernel
theorem dX7_fits_270 : decode cX7_fits 270 = .ok (.if_icmp .gt 7, 3) := by decide +kernel
theorem dX7_fits_273 : decode cX7_fits 273 = .ok (.iconst 1, 1) := by decide +kernel
theorem dX7_fits_274 : decode cX7_fits 274 = .ok (.goto 4, 3) := by decide +kernel
theorem dX7_fits_277 : decode cX7_fits 277 = .ok (.iconst 0, 1) := by decide +kernel
theorem dX7_fits_278 : decode cX7_fits 278 = .ok (.ireturn, 1) := by decide +kernel
theorem dX7_fits_279 : decode cX7_fits 279 = .ok (.iload_n 1, 1) := by decide +kernel
theorem dX7_fits_280 : decode cX7_fits 280 = .ok (.ifCond .lt 13, 3) := by decide +kernel
theorem dX7_fits_283 : decode cX7_fits 283 = .ok (.iload_n 1, 1) := by decide +kernel
theorem dX7_fits_284 : decode cX7_fits 284 = .ok (.bipush 31, 2) := by decide +kernel
theorem dX7_fits_286 : decode cX7_fits 286 = .ok (.if_icmp .gt 7, 3) := by decide +kernel
theorem dX7_fits_289 : decode cX7_fits 289 = .ok (.iconst 1, 1) := by decide +kernel
theorem dX7_fits_290 : decode cX7_fits 290 = .ok (.goto 4, 3) := by decide +kernel
theorem dX7_fits_293 : decode cX7_fits 293 = .ok (.iconst 0, 1) := by decide +kernel
theorem dX7_fits_294 : decode cX7_fits 294 = .ok (.ireturn, 1) := by decide +kernel
theorem dX7_fits_295 : decode cX7_fits 295 = .ok (.iload_n 1, 1) := by decide +kernel
theorem dX7_fits_296 : decode cX7_fits 296 = .ok (.ifCond .lt 14, 3) := by decide +kernel
theorem dX7_fits_299 : decode cX7_fits 299 = .ok (.iload_n 1, 1) := by decide +kernel
theorem dX7_fits_300 : decode cX7_fits 300 = .ok (.ldc_w 463, 3) := by decide +kernel
theorem dX7_fits_303 : decode cX7_fits 303 = .ok (.if_icmp .gt 7, 3) := by decide +kernel
theorem dX7_fits_306 : decode cX7_fits 306 = .ok (.iconst 1, 1) := by decide +kernel
theorem dX7_fits_307 : decode cX7_fits 307 = .ok (.goto 4, 3) := by decide +kernel
theorem dX7_fits_310 : decode cX7_fits 310 = .ok (.iconst 0, 1) := by decide +kernel
theorem dX7_fits_311 : decode cX7_fits 311 = .ok (.ireturn, 1) := by decide +kernel
theorem dX7_fits_312 : decode cX7_fits 312 = .ok (.iload_n 1, 1) := by decide +kernel
theorem dX7_fits_313 : decode cX7_fits 313 = .ok (.sipush (-4096), 3) := by decide +kernel
theorem dX7_fits_316 : decode cX7_fits 316 = .ok (.if_icmp .lt 20, 3) := by decide +kernel
theorem dX7_fits_319 : decode cX7_fits 319 = .ok (.iload_n 1, 1) := by decide +kernel
theorem dX7_fits_320 : decode cX7_fits 320 = .ok (.sipush 4094, 3) := by decide +kernel
theorem dX7_fits_323 : decode cX7_fits 323 = .ok (.if_icmp .gt 13, 3) := by decide +kernel
theorem dX7_fits_326 : decode cX7_fits 326 = .ok (.iload_n 1, 1) := by decide +kernel
theorem dX7_fits_327 : decode cX7_fits 327 = .ok (.iconst 1, 1) := by decide +kernel
theorem dX7_fits_328 : decode cX7_fits 328 = .ok (.iand, 1) := by decide +kernel
theorem dX7_fits_329 : decode cX7_fits 329 = .ok (.ifCond .ne 7, 3) := by decide +kernel
theorem dX7_fits_332 : decode cX7_fits 332 = .ok (.iconst 1, 1) := by decide +kernel
theorem dX7_fits_333 : decode cX7_fits 333 = .ok (.goto 4, 3) := by decide +kernel
theorem dX7_fits_336 : decode cX7_fits 336 = .ok (.iconst 0, 1) := by decide +kernel
theorem dX7_fits_337 : decode cX7_fits 337 = .ok (.ireturn, 1) := by decide +kernel
theorem dX7_fits_338 : decode cX7_fits 338 = .ok (.iload_n 1, 1) := by decide +kernel
theorem dX7_fits_339 : decode cX7_fits 339 = .ok (.ldc_w 464, 3) := by decide +kernel
theorem dX7_fits_342 : decode cX7_fits 342 = .ok (.if_icmp .lt 20, 3) := by decide +kernel
theorem dX7_fits_345 : decode cX7_fits 345 = .ok (.iload_n 1, 1) := by decide +kernel
theorem dX7_fits_346 : decode cX7_fits 346 = .ok (.ldc_w 465, 3) := by decide +kernel
theorem dX7_fits_349 : decode cX7_fits 349 = .ok (.if_icmp .gt 13, 3) := by decide +kernel
theorem dX7_fits_352 : decode cX7_fits 352 = .ok (.iload_n 1, 1) := by decide +kernel
theorem dX7_fits_353 : decode cX7_fits 353 = .ok (.iconst 1, 1) := by decide +kernel
theorem dX7_fits_354 : decode cX7_fits 354 = .ok (.iand, 1) := by decide +kernel
theorem dX7_fits_355 : decode cX7_fits 355 = .ok (.ifCond .ne 7, 3) := by decide +kernel
theorem dX7_fits_358 : decode cX7_fits 358 = .ok (.iconst 1, 1) := by decide +kernel
theorem dX7_fits_359 : decode cX7_fits 359 = .ok (.goto 4, 3) := by decide +kernel
theorem dX7_fits_362 : decode cX7_fits 362 = .ok (.iconst 0, 1) := by decide +kernel
theorem dX7_fits_363 : decode cX7_fits 363 = .ok (.ireturn, 1) := by decide +kernel
theorem dX7_fits_364 : decode cX7_fits 364 = .ok (.iload_n 1, 1) := by decide +kernel
theorem dX7_fits_365 : decode cX7_fits 365 = .ok (.sipush (-2048), 3) := by decide +kernel
theorem dX7_fits_368 : decode cX7_fits 368 = .ok (.if_icmp .lt 20, 3) := by decide +kernel
theorem dX7_fits_371 : decode cX7_fits 371 = .ok (.iload_n 1, 1) := by decide +kernel
theorem dX7_fits_372 : decode cX7_fits 372 = .ok (.sipush 2046, 3) := by decide +kernel
theorem dX7_fits_375 : decode cX7_fits 375 = .ok (.if_icmp .gt 13, 3) := by decide +kernel
theorem dX7_fits_378 : decode cX7_fits 378 = .ok (.iload_n 1, 1) := by decide +kernel
theorem dX7_fits_379 : decode cX7_fits 379 = .ok (.iconst 1, 1) := by decide +kernel
theorem dX7_fits_380 : decode cX7_fits 380 = .ok (.iand, 1) := by decide +kernel
theorem dX7_fits_381 : decode cX7_fits 381 = .ok (.ifCond .ne 7, 3) := by decide +kernel
theorem dX7_fits_384 : decode cX7_fits 384 = .ok (.iconst 1, 1) := by decide +kernel
theorem dX7_fits_385 : decode cX7_fits 385 = .ok (.goto 4, 3) := by decide +kernel
theorem dX7_fits_388 : decode cX7_fits 388 = .ok (.iconst 0, 1) := by decide +kernel
theorem dX7_fits_389 : decode cX7_fits 389 = .ok (.ireturn, 1) := by decide +kernel
theorem dX7_fits_390 : decode cX7_fits 390 = .ok (.iload_n 1, 1) := by decide +kernel
theorem dX7_fits_391 : decode cX7_fits 391 = .ok (.sipush (-256), 3) := by decide +kernel
theorem dX7_fits_394 : decode cX7_fits 394 = .ok (.if_icmp .lt 20, 3) := by decide +kernel
theorem dX7_fits_397 : decode cX7_fits 397 = .ok (.iload_n 1, 1) := by decide +kernel
theorem dX7_fits_398 : decode cX7_fits 398 = .ok (.sipush 254, 3) := by decide +kernel
theorem dX7_fits_401 : decode cX7_fits 401 = .ok (.if_icmp .gt 13, 3) := by decide +kernel
theorem dX7_fits_404 : decode cX7_fits 404 = .ok (.iload_n 1, 1) := by decide +kernel
theorem dX7_fits_405 : decode cX7_fits 405 = .ok (.iconst 1, 1) := by decide +kernel
theorem dX7_fits_406 : decode cX7_fits 406 = .ok (.iand, 1) := by decide +kernel
theorem dX7_fits_407 : decode cX7_fits 407 = .ok (.ifCond .ne 7, 3) := by decide +kernel
theorem dX7_fits_410 : decode cX7_fits 410 = .ok (.iconst 1, 1) := by decide +kernel
theorem dX7_fits_411 : decode cX7_fits 411 = .ok (.goto 4, 3) := by decide +kernel
theorem dX7_fits_414 : decode cX7_fits 414 = .ok (.iconst 0, 1) := by decide +kernel
theorem dX7_fits_415 : decode cX7_fits 415 = .ok (.ireturn, 1) := by decide +kernel
theorem dX7_fits_416 : decode cX7_fits 416 = .ok (.iload_n 1, 1) := by decide +kernel
theorem dX7_fits_417 : decode cX7_fits 417 = .ok (.bipush (-32), 2) := by decide +kernel
theorem dX7_fits_419 : decode cX7_fits 419 = .ok (.if_icmp .lt 13, 3) := by decide +kernel
theorem dX7_fits_422 : decode cX7_fits 422 = .ok (.iload_n 1, 1) := by decide +kernel
theorem dX7_fits_423 : decode cX7_fits 423 = .ok (.bipush 31, 2) := by decide +kernel
theorem dX7_fits_425 : decode cX7_fits 425 = .ok (.if_icmp .gt 7, 3) := by decide +kernel
theorem dX7_fits_428 : decode cX7_fits 428 = .ok (.iconst 1, 1) := by decide +kernel
theorem dX7_fits_429 : decode cX7_fits 429 = .ok (.goto 4, 3) := by decide +kernel
theorem dX7_fits_432 : decode cX7_fits 432 = .ok (.iconst 0, 1) := by decide +kernel
theorem dX7_fits_433 : decode cX7_fits 433 = .ok (.ireturn, 1) := by decide +kernel
theorem dX7_fits_434 : decode cX7_fits 434 = .ok (.iload_n 1, 1) := by decide +kernel
theorem dX7_fits_435 : decode cX7_fits 435 = .ok (.bipush (-32), 2) := by decide +kernel
theorem dX7_fits_437 : decode cX7_fits 437 = .ok (.if_icmp .lt 17, 3) := by decide +kernel
theorem dX7_fits_440 : decode cX7_fits 440 = .ok (.iload_n 1, 1) := by decide +kernel
theorem dX7_fits_441 : decode cX7_fits 441 = .ok (.bipush 31, 2) := by decide +kernel
theorem dX7_fits_443 : decode cX7_fits 443 = .ok (.if_icmp .gt 11, 3) := by decide +kernel
theorem dX7_fits_446 : decode cX7_fits 446 = .ok (.iload_n 1, 1) := by decide +kernel
theorem dX7_fits_447 : decode cX7_fits 447 = .ok (.ifCond .eq 7, 3) := by decide +kernel
theorem dX7_fits_450 : decode cX7_fits 450 = .ok (.iconst 1, 1) := by decide +kernel
theorem dX7_fits_451 : decode cX7_fits 451 = .ok (.goto 4, 3) := by decide +kernel
theorem dX7_fits_454 : decode cX7_fits 454 = .ok (.iconst 0, 1) := by decide +kernel
theorem dX7_fits_455 : decode cX7_fits 455 = .ok (.ireturn, 1) := by decide +kernel
theorem dX7_fits_456 : decode cX7_fits 456 = .ok (.iload_n 1, 1) := by decide +kernel
theorem dX7_fits_457 : decode cX7_fits 457 = .ok (.iconst 4, 1) := by decide +kernel
theorem dX7_fits_458 : decode cX7_fits 458 = .ok (.if_icmp .lt 20, 3) := by decide +kernel
theorem dX7_fits_461 : decode cX7_fits 461 = .ok (.iload_n 1, 1) := by decide +kernel
theorem dX7_fits_462 : decode cX7_fits 462 = .ok (.sipush 1020, 3) := by decide +kernel
theorem dX7_fits_465 : decode cX7_fits 465 = .ok (.if_icmp .gt 13, 3) := by decide +kernel
theorem dX7_fits_468 : decode cX7_fits 468 = .ok (.iload_n 1, 1) := by decide +kernel
theorem dX7_fits_469 : decode cX7_fits 469 = .ok (.iconst 3, 1) := by decide +kernel
theorem dX7_fits_470 : decode cX7_fits 470 = .ok (.iand, 1) := by decide +kernel
theorem dX7_fits_471 : decode cX7_fits 471 = .ok (.ifCond .ne 7, 3) := by decide +kernel
theorem dX7_fits_474 : decode cX7_fits 474 = .ok (.iconst 1, 1) := by decide +kernel
theorem dX7_fits_475 : decode cX7_fits 475 = .ok (.goto 4, 3) := by decide +kernel
theorem dX7_fits_478 : decode cX7_fits 478 = .ok (.iconst 0, 1) := by decide +kernel
theorem dX7_fits_479 : decode cX7_fits 479 = .ok (.ireturn, 1) := by decide +kernel
theorem dX7_fits_480 : decode cX7_fits 480 = .ok (.iload_n 1, 1) := by decide +kernel
theorem dX7_fits_481 : decode cX7_fits 481 = .ok (.ifCond .lt 19, 3) := by decide +kernel
theorem dX7_fits_484 : decode cX7_fits 484 = .ok (.iload_n 1, 1) := by decide +kernel
theorem dX7_fits_485 : decode cX7_fits 485 = .ok (.bipush 124, 2) := by decide +kernel
theorem dX7_fits_487 : decode cX7_fits 487 = .ok (.if_icmp .gt 13, 3) := by decide +kernel
theorem dX7_fits_490 : decode cX7_fits 490 = .ok (.iload_n 1, 1) := by decide +kernel
theorem dX7_fits_491 : decode cX7_fits 491 = .ok (.iconst 3, 1) := by decide +kernel
theorem dX7_fits_492 : decode cX7_fits 492 = .ok (.iand, 1) := by decide +kernel
theorem dX7_fits_493 : decode cX7_fits 493 = .ok (.ifCond .ne 7, 3) := by decide +kernel
theorem dX7_fits_496 : decode cX7_fits 496 = .ok (.iconst 1, 1) := by decide +kernel
theorem dX7_fits_497 : decode cX7_fits 497 = .ok (.goto 4, 3) := by decide +kernel
theorem dX7_fits_500 : decode cX7_fits 500 = .ok (.iconst 0, 1) := by decide +kernel
theorem dX7_fits_501 : decode cX7_fits 501 = .ok (.ireturn, 1) := by decide +kernel
theorem dX7_fits_502 : decode cX7_fits 502 = .ok (.iload_n 1, 1) := by decide +kernel
theorem dX7_fits_503 : decode cX7_fits 503 = .ok (.sipush (-512), 3) := by decide +kernel
theorem dX7_fits_506 : decode cX7_fits 506 = .ok (.if_icmp .lt 25, 3) := by decide +kernel
theorem dX7_fits_509 : decode cX7_fits 509 = .ok (.iload_n 1, 1) := by decide +kernel
theorem dX7_fits_510 : decode cX7_fits 510 = .ok (.sipush 496, 3) := by decide +kernel
theorem dX7_fits_513 : decode cX7_fits 513 = .ok (.if_icmp .gt 18, 3) := by decide +kernel
theorem dX7_fits_516 : decode cX7_fits 516 = .ok (.iload_n 1, 1) := by decide +kernel
theorem dX7_fits_517 : decode cX7_fits 517 = .ok (.bipush 15, 2) := by decide +kernel
theorem dX7_fits_519 : decode cX7_fits 519 = .ok (.iand, 1) := by decide +kernel
theorem dX7_fits_520 : decode cX7_fits 520 = .ok (.ifCond .ne 11, 3) := by decide +kernel
theorem dX7_fits_523 : decode cX7_fits 523 = .ok (.iload_n 1, 1) := by decide +kernel
theorem dX7_fits_524 : decode cX7_fits 524 = .ok (.ifCond .eq 7, 3) := by decide +kernel
theorem dX7_fits_527 : decode cX7_fits 527 = .ok (.iconst 1, 1) := by decide +kernel
theorem dX7_fits_528 : decode cX7_fits 528 = .ok (.goto 4, 3) := by decide +kernel
theorem dX7_fits_531 : decode cX7_fits 531 = .ok (.iconst 0, 1) := by decide +kernel
theorem dX7_fits_532 : decode cX7_fits 532 = .ok (.ireturn, 1) := by decide +kernel
theorem dX7_fits_533 : decode cX7_fits 533 = .ok (.iload_n 1, 1) := by decide +kernel
theorem dX7_fits_534 : decode cX7_fits 534 = .ok (.ifCond .lt 20, 3) := by decide +kernel
theorem dX7_fits_537 : decode cX7_fits 537 = .ok (.iload_n 1, 1) := by decide +kernel
theorem dX7_fits_538 : decode cX7_fits 538 = .ok (.sipush 252, 3) := by decide +kernel
theorem dX7_fits_541 : decode cX7_fits 541 = .ok (.if_icmp .gt 13, 3) := by decide +kernel
theorem dX7_fits_544 : decode cX7_fits 544 = .ok (.iload_n 1, 1) := by decide +kernel
theorem dX7_fits_545 : decode cX7_fits 545 = .ok (.iconst 3, 1) := by decide +kernel
theorem dX7_fits_546 : decode cX7_fits 546 = .ok (.iand, 1) := by decide +kernel
theorem dX7_fits_547 : decode cX7_fits 547 = .ok (.ifCond .ne 7, 3) := by decide +kernel
theorem dX7_fits_550 : decode cX7_fits 550 = .ok (.iconst 1, 1) := by decide +kernel
theorem dX7_fits_551 : decode cX7_fits 551 = .ok (.goto 4, 3) := by decide +kernel
theorem dX7_fits_554 : decode cX7_fits 554 = .ok (.iconst 0, 1) := by decide +kernel
theorem dX7_fits_555 : decode cX7_fits 555 = .ok (.ireturn, 1) := by decide +kernel
theorem dX7_fits_556 : decode cX7_fits 556 = .ok (.iconst 1, 1) := by decide +kernel
theorem dX7_fits_557 : decode cX7_fits 557 = .ok (.ireturn, 1) := by decide +kernel
theorem dX7_placed_0 : decode cX7_placed 0 = .ok (.iload_n 0, 1) := by decide +kernel
theorem dX7_placed_1 : decode cX7_placed 1 = .ok (.tableswitch 370 72 122 #[258, 253, 329, 370, 370, 370, 370, 370, 370, 370, 370, 266, 290, 285, 370, 370, 370, 370, 370, 370, 370, 370, 370, 370, 370, 224, 229, 370, 219, 370, 370, 370, 370, 370, 370, 370, 370, 219, 219, 370, 238, 245, 370, 234, 370, 370, 370, 370, 370, 370, 234], 219) := by decide +kernel
theorem dX7_placed_220 : decode cX7_placed 220 = .ok (.iload_n 1, 1) := by decide +kernel
theorem dX7_placed_221 : decode cX7_placed 221 = .ok (.bipush 7, 2) := by decide +kernel
theorem dX7_placed_223 : decode cX7_placed 223 = .ok (.ishl, 1) := by decide +kernel
theorem dX7_placed_224 : decode cX7_placed 224 = .ok (.ireturn, 1) := by decide +kernel
theorem dX7_placed_225 : decode cX7_placed 225 = .ok (.iload_n 1, 1) := by decide +kernel
theorem dX7_placed_226 : decode cX7_placed 226 = .ok (.bipush 15, 2) := by decide +kernel
theorem dX7_placed_228 : decode cX7_placed 228 = .ok (.ishl, 1) := by decide +kernel
theorem dX7_placed_229 : decode cX7_placed 229 = .ok (.ireturn, 1) := by decide +kernel
theorem dX7_placed_230 : decode cX7_placed 230 = .ok (.iload_n 1, 1) := by decide +kernel
theorem dX7_placed_231 : decode cX7_placed 231 = .ok (.bipush 20, 2) := by decide +kernel
theorem dX7_placed_233 : decode cX7_placed 233 = .ok (.ishl, 1) := by decide +kernel
theorem dX7_placed_234 : decode cX7_placed 234 = .ok (.ireturn, 1) := by decide +kernel
theorem dX7_placed_235 : decode cX7_placed 235 = .ok (.iload_n 1, 1) := by decide +kernel
theorem dX7_placed_236 : decode cX7_placed 236 = .ok (.iconst 2, 1) := by decide +kernel
theorem dX7_placed_237 : decode cX7_placed 237 = .ok (.ishl, 1) := by decide +kernel
theorem dX7_placed_238 : decode cX7_placed 238 = .ok (.ireturn, 1) := by decide +kernel
theorem dX7_placed_239 : decode cX7_placed 239 = .ok (.iload_n 1, 1) := by decide +kernel
theorem dX7_placed_240 : decode cX7_placed 240 = .ok (.bipush 7, 2) := by decide +kernel
theorem dX7_placed_242 : decode cX7_placed 242 = .ok (.iand, 1) := by decide +kernel
theorem dX7_placed_243 : decode cX7_placed 243 = .ok (.iconst 2, 1) := by decide +kernel
theorem dX7_placed_244 : decode cX7_placed 244 = .ok (.ishl, 1) := by decide +kernel
theorem dX7_placed_245 : decode cX7_placed 245 = .ok (.ireturn, 1) := by decide +kernel
theorem dX7_placed_246 : decode cX7_placed 246 = .ok (.iload_n 1, 1) := by decide +kernel
theorem dX7_placed_247 : decode cX7_placed 247 = .ok (.bipush 7, 2) := by decide +kernel
theorem dX7_placed_249 : decode cX7_placed 249 = .ok (.iand, 1) := by decide +kernel
theorem dX7_placed_250 : decode cX7_placed 250 = .ok (.bipush 7, 2) := by decide +kernel
theorem dX7_placed_252 : decode cX7_placed 252 = .ok (.ishl, 1) := by decide +kernel
theorem dX7_placed_253 : decode cX7_placed 253 = .ok (.ireturn, 1) := by decide +kernel
theorem dX7_placed_254 : decode cX7_placed 254 = .ok (.iload_n 1, 1) := by decide +kernel
theorem dX7_placed_255 : decode cX7_placed 255 = .ok (.bipush 20, 2) := by decide +kernel
theorem dX7_placed_257 : decode cX7_placed 257 = .ok (.ishl, 1) := by decide +kernel
theorem dX7_placed_258 : decode cX7_placed 258 = .ok (.ireturn, 1) := by decide +kernel
theorem dX7_placed_259 : decode cX7_placed 259 = .ok (.iload_n 1, 1) := by decide +kernel
theorem dX7_placed_260 : decode cX7_placed 260 = .ok (.bipush 31, 2) := by decide +kernel
theorem dX7_placed_262 : decode cX7_placed 262 = .ok (.iand, 1) := by decide +kernel
theorem dX7_placed_263 : decode cX7_placed 263 = .ok (.bipush 20, 2) := by decide +kernel
theorem dX7_placed_265 : decode cX7_placed 265 = .ok (.ishl, 1) := by decide +kernel
theorem dX7_placed_266 : decode cX7_placed 266 = .ok (.ireturn, 1) := by decide +kernel
theorem dX7_placed_267 : decode cX7_placed 267 = .ok (.iload_n 1, 1) := by decide +kernel
theorem dX7_placed_268 : decode cX7_placed 268 = .ok (.iconst 5, 1) := by decide +kernel
theorem dX7_placed_269 : decode cX7_placed 269 = .ok (.bipush 7, 2) := by decide +kernel
theorem dX7_placed_271 : decode cX7_placed 271 = .ok (.bipush 25, 2) := by decide +kernel
theorem dX7_placed_273 : decode cX7_placed 273 = .ok (.invokestatic 466, 3) := by decide +kernel
theorem dX7_placed_276 : decode cX7_placed 276 = .ok (.iload_n 1, 1) := by decide +kernel
theorem dX7_placed_277 : decode cX7_placed 277 = .ok (.iconst 0, 1) := by decide +kernel
theorem dX7_placed_278 : decode cX7_placed 278 = .ok (.iconst 5, 1) := by decide +kernel
theorem dX7_placed_279 : decode cX7_placed 279 = .ok (.bipush 7, 2) := by decide +kernel
theorem dX7_placed_281 : decode cX7_placed 281 = .ok (.invokestatic 466, 3) := by decide +kernel
theorem dX7_placed_284 : decode cX7_placed 284 = .ok (.ior, 1) := by decide +kernel
theorem dX7_placed_285 : decode cX7_placed 285 = .ok (.ireturn, 1) := by decide +kernel
theorem dX7_placed_286 : decode cX7_placed 286 = .ok (.iload_n 1, 1) := by decide +kernel
theorem dX7_placed_287 : decode cX7_placed 287 = .ok (.bipush 12, 2) := by decide +kernel
theorem dX7_placed_289 : decode cX7_placed 289 = .ok (.ishl, 1) := by decide +kernel
theorem dX7_placed_290 : decode cX7_placed 290 = .ok (.ireturn, 1) := by decide +kernel
theorem dX7_placed_291 : decode cX7_placed 291 = .ok (.iload_n 1, 1) := by decide +kernel
theorem dX7_placed_292 : decode cX7_placed 292 = .ok (.bipush 12, 2) := by decide +kernel
theorem dX7_placed_294 : decode cX7_placed 294 = .ok (.iconst 1, 1) := by decide +kernel
theorem dX7_placed_295 : decode cX7_placed 295 = .ok (.bipush 31, 2) := by decide +kernel
theorem dX7_placed_297 : decode cX7_placed 297 = .ok (.invokestatic 466, 3) := by decide +kernel
theorem dX7_placed_300 : decode cX7_placed 300 = .ok (.iload_n 1, 1) := by decide +kernel
theorem dX7_placed_301 : decode cX7_placed 301 = .ok (.iconst 5, 1) := by decide +kernel
theorem dX7_placed_302 : decode cX7_placed 302 = .ok (.bipush 6, 2) := by decide +kernel
theorem dX7_placed_304 : decode cX7_placed 304 = .ok (.bipush 25, 2) := by decide +kernel
theorem dX7_placed_306 : decode cX7_placed 306 = .ok (.invokestatic 466, 3) := by decide +kernel
theorem dX7_placed_309 : decode cX7_placed 309 = .ok (.ior, 1) := by decide +kernel
theorem dX7_placed_310 : decode cX7_placed 310 = .ok (.iload_n 1, 1) := by decide +kernel
theorem dX7_placed_311 : decode cX7_placed 311 = .ok (.iconst 1, 1) := by decide +kernel
theorem dX7_placed_312 : decode cX7_placed 312 = .ok (.iconst 4, 1) := by decide +kernel
theorem dX7_placed_313 : decode cX7_placed 313 = .ok (.bipush 8, 2) := by decide +kernel
theorem dX7_placed_315 : decode cX7_placed 315 = .ok (.invokestatic 466, 3) := by decide +kernel
theorem dX7_placed_318 : decode cX7_placed 318 = .ok (.ior, 1) := by decide +kernel
theorem dX7_placed_319 : decode cX7_placed 319 = .ok (.iload_n 1, 1) := by decide +kernel
theorem dX7_placed_320 : decode cX7_placed 320 = .ok (.bipush 11, 2) := by decide +kernel
theorem dX7_placed_322 : decode cX7_placed 322 = .ok (.iconst 1, 1) := by decide +kernel
theorem dX7_placed_323 : decode cX7_placed 323 = .ok (.bipush 7, 2) := by decide +kernel
theorem dX7_placed_325 : decode cX7_placed 325 = .ok (.invokestatic 466, 3) := by decide +kernel
theorem dX7_placed_328 : decode cX7_placed 328 = .ok (.ior, 1) := by decide +kernel
theorem dX7_placed_329 : decode cX7_placed 329 = .ok (.ireturn, 1) := by decide +kernel
theorem dX7_placed_330 : decode cX7_placed 330 = .ok (.iload_n 1, 1) := by decide +kernel
theorem dX7_placed_331 : decode cX7_placed 331 = .ok (.bipush 20, 2) := by decide +kernel
theorem dX7_placed_333 : decode cX7_placed 333 = .ok (.iconst 1, 1) := by decide +kernel
theorem dX7_placed_334 : decode cX7_placed 334 = .ok (.bipush 31, 2) := by decide +kernel
theorem dX7_placed_336 : decode cX7_placed 336 = .ok (.invokestatic 466, 3) := by decide +kernel
theorem dX7_placed_339 : decode cX7_placed 339 = .ok (.iload_n 1, 1) := by decide +kernel
theorem dX7_placed_340 : decode cX7_placed 340 = .ok (.iconst 1, 1) := by decide +kernel
theorem dX7_placed_341 : decode cX7_placed 341 = .ok (.bipush 10, 2) := by decide +kernel
theorem dX7_placed_343 : decode cX7_placed 343 = .ok (.bipush 21, 2) := by decide +kernel
theorem dX7_placed_345 : decode cX7_placed 345 = .ok (.invokestatic 466, 3) := by decide +kernel
theorem dX7_placed_348 : decode cX7_placed 348 = .ok (.ior, 1) := by decide +kernel
theorem dX7_placed_349 : decode cX7_placed 349 = .ok (.iload_n 1, 1) := by decide +kernel
theorem dX7_placed_350 : decode cX7_placed 350 = .ok (.bipush 11, 2) := by decide +kernel
theorem dX7_placed_352 : decode cX7_placed 352 = .ok (.iconst 1, 1) := by decide +kernel
theorem dX7_placed_353 : decode cX7_placed 353 = .ok (.bipush 20, 2) := by decide +kernel
theorem dX7_placed_355 : decode cX7_placed 355 = .ok (.invokestatic 466, 3) := by decide +kernel
theorem dX7_placed_358 : decode cX7_placed 358 = .ok (.ior, 1) := by decide +kernel
theorem dX7_placed_359 : decode cX7_placed 359 = .ok (.iload_n 1, 1) := by decide +kernel
theorem dX7_placed_360 : decode cX7_placed 360 = .ok (.bipush 12, 2) := by decide +kernel
theorem dX7_placed_362 : decode cX7_placed 362 = .ok (.bipush 8, 2) := by decide +kernel
theorem dX7_placed_364 : decode cX7_placed 364 = .ok (.bipush 12, 2) := by decide +kernel
theorem dX7_placed_366 : decode cX7_placed 366 = .ok (.invokestatic 466, 3) := by decide +kernel
theorem dX7_placed_369 : decode cX7_placed 369 = .ok (.ior, 1) := by decide +kernel
theorem dX7_placed_370 : decode cX7_placed 370 = .ok (.ireturn, 1) := by decide +kernel
theorem dX7_placed_371 : decode cX7_placed 371 = .ok (.iload_n 0, 1) := by decide +kernel
theorem dX7_placed_372 : decode cX7_placed 372 = .ok (.iload_n 1, 1) := by decide +kernel
theorem dX7_placed_373 : decode cX7_placed 373 = .ok (.invokestatic 470, 3) := by decide +kernel
theorem dX7_placed_376 : decode cX7_placed 376 = .ok (.ireturn, 1) := by decide +kernel
theorem dX7_placedShort_0 : decode cX7_placedShort 0 = .ok (.iload_n 0, 1) := by decide +kernel
theorem dX7_placedShort_1 : decode cX7_placedShort 1 = .ok (.tableswitch 372 75 89 #[75, 150, 194, 194, 372, 327, 353, 372, 372, 372, 372, 319, 247, 211, 274], 75) := by decide +kernel
theorem dX7_placedShort_76 : decode cX7_placedShort 76 = .ok (.iload_n 1, 1) := by decide +kernel
theorem dX7_placedShort_77 : decode cX7_placedShort 77 = .ok (.bipush 11, 2) := by decide +kernel
theorem dX7_placedShort_79 : decode cX7_placedShort 79 = .ok (.iconst 1, 1) := by decide +kernel
theorem dX7_placedShort_80 : decode cX7_placedShort 80 = .ok (.bipush 12, 2) := by decide +kernel
theorem dX7_placedShort_82 : decode cX7_placedShort 82 = .ok (.invokestatic 466, 3) := by decide +kernel
theorem dX7_placedShort_85 : decode cX7_placedShort 85 = .ok (.iload_n 1, 1) := by decide +kernel
theorem dX7_placedShort_86 : decode cX7_placedShort 86 = .ok (.iconst 4, 1) := by decide +kernel
theorem dX7_placedShort_87 : decode cX7_placedShort 87 = .ok (.iconst 1, 1) := by decide +kernel
theorem dX7_placedShort_88 : decode cX7_placedShort 88 = .ok (.bipush 11, 2) := by decide +kernel
theorem dX7_placedShort_90 : decode cX7_placedShort 90 = .ok (.invokestatic 466, 3) := by decide +kernel
theorem dX7_placedShort_93 : decode cX7_placedShort 93 = .ok (.ior, 1) := by decide +kernel
theorem dX7_placedShort_94 : decode cX7_placedShort 94 = .ok (.iload_n 1, 1) := by decide +kernel
theorem dX7_placedShort_95 : decode cX7_placedShort 95 = .ok (.bipush 8, 2) := by decide +kernel
theorem dX7_placedShort_97 : decode cX7_placedShort 97 = .ok (.iconst 2, 1) := by decide +kernel
theorem dX7_placedShort_98 : decode cX7_placedShort 98 = .ok (.bipush 9, 2) := by decide +kernel
theorem dX7_placedShort_100 : decode cX7_placedShort 100 = .ok (.invokestatic 466, 3) := by decide +kernel
theorem dX7_placedShort_103 : decode cX7_placedShort 103 = .ok (.ior, 1) := by decide +kernel
theorem dX7_placedShort_104 : decode cX7_placedShort 104 = .ok (.iload_n 1, 1) := by decide +kernel
theorem dX7_placedShort_105 : decode cX7_placedShort 105 = .ok (.bipush 10, 2) := by decide +kernel
theorem dX7_placedShort_107 : decode cX7_placedShort 107 = .ok (.iconst 1, 1) := by decide +kernel
theorem dX7_placedShort_108 : decode cX7_placedShort 108 = .ok (.bipush 8, 2) := by decide +kernel
theorem dX7_placedShort_110 : decode cX7_placedShort 110 = .ok (.invokestatic 466, 3) := by decide +kernel
theorem dX7_placedShort_113 : decode cX7_placedShort 113 = .ok (.ior, 1) := by decide +kernel
theorem dX7_placedShort_114 : decode cX7_placedShort 114 = .ok (.iload_n 1, 1) := by decide +kernel
theorem dX7_placedShort_115 : decode cX7_placedShort 115 = .ok (.bipush 6, 2) := by decide +kernel
theorem dX7_placedShort_117 : decode cX7_placedShort 117 = .ok (.iconst 1, 1) := by decide +kernel
theorem dX7_placedShort_118 : decode cX7_placedShort 118 = .ok (.bipush 7, 2) := by decide +kernel
theorem dX7_placedShort_120 : decode cX7_placedShort 120 = .ok (.invokestatic 466, 3) := by decide +kernel
theorem dX7_placedShort_123 : decode cX7_placedShort 123 = .ok (.ior, 1) := by decide +kernel
theorem dX7_placedShort_124 : decode cX7_placedShort 124 = .ok (.iload_n 1, 1) := by decide +kernel
theorem dX7_placedShort_125 : decode cX7_placedShort 125 = .ok (.bipush 7, 2) := by decide +kernel
theorem dX7_placedShort_127 : decode cX7_placedShort 127 = .ok (.iconst 1, 1) := by decide +kernel
theorem dX7_placedShort_128 : decode cX7_placedShort 128 = .ok (.bipush 6, 2) := by decide +kernel
theorem dX7_placedShort_130 : decode cX7_placedShort 130 = .ok (.invokestatic 466, 3) := by decide +kernel
theorem dX7_placedShort_133 : decode cX7_placedShort 133 = .ok (.ior, 1) := by decide +kernel
