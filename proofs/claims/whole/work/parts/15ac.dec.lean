theorem dX1_add_19 : decode cX1_add 19 = .ok (.getfield 65, 3) := by decide +kernel
theorem dX1_add_22 : decode cX1_add 22 = .ok (.bipush 8, 2) := by decide +kernel
theorem dX1_add_24 : decode cX1_add 24 = .ok (.imul, 1) := by decide +kernel
theorem dX1_add_25 : decode cX1_add 25 = .ok (.istore 5, 2) := by decide +kernel
theorem dX1_add_27 : decode cX1_add 27 = .ok (.aload_n 0, 1) := by decide +kernel
theorem dX1_add_28 : decode cX1_add 28 = .ok (.getfield 19, 3) := by decide +kernel
theorem dX1_add_31 : decode cX1_add 31 = .ok (.iload 5, 2) := by decide +kernel
theorem dX1_add_33 : decode cX1_add 33 = .ok (.iconst 0, 1) := by decide +kernel
theorem dX1_add_34 : decode cX1_add 34 = .ok (.iadd, 1) := by decide +kernel
theorem dX1_add_35 : decode cX1_add 35 = .ok (.aload_n 0, 1) := by decide +kernel
theorem dX1_add_36 : decode cX1_add 36 = .ok (.getfield 36, 3) := by decide +kernel
theorem dX1_add_39 : decode cX1_add 39 = .ok (.iastore, 1) := by decide +kernel
theorem dX1_add_40 : decode cX1_add 40 = .ok (.aload_n 0, 1) := by decide +kernel
theorem dX1_add_41 : decode cX1_add 41 = .ok (.getfield 19, 3) := by decide +kernel
theorem dX1_add_44 : decode cX1_add 44 = .ok (.iload 5, 2) := by decide +kernel
theorem dX1_add_46 : decode cX1_add 46 = .ok (.iconst 1, 1) := by decide +kernel
theorem dX1_add_47 : decode cX1_add 47 = .ok (.iadd, 1) := by decide +kernel
theorem dX1_add_48 : decode cX1_add 48 = .ok (.aload_n 0, 1) := by decide +kernel
theorem dX1_add_49 : decode cX1_add 49 = .ok (.getfield 71, 3) := by decide +kernel
theorem dX1_add_52 : decode cX1_add 52 = .ok (.iastore, 1) := by decide +kernel
theorem dX1_add_53 : decode cX1_add 53 = .ok (.aload_n 0, 1) := by decide +kernel
theorem dX1_add_54 : decode cX1_add 54 = .ok (.getfield 19, 3) := by decide +kernel
theorem dX1_add_57 : decode cX1_add 57 = .ok (.iload 5, 2) := by decide +kernel
theorem dX1_add_59 : decode cX1_add 59 = .ok (.iconst 2, 1) := by decide +kernel
theorem dX1_add_60 : decode cX1_add 60 = .ok (.iadd, 1) := by decide +kernel
theorem dX1_add_61 : decode cX1_add 61 = .ok (.iconst 0, 1) := by decide +kernel
theorem dX1_add_62 : decode cX1_add 62 = .ok (.iastore, 1) := by decide +kernel
theorem dX1_add_63 : decode cX1_add 63 = .ok (.aload_n 0, 1) := by decide +kernel
theorem dX1_add_64 : decode cX1_add 64 = .ok (.getfield 19, 3) := by decide +kernel
theorem dX1_add_67 : decode cX1_add 67 = .ok (.iload 5, 2) := by decide +kernel
theorem dX1_add_69 : decode cX1_add 69 = .ok (.iconst 3, 1) := by decide +kernel
theorem dX1_add_70 : decode cX1_add 70 = .ok (.iadd, 1) := by decide +kernel
theorem dX1_add_71 : decode cX1_add 71 = .ok (.iload_n 2, 1) := by decide +kernel
theorem dX1_add_72 : decode cX1_add 72 = .ok (.iastore, 1) := by decide +kernel
theorem dX1_add_73 : decode cX1_add 73 = .ok (.aload_n 0, 1) := by decide +kernel
theorem dX1_add_74 : decode cX1_add 74 = .ok (.getfield 19, 3) := by decide +kernel
theorem dX1_add_77 : decode cX1_add 77 = .ok (.iload 5, 2) := by decide +kernel
theorem dX1_add_79 : decode cX1_add 79 = .ok (.iconst 4, 1) := by decide +kernel
theorem dX1_add_80 : decode cX1_add 80 = .ok (.iadd, 1) := by decide +kernel
theorem dX1_add_81 : decode cX1_add 81 = .ok (.iload_n 1, 1) := by decide +kernel
theorem dX1_add_82 : decode cX1_add 82 = .ok (.iastore, 1) := by decide +kernel
theorem dX1_add_83 : decode cX1_add 83 = .ok (.aload_n 0, 1) := by decide +kernel
theorem dX1_add_84 : decode cX1_add 84 = .ok (.getfield 19, 3) := by decide +kernel
theorem dX1_add_87 : decode cX1_add 87 = .ok (.iload 5, 2) := by decide +kernel
theorem dX1_add_89 : decode cX1_add 89 = .ok (.iconst 5, 1) := by decide +kernel
theorem dX1_add_90 : decode cX1_add 90 = .ok (.iadd, 1) := by decide +kernel
theorem dX1_add_91 : decode cX1_add 91 = .ok (.iload_n 3, 1) := by decide +kernel
theorem dX1_add_92 : decode cX1_add 92 = .ok (.iastore, 1) := by decide +kernel
theorem dX1_add_93 : decode cX1_add 93 = .ok (.aload_n 0, 1) := by decide +kernel
theorem dX1_add_94 : decode cX1_add 94 = .ok (.getfield 19, 3) := by decide +kernel
theorem dX1_add_97 : decode cX1_add 97 = .ok (.iload 5, 2) := by decide +kernel
theorem dX1_add_99 : decode cX1_add 99 = .ok (.bipush 6, 2) := by decide +kernel
theorem dX1_add_101 : decode cX1_add 101 = .ok (.iadd, 1) := by decide +kernel
theorem dX1_add_102 : decode cX1_add 102 = .ok (.iload 4, 2) := by decide +kernel
theorem dX1_add_104 : decode cX1_add 104 = .ok (.iastore, 1) := by decide +kernel
theorem dX1_add_105 : decode cX1_add 105 = .ok (.aload_n 0, 1) := by decide +kernel
theorem dX1_add_106 : decode cX1_add 106 = .ok (.getfield 19, 3) := by decide +kernel
theorem dX1_add_109 : decode cX1_add 109 = .ok (.iload 5, 2) := by decide +kernel
theorem dX1_add_111 : decode cX1_add 111 = .ok (.bipush 7, 2) := by decide +kernel
theorem dX1_add_113 : decode cX1_add 113 = .ok (.iadd, 1) := by decide +kernel
theorem dX1_add_114 : decode cX1_add 114 = .ok (.iconst 0, 1) := by decide +kernel
theorem dX1_add_115 : decode cX1_add 115 = .ok (.iastore, 1) := by decide +kernel
theorem dX1_add_116 : decode cX1_add 116 = .ok (.aload_n 0, 1) := by decide +kernel
theorem dX1_add_117 : decode cX1_add 117 = .ok (.dup, 1) := by decide +kernel
theorem dX1_add_118 : decode cX1_add 118 = .ok (.getfield 65, 3) := by decide +kernel
theorem dX1_add_121 : decode cX1_add 121 = .ok (.iconst 1, 1) := by decide +kernel
theorem dX1_add_122 : decode cX1_add 122 = .ok (.iadd, 1) := by decide +kernel
theorem dX1_add_123 : decode cX1_add 123 = .ok (.putfield 65, 3) := by decide +kernel
theorem dX1_add_126 : decode cX1_add 126 = .ok (.return_, 1) := by decide +kernel
theorem dX1_setLetter_0 : decode cX1_setLetter 0 = .ok (.aload_n 0, 1) := by decide +kernel
theorem dX1_setLetter_1 : decode cX1_setLetter 1 = .ok (.getfield 32, 3) := by decide +kernel
theorem dX1_setLetter_4 : decode cX1_setLetter 4 = .ok (.ifCond .ne 28, 3) := by decide +kernel
theorem dX1_setLetter_7 : decode cX1_setLetter 7 = .ok (.aload_n 0, 1) := by decide +kernel
theorem dX1_setLetter_8 : decode cX1_setLetter 8 = .ok (.getfield 65, 3) := by decide +kernel
theorem dX1_setLetter_11 : decode cX1_setLetter 11 = .ok (.ifCond .le 21, 3) := by decide +kernel
theorem dX1_setLetter_14 : decode cX1_setLetter 14 = .ok (.aload_n 0, 1) := by decide +kernel
theorem dX1_setLetter_15 : decode cX1_setLetter 15 = .ok (.getfield 19, 3) := by decide +kernel
theorem dX1_setLetter_18 : decode cX1_setLetter 18 = .ok (.aload_n 0, 1) := by decide +kernel
theorem dX1_setLetter_19 : decode cX1_setLetter 19 = .ok (.getfield 65, 3) := by decide +kernel
theorem dX1_setLetter_22 : decode cX1_setLetter 22 = .ok (.iconst 1, 1) := by decide +kernel
theorem dX1_setLetter_23 : decode cX1_setLetter 23 = .ok (.isub, 1) := by decide +kernel
theorem dX1_setLetter_24 : decode cX1_setLetter 24 = .ok (.bipush 8, 2) := by decide +kernel
theorem dX1_setLetter_26 : decode cX1_setLetter 26 = .ok (.imul, 1) := by decide +kernel
theorem dX1_setLetter_27 : decode cX1_setLetter 27 = .ok (.bipush 7, 2) := by decide +kernel
theorem dX1_setLetter_29 : decode cX1_setLetter 29 = .ok (.iadd, 1) := by decide +kernel
theorem dX1_setLetter_30 : decode cX1_setLetter 30 = .ok (.iload_n 1, 1) := by decide +kernel
theorem dX1_setLetter_31 : decode cX1_setLetter 31 = .ok (.iastore, 1) := by decide +kernel
theorem dX1_setLetter_32 : decode cX1_setLetter 32 = .ok (.return_, 1) := by decide +kernel
theorem dX1_layOut_0 : decode cX1_layOut 0 = .ok (.iconst 1, 1) := by decide +kernel
theorem dX1_layOut_1 : decode cX1_layOut 1 = .ok (.istore_n 1, 1) := by decide +kernel
theorem dX1_layOut_2 : decode cX1_layOut 2 = .ok (.iconst 2, 1) := by decide +kernel
theorem dX1_layOut_3 : decode cX1_layOut 3 = .ok (.aload_n 0, 1) := by decide +kernel
theorem dX1_layOut_4 : decode cX1_layOut 4 = .ok (.getfield 65, 3) := by decide +kernel
theorem dX1_layOut_7 : decode cX1_layOut 7 = .ok (.imul, 1) := by decide +kernel
theorem dX1_layOut_8 : decode cX1_layOut 8 = .ok (.istore_n 2, 1) := by decide +kernel
theorem dX1_layOut_9 : decode cX1_layOut 9 = .ok (.iload_n 1, 1) := by decide +kernel
theorem dX1_layOut_10 : decode cX1_layOut 10 = .ok (.ifCond .eq 22, 3) := by decide +kernel
theorem dX1_layOut_13 : decode cX1_layOut 13 = .ok (.iload_n 2, 1) := by decide +kernel
theorem dX1_layOut_14 : decode cX1_layOut 14 = .ok (.ifCond .lt 18, 3) := by decide +kernel
theorem dX1_layOut_17 : decode cX1_layOut 17 = .ok (.aload_n 0, 1) := by decide +kernel
theorem dX1_layOut_18 : decode cX1_layOut 18 = .ok (.invokevirtual 268, 3) := by decide +kernel
theorem dX1_layOut_21 : decode cX1_layOut 21 = .ok (.aload_n 0, 1) := by decide +kernel
theorem dX1_layOut_22 : decode cX1_layOut 22 = .ok (.invokevirtual 271, 3) := by decide +kernel
theorem dX1_layOut_25 : decode cX1_layOut 25 = .ok (.istore_n 1, 1) := by decide +kernel
theorem dX1_layOut_26 : decode cX1_layOut 26 = .ok (.iinc 2 (-1), 3) := by decide +kernel
theorem dX1_layOut_29 : decode cX1_layOut 29 = .ok (.goto (-20), 3) := by decide +kernel
theorem dX1_layOut_32 : decode cX1_layOut 32 = .ok (.return_, 1) := by decide +kernel
theorem dX1_findAddresses_0 : decode cX1_findAddresses 0 = .ok (.iconst 0, 1) := by decide +kernel
theorem dX1_findAddresses_1 : decode cX1_findAddresses 1 = .ok (.istore_n 1, 1) := by decide +kernel
theorem dX1_findAddresses_2 : decode cX1_findAddresses 2 = .ok (.iconst 0, 1) := by decide +kernel
theorem dX1_findAddresses_3 : decode cX1_findAddresses 3 = .ok (.istore_n 2, 1) := by decide +kernel
theorem dX1_findAddresses_4 : decode cX1_findAddresses 4 = .ok (.iconst 0, 1) := by decide +kernel
theorem dX1_findAddresses_5 : decode cX1_findAddresses 5 = .ok (.istore_n 3, 1) := by decide +kernel
theorem dX1_findAddresses_6 : decode cX1_findAddresses 6 = .ok (.iconst 0, 1) := by decide +kernel
theorem dX1_findAddresses_7 : decode cX1_findAddresses 7 = .ok (.istore 4, 2) := by decide +kernel
theorem dX1_findAddresses_9 : decode cX1_findAddresses 9 = .ok (.iload 4, 2) := by decide +kernel
theorem dX1_findAddresses_11 : decode cX1_findAddresses 11 = .ok (.aload_n 0, 1) := by decide +kernel
theorem dX1_findAddresses_12 : decode cX1_findAddresses 12 = .ok (.getfield 65, 3) := by decide +kernel
theorem dX1_findAddresses_15 : decode cX1_findAddresses 15 = .ok (.if_icmp .gt 172, 3) := by decide +kernel
theorem dX1_findAddresses_18 : decode cX1_findAddresses 18 = .ok (.iload_n 3, 1) := by decide +kernel
theorem dX1_findAddresses_19 : decode cX1_findAddresses 19 = .ok (.aload_n 0, 1) := by decide +kernel
theorem dX1_findAddresses_20 : decode cX1_findAddresses 20 = .ok (.getfield 12, 3) := by decide +kernel
theorem dX1_findAddresses_23 : decode cX1_findAddresses 23 = .ok (.getfield 274, 3) := by decide +kernel
theorem dX1_findAddresses_26 : decode cX1_findAddresses 26 = .ok (.if_icmp .ge 32, 3) := by decide +kernel
theorem dX1_findAddresses_29 : decode cX1_findAddresses 29 = .ok (.aload_n 0, 1) := by decide +kernel
theorem dX1_findAddresses_30 : decode cX1_findAddresses 30 = .ok (.getfield 12, 3) := by decide +kernel
theorem dX1_findAddresses_33 : decode cX1_findAddresses 33 = .ok (.iload_n 3, 1) := by decide +kernel
theorem dX1_findAddresses_34 : decode cX1_findAddresses 34 = .ok (.iload 4, 2) := by decide +kernel
theorem dX1_findAddresses_36 : decode cX1_findAddresses 36 = .ok (.invokevirtual 277, 3) := by decide +kernel
theorem dX1_findAddresses_39 : decode cX1_findAddresses 39 = .ok (.ifCond .eq 19, 3) := by decide +kernel
theorem dX1_findAddresses_42 : decode cX1_findAddresses 42 = .ok (.aload_n 0, 1) := by decide +kernel
theorem dX1_findAddresses_43 : decode cX1_findAddresses 43 = .ok (.getfield 12, 3) := by decide +kernel
theorem dX1_findAddresses_46 : decode cX1_findAddresses 46 = .ok (.iload_n 3, 1) := by decide +kernel
theorem dX1_findAddresses_47 : decode cX1_findAddresses 47 = .ok (.iload_n 1, 1) := by decide +kernel
theorem dX1_findAddresses_48 : decode cX1_findAddresses 48 = .ok (.iload_n 2, 1) := by decide +kernel
theorem dX1_findAddresses_49 : decode cX1_findAddresses 49 = .ok (.invokevirtual 281, 3) := by decide +kernel
theorem dX1_findAddresses_52 : decode cX1_findAddresses 52 = .ok (.iinc 3 1, 3) := by decide +kernel
theorem dX1_findAddresses_55 : decode cX1_findAddresses 55 = .ok (.goto (-37), 3) := by decide +kernel
theorem dX1_findAddresses_58 : decode cX1_findAddresses 58 = .ok (.iload 4, 2) := by decide +kernel
theorem dX1_findAddresses_60 : decode cX1_findAddresses 60 = .ok (.aload_n 0, 1) := by decide +kernel
theorem dX1_findAddresses_61 : decode cX1_findAddresses 61 = .ok (.getfield 65, 3) := by decide +kernel
theorem dX1_findAddresses_64 : decode cX1_findAddresses 64 = .ok (.if_icmp .ge 117, 3) := by decide +kernel
theorem dX1_findAddresses_67 : decode cX1_findAddresses 67 = .ok (.iload 4, 2) := by decide +kernel
theorem dX1_findAddresses_69 : decode cX1_findAddresses 69 = .ok (.bipush 8, 2) := by decide +kernel
theorem dX1_findAddresses_71 : decode cX1_findAddresses 71 = .ok (.imul, 1) := by decide +kernel
theorem dX1_findAddresses_72 : decode cX1_findAddresses 72 = .ok (.istore 5, 2) := by decide +kernel
theorem dX1_findAddresses_74 : decode cX1_findAddresses 74 = .ok (.aload_n 0, 1) := by decide +kernel
theorem dX1_findAddresses_75 : decode cX1_findAddresses 75 = .ok (.getfield 19, 3) := by decide +kernel
theorem dX1_findAddresses_78 : decode cX1_findAddresses 78 = .ok (.iload 5, 2) := by decide +kernel
theorem dX1_findAddresses_80 : decode cX1_findAddresses 80 = .ok (.iconst 1, 1) := by decide +kernel
theorem dX1_findAddresses_81 : decode cX1_findAddresses 81 = .ok (.iadd, 1) := by decide +kernel
theorem dX1_findAddresses_82 : decode cX1_findAddresses 82 = .ok (.iaload, 1) := by decide +kernel
theorem dX1_findAddresses_83 : decode cX1_findAddresses 83 = .ok (.ifCond .ne 7, 3) := by decide +kernel
theorem dX1_findAddresses_86 : decode cX1_findAddresses 86 = .ok (.iload_n 1, 1) := by decide +kernel
theorem dX1_findAddresses_87 : decode cX1_findAddresses 87 = .ok (.goto 4, 3) := by decide +kernel
theorem dX1_findAddresses_90 : decode cX1_findAddresses 90 = .ok (.iload_n 2, 1) := by decide +kernel
theorem dX1_findAddresses_91 : decode cX1_findAddresses 91 = .ok (.istore 6, 2) := by decide +kernel
theorem dX1_findAddresses_93 : decode cX1_findAddresses 93 = .ok (.aload_n 0, 1) := by decide +kernel
theorem dX1_findAddresses_94 : decode cX1_findAddresses 94 = .ok (.getfield 19, 3) := by decide +kernel
theorem dX1_findAddresses_97 : decode cX1_findAddresses 97 = .ok (.iload 5, 2) := by decide +kernel
theorem dX1_findAddresses_99 : decode cX1_findAddresses 99 = .ok (.iconst 2, 1) := by decide +kernel
theorem dX1_findAddresses_100 : decode cX1_findAddresses 100 = .ok (.iadd, 1) := by decide +kernel
theorem dX1_findAddresses_101 : decode cX1_findAddresses 101 = .ok (.iload 6, 2) := by decide +kernel
theorem dX1_findAddresses_103 : decode cX1_findAddresses 103 = .ok (.iastore, 1) := by decide +kernel
theorem dX1_findAddresses_104 : decode cX1_findAddresses 104 = .ok (.aload_n 0, 1) := by decide +kernel
theorem dX1_findAddresses_105 : decode cX1_findAddresses 105 = .ok (.getfield 19, 3) := by decide +kernel
theorem dX1_findAddresses_108 : decode cX1_findAddresses 108 = .ok (.iload 5, 2) := by decide +kernel
theorem dX1_findAddresses_110 : decode cX1_findAddresses 110 = .ok (.iconst 4, 1) := by decide +kernel
theorem dX1_findAddresses_111 : decode cX1_findAddresses 111 = .ok (.iadd, 1) := by decide +kernel
theorem dX1_findAddresses_112 : decode cX1_findAddresses 112 = .ok (.iaload, 1) := by decide +kernel
theorem dX1_findAddresses_113 : decode cX1_findAddresses 113 = .ok (.bipush 8, 2) := by decide +kernel
theorem dX1_findAddresses_115 : decode cX1_findAddresses 115 = .ok (.if_icmp .ne 27, 3) := by decide +kernel
theorem dX1_findAddresses_118 : decode cX1_findAddresses 118 = .ok (.aload_n 0, 1) := by decide +kernel
theorem dX1_findAddresses_119 : decode cX1_findAddresses 119 = .ok (.getfield 19, 3) := by decide +kernel
theorem dX1_findAddresses_122 : decode cX1_findAddresses 122 = .ok (.iload 5, 2) := by decide +kernel
theorem dX1_findAddresses_124 : decode cX1_findAddresses 124 = .ok (.iconst 3, 1) := by decide +kernel
theorem dX1_findAddresses_125 : decode cX1_findAddresses 125 = .ok (.iadd, 1) := by decide +kernel
theorem dX1_findAddresses_126 : decode cX1_findAddresses 126 = .ok (.iload 6, 2) := by decide +kernel
theorem dX1_findAddresses_128 : decode cX1_findAddresses 128 = .ok (.ineg, 1) := by decide +kernel
theorem dX1_findAddresses_129 : decode cX1_findAddresses 129 = .ok (.aload_n 0, 1) := by decide +kernel
theorem dX1_findAddresses_130 : decode cX1_findAddresses 130 = .ok (.getfield 19, 3) := by decide +kernel
theorem dX1_findAddresses_133 : decode cX1_findAddresses 133 = .ok (.iload 5, 2) := by decide +kernel
theorem dX1_findAddresses_135 : decode cX1_findAddresses 135 = .ok (.iconst 5, 1) := by decide +kernel
theorem dX1_findAddresses_136 : decode cX1_findAddresses 136 = .ok (.iadd, 1) := by decide +kernel
theorem dX1_findAddresses_137 : decode cX1_findAddresses 137 = .ok (.iaload, 1) := by decide +kernel
theorem dX1_findAddresses_138 : decode cX1_findAddresses 138 = .ok (.iconst 1, 1) := by decide +kernel
theorem dX1_findAddresses_139 : decode cX1_findAddresses 139 = .ok (.isub, 1) := by decide +kernel
theorem dX1_findAddresses_140 : decode cX1_findAddresses 140 = .ok (.iand, 1) := by decide +kernel
theorem dX1_findAddresses_141 : decode cX1_findAddresses 141 = .ok (.iastore, 1) := by decide +kernel
theorem dX1_findAddresses_142 : decode cX1_findAddresses 142 = .ok (.aload_n 0, 1) := by decide +kernel
theorem dX1_findAddresses_143 : decode cX1_findAddresses 143 = .ok (.getfield 19, 3) := by decide +kernel
theorem dX1_findAddresses_146 : decode cX1_findAddresses 146 = .ok (.iload 5, 2) := by decide +kernel
theorem dX1_findAddresses_148 : decode cX1_findAddresses 148 = .ok (.iconst 1, 1) := by decide +kernel
theorem dX1_findAddresses_149 : decode cX1_findAddresses 149 = .ok (.iadd, 1) := by decide +kernel
theorem dX1_findAddresses_150 : decode cX1_findAddresses 150 = .ok (.iaload, 1) := by decide +kernel
theorem dX1_findAddresses_151 : decode cX1_findAddresses 151 = .ok (.ifCond .ne 18, 3) := by decide +kernel
theorem dX1_findAddresses_154 : decode cX1_findAddresses 154 = .ok (.iload_n 1, 1) := by decide +kernel
theorem dX1_findAddresses_155 : decode cX1_findAddresses 155 = .ok (.aload_n 0, 1) := by decide +kernel
theorem dX1_findAddresses_156 : decode cX1_findAddresses 156 = .ok (.getfield 19, 3) := by decide +kernel
theorem dX1_findAddresses_159 : decode cX1_findAddresses 159 = .ok (.iload 5, 2) := by decide +kernel
theorem dX1_findAddresses_161 : decode cX1_findAddresses 161 = .ok (.iconst 3, 1) := by decide +kernel
theorem dX1_findAddresses_162 : decode cX1_findAddresses 162 = .ok (.iadd, 1) := by decide +kernel
theorem dX1_findAddresses_163 : decode cX1_findAddresses 163 = .ok (.iaload, 1) := by decide +kernel
theorem dX1_findAddresses_164 : decode cX1_findAddresses 164 = .ok (.iadd, 1) := by decide +kernel
theorem dX1_findAddresses_165 : decode cX1_findAddresses 165 = .ok (.istore_n 1, 1) := by decide +kernel
theorem dX1_findAddresses_166 : decode cX1_findAddresses 166 = .ok (.goto 15, 3) := by decide +kernel
theorem dX1_findAddresses_169 : decode cX1_findAddresses 169 = .ok (.iload_n 2, 1) := by decide +kernel
theorem dX1_findAddresses_170 : decode cX1_findAddresses 170 = .ok (.aload_n 0, 1) := by decide +kernel
theorem dX1_findAddresses_171 : decode cX1_findAddresses 171 = .ok (.getfield 19, 3) := by decide +kernel
theorem dX1_findAddresses_174 : decode cX1_findAddresses 174 = .ok (.iload 5, 2) := by decide +kernel
theorem dX1_findAddresses_176 : decode cX1_findAddresses 176 = .ok (.iconst 3, 1) := by decide +kernel
theorem dX1_findAddresses_177 : decode cX1_findAddresses 177 = .ok (.iadd, 1) := by decide +kernel
theorem dX1_findAddresses_178 : decode cX1_findAddresses 178 = .ok (.iaload, 1) := by decide +kernel
theorem dX1_findAddresses_179 : decode cX1_findAddresses 179 = .ok (.iadd, 1) := by decide +kernel
theorem dX1_findAddresses_180 : decode cX1_findAddresses 180 = .ok (.istore_n 2, 1) := by decide +kernel
theorem dX1_findAddresses_181 : decode cX1_findAddresses 181 = .ok (.iinc 4 1, 3) := by decide +kernel
theorem dX1_findAddresses_184 : decode cX1_findAddresses 184 = .ok (.goto (-175), 3) := by decide +kernel
theorem dX1_findAddresses_187 : decode cX1_findAddresses 187 = .ok (.aload_n 0, 1) := by decide +kernel
theorem dX1_findAddresses_188 : decode cX1_findAddresses 188 = .ok (.iload_n 1, 1) := by decide +kernel
theorem dX1_findAddresses_189 : decode cX1_findAddresses 189 = .ok (.putfield 284, 3) := by decide +kernel
theorem dX1_findAddresses_192 : decode cX1_findAddresses 192 = .ok (.aload_n 0, 1) := by decide +kernel
theorem dX1_findAddresses_193 : decode cX1_findAddresses 193 = .ok (.iload_n 1, 1) := by decide +kernel
theorem dX1_findAddresses_194 : decode cX1_findAddresses 194 = .ok (.sipush 1024, 3) := by decide +kernel
theorem dX1_findAddresses_197 : decode cX1_findAddresses 197 = .ok (.iadd, 1) := by decide +kernel
theorem dX1_findAddresses_198 : decode cX1_findAddresses 198 = .ok (.iconst 1, 1) := by decide +kernel
theorem dX1_findAddresses_199 : decode cX1_findAddresses 199 = .ok (.isub, 1) := by decide +kernel
theorem dX1_findAddresses_200 : decode cX1_findAddresses 200 = .ok (.sipush 1024, 3) := by decide +kernel
theorem dX1_findAddresses_203 : decode cX1_findAddresses 203 = .ok (.idiv, 1) := by decide +kernel
theorem dX1_findAddresses_204 : decode cX1_findAddresses 204 = .ok (.sipush 1024, 3) := by decide +kernel
theorem dX1_findAddresses_207 : decode cX1_findAddresses 207 = .ok (.imul, 1) := by decide +kernel
theorem dX1_findAddresses_208 : decode cX1_findAddresses 208 = .ok (.putfield 287, 3) := by decide +kernel
theorem dX1_findAddresses_211 : decode cX1_findAddresses 211 = .ok (.aload_n 0, 1) := by decide +kernel
theorem dX1_findAddresses_212 : decode cX1_findAddresses 212 = .ok (.iload_n 2, 1) := by decide +kernel
theorem dX1_findAddresses_213 : decode cX1_findAddresses 213 = .ok (.ifCond .le 12, 3) := by decide +kernel
theorem dX1_findAddresses_216 : decode cX1_findAddresses 216 = .ok (.aload_n 0, 1) := by decide +kernel
theorem dX1_findAddresses_217 : decode cX1_findAddresses 217 = .ok (.getfield 287, 3) := by decide +kernel
theorem dX1_findAddresses_220 : decode cX1_findAddresses 220 = .ok (.iload_n 2, 1) := by decide +kernel
theorem dX1_findAddresses_221 : decode cX1_findAddresses 221 = .ok (.iadd, 1) := by decide +kernel
theorem dX1_findAddresses_222 : decode cX1_findAddresses 222 = .ok (.goto 4, 3) := by decide +kernel
theorem dX1_findAddresses_225 : decode cX1_findAddresses 225 = .ok (.iload_n 1, 1) := by decide +kernel
theorem dX1_findAddresses_226 : decode cX1_findAddresses 226 = .ok (.putfield 50, 3) := by decide +kernel
theorem dX1_findAddresses_229 : decode cX1_findAddresses 229 = .ok (.aload_n 0, 1) := by decide +kernel
theorem dX1_findAddresses_230 : decode cX1_findAddresses 230 = .ok (.invokevirtual 290, 3) := by decide +kernel
theorem dX1_findAddresses_233 : decode cX1_findAddresses 233 = .ok (.return_, 1) := by decide +kernel
theorem dX1_moveData_0 : decode cX1_moveData 0 = .ok (.iconst 0, 1) := by decide +kernel
theorem dX1_moveData_1 : decode cX1_moveData 1 = .ok (.istore_n 1, 1) := by decide +kernel
theorem dX1_moveData_2 : decode cX1_moveData 2 = .ok (.iload_n 1, 1) := by decide +kernel
theorem dX1_moveData_3 : decode cX1_moveData 3 = .ok (.aload_n 0, 1) := by decide +kernel
theorem dX1_moveData_4 : decode cX1_moveData 4 = .ok (.getfield 65, 3) := by decide +kernel
theorem dX1_moveData_7 : decode cX1_moveData 7 = .ok (.if_icmp .ge 42, 3) := by decide +kernel
theorem dX1_moveData_10 : decode cX1_moveData 10 = .ok (.aload_n 0, 1) := by decide +kernel
theorem dX1_moveData_11 : decode cX1_moveData 11 = .ok (.getfield 19, 3) := by decide +kernel
theorem dX1_moveData_14 : decode cX1_moveData 14 = .ok (.iload_n 1, 1) := by decide +kernel
theorem dX1_moveData_15 : decode cX1_moveData 15 = .ok (.bipush 8, 2) := by decide +kernel
theorem dX1_moveData_17 : decode cX1_moveData 17 = .ok (.imul, 1) := by decide +kernel
theorem dX1_moveData_18 : decode cX1_moveData 18 = .ok (.iconst 1, 1) := by decide +kernel
theorem dX1_moveData_19 : decode cX1_moveData 19 = .ok (.iadd, 1) := by decide +kernel
theorem dX1_moveData_20 : decode cX1_moveData 20 = .ok (.iaload, 1) := by decide +kernel
theorem dX1_moveData_21 : decode cX1_moveData 21 = .ok (.iconst 1, 1) := by decide +kernel
theorem dX1_moveData_22 : decode cX1_moveData 22 = .ok (.if_icmp .ne 21, 3) := by decide +kernel
theorem dX1_moveData_25 : decode cX1_moveData 25 = .ok (.aload_n 0, 1) := by decide +kernel
theorem dX1_moveData_26 : decode cX1_moveData 26 = .ok (.getfield 19, 3) := by decide +kernel
theorem dX1_moveData_29 : decode cX1_moveData 29 = .ok (.iload_n 1, 1) := by decide +kernel
theorem dX1_moveData_30 : decode cX1_moveData 30 = .ok (.bipush 8, 2) := by decide +kernel
theorem dX1_moveData_32 : decode cX1_moveData 32 = .ok (.imul, 1) := by decide +kernel
theorem dX1_moveData_33 : decode cX1_moveData 33 = .ok (.iconst 2, 1) := by decide +kernel
theorem dX1_moveData_34 : decode cX1_moveData 34 = .ok (.iadd, 1) := by decide +kernel
theorem dX1_moveData_35 : decode cX1_moveData 35 = .ok (.dup2, 1) := by decide +kernel
theorem dX1_moveData_36 : decode cX1_moveData 36 = .ok (.iaload, 1) := by decide +kernel
theorem dX1_moveData_37 : decode cX1_moveData 37 = .ok (.aload_n 0, 1) := by decide +kernel
theorem dX1_moveData_38 : decode cX1_moveData 38 = .ok (.getfield 287, 3) := by decide +kernel
theorem dX1_moveData_41 : decode cX1_moveData 41 = .ok (.iadd, 1) := by decide +kernel
theorem dX1_moveData_42 : decode cX1_moveData 42 = .ok (.iastore, 1) := by decide +kernel
theorem dX1_moveData_43 : decode cX1_moveData 43 = .ok (.iinc 1 1, 3) := by decide +kernel
theorem dX1_moveData_46 : decode cX1_moveData 46 = .ok (.goto (-44), 3) := by decide +kernel
theorem dX1_moveData_49 : decode cX1_moveData 49 = .ok (.iconst 0, 1) := by decide +kernel
theorem dX1_moveData_50 : decode cX1_moveData 50 = .ok (.istore_n 1, 1) := by decide +kernel
theorem dX1_moveData_51 : decode cX1_moveData 51 = .ok (.iload_n 1, 1) := by decide +kernel
theorem dX1_moveData_52 : decode cX1_moveData 52 = .ok (.aload_n 0, 1) := by decide +kernel
theorem dX1_moveData_53 : decode cX1_moveData 53 = .ok (.getfield 12, 3) := by decide +kernel
theorem dX1_moveData_56 : decode cX1_moveData 56 = .ok (.getfield 274, 3) := by decide +kernel
theorem dX1_moveData_59 : decode cX1_moveData 59 = .ok (.if_icmp .ge 46, 3) := by decide +kernel
theorem dX1_moveData_62 : decode cX1_moveData 62 = .ok (.aload_n 0, 1) := by decide +kernel
theorem dX1_moveData_63 : decode cX1_moveData 63 = .ok (.getfield 12, 3) := by decide +kernel
theorem dX1_moveData_66 : decode cX1_moveData 66 = .ok (.getfield 293, 3) := by decide +kernel
theorem dX1_moveData_69 : decode cX1_moveData 69 = .ok (.iload_n 1, 1) := by decide +kernel
theorem dX1_moveData_70 : decode cX1_moveData 70 = .ok (.iconst 5, 1) := by decide +kernel
theorem dX1_moveData_71 : decode cX1_moveData 71 = .ok (.imul, 1) := by decide +kernel
theorem dX1_moveData_72 : decode cX1_moveData 72 = .ok (.iconst 1, 1) := by decide +kernel
theorem dX1_moveData_73 : decode cX1_moveData 73 = .ok (.iadd, 1) := by decide +kernel
theorem dX1_moveData_74 : decode cX1_moveData 74 = .ok (.iaload, 1) := by decide +kernel
theorem dX1_moveData_75 : decode cX1_moveData 75 = .ok (.iconst 1, 1) := by decide +kernel
theorem dX1_moveData_76 : decode cX1_moveData 76 = .ok (.if_icmp .ne 23, 3) := by decide +kernel
theorem dX1_moveData_79 : decode cX1_moveData 79 = .ok (.aload_n 0, 1) := by decide +kernel
theorem dX1_moveData_80 : decode cX1_moveData 80 = .ok (.getfield 12, 3) := by decide +kernel
theorem dX1_moveData_83 : decode cX1_moveData 83 = .ok (.getfield 293, 3) := by decide +kernel
theorem dX1_moveData_86 : decode cX1_moveData 86 = .ok (.iload_n 1, 1) := by decide +kernel
theorem dX1_moveData_87 : decode cX1_moveData 87 = .ok (.iconst 5, 1) := by decide +kernel
theorem dX1_moveData_88 : decode cX1_moveData 88 = .ok (.imul, 1) := by decide +kernel
theorem dX1_moveData_89 : decode cX1_moveData 89 = .ok (.iconst 2, 1) := by decide +kernel
theorem dX1_moveData_90 : decode cX1_moveData 90 = .ok (.iadd, 1) := by decide +kernel
theorem dX1_moveData_91 : decode cX1_moveData 91 = .ok (.dup2, 1) := by decide +kernel
theorem dX1_moveData_92 : decode cX1_moveData 92 = .ok (.iaload, 1) := by decide +kernel
theorem dX1_moveData_93 : decode cX1_moveData 93 = .ok (.aload_n 0, 1) := by decide +kernel
theorem dX1_moveData_94 : decode cX1_moveData 94 = .ok (.getfield 287, 3) := by decide +kernel
theorem dX1_moveData_97 : decode cX1_moveData 97 = .ok (.iadd, 1) := by decide +kernel
theorem dX1_moveData_98 : decode cX1_moveData 98 = .ok (.iastore, 1) := by decide +kernel
theorem dX1_moveData_99 : decode cX1_moveData 99 = .ok (.iinc 1 1, 3) := by decide +kernel
theorem dX1_moveData_102 : decode cX1_moveData 102 = .ok (.goto (-51), 3) := by decide +kernel
theorem dX1_moveData_105 : decode cX1_moveData 105 = .ok (.return_, 1) := by decide +kernel
theorem dX1_grow_0 : decode cX1_grow 0 = .ok (.iconst 0, 1) := by decide +kernel
theorem dX1_grow_1 : decode cX1_grow 1 = .ok (.istore_n 1, 1) := by decide +kernel
theorem dX1_grow_2 : decode cX1_grow 2 = .ok (.iconst 0, 1) := by decide +kernel
theorem dX1_grow_3 : decode cX1_grow 3 = .ok (.istore_n 2, 1) := by decide +kernel
theorem dX1_grow_4 : decode cX1_grow 4 = .ok (.iload_n 2, 1) := by decide +kernel
theorem dX1_grow_5 : decode cX1_grow 5 = .ok (.aload_n 0, 1) := by decide +kernel
theorem dX1_grow_6 : decode cX1_grow 6 = .ok (.getfield 65, 3) := by decide +kernel
theorem dX1_grow_9 : decode cX1_grow 9 = .ok (.if_icmp .ge 133, 3) := by decide +kernel
theorem dX1_grow_12 : decode cX1_grow 12 = .ok (.iload_n 2, 1) := by decide +kernel
theorem dX1_grow_13 : decode cX1_grow 13 = .ok (.bipush 8, 2) := by decide +kernel
theorem dX1_grow_15 : decode cX1_grow 15 = .ok (.imul, 1) := by decide +kernel
theorem dX1_grow_16 : decode cX1_grow 16 = .ok (.istore_n 3, 1) := by decide +kernel
theorem dX1_grow_17 : decode cX1_grow 17 = .ok (.aload_n 0, 1) := by decide +kernel
theorem dX1_grow_18 : decode cX1_grow 18 = .ok (.getfield 19, 3) := by decide +kernel
theorem dX1_grow_21 : decode cX1_grow 21 = .ok (.iload_n 3, 1) := by decide +kernel
theorem dX1_grow_22 : decode cX1_grow 22 = .ok (.iconst 4, 1) := by decide +kernel
theorem dX1_grow_23 : decode cX1_grow 23 = .ok (.iadd, 1) := by decide +kernel
theorem dX1_grow_24 : decode cX1_grow 24 = .ok (.iaload, 1) := by decide +kernel
theorem dX1_grow_25 : decode cX1_grow 25 = .ok (.istore 4, 2) := by decide +kernel
theorem dX1_grow_27 : decode cX1_grow 27 = .ok (.aload_n 0, 1) := by decide +kernel
theorem dX1_grow_28 : decode cX1_grow 28 = .ok (.getfield 19, 3) := by decide +kernel
theorem dX1_grow_31 : decode cX1_grow 31 = .ok (.iload_n 3, 1) := by decide +kernel
theorem dX1_grow_32 : decode cX1_grow 32 = .ok (.iconst 3, 1) := by decide +kernel
theorem dX1_grow_33 : decode cX1_grow 33 = .ok (.iadd, 1) := by decide +kernel
theorem dX1_grow_34 : decode cX1_grow 34 = .ok (.iaload, 1) := by decide +kernel
theorem dX1_grow_35 : decode cX1_grow 35 = .ok (.istore 5, 2) := by decide +kernel
theorem dX1_grow_37 : decode cX1_grow 37 = .ok (.iload 4, 2) := by decide +kernel
theorem dX1_grow_39 : decode cX1_grow 39 = .ok (.iconst 1, 1) := by decide +kernel
theorem dX1_grow_40 : decode cX1_grow 40 = .ok (.if_icmp .ne 9, 3) := by decide +kernel
theorem dX1_grow_43 : decode cX1_grow 43 = .ok (.iload 5, 2) := by decide +kernel
theorem dX1_grow_45 : decode cX1_grow 45 = .ok (.iconst 4, 1) := by decide +kernel
theorem dX1_grow_46 : decode cX1_grow 46 = .ok (.if_icmp .lt 16, 3) := by decide +kernel
theorem dX1_grow_49 : decode cX1_grow 49 = .ok (.iload 4, 2) := by decide +kernel
theorem dX1_grow_51 : decode cX1_grow 51 = .ok (.iconst 2, 1) := by decide +kernel
theorem dX1_grow_52 : decode cX1_grow 52 = .ok (.if_icmp .ne 84, 3) := by decide +kernel
theorem dX1_grow_55 : decode cX1_grow 55 = .ok (.iload 5, 2) := by decide +kernel
theorem dX1_grow_57 : decode cX1_grow 57 = .ok (.bipush 8, 2) := by decide +kernel
theorem dX1_grow_59 : decode cX1_grow 59 = .ok (.if_icmp .ge 77, 3) := by decide +kernel
theorem dX1_grow_62 : decode cX1_grow 62 = .ok (.aload_n 0, 1) := by decide +kernel
theorem dX1_grow_63 : decode cX1_grow 63 = .ok (.getfield 12, 3) := by decide +kernel
theorem dX1_grow_66 : decode cX1_grow 66 = .ok (.aload_n 0, 1) := by decide +kernel
theorem dX1_grow_67 : decode cX1_grow 67 = .ok (.getfield 19, 3) := by decide +kernel
theorem dX1_grow_70 : decode cX1_grow 70 = .ok (.iload_n 3, 1) := by decide +kernel
theorem dX1_grow_71 : decode cX1_grow 71 = .ok (.bipush 6, 2) := by decide +kernel
theorem dX1_grow_73 : decode cX1_grow 73 = .ok (.iadd, 1) := by decide +kernel
theorem dX1_grow_74 : decode cX1_grow 74 = .ok (.iaload, 1) := by decide +kernel
theorem dX1_grow_75 : decode cX1_grow 75 = .ok (.aload_n 0, 1) := by decide +kernel
theorem dX1_grow_76 : decode cX1_grow 76 = .ok (.getfield 19, 3) := by decide +kernel
theorem dX1_grow_79 : decode cX1_grow 79 = .ok (.iload_n 3, 1) := by decide +kernel
theorem dX1_grow_80 : decode cX1_grow 80 = .ok (.iconst 2, 1) := by decide +kernel
theorem dX1_grow_81 : decode cX1_grow 81 = .ok (.iadd, 1) := by decide +kernel
theorem dX1_grow_82 : decode cX1_grow 82 = .ok (.iaload, 1) := by decide +kernel
theorem dX1_grow_83 : decode cX1_grow 83 = .ok (.invokevirtual 220, 3) := by decide +kernel
theorem dX1_grow_86 : decode cX1_grow 86 = .ok (.aload_n 0, 1) := by decide +kernel
theorem dX1_grow_87 : decode cX1_grow 87 = .ok (.getfield 19, 3) := by decide +kernel
theorem dX1_grow_90 : decode cX1_grow 90 = .ok (.iload_n 3, 1) := by decide +kernel
theorem dX1_grow_91 : decode cX1_grow 91 = .ok (.iconst 2, 1) := by decide +kernel
theorem dX1_grow_92 : decode cX1_grow 92 = .ok (.iadd, 1) := by decide +kernel
theorem dX1_grow_93 : decode cX1_grow 93 = .ok (.iaload, 1) := by decide +kernel
theorem dX1_grow_94 : decode cX1_grow 94 = .ok (.isub, 1) := by decide +kernel
theorem dX1_grow_95 : decode cX1_grow 95 = .ok (.istore 6, 2) := by decide +kernel
theorem dX1_grow_97 : decode cX1_grow 97 = .ok (.aload_n 0, 1) := by decide +kernel
theorem dX1_grow_98 : decode cX1_grow 98 = .ok (.getfield 12, 3) := by decide +kernel
theorem dX1_grow_101 : decode cX1_grow 101 = .ok (.getfield 223, 3) := by decide +kernel
theorem dX1_grow_104 : decode cX1_grow 104 = .ok (.ifCond .ne 32, 3) := by decide +kernel
theorem dX1_grow_107 : decode cX1_grow 107 = .ok (.iload 4, 2) := by decide +kernel
theorem dX1_grow_109 : decode cX1_grow 109 = .ok (.iload 5, 2) := by decide +kernel
theorem dX1_grow_111 : decode cX1_grow 111 = .ok (.invokestatic 296, 3) := by decide +kernel
theorem dX1_grow_114 : decode cX1_grow 114 = .ok (.iload 6, 2) := by decide +kernel
theorem dX1_grow_116 : decode cX1_grow 116 = .ok (.invokestatic 257, 3) := by decide +kernel
theorem dX1_grow_119 : decode cX1_grow 119 = .ok (.ifCond .ne 17, 3) := by decide +kernel
theorem dX1_grow_122 : decode cX1_grow 122 = .ok (.aload_n 0, 1) := by decide +kernel
theorem dX1_grow_123 : decode cX1_grow 123 = .ok (.getfield 19, 3) := by decide +kernel
theorem dX1_grow_126 : decode cX1_grow 126 = .ok (.iload_n 3, 1) := by decide +kernel
theorem dX1_grow_127 : decode cX1_grow 127 = .ok (.iconst 3, 1) := by decide +kernel
theorem dX1_grow_128 : decode cX1_grow 128 = .ok (.iadd, 1) := by decide +kernel
theorem dX1_grow_129 : decode cX1_grow 129 = .ok (.iload 5, 2) := by decide +kernel
theorem dX1_grow_131 : decode cX1_grow 131 = .ok (.iconst 2, 1) := by decide +kernel
theorem dX1_grow_132 : decode cX1_grow 132 = .ok (.imul, 1) := by decide +kernel
theorem dX1_grow_133 : decode cX1_grow 133 = .ok (.iastore, 1) := by decide +kernel
theorem dX1_grow_134 : decode cX1_grow 134 = .ok (.iconst 1, 1) := by decide +kernel
theorem dX1_grow_135 : decode cX1_grow 135 = .ok (.istore_n 1, 1) := by decide +kernel
theorem dX1_grow_136 : decode cX1_grow 136 = .ok (.iinc 2 1, 3) := by decide +kernel
theorem dX1_grow_139 : decode cX1_grow 139 = .ok (.goto (-135), 3) := by decide +kernel
theorem dX1_grow_142 : decode cX1_grow 142 = .ok (.iload_n 1, 1) := by decide +kernel
theorem dX1_grow_143 : decode cX1_grow 143 = .ok (.ireturn, 1) := by decide +kernel
theorem dX1_growingLetter_0 : decode cX1_growingLetter 0 = .ok (.iload_n 0, 1) := by decide +kernel
theorem dX1_growingLetter_1 : decode cX1_growingLetter 1 = .ok (.iconst 1, 1) := by decide +kernel
theorem dX1_growingLetter_2 : decode cX1_growingLetter 2 = .ok (.if_icmp .ne 16, 3) := by decide +kernel
theorem dX1_growingLetter_5 : decode cX1_growingLetter 5 = .ok (.iload_n 1, 1) := by decide +kernel
theorem dX1_growingLetter_6 : decode cX1_growingLetter 6 = .ok (.iconst 2, 1) := by decide +kernel
theorem dX1_growingLetter_7 : decode cX1_growingLetter 7 = .ok (.if_icmp .ne 8, 3) := by decide +kernel
theorem dX1_growingLetter_10 : decode cX1_growingLetter 10 = .ok (.bipush 75, 2) := by decide +kernel
theorem dX1_growingLetter_12 : decode cX1_growingLetter 12 = .ok (.goto 5, 3) := by decide +kernel
theorem dX1_growingLetter_15 : decode cX1_growingLetter 15 = .ok (.bipush 74, 2) := by decide +kernel
theorem dX1_growingLetter_17 : decode cX1_growingLetter 17 = .ok (.ireturn, 1) := by decide +kernel
theorem dX1_growingLetter_18 : decode cX1_growingLetter 18 = .ok (.iload_n 1, 1) := by decide +kernel
theorem dX1_growingLetter_19 : decode cX1_growingLetter 19 = .ok (.iconst 2, 1) := by decide +kernel
theorem dX1_growingLetter_20 : decode cX1_growingLetter 20 = .ok (.if_icmp .ne 8, 3) := by decide +kernel
theorem dX1_growingLetter_23 : decode cX1_growingLetter 23 = .ok (.bipush 76, 2) := by decide +kernel
theorem dX1_growingLetter_25 : decode cX1_growingLetter 25 = .ok (.goto 15, 3) := by decide +kernel
theorem dX1_growingLetter_28 : decode cX1_growingLetter 28 = .ok (.iload_n 1, 1) := by decide +kernel
theorem dX1_growingLetter_29 : decode cX1_growingLetter 29 = .ok (.iconst 4, 1) := by decide +kernel
theorem dX1_growingLetter_30 : decode cX1_growingLetter 30 = .ok (.if_icmp .ne 8, 3) := by decide +kernel
theorem dX1_growingLetter_33 : decode cX1_growingLetter 33 = .ok (.bipush 84, 2) := by decide +kernel
theorem dX1_growingLetter_35 : decode cX1_growingLetter 35 = .ok (.goto 5, 3) := by decide +kernel
theorem dX1_growingLetter_38 : decode cX1_growingLetter 38 = .ok (.bipush 74, 2) := by decide +kernel
theorem dX1_growingLetter_40 : decode cX1_growingLetter 40 = .ok (.ireturn, 1) := by decide +kernel
theorem dX1_putAll_0 : decode cX1_putAll 0 = .ok (.aload_n 1, 1) := by decide +kernel
theorem dX1_putAll_1 : decode cX1_putAll 1 = .ok (.getfield 300, 3) := by decide +kernel
theorem dX1_putAll_4 : decode cX1_putAll 4 = .ok (.iconst 0, 1) := by decide +kernel
theorem dX1_putAll_5 : decode cX1_putAll 5 = .ok (.invokestatic 305, 3) := by decide +kernel
theorem dX1_putAll_8 : decode cX1_putAll 8 = .ok (.iconst 0, 1) := by decide +kernel
theorem dX1_putAll_9 : decode cX1_putAll 9 = .ok (.istore_n 2, 1) := by decide +kernel
theorem dX1_putAll_10 : decode cX1_putAll 10 = .ok (.iload_n 2, 1) := by decide +kernel
theorem dX1_putAll_11 : decode cX1_putAll 11 = .ok (.aload_n 0, 1) := by decide +kernel
theorem dX1_putAll_12 : decode cX1_putAll 12 = .ok (.getfield 65, 3) := by decide +kernel
theorem dX1_putAll_15 : decode cX1_putAll 15 = .ok (.if_icmp .ge 137, 3) := by decide +kernel
theorem dX1_putAll_18 : decode cX1_putAll 18 = .ok (.aload_n 0, 1) := by decide +kernel
theorem dX1_putAll_19 : decode cX1_putAll 19 = .ok (.getfield 32, 3) := by decide +kernel
theorem dX1_putAll_22 : decode cX1_putAll 22 = .ok (.ifCond .ne 130, 3) := by decide +kernel
theorem dX1_putAll_25 : decode cX1_putAll 25 = .ok (.iload_n 2, 1) := by decide +kernel
theorem dX1_putAll_26 : decode cX1_putAll 26 = .ok (.bipush 8, 2) := by decide +kernel
theorem dX1_putAll_28 : decode cX1_putAll 28 = .ok (.imul, 1) := by decide +kernel
theorem dX1_putAll_29 : decode cX1_putAll 29 = .ok (.istore_n 3, 1) := by decide +kernel
theorem dX1_putAll_30 : decode cX1_putAll 30 = .ok (.aload_n 0, 1) := by decide +kernel
theorem dX1_putAll_31 : decode cX1_putAll 31 = .ok (.aload_n 0, 1) := by decide +kernel
theorem dX1_putAll_32 : decode cX1_putAll 32 = .ok (.getfield 19, 3) := by decide +kernel
theorem dX1_putAll_35 : decode cX1_putAll 35 = .ok (.iload_n 3, 1) := by decide +kernel
theorem dX1_putAll_36 : decode cX1_putAll 36 = .ok (.iconst 0, 1) := by decide +kernel
theorem dX1_putAll_37 : decode cX1_putAll 37 = .ok (.iadd, 1) := by decide +kernel
theorem dX1_putAll_38 : decode cX1_putAll 38 = .ok (.iaload, 1) := by decide +kernel
theorem dX1_putAll_39 : decode cX1_putAll 39 = .ok (.putfield 36, 3) := by decide +kernel
theorem dX1_putAll_42 : decode cX1_putAll 42 = .ok (.aload_n 0, 1) := by decide +kernel
theorem dX1_putAll_43 : decode cX1_putAll 43 = .ok (.getfield 19, 3) := by decide +kernel
theorem dX1_putAll_46 : decode cX1_putAll 46 = .ok (.iload_n 3, 1) := by decide +kernel
theorem dX1_putAll_47 : decode cX1_putAll 47 = .ok (.iconst 4, 1) := by decide +kernel
theorem dX1_putAll_48 : decode cX1_putAll 48 = .ok (.iadd, 1) := by decide +kernel
theorem dX1_putAll_49 : decode cX1_putAll 49 = .ok (.iaload, 1) := by decide +kernel
theorem dX1_putAll_50 : decode cX1_putAll 50 = .ok (.tableswitch 96 0 6 #[42, 51, 51, 60, 69, 78, 87], 42) := by decide +kernel
theorem dX1_putAll_92 : decode cX1_putAll 92 = .ok (.aload_n 0, 1) := by decide +kernel
theorem dX1_putAll_93 : decode cX1_putAll 93 = .ok (.aload_n 1, 1) := by decide +kernel
theorem dX1_putAll_94 : decode cX1_putAll 94 = .ok (.iload_n 3, 1) := by decide +kernel
theorem dX1_putAll_95 : decode cX1_putAll 95 = .ok (.invokevirtual 311, 3) := by decide +kernel
theorem dX1_putAll_98 : decode cX1_putAll 98 = .ok (.goto 48, 3) := by decide +kernel
theorem dX1_putAll_101 : decode cX1_putAll 101 = .ok (.aload_n 0, 1) := by decide +kernel
theorem dX1_putAll_102 : decode cX1_putAll 102 = .ok (.aload_n 1, 1) := by decide +kernel
theorem dX1_putAll_103 : decode cX1_putAll 103 = .ok (.iload_n 3, 1) := by decide +kernel
theorem dX1_putAll_104 : decode cX1_putAll 104 = .ok (.invokevirtual 315, 3) := by decide +kernel
theorem dX1_putAll_107 : decode cX1_putAll 107 = .ok (.goto 39, 3) := by decide +kernel
theorem dX1_putAll_110 : decode cX1_putAll 110 = .ok (.aload_n 0, 1) := by decide +kernel
theorem dX1_putAll_111 : decode cX1_putAll 111 = .ok (.aload_n 1, 1) := by decide +kernel
theorem dX1_putAll_112 : decode cX1_putAll 112 = .ok (.iload_n 3, 1) := by decide +kernel
theorem dX1_putAll_113 : decode cX1_putAll 113 = .ok (.invokevirtual 318, 3) := by decide +kernel
theorem dX1_putAll_116 : decode cX1_putAll 116 = .ok (.goto 30, 3) := by decide +kernel
theorem dX1_putAll_119 : decode cX1_putAll 119 = .ok (.aload_n 0, 1) := by decide +kernel
theorem dX1_putAll_120 : decode cX1_putAll 120 = .ok (.aload_n 1, 1) := by decide +kernel
theorem dX1_putAll_121 : decode cX1_putAll 121 = .ok (.iload_n 3, 1) := by decide +kernel
theorem dX1_putAll_122 : decode cX1_putAll 122 = .ok (.invokevirtual 321, 3) := by decide +kernel
theorem dX1_putAll_125 : decode cX1_putAll 125 = .ok (.goto 21, 3) := by decide +kernel
theorem dX1_putAll_128 : decode cX1_putAll 128 = .ok (.aload_n 0, 1) := by decide +kernel
theorem dX1_putAll_129 : decode cX1_putAll 129 = .ok (.aload_n 1, 1) := by decide +kernel
theorem dX1_putAll_130 : decode cX1_putAll 130 = .ok (.iload_n 3, 1) := by decide +kernel
theorem dX1_putAll_131 : decode cX1_putAll 131 = .ok (.invokevirtual 324, 3) := by decide +kernel
theorem dX1_putAll_134 : decode cX1_putAll 134 = .ok (.goto 12, 3) := by decide +kernel
theorem dX1_putAll_137 : decode cX1_putAll 137 = .ok (.aload_n 0, 1) := by decide +kernel
theorem dX1_putAll_138 : decode cX1_putAll 138 = .ok (.aload_n 1, 1) := by decide +kernel
theorem dX1_putAll_139 : decode cX1_putAll 139 = .ok (.iload_n 3, 1) := by decide +kernel
theorem dX1_putAll_140 : decode cX1_putAll 140 = .ok (.invokevirtual 327, 3) := by decide +kernel
theorem dX1_putAll_143 : decode cX1_putAll 143 = .ok (.goto 3, 3) := by decide +kernel
theorem dX1_putAll_146 : decode cX1_putAll 146 = .ok (.iinc 2 1, 3) := by decide +kernel
theorem dX1_putAll_149 : decode cX1_putAll 149 = .ok (.goto (-139), 3) := by decide +kernel
theorem dX1_putAll_152 : decode cX1_putAll 152 = .ok (.return_, 1) := by decide +kernel
theorem dX1_put_0 : decode cX1_put 0 = .ok (.iconst 0, 1) := by decide +kernel
theorem dX1_put_1 : decode cX1_put 1 = .ok (.istore 5, 2) := by decide +kernel
theorem dX1_put_3 : decode cX1_put 3 = .ok (.iload 5, 2) := by decide +kernel
theorem dX1_put_5 : decode cX1_put 5 = .ok (.iload_n 3, 1) := by decide +kernel
theorem dX1_put_6 : decode cX1_put 6 = .ok (.if_icmp .ge 46, 3) := by decide +kernel
theorem dX1_put_9 : decode cX1_put 9 = .ok (.iload_n 2, 1) := by decide +kernel
theorem dX1_put_10 : decode cX1_put 10 = .ok (.iload 5, 2) := by decide +kernel
theorem dX1_put_12 : decode cX1_put 12 = .ok (.iadd, 1) := by decide +kernel
theorem dX1_put_13 : decode cX1_put 13 = .ok (.ifCond .lt 33, 3) := by decide +kernel
theorem dX1_put_16 : decode cX1_put 16 = .ok (.iload_n 2, 1) := by decide +kernel
theorem dX1_put_17 : decode cX1_put 17 = .ok (.iload 5, 2) := by decide +kernel
theorem dX1_put_19 : decode cX1_put 19 = .ok (.iadd, 1) := by decide +kernel
theorem dX1_put_20 : decode cX1_put 20 = .ok (.aload_n 1, 1) := by decide +kernel
theorem dX1_put_21 : decode cX1_put 21 = .ok (.getfield 300, 3) := by decide +kernel
theorem dX1_put_24 : decode cX1_put 24 = .ok (.arraylength, 1) := by decide +kernel
theorem dX1_put_25 : decode cX1_put 25 = .ok (.if_icmp .ge 21, 3) := by decide +kernel
theorem dX1_put_28 : decode cX1_put 28 = .ok (.aload_n 1, 1) := by decide +kernel
theorem dX1_put_29 : decode cX1_put 29 = .ok (.getfield 300, 3) := by decide +kernel
theorem dX1_put_32 : decode cX1_put 32 = .ok (.iload_n 2, 1) := by decide +kernel
theorem dX1_put_33 : decode cX1_put 33 = .ok (.iload 5, 2) := by decide +kernel
theorem dX1_put_35 : decode cX1_put 35 = .ok (.iadd, 1) := by decide +kernel
theorem dX1_put_36 : decode cX1_put 36 = .ok (.iload 4, 2) := by decide +kernel
theorem dX1_put_38 : decode cX1_put 38 = .ok (.bipush 8, 2) := by decide +kernel
theorem dX1_put_40 : decode cX1_put 40 = .ok (.iload 5, 2) := by decide +kernel
theorem dX1_put_42 : decode cX1_put 42 = .ok (.imul, 1) := by decide +kernel
theorem dX1_put_43 : decode cX1_put 43 = .ok (.ishr, 1) := by decide +kernel
theorem dX1_put_44 : decode cX1_put 44 = .ok (.i2b, 1) := by decide +kernel
theorem dX1_put_45 : decode cX1_put 45 = .ok (.bastore, 1) := by decide +kernel
theorem dX1_put_46 : decode cX1_put 46 = .ok (.iinc 5 1, 3) := by decide +kernel
theorem dX1_put_49 : decode cX1_put 49 = .ok (.goto (-46), 3) := by decide +kernel
theorem dX1_put_52 : decode cX1_put 52 = .ok (.return_, 1) := by decide +kernel
theorem dX1_worked_0 : decode cX1_worked 0 = .ok (.aload_n 0, 1) := by decide +kernel
theorem dX1_worked_1 : decode cX1_worked 1 = .ok (.getfield 12, 3) := by decide +kernel
theorem dX1_worked_4 : decode cX1_worked 4 = .ok (.iload_n 1, 1) := by decide +kernel
theorem dX1_worked_5 : decode cX1_worked 5 = .ok (.iload_n 2, 1) := by decide +kernel
theorem dX1_worked_6 : decode cX1_worked 6 = .ok (.invokevirtual 220, 3) := by decide +kernel
theorem dX1_worked_9 : decode cX1_worked 9 = .ok (.istore_n 3, 1) := by decide +kernel
theorem dX1_worked_10 : decode cX1_worked 10 = .ok (.aload_n 0, 1) := by decide +kernel
theorem dX1_worked_11 : decode cX1_worked 11 = .ok (.getfield 12, 3) := by decide +kernel
theorem dX1_worked_14 : decode cX1_worked 14 = .ok (.getfield 223, 3) := by decide +kernel
theorem dX1_worked_17 : decode cX1_worked 17 = .ok (.ifCond .eq 14, 3) := by decide +kernel
theorem dX1_worked_20 : decode cX1_worked 20 = .ok (.aload_n 0, 1) := by decide +kernel
theorem dX1_worked_21 : decode cX1_worked 21 = .ok (.aload_n 0, 1) := by decide +kernel
theorem dX1_worked_22 : decode cX1_worked 22 = .ok (.getfield 12, 3) := by decide +kernel
theorem dX1_worked_25 : decode cX1_worked 25 = .ok (.getfield 223, 3) := by decide +kernel
theorem dX1_worked_28 : decode cX1_worked 28 = .ok (.invokevirtual 77, 3) := by decide +kernel
theorem dX1_worked_31 : decode cX1_worked 31 = .ok (.iload_n 3, 1) := by decide +kernel
theorem dX1_worked_32 : decode cX1_worked 32 = .ok (.ireturn, 1) := by decide +kernel
theorem dX1_checked_0 : decode cX1_checked 0 = .ok (.iload_n 1, 1) := by decide +kernel
theorem dX1_checked_1 : decode cX1_checked 1 = .ok (.iload_n 2, 1) := by decide +kernel
theorem dX1_checked_2 : decode cX1_checked 2 = .ok (.invokestatic 257, 3) := by decide +kernel
theorem dX1_checked_5 : decode cX1_checked 5 = .ok (.ifCond .ne 9, 3) := by decide +kernel
theorem dX1_checked_8 : decode cX1_checked 8 = .ok (.aload_n 0, 1) := by decide +kernel
theorem dX1_checked_9 : decode cX1_checked 9 = .ok (.bipush 10, 2) := by decide +kernel
theorem dX1_checked_11 : decode cX1_checked 11 = .ok (.invokevirtual 77, 3) := by decide +kernel
theorem dX1_checked_14 : decode cX1_checked 14 = .ok (.iload_n 1, 1) := by decide +kernel
theorem dX1_checked_15 : decode cX1_checked 15 = .ok (.iload_n 2, 1) := by decide +kernel
theorem dX1_checked_16 : decode cX1_checked 16 = .ok (.invokestatic 261, 3) := by decide +kernel
theorem dX1_checked_19 : decode cX1_checked 19 = .ok (.ireturn, 1) := by decide +kernel
theorem dX1_putPlain_0 : decode cX1_putPlain 0 = .ok (.aload_n 0, 1) := by decide +kernel
theorem dX1_putPlain_1 : decode cX1_putPlain 1 = .ok (.getfield 19, 3) := by decide +kernel
theorem dX1_putPlain_4 : decode cX1_putPlain 4 = .ok (.iload_n 2, 1) := by decide +kernel
theorem dX1_putPlain_5 : decode cX1_putPlain 5 = .ok (.iconst 5, 1) := by decide +kernel
theorem dX1_putPlain_6 : decode cX1_putPlain 6 = .ok (.iadd, 1) := by decide +kernel
theorem dX1_putPlain_7 : decode cX1_putPlain 7 = .ok (.iaload, 1) := by decide +kernel
theorem dX1_putPlain_8 : decode cX1_putPlain 8 = .ok (.istore_n 3, 1) := by decide +kernel
theorem dX1_putPlain_9 : decode cX1_putPlain 9 = .ok (.aload_n 0, 1) := by decide +kernel
theorem dX1_putPlain_10 : decode cX1_putPlain 10 = .ok (.getfield 19, 3) := by decide +kernel
theorem dX1_putPlain_13 : decode cX1_putPlain 13 = .ok (.iload_n 2, 1) := by decide +kernel
theorem dX1_putPlain_14 : decode cX1_putPlain 14 = .ok (.iconst 2, 1) := by decide +kernel
theorem dX1_putPlain_15 : decode cX1_putPlain 15 = .ok (.iadd, 1) := by decide +kernel
theorem dX1_putPlain_16 : decode cX1_putPlain 16 = .ok (.iaload, 1) := by decide +kernel
theorem dX1_putPlain_17 : decode cX1_putPlain 17 = .ok (.istore 4, 2) := by decide +kernel
theorem dX1_putPlain_19 : decode cX1_putPlain 19 = .ok (.aload_n 0, 1) := by decide +kernel
theorem dX1_putPlain_20 : decode cX1_putPlain 20 = .ok (.getfield 19, 3) := by decide +kernel
theorem dX1_putPlain_23 : decode cX1_putPlain 23 = .ok (.iload_n 2, 1) := by decide +kernel
theorem dX1_putPlain_24 : decode cX1_putPlain 24 = .ok (.bipush 7, 2) := by decide +kernel
theorem dX1_putPlain_26 : decode cX1_putPlain 26 = .ok (.iadd, 1) := by decide +kernel
theorem dX1_putPlain_27 : decode cX1_putPlain 27 = .ok (.iaload, 1) := by decide +kernel
theorem dX1_putPlain_28 : decode cX1_putPlain 28 = .ok (.i2c, 1) := by decide +kernel
theorem dX1_putPlain_29 : decode cX1_putPlain 29 = .ok (.istore 5, 2) := by decide +kernel
theorem dX1_putPlain_31 : decode cX1_putPlain 31 = .ok (.iload 5, 2) := by decide +kernel
theorem dX1_putPlain_33 : decode cX1_putPlain 33 = .ok (.ifCond .eq 47, 3) := by decide +kernel
theorem dX1_putPlain_36 : decode cX1_putPlain 36 = .ok (.aload_n 0, 1) := by decide +kernel
theorem dX1_putPlain_37 : decode cX1_putPlain 37 = .ok (.aload_n 0, 1) := by decide +kernel
theorem dX1_putPlain_38 : decode cX1_putPlain 38 = .ok (.getfield 19, 3) := by decide +kernel
theorem dX1_putPlain_41 : decode cX1_putPlain 41 = .ok (.iload_n 2, 1) := by decide +kernel
theorem dX1_putPlain_42 : decode cX1_putPlain 42 = .ok (.bipush 6, 2) := by decide +kernel
theorem dX1_putPlain_44 : decode cX1_putPlain 44 = .ok (.iadd, 1) := by decide +kernel
theorem dX1_putPlain_45 : decode cX1_putPlain 45 = .ok (.iaload, 1) := by decide +kernel
theorem dX1_putPlain_46 : decode cX1_putPlain 46 = .ok (.iload 4, 2) := by decide +kernel
theorem dX1_putPlain_48 : decode cX1_putPlain 48 = .ok (.invokevirtual 330, 3) := by decide +kernel
theorem dX1_putPlain_51 : decode cX1_putPlain 51 = .ok (.istore 6, 2) := by decide +kernel
theorem dX1_putPlain_53 : decode cX1_putPlain 53 = .ok (.iload_n 3, 1) := by decide +kernel
theorem dX1_putPlain_54 : decode cX1_putPlain 54 = .ok (.aload_n 0, 1) := by decide +kernel
theorem dX1_putPlain_55 : decode cX1_putPlain 55 = .ok (.iload 5, 2) := by decide +kernel
theorem dX1_putPlain_57 : decode cX1_putPlain 57 = .ok (.iload 5, 2) := by decide +kernel
theorem dX1_putPlain_59 : decode cX1_putPlain 59 = .ok (.invokestatic 333, 3) := by decide +kernel
theorem dX1_putPlain_62 : decode cX1_putPlain 62 = .ok (.ifCond .eq 11, 3) := by decide +kernel
theorem dX1_putPlain_65 : decode cX1_putPlain 65 = .ok (.iload 6, 2) := by decide +kernel
theorem dX1_putPlain_67 : decode cX1_putPlain 67 = .ok (.iload 4, 2) := by decide +kernel
theorem dX1_putPlain_69 : decode cX1_putPlain 69 = .ok (.isub, 1) := by decide +kernel
theorem dX1_putPlain_70 : decode cX1_putPlain 70 = .ok (.goto 5, 3) := by decide +kernel
theorem dX1_putPlain_73 : decode cX1_putPlain 73 = .ok (.iload 6, 2) := by decide +kernel
theorem dX1_putPlain_75 : decode cX1_putPlain 75 = .ok (.invokevirtual 337, 3) := by decide +kernel
theorem dX1_putPlain_78 : decode cX1_putPlain 78 = .ok (.ior, 1) := by decide +kernel
theorem dX1_putPlain_79 : decode cX1_putPlain 79 = .ok (.istore_n 3, 1) := by decide +kernel
theorem dX1_putPlain_80 : decode cX1_putPlain 80 = .ok (.aload_n 0, 1) := by decide +kernel
theorem dX1_putPlain_81 : decode cX1_putPlain 81 = .ok (.aload_n 1, 1) := by decide +kernel
theorem dX1_putPlain_82 : decode cX1_putPlain 82 = .ok (.iload 4, 2) := by decide +kernel
theorem dX1_putPlain_84 : decode cX1_putPlain 84 = .ok (.aload_n 0, 1) := by decide +kernel
theorem dX1_putPlain_85 : decode cX1_putPlain 85 = .ok (.getfield 19, 3) := by decide +kernel
theorem dX1_putPlain_88 : decode cX1_putPlain 88 = .ok (.iload_n 2, 1) := by decide +kernel
theorem dX1_putPlain_89 : decode cX1_putPlain 89 = .ok (.iconst 3, 1) := by decide +kernel
theorem dX1_putPlain_90 : decode cX1_putPlain 90 = .ok (.iadd, 1) := by decide +kernel
theorem dX1_putPlain_91 : decode cX1_putPlain 91 = .ok (.iaload, 1) := by decide +kernel
theorem dX1_putPlain_92 : decode cX1_putPlain 92 = .ok (.iload_n 3, 1) := by decide +kernel
theorem dX1_putPlain_93 : decode cX1_putPlain 93 = .ok (.invokevirtual 340, 3) := by decide +kernel
theorem dX1_putPlain_96 : decode cX1_putPlain 96 = .ok (.return_, 1) := by decide +kernel
theorem dX1_putGrown_0 : decode cX1_putGrown 0 = .ok (.aload_n 0, 1) := by decide +kernel
theorem dX1_putGrown_1 : decode cX1_putGrown 1 = .ok (.getfield 19, 3) := by decide +kernel
theorem dX1_putGrown_4 : decode cX1_putGrown 4 = .ok (.iload_n 2, 1) := by decide +kernel
theorem dX1_putGrown_5 : decode cX1_putGrown 5 = .ok (.iconst 5, 1) := by decide +kernel
theorem dX1_putGrown_6 : decode cX1_putGrown 6 = .ok (.iadd, 1) := by decide +kernel
theorem dX1_putGrown_7 : decode cX1_putGrown 7 = .ok (.iaload, 1) := by decide +kernel
theorem dX1_putGrown_8 : decode cX1_putGrown 8 = .ok (.istore_n 3, 1) := by decide +kernel
theorem dX1_putGrown_9 : decode cX1_putGrown 9 = .ok (.aload_n 0, 1) := by decide +kernel
theorem dX1_putGrown_10 : decode cX1_putGrown 10 = .ok (.getfield 19, 3) := by decide +kernel
theorem dX1_putGrown_13 : decode cX1_putGrown 13 = .ok (.iload_n 2, 1) := by decide +kernel
theorem dX1_putGrown_14 : decode cX1_putGrown 14 = .ok (.iconst 2, 1) := by decide +kernel
theorem dX1_putGrown_15 : decode cX1_putGrown 15 = .ok (.iadd, 1) := by decide +kernel
theorem dX1_putGrown_16 : decode cX1_putGrown 16 = .ok (.iaload, 1) := by decide +kernel
theorem dX1_putGrown_17 : decode cX1_putGrown 17 = .ok (.istore 4, 2) := by decide +kernel
theorem dX1_putGrown_19 : decode cX1_putGrown 19 = .ok (.aload_n 0, 1) := by decide +kernel
theorem dX1_putGrown_20 : decode cX1_putGrown 20 = .ok (.getfield 19, 3) := by decide +kernel
theorem dX1_putGrown_23 : decode cX1_putGrown 23 = .ok (.iload_n 2, 1) := by decide +kernel
theorem dX1_putGrown_24 : decode cX1_putGrown 24 = .ok (.iconst 3, 1) := by decide +kernel
theorem dX1_putGrown_25 : decode cX1_putGrown 25 = .ok (.iadd, 1) := by decide +kernel
theorem dX1_putGrown_26 : decode cX1_putGrown 26 = .ok (.iaload, 1) := by decide +kernel
theorem dX1_putGrown_27 : decode cX1_putGrown 27 = .ok (.istore 5, 2) := by decide +kernel
theorem dX1_putGrown_29 : decode cX1_putGrown 29 = .ok (.aload_n 0, 1) := by decide +kernel
theorem dX1_putGrown_30 : decode cX1_putGrown 30 = .ok (.getfield 19, 3) := by decide +kernel
theorem dX1_putGrown_33 : decode cX1_putGrown 33 = .ok (.iload_n 2, 1) := by decide +kernel
theorem dX1_putGrown_34 : decode cX1_putGrown 34 = .ok (.iconst 4, 1) := by decide +kernel
theorem dX1_putGrown_35 : decode cX1_putGrown 35 = .ok (.iadd, 1) := by decide +kernel
theorem dX1_putGrown_36 : decode cX1_putGrown 36 = .ok (.iaload, 1) := by decide +kernel
theorem dX1_putGrown_37 : decode cX1_putGrown 37 = .ok (.istore 6, 2) := by decide +kernel
theorem dX1_putGrown_39 : decode cX1_putGrown 39 = .ok (.aload_n 0, 1) := by decide +kernel
theorem dX1_putGrown_40 : decode cX1_putGrown 40 = .ok (.aload_n 0, 1) := by decide +kernel
theorem dX1_putGrown_41 : decode cX1_putGrown 41 = .ok (.getfield 19, 3) := by decide +kernel
theorem dX1_putGrown_44 : decode cX1_putGrown 44 = .ok (.iload_n 2, 1) := by decide +kernel
theorem dX1_putGrown_45 : decode cX1_putGrown 45 = .ok (.bipush 6, 2) := by decide +kernel
theorem dX1_putGrown_47 : decode cX1_putGrown 47 = .ok (.iadd, 1) := by decide +kernel
theorem dX1_putGrown_48 : decode cX1_putGrown 48 = .ok (.iaload, 1) := by decide +kernel
theorem dX1_putGrown_49 : decode cX1_putGrown 49 = .ok (.iload 4, 2) := by decide +kernel
theorem dX1_putGrown_51 : decode cX1_putGrown 51 = .ok (.invokevirtual 330, 3) := by decide +kernel
theorem dX1_putGrown_54 : decode cX1_putGrown 54 = .ok (.iload 4, 2) := by decide +kernel
theorem dX1_putGrown_56 : decode cX1_putGrown 56 = .ok (.isub, 1) := by decide +kernel
theorem dX1_putGrown_57 : decode cX1_putGrown 57 = .ok (.istore 7, 2) := by decide +kernel
theorem dX1_putGrown_59 : decode cX1_putGrown 59 = .ok (.iload 5, 2) := by decide +kernel
theorem dX1_putGrown_61 : decode cX1_putGrown 61 = .ok (.bipush 8, 2) := by decide +kernel
theorem dX1_putGrown_63 : decode cX1_putGrown 63 = .ok (.if_icmp .ne 48, 3) := by decide +kernel
theorem dX1_putGrown_66 : decode cX1_putGrown 66 = .ok (.aload_n 0, 1) := by decide +kernel
theorem dX1_putGrown_67 : decode cX1_putGrown 67 = .ok (.aload_n 1, 1) := by decide +kernel
theorem dX1_putGrown_68 : decode cX1_putGrown 68 = .ok (.iload 4, 2) := by decide +kernel
theorem dX1_putGrown_70 : decode cX1_putGrown 70 = .ok (.iconst 4, 1) := by decide +kernel
theorem dX1_putGrown_71 : decode cX1_putGrown 71 = .ok (.iload_n 3, 1) := by decide +kernel
theorem dX1_putGrown_72 : decode cX1_putGrown 72 = .ok (.sipush 4096, 3) := by decide +kernel
theorem dX1_putGrown_75 : decode cX1_putGrown 75 = .ok (.ixor, 1) := by decide +kernel
theorem dX1_putGrown_76 : decode cX1_putGrown 76 = .ok (.bipush 84, 2) := by decide +kernel
theorem dX1_putGrown_78 : decode cX1_putGrown 78 = .ok (.bipush 8, 2) := by decide +kernel
theorem dX1_putGrown_80 : decode cX1_putGrown 80 = .ok (.invokestatic 261, 3) := by decide +kernel
theorem dX1_putGrown_83 : decode cX1_putGrown 83 = .ok (.ior, 1) := by decide +kernel
theorem dX1_putGrown_84 : decode cX1_putGrown 84 = .ok (.invokevirtual 340, 3) := by decide +kernel
theorem dX1_putGrown_87 : decode cX1_putGrown 87 = .ok (.aload_n 0, 1) := by decide +kernel
theorem dX1_putGrown_88 : decode cX1_putGrown 88 = .ok (.aload_n 1, 1) := by decide +kernel
theorem dX1_putGrown_89 : decode cX1_putGrown 89 = .ok (.iload 4, 2) := by decide +kernel
theorem dX1_putGrown_91 : decode cX1_putGrown 91 = .ok (.iconst 4, 1) := by decide +kernel
theorem dX1_putGrown_92 : decode cX1_putGrown 92 = .ok (.iadd, 1) := by decide +kernel
theorem dX1_putGrown_93 : decode cX1_putGrown 93 = .ok (.iconst 4, 1) := by decide +kernel
theorem dX1_putGrown_94 : decode cX1_putGrown 94 = .ok (.bipush 111, 2) := by decide +kernel
theorem dX1_putGrown_96 : decode cX1_putGrown 96 = .ok (.aload_n 0, 1) := by decide +kernel
theorem dX1_putGrown_97 : decode cX1_putGrown 97 = .ok (.bipush 74, 2) := by decide +kernel
theorem dX1_putGrown_99 : decode cX1_putGrown 99 = .ok (.iload 7, 2) := by decide +kernel
theorem dX1_putGrown_101 : decode cX1_putGrown 101 = .ok (.iconst 4, 1) := by decide +kernel
theorem dX1_putGrown_102 : decode cX1_putGrown 102 = .ok (.isub, 1) := by decide +kernel
theorem dX1_putGrown_103 : decode cX1_putGrown 103 = .ok (.invokevirtual 337, 3) := by decide +kernel
theorem dX1_putGrown_106 : decode cX1_putGrown 106 = .ok (.ior, 1) := by decide +kernel
theorem dX1_putGrown_107 : decode cX1_putGrown 107 = .ok (.invokevirtual 340, 3) := by decide +kernel
theorem dX1_putGrown_110 : decode cX1_putGrown 110 = .ok (.return_, 1) := by decide +kernel
theorem dX1_putGrown_111 : decode cX1_putGrown 111 = .ok (.iload 5, 2) := by decide +kernel
theorem dX1_putGrown_113 : decode cX1_putGrown 113 = .ok (.iconst 2, 1) := by decide +kernel
theorem dX1_putGrown_114 : decode cX1_putGrown 114 = .ok (.if_icmp .ne 57, 3) := by decide +kernel
theorem dX1_putGrown_117 : decode cX1_putGrown 117 = .ok (.iload 6, 2) := by decide +kernel
theorem dX1_putGrown_119 : decode cX1_putGrown 119 = .ok (.iconst 1, 1) := by decide +kernel
theorem dX1_putGrown_120 : decode cX1_putGrown 120 = .ok (.if_icmp .ne 26, 3) := by decide +kernel
theorem dX1_putGrown_123 : decode cX1_putGrown 123 = .ok (.iload_n 3, 1) := by decide +kernel
theorem dX1_putGrown_124 : decode cX1_putGrown 124 = .ok (.bipush 7, 2) := by decide +kernel
theorem dX1_putGrown_126 : decode cX1_putGrown 126 = .ok (.ishr, 1) := by decide +kernel
theorem dX1_putGrown_127 : decode cX1_putGrown 127 = .ok (.bipush 31, 2) := by decide +kernel
theorem dX1_putGrown_129 : decode cX1_putGrown 129 = .ok (.iand, 1) := by decide +kernel
theorem dX1_putGrown_130 : decode cX1_putGrown 130 = .ok (.ifCond .ne 9, 3) := by decide +kernel
theorem dX1_putGrown_133 : decode cX1_putGrown 133 = .ok (.ldc_w 344, 3) := by decide +kernel
theorem dX1_putGrown_136 : decode cX1_putGrown 136 = .ok (.goto 6, 3) := by decide +kernel
theorem dX1_putGrown_139 : decode cX1_putGrown 139 = .ok (.sipush 8193, 3) := by decide +kernel
theorem dX1_putGrown_142 : decode cX1_putGrown 142 = .ok (.istore_n 3, 1) := by decide +kernel
theorem dX1_putGrown_143 : decode cX1_putGrown 143 = .ok (.goto 28, 3) := by decide +kernel
theorem dX1_putGrown_146 : decode cX1_putGrown 146 = .ok (.ldc_w 345, 3) := by decide +kernel
theorem dX1_putGrown_149 : decode cX1_putGrown 149 = .ok (.iload_n 3, 1) := by decide +kernel
theorem dX1_putGrown_150 : decode cX1_putGrown 150 = .ok (.sipush 4096, 3) := by decide +kernel
theorem dX1_putGrown_153 : decode cX1_putGrown 153 = .ok (.iand, 1) := by decide +kernel
theorem dX1_putGrown_154 : decode cX1_putGrown 154 = .ok (.iconst 1, 1) := by decide +kernel
theorem dX1_putGrown_155 : decode cX1_putGrown 155 = .ok (.ishl, 1) := by decide +kernel
theorem dX1_putGrown_156 : decode cX1_putGrown 156 = .ok (.ior, 1) := by decide +kernel
theorem dX1_putGrown_157 : decode cX1_putGrown 157 = .ok (.bipush 113, 2) := by decide +kernel
theorem dX1_putGrown_159 : decode cX1_putGrown 159 = .ok (.iload_n 3, 1) := by decide +kernel
theorem dX1_putGrown_160 : decode cX1_putGrown 160 = .ok (.bipush 15, 2) := by decide +kernel
theorem dX1_putGrown_162 : decode cX1_putGrown 162 = .ok (.ishr, 1) := by decide +kernel
theorem dX1_putGrown_163 : decode cX1_putGrown 163 = .ok (.bipush 31, 2) := by decide +kernel
theorem dX1_putGrown_165 : decode cX1_putGrown 165 = .ok (.iand, 1) := by decide +kernel
theorem dX1_putGrown_166 : decode cX1_putGrown 166 = .ok (.invokestatic 261, 3) := by decide +kernel
theorem dX1_putGrown_169 : decode cX1_putGrown 169 = .ok (.ior, 1) := by decide +kernel
theorem dX1_putGrown_170 : decode cX1_putGrown 170 = .ok (.istore_n 3, 1) := by decide +kernel
theorem dX1_putGrown_171 : decode cX1_putGrown 171 = .ok (.aload_n 0, 1) := by decide +kernel
theorem dX1_putGrown_172 : decode cX1_putGrown 172 = .ok (.aload_n 1, 1) := by decide +kernel
theorem dX1_putGrown_173 : decode cX1_putGrown 173 = .ok (.iload 4, 2) := by decide +kernel
theorem dX1_putGrown_175 : decode cX1_putGrown 175 = .ok (.iload 5, 2) := by decide +kernel
theorem dX1_putGrown_177 : decode cX1_putGrown 177 = .ok (.iload_n 3, 1) := by decide +kernel
theorem dX1_putGrown_178 : decode cX1_putGrown 178 = .ok (.aload_n 0, 1) := by decide +kernel
theorem dX1_putGrown_179 : decode cX1_putGrown 179 = .ok (.iload 6, 2) := by decide +kernel
theorem dX1_putGrown_181 : decode cX1_putGrown 181 = .ok (.iload 5, 2) := by decide +kernel
theorem dX1_putGrown_183 : decode cX1_putGrown 183 = .ok (.invokestatic 296, 3) := by decide +kernel
theorem dX1_putGrown_186 : decode cX1_putGrown 186 = .ok (.iload 7, 2) := by decide +kernel
theorem dX1_putGrown_188 : decode cX1_putGrown 188 = .ok (.invokevirtual 337, 3) := by decide +kernel
theorem dX1_putGrown_191 : decode cX1_putGrown 191 = .ok (.ior, 1) := by decide +kernel
theorem dX1_putGrown_192 : decode cX1_putGrown 192 = .ok (.invokevirtual 340, 3) := by decide +kernel
theorem dX1_putGrown_195 : decode cX1_putGrown 195 = .ok (.return_, 1) := by decide +kernel
theorem dX1_putAddress_0 : decode cX1_putAddress 0 = .ok (.aload_n 0, 1) := by decide +kernel
theorem dX1_putAddress_1 : decode cX1_putAddress 1 = .ok (.getfield 19, 3) := by decide +kernel
theorem dX1_putAddress_4 : decode cX1_putAddress 4 = .ok (.iload_n 2, 1) := by decide +kernel
theorem dX1_putAddress_5 : decode cX1_putAddress 5 = .ok (.iconst 2, 1) := by decide +kernel
theorem dX1_putAddress_6 : decode cX1_putAddress 6 = .ok (.iadd, 1) := by decide +kernel
theorem dX1_putAddress_7 : decode cX1_putAddress 7 = .ok (.iaload, 1) := by decide +kernel
theorem dX1_putAddress_8 : decode cX1_putAddress 8 = .ok (.istore_n 3, 1) := by decide +kernel
theorem dX1_putAddress_9 : decode cX1_putAddress 9 = .ok (.aload_n 0, 1) := by decide +kernel
theorem dX1_putAddress_10 : decode cX1_putAddress 10 = .ok (.getfield 19, 3) := by decide +kernel
theorem dX1_putAddress_13 : decode cX1_putAddress 13 = .ok (.iload_n 2, 1) := by decide +kernel
theorem dX1_putAddress_14 : decode cX1_putAddress 14 = .ok (.iconst 5, 1) := by decide +kernel
theorem dX1_putAddress_15 : decode cX1_putAddress 15 = .ok (.iadd, 1) := by decide +kernel
theorem dX1_putAddress_16 : decode cX1_putAddress 16 = .ok (.iaload, 1) := by decide +kernel
theorem dX1_putAddress_17 : decode cX1_putAddress 17 = .ok (.bipush 7, 2) := by decide +kernel
theorem dX1_putAddress_19 : decode cX1_putAddress 19 = .ok (.ishr, 1) := by decide +kernel
theorem dX1_putAddress_20 : decode cX1_putAddress 20 = .ok (.bipush 31, 2) := by decide +kernel
theorem dX1_putAddress_22 : decode cX1_putAddress 22 = .ok (.iand, 1) := by decide +kernel
theorem dX1_putAddress_23 : decode cX1_putAddress 23 = .ok (.istore 4, 2) := by decide +kernel
theorem dX1_putAddress_25 : decode cX1_putAddress 25 = .ok (.aload_n 0, 1) := by decide +kernel
theorem dX1_putAddress_26 : decode cX1_putAddress 26 = .ok (.aload_n 0, 1) := by decide +kernel
theorem dX1_putAddress_27 : decode cX1_putAddress 27 = .ok (.getfield 19, 3) := by decide +kernel
theorem dX1_putAddress_30 : decode cX1_putAddress 30 = .ok (.iload_n 2, 1) := by decide +kernel
theorem dX1_putAddress_31 : decode cX1_putAddress 31 = .ok (.bipush 6, 2) := by decide +kernel
theorem dX1_putAddress_33 : decode cX1_putAddress 33 = .ok (.iadd, 1) := by decide +kernel
theorem dX1_putAddress_34 : decode cX1_putAddress 34 = .ok (.iaload, 1) := by decide +kernel
theorem dX1_putAddress_35 : decode cX1_putAddress 35 = .ok (.iload_n 3, 1) := by decide +kernel
theorem dX1_putAddress_36 : decode cX1_putAddress 36 = .ok (.invokevirtual 330, 3) := by decide +kernel
theorem dX1_putAddress_39 : decode cX1_putAddress 39 = .ok (.iload_n 3, 1) := by decide +kernel
theorem dX1_putAddress_40 : decode cX1_putAddress 40 = .ok (.isub, 1) := by decide +kernel
theorem dX1_putAddress_41 : decode cX1_putAddress 41 = .ok (.istore 5, 2) := by decide +kernel
theorem dX1_putAddress_43 : decode cX1_putAddress 43 = .ok (.aload_n 0, 1) := by decide +kernel
theorem dX1_putAddress_44 : decode cX1_putAddress 44 = .ok (.aload_n 1, 1) := by decide +kernel
theorem dX1_putAddress_45 : decode cX1_putAddress 45 = .ok (.iload_n 3, 1) := by decide +kernel
theorem dX1_putAddress_46 : decode cX1_putAddress 46 = .ok (.iconst 4, 1) := by decide +kernel
theorem dX1_putAddress_47 : decode cX1_putAddress 47 = .ok (.aload_n 0, 1) := by decide +kernel
theorem dX1_putAddress_48 : decode cX1_putAddress 48 = .ok (.getfield 19, 3) := by decide +kernel
theorem dX1_putAddress_51 : decode cX1_putAddress 51 = .ok (.iload_n 2, 1) := by decide +kernel
theorem dX1_putAddress_52 : decode cX1_putAddress 52 = .ok (.iconst 5, 1) := by decide +kernel
theorem dX1_putAddress_53 : decode cX1_putAddress 53 = .ok (.iadd, 1) := by decide +kernel
theorem dX1_putAddress_54 : decode cX1_putAddress 54 = .ok (.iaload, 1) := by decide +kernel
theorem dX1_putAddress_55 : decode cX1_putAddress 55 = .ok (.bipush 85, 2) := by decide +kernel
theorem dX1_putAddress_57 : decode cX1_putAddress 57 = .ok (.iload 5, 2) := by decide +kernel
theorem dX1_putAddress_59 : decode cX1_putAddress 59 = .ok (.invokestatic 346, 3) := by decide +kernel
theorem dX1_putAddress_62 : decode cX1_putAddress 62 = .ok (.invokestatic 261, 3) := by decide +kernel
theorem dX1_putAddress_65 : decode cX1_putAddress 65 = .ok (.ior, 1) := by decide +kernel
theorem dX1_putAddress_66 : decode cX1_putAddress 66 = .ok (.invokevirtual 340, 3) := by decide +kernel
theorem dX1_putAddress_69 : decode cX1_putAddress 69 = .ok (.aload_n 0, 1) := by decide +kernel
theorem dX1_putAddress_70 : decode cX1_putAddress 70 = .ok (.aload_n 1, 1) := by decide +kernel
theorem dX1_putAddress_71 : decode cX1_putAddress 71 = .ok (.iload_n 3, 1) := by decide +kernel
theorem dX1_putAddress_72 : decode cX1_putAddress 72 = .ok (.iconst 4, 1) := by decide +kernel
theorem dX1_putAddress_73 : decode cX1_putAddress 73 = .ok (.iadd, 1) := by decide +kernel
theorem dX1_putAddress_74 : decode cX1_putAddress 74 = .ok (.iconst 4, 1) := by decide +kernel
theorem dX1_putAddress_75 : decode cX1_putAddress 75 = .ok (.bipush 19, 2) := by decide +kernel
theorem dX1_putAddress_77 : decode cX1_putAddress 77 = .ok (.iload 4, 2) := by decide +kernel
theorem dX1_putAddress_79 : decode cX1_putAddress 79 = .ok (.bipush 7, 2) := by decide +kernel
theorem dX1_putAddress_81 : decode cX1_putAddress 81 = .ok (.ishl, 1) := by decide +kernel
theorem dX1_putAddress_82 : decode cX1_putAddress 82 = .ok (.ior, 1) := by decide +kernel
theorem dX1_putAddress_83 : decode cX1_putAddress 83 = .ok (.iload 4, 2) := by decide +kernel
theorem dX1_putAddress_85 : decode cX1_putAddress 85 = .ok (.bipush 15, 2) := by decide +kernel
theorem dX1_putAddress_87 : decode cX1_putAddress 87 = .ok (.ishl, 1) := by decide +kernel
theorem dX1_putAddress_88 : decode cX1_putAddress 88 = .ok (.ior, 1) := by decide +kernel
theorem dX1_putAddress_89 : decode cX1_putAddress 89 = .ok (.bipush 73, 2) := by decide +kernel
theorem dX1_putAddress_91 : decode cX1_putAddress 91 = .ok (.iload 5, 2) := by decide +kernel
theorem dX1_putAddress_93 : decode cX1_putAddress 93 = .ok (.invokestatic 265, 3) := by decide +kernel
theorem dX1_putAddress_96 : decode cX1_putAddress 96 = .ok (.invokestatic 261, 3) := by decide +kernel
theorem dX1_putAddress_99 : decode cX1_putAddress 99 = .ok (.ior, 1) := by decide +kernel
theorem dX1_putAddress_100 : decode cX1_putAddress 100 = .ok (.invokevirtual 340, 3) := by decide +kernel
theorem dX1_putAddress_103 : decode cX1_putAddress 103 = .ok (.return_, 1) := by decide +kernel
theorem dX1_putNumber_0 : decode cX1_putNumber 0 = .ok (.aload_n 0, 1) := by decide +kernel
theorem dX1_putNumber_1 : decode cX1_putNumber 1 = .ok (.getfield 19, 3) := by decide +kernel
theorem dX1_putNumber_4 : decode cX1_putNumber 4 = .ok (.iload_n 2, 1) := by decide +kernel
theorem dX1_putNumber_5 : decode cX1_putNumber 5 = .ok (.iconst 2, 1) := by decide +kernel
theorem dX1_putNumber_6 : decode cX1_putNumber 6 = .ok (.iadd, 1) := by decide +kernel
theorem dX1_putNumber_7 : decode cX1_putNumber 7 = .ok (.iaload, 1) := by decide +kernel
theorem dX1_putNumber_8 : decode cX1_putNumber 8 = .ok (.istore_n 3, 1) := by decide +kernel
theorem dX1_putNumber_9 : decode cX1_putNumber 9 = .ok (.aload_n 0, 1) := by decide +kernel
theorem dX1_putNumber_10 : decode cX1_putNumber 10 = .ok (.getfield 19, 3) := by decide +kernel
theorem dX1_putNumber_13 : decode cX1_putNumber 13 = .ok (.iload_n 2, 1) := by decide +kernel
theorem dX1_putNumber_14 : decode cX1_putNumber 14 = .ok (.iconst 3, 1) := by decide +kernel
theorem dX1_putNumber_15 : decode cX1_putNumber 15 = .ok (.iadd, 1) := by decide +kernel
theorem dX1_putNumber_16 : decode cX1_putNumber 16 = .ok (.iaload, 1) := by decide +kernel
theorem dX1_putNumber_17 : decode cX1_putNumber 17 = .ok (.istore 4, 2) := by decide +kernel
theorem dX1_putNumber_19 : decode cX1_putNumber 19 = .ok (.aload_n 0, 1) := by decide +kernel
theorem dX1_putNumber_20 : decode cX1_putNumber 20 = .ok (.getfield 19, 3) := by decide +kernel
theorem dX1_putNumber_23 : decode cX1_putNumber 23 = .ok (.iload_n 2, 1) := by decide +kernel
theorem dX1_putNumber_24 : decode cX1_putNumber 24 = .ok (.iconst 5, 1) := by decide +kernel
theorem dX1_putNumber_25 : decode cX1_putNumber 25 = .ok (.iadd, 1) := by decide +kernel
theorem dX1_putNumber_26 : decode cX1_putNumber 26 = .ok (.iaload, 1) := by decide +kernel
theorem dX1_putNumber_27 : decode cX1_putNumber 27 = .ok (.istore 5, 2) := by decide +kernel
theorem dX1_putNumber_29 : decode cX1_putNumber 29 = .ok (.aload_n 0, 1) := by decide +kernel
theorem dX1_putNumber_30 : decode cX1_putNumber 30 = .ok (.getfield 19, 3) := by decide +kernel
theorem dX1_putNumber_33 : decode cX1_putNumber 33 = .ok (.iload_n 2, 1) := by decide +kernel
theorem dX1_putNumber_34 : decode cX1_putNumber 34 = .ok (.bipush 6, 2) := by decide +kernel
theorem dX1_putNumber_36 : decode cX1_putNumber 36 = .ok (.iadd, 1) := by decide +kernel
theorem dX1_putNumber_37 : decode cX1_putNumber 37 = .ok (.iaload, 1) := by decide +kernel
theorem dX1_putNumber_38 : decode cX1_putNumber 38 = .ok (.istore 6, 2) := by decide +kernel
theorem dX1_putNumber_40 : decode cX1_putNumber 40 = .ok (.iload 4, 2) := by decide +kernel
theorem dX1_putNumber_42 : decode cX1_putNumber 42 = .ok (.iconst 2, 1) := by decide +kernel
theorem dX1_putNumber_43 : decode cX1_putNumber 43 = .ok (.if_icmp .ne 30, 3) := by decide +kernel
theorem dX1_putNumber_46 : decode cX1_putNumber 46 = .ok (.aload_n 0, 1) := by decide +kernel
theorem dX1_putNumber_47 : decode cX1_putNumber 47 = .ok (.aload_n 1, 1) := by decide +kernel
theorem dX1_putNumber_48 : decode cX1_putNumber 48 = .ok (.iload_n 3, 1) := by decide +kernel
theorem dX1_putNumber_49 : decode cX1_putNumber 49 = .ok (.iconst 2, 1) := by decide +kernel
theorem dX1_putNumber_50 : decode cX1_putNumber 50 = .ok (.sipush 16385, 3) := by decide +kernel
theorem dX1_putNumber_53 : decode cX1_putNumber 53 = .ok (.iload 5, 2) := by decide +kernel
theorem dX1_putNumber_55 : decode cX1_putNumber 55 = .ok (.bipush 7, 2) := by decide +kernel
theorem dX1_putNumber_57 : decode cX1_putNumber 57 = .ok (.ishl, 1) := by decide +kernel
theorem dX1_putNumber_58 : decode cX1_putNumber 58 = .ok (.ior, 1) := by decide +kernel
theorem dX1_putNumber_59 : decode cX1_putNumber 59 = .ok (.bipush 78, 2) := by decide +kernel
theorem dX1_putNumber_61 : decode cX1_putNumber 61 = .ok (.iload 6, 2) := by decide +kernel
theorem dX1_putNumber_63 : decode cX1_putNumber 63 = .ok (.invokestatic 261, 3) := by decide +kernel
theorem dX1_putNumber_66 : decode cX1_putNumber 66 = .ok (.ior, 1) := by decide +kernel
theorem dX1_putNumber_67 : decode cX1_putNumber 67 = .ok (.invokevirtual 340, 3) := by decide +kernel
theorem dX1_putNumber_70 : decode cX1_putNumber 70 = .ok (.goto 106, 3) := by decide +kernel
theorem dX1_putNumber_73 : decode cX1_putNumber 73 = .ok (.bipush 73, 2) := by decide +kernel
theorem dX1_putNumber_75 : decode cX1_putNumber 75 = .ok (.iload 6, 2) := by decide +kernel
theorem dX1_putNumber_77 : decode cX1_putNumber 77 = .ok (.invokestatic 257, 3) := by decide +kernel
theorem dX1_putNumber_80 : decode cX1_putNumber 80 = .ok (.ifCond .eq 29, 3) := by decide +kernel
theorem dX1_putNumber_83 : decode cX1_putNumber 83 = .ok (.aload_n 0, 1) := by decide +kernel
theorem dX1_putNumber_84 : decode cX1_putNumber 84 = .ok (.aload_n 1, 1) := by decide +kernel
theorem dX1_putNumber_85 : decode cX1_putNumber 85 = .ok (.iload_n 3, 1) := by decide +kernel
theorem dX1_putNumber_86 : decode cX1_putNumber 86 = .ok (.iconst 4, 1) := by decide +kernel
theorem dX1_putNumber_87 : decode cX1_putNumber 87 = .ok (.bipush 19, 2) := by decide +kernel
theorem dX1_putNumber_89 : decode cX1_putNumber 89 = .ok (.iload 5, 2) := by decide +kernel
theorem dX1_putNumber_91 : decode cX1_putNumber 91 = .ok (.bipush 7, 2) := by decide +kernel
theorem dX1_putNumber_93 : decode cX1_putNumber 93 = .ok (.ishl, 1) := by decide +kernel
theorem dX1_putNumber_94 : decode cX1_putNumber 94 = .ok (.ior, 1) := by decide +kernel
theorem dX1_putNumber_95 : decode cX1_putNumber 95 = .ok (.bipush 73, 2) := by decide +kernel
theorem dX1_putNumber_97 : decode cX1_putNumber 97 = .ok (.iload 6, 2) := by decide +kernel
theorem dX1_putNumber_99 : decode cX1_putNumber 99 = .ok (.invokestatic 261, 3) := by decide +kernel
theorem dX1_putNumber_102 : decode cX1_putNumber 102 = .ok (.ior, 1) := by decide +kernel
theorem dX1_putNumber_103 : decode cX1_putNumber 103 = .ok (.invokevirtual 340, 3) := by decide +kernel
theorem dX1_putNumber_106 : decode cX1_putNumber 106 = .ok (.goto 70, 3) := by decide +kernel
theorem dX1_putNumber_109 : decode cX1_putNumber 109 = .ok (.aload_n 0, 1) := by decide +kernel
theorem dX1_putNumber_110 : decode cX1_putNumber 110 = .ok (.aload_n 1, 1) := by decide +kernel
theorem dX1_putNumber_111 : decode cX1_putNumber 111 = .ok (.iload_n 3, 1) := by decide +kernel
theorem dX1_putNumber_112 : decode cX1_putNumber 112 = .ok (.iconst 4, 1) := by decide +kernel
theorem dX1_putNumber_113 : decode cX1_putNumber 113 = .ok (.bipush 55, 2) := by decide +kernel
theorem dX1_putNumber_115 : decode cX1_putNumber 115 = .ok (.iload 5, 2) := by decide +kernel
theorem dX1_putNumber_117 : decode cX1_putNumber 117 = .ok (.bipush 7, 2) := by decide +kernel
theorem dX1_putNumber_119 : decode cX1_putNumber 119 = .ok (.ishl, 1) := by decide +kernel
theorem dX1_putNumber_120 : decode cX1_putNumber 120 = .ok (.ior, 1) := by decide +kernel
theorem dX1_putNumber_121 : decode cX1_putNumber 121 = .ok (.bipush 85, 2) := by decide +kernel
theorem dX1_putNumber_123 : decode cX1_putNumber 123 = .ok (.iload 6, 2) := by decide +kernel
theorem dX1_putNumber_125 : decode cX1_putNumber 125 = .ok (.invokestatic 346, 3) := by decide +kernel
theorem dX1_putNumber_128 : decode cX1_putNumber 128 = .ok (.invokestatic 261, 3) := by decide +kernel
theorem dX1_putNumber_131 : decode cX1_putNumber 131 = .ok (.ior, 1) := by decide +kernel
theorem dX1_putNumber_132 : decode cX1_putNumber 132 = .ok (.invokevirtual 340, 3) := by decide +kernel
theorem dX1_putNumber_135 : decode cX1_putNumber 135 = .ok (.iload 4, 2) := by decide +kernel
theorem dX1_putNumber_137 : decode cX1_putNumber 137 = .ok (.bipush 8, 2) := by decide +kernel
theorem dX1_putNumber_139 : decode cX1_putNumber 139 = .ok (.if_icmp .ne 37, 3) := by decide +kernel
theorem dX1_putNumber_142 : decode cX1_putNumber 142 = .ok (.aload_n 0, 1) := by decide +kernel
theorem dX1_putNumber_143 : decode cX1_putNumber 143 = .ok (.aload_n 1, 1) := by decide +kernel
theorem dX1_putNumber_144 : decode cX1_putNumber 144 = .ok (.iload_n 3, 1) := by decide +kernel
theorem dX1_putNumber_145 : decode cX1_putNumber 145 = .ok (.iconst 4, 1) := by decide +kernel
theorem dX1_putNumber_146 : decode cX1_putNumber 146 = .ok (.iadd, 1) := by decide +kernel
theorem dX1_putNumber_147 : decode cX1_putNumber 147 = .ok (.iconst 4, 1) := by decide +kernel
theorem dX1_putNumber_148 : decode cX1_putNumber 148 = .ok (.bipush 19, 2) := by decide +kernel
theorem dX1_putNumber_150 : decode cX1_putNumber 150 = .ok (.iload 5, 2) := by decide +kernel
theorem dX1_putNumber_152 : decode cX1_putNumber 152 = .ok (.bipush 7, 2) := by decide +kernel
theorem dX1_putNumber_154 : decode cX1_putNumber 154 = .ok (.ishl, 1) := by decide +kernel
theorem dX1_putNumber_155 : decode cX1_putNumber 155 = .ok (.ior, 1) := by decide +kernel
theorem dX1_putNumber_156 : decode cX1_putNumber 156 = .ok (.iload 5, 2) := by decide +kernel
theorem dX1_putNumber_158 : decode cX1_putNumber 158 = .ok (.bipush 15, 2) := by decide +kernel
theorem dX1_putNumber_160 : decode cX1_putNumber 160 = .ok (.ishl, 1) := by decide +kernel
theorem dX1_putNumber_161 : decode cX1_putNumber 161 = .ok (.ior, 1) := by decide +kernel
theorem dX1_putNumber_162 : decode cX1_putNumber 162 = .ok (.bipush 73, 2) := by decide +kernel
theorem dX1_putNumber_164 : decode cX1_putNumber 164 = .ok (.iload 6, 2) := by decide +kernel
theorem dX1_putNumber_166 : decode cX1_putNumber 166 = .ok (.invokestatic 265, 3) := by decide +kernel
theorem dX1_putNumber_169 : decode cX1_putNumber 169 = .ok (.invokestatic 261, 3) := by decide +kernel
theorem dX1_putNumber_172 : decode cX1_putNumber 172 = .ok (.ior, 1) := by decide +kernel
theorem dX1_putNumber_173 : decode cX1_putNumber 173 = .ok (.invokevirtual 340, 3) := by decide +kernel
theorem dX1_putNumber_176 : decode cX1_putNumber 176 = .ok (.return_, 1) := by decide +kernel
theorem dX1_putList_0 : decode cX1_putList 0 = .ok (.aload_n 0, 1) := by decide +kernel
theorem dX1_putList_1 : decode cX1_putList 1 = .ok (.getfield 19, 3) := by decide +kernel
theorem dX1_putList_4 : decode cX1_putList 4 = .ok (.iload_n 2, 1) := by decide +kernel
theorem dX1_putList_5 : decode cX1_putList 5 = .ok (.iconst 5, 1) := by decide +kernel
theorem dX1_putList_6 : decode cX1_putList 6 = .ok (.iadd, 1) := by decide +kernel
theorem dX1_putList_7 : decode cX1_putList 7 = .ok (.iaload, 1) := by decide +kernel
theorem dX1_putList_8 : decode cX1_putList 8 = .ok (.istore_n 3, 1) := by decide +kernel
