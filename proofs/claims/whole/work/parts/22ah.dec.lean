theorem dX10_become_78 : decode cX10_become 78 = .ok (.getfield 25, 3) := by decide +kernel
theorem dX10_become_81 : decode cX10_become 81 = .ok (.iconst 0, 1) := by decide +kernel
theorem dX10_become_82 : decode cX10_become 82 = .ok (.aload_n 0, 1) := by decide +kernel
theorem dX10_become_83 : decode cX10_become 83 = .ok (.getfield 25, 3) := by decide +kernel
theorem dX10_become_86 : decode cX10_become 86 = .ok (.arraylength, 1) := by decide +kernel
theorem dX10_become_87 : decode cX10_become 87 = .ok (.invokestatic 62, 3) := by decide +kernel
theorem dX10_become_90 : decode cX10_become 90 = .ok (.aload_n 1, 1) := by decide +kernel
theorem dX10_become_91 : decode cX10_become 91 = .ok (.getfield 28, 3) := by decide +kernel
theorem dX10_become_94 : decode cX10_become 94 = .ok (.iconst 0, 1) := by decide +kernel
theorem dX10_become_95 : decode cX10_become 95 = .ok (.aload_n 0, 1) := by decide +kernel
theorem dX10_become_96 : decode cX10_become 96 = .ok (.getfield 28, 3) := by decide +kernel
theorem dX10_become_99 : decode cX10_become 99 = .ok (.iconst 0, 1) := by decide +kernel
theorem dX10_become_100 : decode cX10_become 100 = .ok (.aload_n 0, 1) := by decide +kernel
theorem dX10_become_101 : decode cX10_become 101 = .ok (.getfield 28, 3) := by decide +kernel
theorem dX10_become_104 : decode cX10_become 104 = .ok (.arraylength, 1) := by decide +kernel
theorem dX10_become_105 : decode cX10_become 105 = .ok (.invokestatic 62, 3) := by decide +kernel
theorem dX10_become_108 : decode cX10_become 108 = .ok (.aload_n 1, 1) := by decide +kernel
theorem dX10_become_109 : decode cX10_become 109 = .ok (.getfield 31, 3) := by decide +kernel
theorem dX10_become_112 : decode cX10_become 112 = .ok (.iconst 0, 1) := by decide +kernel
theorem dX10_become_113 : decode cX10_become 113 = .ok (.aload_n 0, 1) := by decide +kernel
theorem dX10_become_114 : decode cX10_become 114 = .ok (.getfield 31, 3) := by decide +kernel
theorem dX10_become_117 : decode cX10_become 117 = .ok (.iconst 0, 1) := by decide +kernel
theorem dX10_become_118 : decode cX10_become 118 = .ok (.aload_n 0, 1) := by decide +kernel
theorem dX10_become_119 : decode cX10_become 119 = .ok (.getfield 31, 3) := by decide +kernel
theorem dX10_become_122 : decode cX10_become 122 = .ok (.arraylength, 1) := by decide +kernel
theorem dX10_become_123 : decode cX10_become 123 = .ok (.invokestatic 62, 3) := by decide +kernel
theorem dX10_become_126 : decode cX10_become 126 = .ok (.aload_n 1, 1) := by decide +kernel
theorem dX10_become_127 : decode cX10_become 127 = .ok (.getfield 34, 3) := by decide +kernel
theorem dX10_become_130 : decode cX10_become 130 = .ok (.iconst 0, 1) := by decide +kernel
theorem dX10_become_131 : decode cX10_become 131 = .ok (.aload_n 0, 1) := by decide +kernel
theorem dX10_become_132 : decode cX10_become 132 = .ok (.getfield 34, 3) := by decide +kernel
theorem dX10_become_135 : decode cX10_become 135 = .ok (.iconst 0, 1) := by decide +kernel
theorem dX10_become_136 : decode cX10_become 136 = .ok (.aload_n 0, 1) := by decide +kernel
theorem dX10_become_137 : decode cX10_become 137 = .ok (.getfield 34, 3) := by decide +kernel
theorem dX10_become_140 : decode cX10_become 140 = .ok (.arraylength, 1) := by decide +kernel
theorem dX10_become_141 : decode cX10_become 141 = .ok (.invokestatic 62, 3) := by decide +kernel
theorem dX10_become_144 : decode cX10_become 144 = .ok (.aload_n 0, 1) := by decide +kernel
theorem dX10_become_145 : decode cX10_become 145 = .ok (.aload_n 1, 1) := by decide +kernel
theorem dX10_become_146 : decode cX10_become 146 = .ok (.getfield 46, 3) := by decide +kernel
theorem dX10_become_149 : decode cX10_become 149 = .ok (.putfield 46, 3) := by decide +kernel
theorem dX10_become_152 : decode cX10_become 152 = .ok (.aload_n 1, 1) := by decide +kernel
theorem dX10_become_153 : decode cX10_become 153 = .ok (.getfield 37, 3) := by decide +kernel
theorem dX10_become_156 : decode cX10_become 156 = .ok (.iconst 0, 1) := by decide +kernel
theorem dX10_become_157 : decode cX10_become 157 = .ok (.aload_n 0, 1) := by decide +kernel
theorem dX10_become_158 : decode cX10_become 158 = .ok (.getfield 37, 3) := by decide +kernel
theorem dX10_become_161 : decode cX10_become 161 = .ok (.iconst 0, 1) := by decide +kernel
theorem dX10_become_162 : decode cX10_become 162 = .ok (.aload_n 0, 1) := by decide +kernel
theorem dX10_become_163 : decode cX10_become 163 = .ok (.getfield 37, 3) := by decide +kernel
theorem dX10_become_166 : decode cX10_become 166 = .ok (.arraylength, 1) := by decide +kernel
theorem dX10_become_167 : decode cX10_become 167 = .ok (.invokestatic 62, 3) := by decide +kernel
theorem dX10_become_170 : decode cX10_become 170 = .ok (.aload_n 0, 1) := by decide +kernel
theorem dX10_become_171 : decode cX10_become 171 = .ok (.aload_n 1, 1) := by decide +kernel
theorem dX10_become_172 : decode cX10_become 172 = .ok (.getfield 50, 3) := by decide +kernel
theorem dX10_become_175 : decode cX10_become 175 = .ok (.putfield 50, 3) := by decide +kernel
theorem dX10_become_178 : decode cX10_become 178 = .ok (.return_, 1) := by decide +kernel
theorem dX10_openingOf_0 : decode cX10_openingOf 0 = .ok (.iload_n 2, 1) := by decide +kernel
theorem dX10_openingOf_1 : decode cX10_openingOf 1 = .ok (.ifCond .lt 9, 3) := by decide +kernel
theorem dX10_openingOf_4 : decode cX10_openingOf 4 = .ok (.iload_n 2, 1) := by decide +kernel
theorem dX10_openingOf_5 : decode cX10_openingOf 5 = .ok (.bipush 16, 2) := by decide +kernel
theorem dX10_openingOf_7 : decode cX10_openingOf 7 = .ok (.if_icmp .lt 7, 3) := by decide +kernel
theorem dX10_openingOf_10 : decode cX10_openingOf 10 = .ok (.iconst (-1), 1) := by decide +kernel
theorem dX10_openingOf_11 : decode cX10_openingOf 11 = .ok (.goto 16, 3) := by decide +kernel
theorem dX10_openingOf_14 : decode cX10_openingOf 14 = .ok (.aload_n 0, 1) := by decide +kernel
theorem dX10_openingOf_15 : decode cX10_openingOf 15 = .ok (.getfield 11, 3) := by decide +kernel
theorem dX10_openingOf_18 : decode cX10_openingOf 18 = .ok (.iload_n 1, 1) := by decide +kernel
theorem dX10_openingOf_19 : decode cX10_openingOf 19 = .ok (.bipush 16, 2) := by decide +kernel
theorem dX10_openingOf_21 : decode cX10_openingOf 21 = .ok (.imul, 1) := by decide +kernel
theorem dX10_openingOf_22 : decode cX10_openingOf 22 = .ok (.iload_n 2, 1) := by decide +kernel
theorem dX10_openingOf_23 : decode cX10_openingOf 23 = .ok (.iadd, 1) := by decide +kernel
theorem dX10_openingOf_24 : decode cX10_openingOf 24 = .ok (.iaload, 1) := by decide +kernel
theorem dX10_openingOf_25 : decode cX10_openingOf 25 = .ok (.iconst 1, 1) := by decide +kernel
theorem dX10_openingOf_26 : decode cX10_openingOf 26 = .ok (.isub, 1) := by decide +kernel
theorem dX10_openingOf_27 : decode cX10_openingOf 27 = .ok (.ireturn, 1) := by decide +kernel
theorem dX10_of_0 : decode cX10_of 0 = .ok (.aload_n 0, 1) := by decide +kernel
theorem dX10_of_1 : decode cX10_of 1 = .ok (.getfield 15, 3) := by decide +kernel
theorem dX10_of_4 : decode cX10_of 4 = .ok (.iload_n 1, 1) := by decide +kernel
theorem dX10_of_5 : decode cX10_of 5 = .ok (.iconst 5, 1) := by decide +kernel
theorem dX10_of_6 : decode cX10_of 6 = .ok (.imul, 1) := by decide +kernel
theorem dX10_of_7 : decode cX10_of 7 = .ok (.iload_n 2, 1) := by decide +kernel
theorem dX10_of_8 : decode cX10_of 8 = .ok (.iadd, 1) := by decide +kernel
theorem dX10_of_9 : decode cX10_of 9 = .ok (.iaload, 1) := by decide +kernel
theorem dX10_of_10 : decode cX10_of 10 = .ok (.ireturn, 1) := by decide +kernel
theorem dX10_freeLink_0 : decode cX10_freeLink 0 = .ok (.iconst 0, 1) := by decide +kernel
theorem dX10_freeLink_1 : decode cX10_freeLink 1 = .ok (.iload_n 2, 1) := by decide +kernel
theorem dX10_freeLink_2 : decode cX10_freeLink 2 = .ok (.invokestatic 68, 3) := by decide +kernel
theorem dX10_freeLink_5 : decode cX10_freeLink 5 = .ok (.istore_n 3, 1) := by decide +kernel
theorem dX10_freeLink_6 : decode cX10_freeLink 6 = .ok (.iload_n 3, 1) := by decide +kernel
theorem dX10_freeLink_7 : decode cX10_freeLink 7 = .ok (.bipush 16, 2) := by decide +kernel
theorem dX10_freeLink_9 : decode cX10_freeLink 9 = .ok (.if_icmp .ge 25, 3) := by decide +kernel
theorem dX10_freeLink_12 : decode cX10_freeLink 12 = .ok (.aload_n 0, 1) := by decide +kernel
theorem dX10_freeLink_13 : decode cX10_freeLink 13 = .ok (.getfield 11, 3) := by decide +kernel
theorem dX10_freeLink_16 : decode cX10_freeLink 16 = .ok (.iload_n 1, 1) := by decide +kernel
theorem dX10_freeLink_17 : decode cX10_freeLink 17 = .ok (.bipush 16, 2) := by decide +kernel
theorem dX10_freeLink_19 : decode cX10_freeLink 19 = .ok (.imul, 1) := by decide +kernel
theorem dX10_freeLink_20 : decode cX10_freeLink 20 = .ok (.iload_n 3, 1) := by decide +kernel
theorem dX10_freeLink_21 : decode cX10_freeLink 21 = .ok (.iadd, 1) := by decide +kernel
theorem dX10_freeLink_22 : decode cX10_freeLink 22 = .ok (.iaload, 1) := by decide +kernel
theorem dX10_freeLink_23 : decode cX10_freeLink 23 = .ok (.ifCond .ne 5, 3) := by decide +kernel
theorem dX10_freeLink_26 : decode cX10_freeLink 26 = .ok (.iload_n 3, 1) := by decide +kernel
theorem dX10_freeLink_27 : decode cX10_freeLink 27 = .ok (.ireturn, 1) := by decide +kernel
theorem dX10_freeLink_28 : decode cX10_freeLink 28 = .ok (.iinc 3 1, 3) := by decide +kernel
theorem dX10_freeLink_31 : decode cX10_freeLink 31 = .ok (.goto (-25), 3) := by decide +kernel
theorem dX10_freeLink_34 : decode cX10_freeLink 34 = .ok (.iconst (-1), 1) := by decide +kernel
theorem dX10_freeLink_35 : decode cX10_freeLink 35 = .ok (.ireturn, 1) := by decide +kernel
theorem dX10_openingsFree_0 : decode cX10_openingsFree 0 = .ok (.iconst 0, 1) := by decide +kernel
theorem dX10_openingsFree_1 : decode cX10_openingsFree 1 = .ok (.istore_n 1, 1) := by decide +kernel
theorem dX10_openingsFree_2 : decode cX10_openingsFree 2 = .ok (.iconst 0, 1) := by decide +kernel
theorem dX10_openingsFree_3 : decode cX10_openingsFree 3 = .ok (.istore_n 2, 1) := by decide +kernel
theorem dX10_openingsFree_4 : decode cX10_openingsFree 4 = .ok (.iload_n 2, 1) := by decide +kernel
theorem dX10_openingsFree_5 : decode cX10_openingsFree 5 = .ok (.bipush 48, 2) := by decide +kernel
theorem dX10_openingsFree_7 : decode cX10_openingsFree 7 = .ok (.if_icmp .ge 21, 3) := by decide +kernel
theorem dX10_openingsFree_10 : decode cX10_openingsFree 10 = .ok (.aload_n 0, 1) := by decide +kernel
theorem dX10_openingsFree_11 : decode cX10_openingsFree 11 = .ok (.iload_n 2, 1) := by decide +kernel
theorem dX10_openingsFree_12 : decode cX10_openingsFree 12 = .ok (.iconst 0, 1) := by decide +kernel
theorem dX10_openingsFree_13 : decode cX10_openingsFree 13 = .ok (.invokevirtual 74, 3) := by decide +kernel
theorem dX10_openingsFree_16 : decode cX10_openingsFree 16 = .ok (.ifCond .ne 6, 3) := by decide +kernel
theorem dX10_openingsFree_19 : decode cX10_openingsFree 19 = .ok (.iinc 1 1, 3) := by decide +kernel
theorem dX10_openingsFree_22 : decode cX10_openingsFree 22 = .ok (.iinc 2 1, 3) := by decide +kernel
theorem dX10_openingsFree_25 : decode cX10_openingsFree 25 = .ok (.goto (-21), 3) := by decide +kernel
theorem dX10_openingsFree_28 : decode cX10_openingsFree 28 = .ok (.iload_n 1, 1) := by decide +kernel
theorem dX10_openingsFree_29 : decode cX10_openingsFree 29 = .ok (.ireturn, 1) := by decide +kernel
theorem dX10_open_0 : decode cX10_open 0 = .ok (.iconst 0, 1) := by decide +kernel
theorem dX10_open_1 : decode cX10_open 1 = .ok (.istore 4, 2) := by decide +kernel
theorem dX10_open_3 : decode cX10_open 3 = .ok (.iload 4, 2) := by decide +kernel
theorem dX10_open_5 : decode cX10_open 5 = .ok (.bipush 48, 2) := by decide +kernel
theorem dX10_open_7 : decode cX10_open 7 = .ok (.if_icmp .ge 87, 3) := by decide +kernel
theorem dX10_open_10 : decode cX10_open 10 = .ok (.iload 4, 2) := by decide +kernel
theorem dX10_open_12 : decode cX10_open 12 = .ok (.iconst 5, 1) := by decide +kernel
theorem dX10_open_13 : decode cX10_open 13 = .ok (.imul, 1) := by decide +kernel
theorem dX10_open_14 : decode cX10_open 14 = .ok (.istore 5, 2) := by decide +kernel
theorem dX10_open_16 : decode cX10_open 16 = .ok (.aload_n 0, 1) := by decide +kernel
theorem dX10_open_17 : decode cX10_open 17 = .ok (.getfield 15, 3) := by decide +kernel
theorem dX10_open_20 : decode cX10_open 20 = .ok (.iload 5, 2) := by decide +kernel
theorem dX10_open_22 : decode cX10_open 22 = .ok (.iconst 0, 1) := by decide +kernel
theorem dX10_open_23 : decode cX10_open 23 = .ok (.iadd, 1) := by decide +kernel
theorem dX10_open_24 : decode cX10_open 24 = .ok (.iaload, 1) := by decide +kernel
theorem dX10_open_25 : decode cX10_open 25 = .ok (.ifCond .ne 63, 3) := by decide +kernel
theorem dX10_open_28 : decode cX10_open 28 = .ok (.aload_n 0, 1) := by decide +kernel
theorem dX10_open_29 : decode cX10_open 29 = .ok (.getfield 15, 3) := by decide +kernel
theorem dX10_open_32 : decode cX10_open 32 = .ok (.iload 5, 2) := by decide +kernel
theorem dX10_open_34 : decode cX10_open 34 = .ok (.iconst 0, 1) := by decide +kernel
theorem dX10_open_35 : decode cX10_open 35 = .ok (.iadd, 1) := by decide +kernel
theorem dX10_open_36 : decode cX10_open 36 = .ok (.iload_n 1, 1) := by decide +kernel
theorem dX10_open_37 : decode cX10_open 37 = .ok (.iastore, 1) := by decide +kernel
theorem dX10_open_38 : decode cX10_open 38 = .ok (.aload_n 0, 1) := by decide +kernel
theorem dX10_open_39 : decode cX10_open 39 = .ok (.getfield 15, 3) := by decide +kernel
theorem dX10_open_42 : decode cX10_open 42 = .ok (.iload 5, 2) := by decide +kernel
theorem dX10_open_44 : decode cX10_open 44 = .ok (.iconst 1, 1) := by decide +kernel
theorem dX10_open_45 : decode cX10_open 45 = .ok (.iadd, 1) := by decide +kernel
theorem dX10_open_46 : decode cX10_open 46 = .ok (.iconst 0, 1) := by decide +kernel
theorem dX10_open_47 : decode cX10_open 47 = .ok (.iastore, 1) := by decide +kernel
theorem dX10_open_48 : decode cX10_open 48 = .ok (.aload_n 0, 1) := by decide +kernel
theorem dX10_open_49 : decode cX10_open 49 = .ok (.getfield 15, 3) := by decide +kernel
theorem dX10_open_52 : decode cX10_open 52 = .ok (.iload 5, 2) := by decide +kernel
theorem dX10_open_54 : decode cX10_open 54 = .ok (.iconst 2, 1) := by decide +kernel
theorem dX10_open_55 : decode cX10_open 55 = .ok (.iadd, 1) := by decide +kernel
theorem dX10_open_56 : decode cX10_open 56 = .ok (.iload_n 2, 1) := by decide +kernel
theorem dX10_open_57 : decode cX10_open 57 = .ok (.iastore, 1) := by decide +kernel
theorem dX10_open_58 : decode cX10_open 58 = .ok (.aload_n 0, 1) := by decide +kernel
theorem dX10_open_59 : decode cX10_open 59 = .ok (.getfield 15, 3) := by decide +kernel
theorem dX10_open_62 : decode cX10_open 62 = .ok (.iload 5, 2) := by decide +kernel
theorem dX10_open_64 : decode cX10_open 64 = .ok (.iconst 3, 1) := by decide +kernel
theorem dX10_open_65 : decode cX10_open 65 = .ok (.iadd, 1) := by decide +kernel
theorem dX10_open_66 : decode cX10_open 66 = .ok (.iconst 0, 1) := by decide +kernel
theorem dX10_open_67 : decode cX10_open 67 = .ok (.iastore, 1) := by decide +kernel
theorem dX10_open_68 : decode cX10_open 68 = .ok (.aload_n 0, 1) := by decide +kernel
theorem dX10_open_69 : decode cX10_open 69 = .ok (.getfield 15, 3) := by decide +kernel
theorem dX10_open_72 : decode cX10_open 72 = .ok (.iload 5, 2) := by decide +kernel
theorem dX10_open_74 : decode cX10_open 74 = .ok (.iconst 4, 1) := by decide +kernel
theorem dX10_open_75 : decode cX10_open 75 = .ok (.iadd, 1) := by decide +kernel
theorem dX10_open_76 : decode cX10_open 76 = .ok (.iload_n 3, 1) := by decide +kernel
theorem dX10_open_77 : decode cX10_open 77 = .ok (.iastore, 1) := by decide +kernel
theorem dX10_open_78 : decode cX10_open 78 = .ok (.aload_n 0, 1) := by decide +kernel
theorem dX10_open_79 : decode cX10_open 79 = .ok (.iload_n 1, 1) := by decide +kernel
theorem dX10_open_80 : decode cX10_open 80 = .ok (.iload_n 2, 1) := by decide +kernel
theorem dX10_open_81 : decode cX10_open 81 = .ok (.iconst 1, 1) := by decide +kernel
theorem dX10_open_82 : decode cX10_open 82 = .ok (.invokevirtual 77, 3) := by decide +kernel
theorem dX10_open_85 : decode cX10_open 85 = .ok (.iload 4, 2) := by decide +kernel
theorem dX10_open_87 : decode cX10_open 87 = .ok (.ireturn, 1) := by decide +kernel
theorem dX10_open_88 : decode cX10_open 88 = .ok (.iinc 4 1, 3) := by decide +kernel
theorem dX10_open_91 : decode cX10_open 91 = .ok (.goto (-88), 3) := by decide +kernel
theorem dX10_open_94 : decode cX10_open 94 = .ok (.iconst (-1), 1) := by decide +kernel
theorem dX10_open_95 : decode cX10_open 95 = .ok (.ireturn, 1) := by decide +kernel
theorem dX10_hold_0 : decode cX10_hold 0 = .ok (.iload_n 1, 1) := by decide +kernel
theorem dX10_hold_1 : decode cX10_hold 1 = .ok (.iconst 3, 1) := by decide +kernel
theorem dX10_hold_2 : decode cX10_hold 2 = .ok (.if_icmp .ne 20, 3) := by decide +kernel
theorem dX10_hold_5 : decode cX10_hold 5 = .ok (.aload_n 0, 1) := by decide +kernel
theorem dX10_hold_6 : decode cX10_hold 6 = .ok (.getfield 25, 3) := by decide +kernel
theorem dX10_hold_9 : decode cX10_hold 9 = .ok (.iload_n 2, 1) := by decide +kernel
theorem dX10_hold_10 : decode cX10_hold 10 = .ok (.iconst 3, 1) := by decide +kernel
theorem dX10_hold_11 : decode cX10_hold 11 = .ok (.imul, 1) := by decide +kernel
theorem dX10_hold_12 : decode cX10_hold 12 = .ok (.iconst 1, 1) := by decide +kernel
theorem dX10_hold_13 : decode cX10_hold 13 = .ok (.iadd, 1) := by decide +kernel
theorem dX10_hold_14 : decode cX10_hold 14 = .ok (.dup2, 1) := by decide +kernel
theorem dX10_hold_15 : decode cX10_hold 15 = .ok (.iaload, 1) := by decide +kernel
theorem dX10_hold_16 : decode cX10_hold 16 = .ok (.iload_n 3, 1) := by decide +kernel
theorem dX10_hold_17 : decode cX10_hold 17 = .ok (.iadd, 1) := by decide +kernel
theorem dX10_hold_18 : decode cX10_hold 18 = .ok (.iastore, 1) := by decide +kernel
theorem dX10_hold_19 : decode cX10_hold 19 = .ok (.goto 22, 3) := by decide +kernel
theorem dX10_hold_22 : decode cX10_hold 22 = .ok (.iload_n 1, 1) := by decide +kernel
theorem dX10_hold_23 : decode cX10_hold 23 = .ok (.iconst 4, 1) := by decide +kernel
theorem dX10_hold_24 : decode cX10_hold 24 = .ok (.if_icmp .eq 17, 3) := by decide +kernel
theorem dX10_hold_27 : decode cX10_hold 27 = .ok (.aload_n 0, 1) := by decide +kernel
theorem dX10_hold_28 : decode cX10_hold 28 = .ok (.getfield 18, 3) := by decide +kernel
theorem dX10_hold_31 : decode cX10_hold 31 = .ok (.iload_n 2, 1) := by decide +kernel
theorem dX10_hold_32 : decode cX10_hold 32 = .ok (.iconst 4, 1) := by decide +kernel
theorem dX10_hold_33 : decode cX10_hold 33 = .ok (.imul, 1) := by decide +kernel
theorem dX10_hold_34 : decode cX10_hold 34 = .ok (.iload_n 1, 1) := by decide +kernel
theorem dX10_hold_35 : decode cX10_hold 35 = .ok (.iadd, 1) := by decide +kernel
theorem dX10_hold_36 : decode cX10_hold 36 = .ok (.dup2, 1) := by decide +kernel
theorem dX10_hold_37 : decode cX10_hold 37 = .ok (.iaload, 1) := by decide +kernel
theorem dX10_hold_38 : decode cX10_hold 38 = .ok (.iload_n 3, 1) := by decide +kernel
theorem dX10_hold_39 : decode cX10_hold 39 = .ok (.iadd, 1) := by decide +kernel
theorem dX10_hold_40 : decode cX10_hold 40 = .ok (.iastore, 1) := by decide +kernel
theorem dX10_hold_41 : decode cX10_hold 41 = .ok (.return_, 1) := by decide +kernel
theorem dX10_linkTo_0 : decode cX10_linkTo 0 = .ok (.aload_n 0, 1) := by decide +kernel
theorem dX10_linkTo_1 : decode cX10_linkTo 1 = .ok (.getfield 11, 3) := by decide +kernel
theorem dX10_linkTo_4 : decode cX10_linkTo 4 = .ok (.iload_n 1, 1) := by decide +kernel
theorem dX10_linkTo_5 : decode cX10_linkTo 5 = .ok (.bipush 16, 2) := by decide +kernel
theorem dX10_linkTo_7 : decode cX10_linkTo 7 = .ok (.imul, 1) := by decide +kernel
theorem dX10_linkTo_8 : decode cX10_linkTo 8 = .ok (.iload_n 2, 1) := by decide +kernel
theorem dX10_linkTo_9 : decode cX10_linkTo 9 = .ok (.iadd, 1) := by decide +kernel
theorem dX10_linkTo_10 : decode cX10_linkTo 10 = .ok (.iload_n 3, 1) := by decide +kernel
theorem dX10_linkTo_11 : decode cX10_linkTo 11 = .ok (.iconst 1, 1) := by decide +kernel
theorem dX10_linkTo_12 : decode cX10_linkTo 12 = .ok (.iadd, 1) := by decide +kernel
theorem dX10_linkTo_13 : decode cX10_linkTo 13 = .ok (.iastore, 1) := by decide +kernel
theorem dX10_linkTo_14 : decode cX10_linkTo 14 = .ok (.aload_n 0, 1) := by decide +kernel
theorem dX10_linkTo_15 : decode cX10_linkTo 15 = .ok (.getfield 15, 3) := by decide +kernel
theorem dX10_linkTo_18 : decode cX10_linkTo 18 = .ok (.iload_n 3, 1) := by decide +kernel
theorem dX10_linkTo_19 : decode cX10_linkTo 19 = .ok (.iconst 5, 1) := by decide +kernel
theorem dX10_linkTo_20 : decode cX10_linkTo 20 = .ok (.imul, 1) := by decide +kernel
theorem dX10_linkTo_21 : decode cX10_linkTo 21 = .ok (.iconst 1, 1) := by decide +kernel
theorem dX10_linkTo_22 : decode cX10_linkTo 22 = .ok (.iadd, 1) := by decide +kernel
theorem dX10_linkTo_23 : decode cX10_linkTo 23 = .ok (.dup2, 1) := by decide +kernel
theorem dX10_linkTo_24 : decode cX10_linkTo 24 = .ok (.iaload, 1) := by decide +kernel
theorem dX10_linkTo_25 : decode cX10_linkTo 25 = .ok (.iconst 1, 1) := by decide +kernel
theorem dX10_linkTo_26 : decode cX10_linkTo 26 = .ok (.iadd, 1) := by decide +kernel
theorem dX10_linkTo_27 : decode cX10_linkTo 27 = .ok (.iastore, 1) := by decide +kernel
theorem dX10_linkTo_28 : decode cX10_linkTo 28 = .ok (.return_, 1) := by decide +kernel
theorem dX10_close_0 : decode cX10_close 0 = .ok (.aload_n 0, 1) := by decide +kernel
theorem dX10_close_1 : decode cX10_close 1 = .ok (.iload_n 1, 1) := by decide +kernel
theorem dX10_close_2 : decode cX10_close 2 = .ok (.iload_n 2, 1) := by decide +kernel
theorem dX10_close_3 : decode cX10_close 3 = .ok (.invokevirtual 80, 3) := by decide +kernel
theorem dX10_close_6 : decode cX10_close 6 = .ok (.istore_n 3, 1) := by decide +kernel
theorem dX10_close_7 : decode cX10_close 7 = .ok (.iload_n 3, 1) := by decide +kernel
theorem dX10_close_8 : decode cX10_close 8 = .ok (.ifCond .lt 66, 3) := by decide +kernel
theorem dX10_close_11 : decode cX10_close 11 = .ok (.aload_n 0, 1) := by decide +kernel
theorem dX10_close_12 : decode cX10_close 12 = .ok (.getfield 11, 3) := by decide +kernel
theorem dX10_close_15 : decode cX10_close 15 = .ok (.iload_n 1, 1) := by decide +kernel
theorem dX10_close_16 : decode cX10_close 16 = .ok (.bipush 16, 2) := by decide +kernel
theorem dX10_close_18 : decode cX10_close 18 = .ok (.imul, 1) := by decide +kernel
theorem dX10_close_19 : decode cX10_close 19 = .ok (.iload_n 2, 1) := by decide +kernel
theorem dX10_close_20 : decode cX10_close 20 = .ok (.iadd, 1) := by decide +kernel
theorem dX10_close_21 : decode cX10_close 21 = .ok (.iconst 0, 1) := by decide +kernel
theorem dX10_close_22 : decode cX10_close 22 = .ok (.iastore, 1) := by decide +kernel
theorem dX10_close_23 : decode cX10_close 23 = .ok (.aload_n 0, 1) := by decide +kernel
theorem dX10_close_24 : decode cX10_close 24 = .ok (.getfield 15, 3) := by decide +kernel
theorem dX10_close_27 : decode cX10_close 27 = .ok (.iload_n 3, 1) := by decide +kernel
theorem dX10_close_28 : decode cX10_close 28 = .ok (.iconst 5, 1) := by decide +kernel
theorem dX10_close_29 : decode cX10_close 29 = .ok (.imul, 1) := by decide +kernel
theorem dX10_close_30 : decode cX10_close 30 = .ok (.iconst 1, 1) := by decide +kernel
theorem dX10_close_31 : decode cX10_close 31 = .ok (.iadd, 1) := by decide +kernel
theorem dX10_close_32 : decode cX10_close 32 = .ok (.dup2, 1) := by decide +kernel
theorem dX10_close_33 : decode cX10_close 33 = .ok (.iaload, 1) := by decide +kernel
theorem dX10_close_34 : decode cX10_close 34 = .ok (.iconst 1, 1) := by decide +kernel
theorem dX10_close_35 : decode cX10_close 35 = .ok (.isub, 1) := by decide +kernel
theorem dX10_close_36 : decode cX10_close 36 = .ok (.iastore, 1) := by decide +kernel
theorem dX10_close_37 : decode cX10_close 37 = .ok (.aload_n 0, 1) := by decide +kernel
theorem dX10_close_38 : decode cX10_close 38 = .ok (.iload_n 3, 1) := by decide +kernel
theorem dX10_close_39 : decode cX10_close 39 = .ok (.iconst 1, 1) := by decide +kernel
theorem dX10_close_40 : decode cX10_close 40 = .ok (.invokevirtual 74, 3) := by decide +kernel
theorem dX10_close_43 : decode cX10_close 43 = .ok (.ifCond .ne 31, 3) := by decide +kernel
theorem dX10_close_46 : decode cX10_close 46 = .ok (.aload_n 0, 1) := by decide +kernel
theorem dX10_close_47 : decode cX10_close 47 = .ok (.aload_n 0, 1) := by decide +kernel
theorem dX10_close_48 : decode cX10_close 48 = .ok (.iload_n 3, 1) := by decide +kernel
theorem dX10_close_49 : decode cX10_close 49 = .ok (.iconst 0, 1) := by decide +kernel
theorem dX10_close_50 : decode cX10_close 50 = .ok (.invokevirtual 74, 3) := by decide +kernel
theorem dX10_close_53 : decode cX10_close 53 = .ok (.aload_n 0, 1) := by decide +kernel
theorem dX10_close_54 : decode cX10_close 54 = .ok (.iload_n 3, 1) := by decide +kernel
theorem dX10_close_55 : decode cX10_close 55 = .ok (.iconst 2, 1) := by decide +kernel
theorem dX10_close_56 : decode cX10_close 56 = .ok (.invokevirtual 74, 3) := by decide +kernel
theorem dX10_close_59 : decode cX10_close 59 = .ok (.iconst (-1), 1) := by decide +kernel
theorem dX10_close_60 : decode cX10_close 60 = .ok (.invokevirtual 77, 3) := by decide +kernel
theorem dX10_close_63 : decode cX10_close 63 = .ok (.aload_n 0, 1) := by decide +kernel
theorem dX10_close_64 : decode cX10_close 64 = .ok (.getfield 15, 3) := by decide +kernel
theorem dX10_close_67 : decode cX10_close 67 = .ok (.iload_n 3, 1) := by decide +kernel
theorem dX10_close_68 : decode cX10_close 68 = .ok (.iconst 5, 1) := by decide +kernel
theorem dX10_close_69 : decode cX10_close 69 = .ok (.imul, 1) := by decide +kernel
theorem dX10_close_70 : decode cX10_close 70 = .ok (.iconst 0, 1) := by decide +kernel
theorem dX10_close_71 : decode cX10_close 71 = .ok (.iadd, 1) := by decide +kernel
theorem dX10_close_72 : decode cX10_close 72 = .ok (.iconst 0, 1) := by decide +kernel
theorem dX10_close_73 : decode cX10_close 73 = .ok (.iastore, 1) := by decide +kernel
theorem dX10_close_74 : decode cX10_close 74 = .ok (.return_, 1) := by decide +kernel
theorem dX10_share_0 : decode cX10_share 0 = .ok (.iconst 0, 1) := by decide +kernel
theorem dX10_share_1 : decode cX10_share 1 = .ok (.istore_n 3, 1) := by decide +kernel
theorem dX10_share_2 : decode cX10_share 2 = .ok (.iload_n 3, 1) := by decide +kernel
theorem dX10_share_3 : decode cX10_share 3 = .ok (.bipush 16, 2) := by decide +kernel
theorem dX10_share_5 : decode cX10_share 5 = .ok (.if_icmp .ge 30, 3) := by decide +kernel
theorem dX10_share_8 : decode cX10_share 8 = .ok (.aload_n 0, 1) := by decide +kernel
theorem dX10_share_9 : decode cX10_share 9 = .ok (.iload_n 1, 1) := by decide +kernel
theorem dX10_share_10 : decode cX10_share 10 = .ok (.iload_n 3, 1) := by decide +kernel
theorem dX10_share_11 : decode cX10_share 11 = .ok (.invokevirtual 80, 3) := by decide +kernel
theorem dX10_share_14 : decode cX10_share 14 = .ok (.istore 4, 2) := by decide +kernel
theorem dX10_share_16 : decode cX10_share 16 = .ok (.iload 4, 2) := by decide +kernel
theorem dX10_share_18 : decode cX10_share 18 = .ok (.ifCond .lt 11, 3) := by decide +kernel
theorem dX10_share_21 : decode cX10_share 21 = .ok (.aload_n 0, 1) := by decide +kernel
theorem dX10_share_22 : decode cX10_share 22 = .ok (.iload_n 2, 1) := by decide +kernel
theorem dX10_share_23 : decode cX10_share 23 = .ok (.iload_n 3, 1) := by decide +kernel
theorem dX10_share_24 : decode cX10_share 24 = .ok (.iload 4, 2) := by decide +kernel
theorem dX10_share_26 : decode cX10_share 26 = .ok (.invokevirtual 58, 3) := by decide +kernel
theorem dX10_share_29 : decode cX10_share 29 = .ok (.iinc 3 1, 3) := by decide +kernel
theorem dX10_share_32 : decode cX10_share 32 = .ok (.goto (-30), 3) := by decide +kernel
theorem dX10_share_35 : decode cX10_share 35 = .ok (.return_, 1) := by decide +kernel
theorem dX10_freePipe_0 : decode cX10_freePipe 0 = .ok (.iconst 0, 1) := by decide +kernel
theorem dX10_freePipe_1 : decode cX10_freePipe 1 = .ok (.istore_n 1, 1) := by decide +kernel
theorem dX10_freePipe_2 : decode cX10_freePipe 2 = .ok (.iload_n 1, 1) := by decide +kernel
theorem dX10_freePipe_3 : decode cX10_freePipe 3 = .ok (.bipush 8, 2) := by decide +kernel
theorem dX10_freePipe_5 : decode cX10_freePipe 5 = .ok (.if_icmp .ge 35, 3) := by decide +kernel
theorem dX10_freePipe_8 : decode cX10_freePipe 8 = .ok (.aload_n 0, 1) := by decide +kernel
theorem dX10_freePipe_9 : decode cX10_freePipe 9 = .ok (.getfield 18, 3) := by decide +kernel
theorem dX10_freePipe_12 : decode cX10_freePipe 12 = .ok (.iload_n 1, 1) := by decide +kernel
theorem dX10_freePipe_13 : decode cX10_freePipe 13 = .ok (.iconst 4, 1) := by decide +kernel
theorem dX10_freePipe_14 : decode cX10_freePipe 14 = .ok (.imul, 1) := by decide +kernel
theorem dX10_freePipe_15 : decode cX10_freePipe 15 = .ok (.iconst 1, 1) := by decide +kernel
theorem dX10_freePipe_16 : decode cX10_freePipe 16 = .ok (.iadd, 1) := by decide +kernel
theorem dX10_freePipe_17 : decode cX10_freePipe 17 = .ok (.iaload, 1) := by decide +kernel
theorem dX10_freePipe_18 : decode cX10_freePipe 18 = .ok (.aload_n 0, 1) := by decide +kernel
theorem dX10_freePipe_19 : decode cX10_freePipe 19 = .ok (.getfield 18, 3) := by decide +kernel
theorem dX10_freePipe_22 : decode cX10_freePipe 22 = .ok (.iload_n 1, 1) := by decide +kernel
theorem dX10_freePipe_23 : decode cX10_freePipe 23 = .ok (.iconst 4, 1) := by decide +kernel
theorem dX10_freePipe_24 : decode cX10_freePipe 24 = .ok (.imul, 1) := by decide +kernel
theorem dX10_freePipe_25 : decode cX10_freePipe 25 = .ok (.iconst 2, 1) := by decide +kernel
theorem dX10_freePipe_26 : decode cX10_freePipe 26 = .ok (.iadd, 1) := by decide +kernel
theorem dX10_freePipe_27 : decode cX10_freePipe 27 = .ok (.iaload, 1) := by decide +kernel
theorem dX10_freePipe_28 : decode cX10_freePipe 28 = .ok (.iadd, 1) := by decide +kernel
theorem dX10_freePipe_29 : decode cX10_freePipe 29 = .ok (.ifCond .ne 5, 3) := by decide +kernel
theorem dX10_freePipe_32 : decode cX10_freePipe 32 = .ok (.iload_n 1, 1) := by decide +kernel
theorem dX10_freePipe_33 : decode cX10_freePipe 33 = .ok (.ireturn, 1) := by decide +kernel
theorem dX10_freePipe_34 : decode cX10_freePipe 34 = .ok (.iinc 1 1, 3) := by decide +kernel
theorem dX10_freePipe_37 : decode cX10_freePipe 37 = .ok (.goto (-35), 3) := by decide +kernel
theorem dX10_freePipe_40 : decode cX10_freePipe 40 = .ok (.iconst (-1), 1) := by decide +kernel
theorem dX10_freePipe_41 : decode cX10_freePipe 41 = .ok (.ireturn, 1) := by decide +kernel
theorem dX10_emptyPipe_0 : decode cX10_emptyPipe 0 = .ok (.aload_n 0, 1) := by decide +kernel
theorem dX10_emptyPipe_1 : decode cX10_emptyPipe 1 = .ok (.getfield 18, 3) := by decide +kernel
theorem dX10_emptyPipe_4 : decode cX10_emptyPipe 4 = .ok (.iload_n 1, 1) := by decide +kernel
theorem dX10_emptyPipe_5 : decode cX10_emptyPipe 5 = .ok (.iconst 4, 1) := by decide +kernel
theorem dX10_emptyPipe_6 : decode cX10_emptyPipe 6 = .ok (.imul, 1) := by decide +kernel
theorem dX10_emptyPipe_7 : decode cX10_emptyPipe 7 = .ok (.iconst 0, 1) := by decide +kernel
theorem dX10_emptyPipe_8 : decode cX10_emptyPipe 8 = .ok (.iadd, 1) := by decide +kernel
theorem dX10_emptyPipe_9 : decode cX10_emptyPipe 9 = .ok (.iconst 0, 1) := by decide +kernel
