theorem dX9_operand_115 : decode cX9_operand 115 = .ok (.istore 4, 2) := by decide +kernel
theorem dX9_operand_117 : decode cX9_operand 117 = .ok (.iload 4, 2) := by decide +kernel
theorem dX9_operand_119 : decode cX9_operand 119 = .ok (.ifCond .ge 11, 3) := by decide +kernel
theorem dX9_operand_122 : decode cX9_operand 122 = .ok (.aload_n 0, 1) := by decide +kernel
theorem dX9_operand_123 : decode cX9_operand 123 = .ok (.bipush 8, 2) := by decide +kernel
theorem dX9_operand_125 : decode cX9_operand 125 = .ok (.putfield 166, 3) := by decide +kernel
theorem dX9_operand_128 : decode cX9_operand 128 = .ok (.iconst 0, 1) := by decide +kernel
theorem dX9_operand_129 : decode cX9_operand 129 = .ok (.ireturn, 1) := by decide +kernel
theorem dX9_operand_130 : decode cX9_operand 130 = .ok (.aload_n 0, 1) := by decide +kernel
theorem dX9_operand_131 : decode cX9_operand 131 = .ok (.getfield 36, 3) := by decide +kernel
theorem dX9_operand_134 : decode cX9_operand 134 = .ok (.iload 4, 2) := by decide +kernel
theorem dX9_operand_136 : decode cX9_operand 136 = .ok (.iconst 5, 1) := by decide +kernel
theorem dX9_operand_137 : decode cX9_operand 137 = .ok (.imul, 1) := by decide +kernel
theorem dX9_operand_138 : decode cX9_operand 138 = .ok (.iconst 2, 1) := by decide +kernel
theorem dX9_operand_139 : decode cX9_operand 139 = .ok (.iadd, 1) := by decide +kernel
theorem dX9_operand_140 : decode cX9_operand 140 = .ok (.iaload, 1) := by decide +kernel
theorem dX9_operand_141 : decode cX9_operand 141 = .ok (.ireturn, 1) := by decide +kernel
theorem dX9_single_0 : decode cX9_single 0 = .ok (.iload_n 0, 1) := by decide +kernel
theorem dX9_single_1 : decode cX9_single 1 = .ok (.tableswitch 39 11 13 #[27, 30, 34], 27) := by decide +kernel
theorem dX9_single_28 : decode cX9_single 28 = .ok (.iload_n 1, 1) := by decide +kernel
theorem dX9_single_29 : decode cX9_single 29 = .ok (.ineg, 1) := by decide +kernel
theorem dX9_single_30 : decode cX9_single 30 = .ok (.ireturn, 1) := by decide +kernel
theorem dX9_single_31 : decode cX9_single 31 = .ok (.iload_n 1, 1) := by decide +kernel
theorem dX9_single_32 : decode cX9_single 32 = .ok (.iconst (-1), 1) := by decide +kernel
theorem dX9_single_33 : decode cX9_single 33 = .ok (.ixor, 1) := by decide +kernel
theorem dX9_single_34 : decode cX9_single 34 = .ok (.ireturn, 1) := by decide +kernel
theorem dX9_single_35 : decode cX9_single 35 = .ok (.iload_n 1, 1) := by decide +kernel
theorem dX9_single_36 : decode cX9_single 36 = .ok (.invokestatic 182, 3) := by decide +kernel
theorem dX9_single_39 : decode cX9_single 39 = .ok (.ireturn, 1) := by decide +kernel
theorem dX9_single_40 : decode cX9_single 40 = .ok (.iload_n 1, 1) := by decide +kernel
theorem dX9_single_41 : decode cX9_single 41 = .ok (.invokestatic 185, 3) := by decide +kernel
theorem dX9_single_44 : decode cX9_single 44 = .ok (.ireturn, 1) := by decide +kernel
theorem dX9_high_0 : decode cX9_high 0 = .ok (.iload_n 0, 1) := by decide +kernel
theorem dX9_high_1 : decode cX9_high 1 = .ok (.sipush 2048, 3) := by decide +kernel
theorem dX9_high_4 : decode cX9_high 4 = .ok (.iadd, 1) := by decide +kernel
theorem dX9_high_5 : decode cX9_high 5 = .ok (.bipush 12, 2) := by decide +kernel
theorem dX9_high_7 : decode cX9_high 7 = .ok (.iushr, 1) := by decide +kernel
theorem dX9_high_8 : decode cX9_high 8 = .ok (.ireturn, 1) := by decide +kernel
theorem dX9_low_0 : decode cX9_low 0 = .ok (.iload_n 0, 1) := by decide +kernel
theorem dX9_low_1 : decode cX9_low 1 = .ok (.bipush 20, 2) := by decide +kernel
theorem dX9_low_3 : decode cX9_low 3 = .ok (.ishl, 1) := by decide +kernel
theorem dX9_low_4 : decode cX9_low 4 = .ok (.bipush 20, 2) := by decide +kernel
theorem dX9_low_6 : decode cX9_low 6 = .ok (.ishr, 1) := by decide +kernel
theorem dX9_low_7 : decode cX9_low 7 = .ok (.ireturn, 1) := by decide +kernel
theorem dX9_joined_0 : decode cX9_joined 0 = .ok (.iload_n 1, 1) := by decide +kernel
theorem dX9_joined_1 : decode cX9_joined 1 = .ok (.tableswitch 126 1 9 #[51, 55, 55, 102, 106, 110, 114, 118, 122], 51) := by decide +kernel
theorem dX9_joined_52 : decode cX9_joined 52 = .ok (.iload_n 2, 1) := by decide +kernel
theorem dX9_joined_53 : decode cX9_joined 53 = .ok (.iload_n 3, 1) := by decide +kernel
theorem dX9_joined_54 : decode cX9_joined 54 = .ok (.imul, 1) := by decide +kernel
theorem dX9_joined_55 : decode cX9_joined 55 = .ok (.ireturn, 1) := by decide +kernel
theorem dX9_joined_56 : decode cX9_joined 56 = .ok (.iload_n 3, 1) := by decide +kernel
theorem dX9_joined_57 : decode cX9_joined 57 = .ok (.ifCond .ne 23, 3) := by decide +kernel
theorem dX9_joined_60 : decode cX9_joined 60 = .ok (.aload_n 0, 1) := by decide +kernel
theorem dX9_joined_61 : decode cX9_joined 61 = .ok (.aload_n 0, 1) := by decide +kernel
theorem dX9_joined_62 : decode cX9_joined 62 = .ok (.getfield 166, 3) := by decide +kernel
theorem dX9_joined_65 : decode cX9_joined 65 = .ok (.ifCond .ne 8, 3) := by decide +kernel
theorem dX9_joined_68 : decode cX9_joined 68 = .ok (.bipush 9, 2) := by decide +kernel
theorem dX9_joined_70 : decode cX9_joined 70 = .ok (.goto 7, 3) := by decide +kernel
theorem dX9_joined_73 : decode cX9_joined 73 = .ok (.aload_n 0, 1) := by decide +kernel
theorem dX9_joined_74 : decode cX9_joined 74 = .ok (.getfield 166, 3) := by decide +kernel
theorem dX9_joined_77 : decode cX9_joined 77 = .ok (.putfield 166, 3) := by decide +kernel
theorem dX9_joined_80 : decode cX9_joined 80 = .ok (.iload_n 3, 1) := by decide +kernel
theorem dX9_joined_81 : decode cX9_joined 81 = .ok (.ifCond .ne 7, 3) := by decide +kernel
theorem dX9_joined_84 : decode cX9_joined 84 = .ok (.iconst 0, 1) := by decide +kernel
theorem dX9_joined_85 : decode cX9_joined 85 = .ok (.goto 17, 3) := by decide +kernel
theorem dX9_joined_88 : decode cX9_joined 88 = .ok (.iload_n 1, 1) := by decide +kernel
theorem dX9_joined_89 : decode cX9_joined 89 = .ok (.iconst 2, 1) := by decide +kernel
theorem dX9_joined_90 : decode cX9_joined 90 = .ok (.if_icmp .ne 9, 3) := by decide +kernel
theorem dX9_joined_93 : decode cX9_joined 93 = .ok (.iload_n 2, 1) := by decide +kernel
theorem dX9_joined_94 : decode cX9_joined 94 = .ok (.iload_n 3, 1) := by decide +kernel
theorem dX9_joined_95 : decode cX9_joined 95 = .ok (.idiv, 1) := by decide +kernel
theorem dX9_joined_96 : decode cX9_joined 96 = .ok (.goto 6, 3) := by decide +kernel
theorem dX9_joined_99 : decode cX9_joined 99 = .ok (.iload_n 2, 1) := by decide +kernel
theorem dX9_joined_100 : decode cX9_joined 100 = .ok (.iload_n 3, 1) := by decide +kernel
theorem dX9_joined_101 : decode cX9_joined 101 = .ok (.irem, 1) := by decide +kernel
theorem dX9_joined_102 : decode cX9_joined 102 = .ok (.ireturn, 1) := by decide +kernel
theorem dX9_joined_103 : decode cX9_joined 103 = .ok (.iload_n 2, 1) := by decide +kernel
theorem dX9_joined_104 : decode cX9_joined 104 = .ok (.iload_n 3, 1) := by decide +kernel
theorem dX9_joined_105 : decode cX9_joined 105 = .ok (.iadd, 1) := by decide +kernel
theorem dX9_joined_106 : decode cX9_joined 106 = .ok (.ireturn, 1) := by decide +kernel
theorem dX9_joined_107 : decode cX9_joined 107 = .ok (.iload_n 2, 1) := by decide +kernel
theorem dX9_joined_108 : decode cX9_joined 108 = .ok (.iload_n 3, 1) := by decide +kernel
theorem dX9_joined_109 : decode cX9_joined 109 = .ok (.isub, 1) := by decide +kernel
theorem dX9_joined_110 : decode cX9_joined 110 = .ok (.ireturn, 1) := by decide +kernel
theorem dX9_joined_111 : decode cX9_joined 111 = .ok (.iload_n 2, 1) := by decide +kernel
theorem dX9_joined_112 : decode cX9_joined 112 = .ok (.iload_n 3, 1) := by decide +kernel
theorem dX9_joined_113 : decode cX9_joined 113 = .ok (.ishl, 1) := by decide +kernel
theorem dX9_joined_114 : decode cX9_joined 114 = .ok (.ireturn, 1) := by decide +kernel
theorem dX9_joined_115 : decode cX9_joined 115 = .ok (.iload_n 2, 1) := by decide +kernel
theorem dX9_joined_116 : decode cX9_joined 116 = .ok (.iload_n 3, 1) := by decide +kernel
theorem dX9_joined_117 : decode cX9_joined 117 = .ok (.ishr, 1) := by decide +kernel
theorem dX9_joined_118 : decode cX9_joined 118 = .ok (.ireturn, 1) := by decide +kernel
theorem dX9_joined_119 : decode cX9_joined 119 = .ok (.iload_n 2, 1) := by decide +kernel
theorem dX9_joined_120 : decode cX9_joined 120 = .ok (.iload_n 3, 1) := by decide +kernel
theorem dX9_joined_121 : decode cX9_joined 121 = .ok (.iand, 1) := by decide +kernel
theorem dX9_joined_122 : decode cX9_joined 122 = .ok (.ireturn, 1) := by decide +kernel
theorem dX9_joined_123 : decode cX9_joined 123 = .ok (.iload_n 2, 1) := by decide +kernel
theorem dX9_joined_124 : decode cX9_joined 124 = .ok (.iload_n 3, 1) := by decide +kernel
theorem dX9_joined_125 : decode cX9_joined 125 = .ok (.ixor, 1) := by decide +kernel
theorem dX9_joined_126 : decode cX9_joined 126 = .ok (.ireturn, 1) := by decide +kernel
theorem dX9_joined_127 : decode cX9_joined 127 = .ok (.iload_n 2, 1) := by decide +kernel
theorem dX9_joined_128 : decode cX9_joined 128 = .ok (.iload_n 3, 1) := by decide +kernel
theorem dX9_joined_129 : decode cX9_joined 129 = .ok (.ior, 1) := by decide +kernel
theorem dX9_joined_130 : decode cX9_joined 130 = .ok (.ireturn, 1) := by decide +kernel
