theorem dX4_init_14 : decode cX4_init 14 = .ok (.putfield 19, 3) := by decide +kernel
theorem dX4_init_17 : decode cX4_init 17 = .ok (.return_, 1) := by decide +kernel
theorem dX4_jumpOffset_0 : decode cX4_jumpOffset 0 = .ok (.iload_n 0, 1) := by decide +kernel
theorem dX4_jumpOffset_1 : decode cX4_jumpOffset 1 = .ok (.bipush 31, 2) := by decide +kernel
theorem dX4_jumpOffset_3 : decode cX4_jumpOffset 3 = .ok (.ishr, 1) := by decide +kernel
theorem dX4_jumpOffset_4 : decode cX4_jumpOffset 4 = .ok (.bipush 20, 2) := by decide +kernel
theorem dX4_jumpOffset_6 : decode cX4_jumpOffset 6 = .ok (.ishl, 1) := by decide +kernel
theorem dX4_jumpOffset_7 : decode cX4_jumpOffset 7 = .ok (.iload_n 0, 1) := by decide +kernel
theorem dX4_jumpOffset_8 : decode cX4_jumpOffset 8 = .ok (.ldc 88, 2) := by decide +kernel
theorem dX4_jumpOffset_10 : decode cX4_jumpOffset 10 = .ok (.iand, 1) := by decide +kernel
theorem dX4_jumpOffset_11 : decode cX4_jumpOffset 11 = .ok (.ior, 1) := by decide +kernel
theorem dX4_jumpOffset_12 : decode cX4_jumpOffset 12 = .ok (.iload_n 0, 1) := by decide +kernel
theorem dX4_jumpOffset_13 : decode cX4_jumpOffset 13 = .ok (.bipush 9, 2) := by decide +kernel
theorem dX4_jumpOffset_15 : decode cX4_jumpOffset 15 = .ok (.ishr, 1) := by decide +kernel
theorem dX4_jumpOffset_16 : decode cX4_jumpOffset 16 = .ok (.sipush 2048, 3) := by decide +kernel
theorem dX4_jumpOffset_19 : decode cX4_jumpOffset 19 = .ok (.iand, 1) := by decide +kernel
theorem dX4_jumpOffset_20 : decode cX4_jumpOffset 20 = .ok (.ior, 1) := by decide +kernel
theorem dX4_jumpOffset_21 : decode cX4_jumpOffset 21 = .ok (.iload_n 0, 1) := by decide +kernel
theorem dX4_jumpOffset_22 : decode cX4_jumpOffset 22 = .ok (.bipush 20, 2) := by decide +kernel
theorem dX4_jumpOffset_24 : decode cX4_jumpOffset 24 = .ok (.ishr, 1) := by decide +kernel
theorem dX4_jumpOffset_25 : decode cX4_jumpOffset 25 = .ok (.sipush 2046, 3) := by decide +kernel
theorem dX4_jumpOffset_28 : decode cX4_jumpOffset 28 = .ok (.iand, 1) := by decide +kernel
theorem dX4_jumpOffset_29 : decode cX4_jumpOffset 29 = .ok (.ior, 1) := by decide +kernel
theorem dX4_jumpOffset_30 : decode cX4_jumpOffset 30 = .ok (.ireturn, 1) := by decide +kernel
theorem dX4_reckoned_0 : decode cX4_reckoned 0 = .ok (.iload_n 0, 1) := by decide +kernel
theorem dX4_reckoned_1 : decode cX4_reckoned 1 = .ok (.tableswitch 94 0 6 #[43, 47, 54, 65, 79, 83, 90], 43) := by decide +kernel
theorem dX4_reckoned_44 : decode cX4_reckoned 44 = .ok (.iload_n 1, 1) := by decide +kernel
theorem dX4_reckoned_45 : decode cX4_reckoned 45 = .ok (.iload_n 2, 1) := by decide +kernel
theorem dX4_reckoned_46 : decode cX4_reckoned 46 = .ok (.iadd, 1) := by decide +kernel
theorem dX4_reckoned_47 : decode cX4_reckoned 47 = .ok (.ireturn, 1) := by decide +kernel
theorem dX4_reckoned_48 : decode cX4_reckoned 48 = .ok (.iload_n 1, 1) := by decide +kernel
theorem dX4_reckoned_49 : decode cX4_reckoned 49 = .ok (.iload_n 2, 1) := by decide +kernel
theorem dX4_reckoned_50 : decode cX4_reckoned 50 = .ok (.bipush 31, 2) := by decide +kernel
theorem dX4_reckoned_52 : decode cX4_reckoned 52 = .ok (.iand, 1) := by decide +kernel
theorem dX4_reckoned_53 : decode cX4_reckoned 53 = .ok (.ishl, 1) := by decide +kernel
theorem dX4_reckoned_54 : decode cX4_reckoned 54 = .ok (.ireturn, 1) := by decide +kernel
theorem dX4_reckoned_55 : decode cX4_reckoned 55 = .ok (.iload_n 1, 1) := by decide +kernel
theorem dX4_reckoned_56 : decode cX4_reckoned 56 = .ok (.iload_n 2, 1) := by decide +kernel
theorem dX4_reckoned_57 : decode cX4_reckoned 57 = .ok (.if_icmp .ge 7, 3) := by decide +kernel
theorem dX4_reckoned_60 : decode cX4_reckoned 60 = .ok (.iconst 1, 1) := by decide +kernel
theorem dX4_reckoned_61 : decode cX4_reckoned 61 = .ok (.goto 4, 3) := by decide +kernel
theorem dX4_reckoned_64 : decode cX4_reckoned 64 = .ok (.iconst 0, 1) := by decide +kernel
theorem dX4_reckoned_65 : decode cX4_reckoned 65 = .ok (.ireturn, 1) := by decide +kernel
theorem dX4_reckoned_66 : decode cX4_reckoned 66 = .ok (.iload_n 1, 1) := by decide +kernel
theorem dX4_reckoned_67 : decode cX4_reckoned 67 = .ok (.iload_n 2, 1) := by decide +kernel
theorem dX4_reckoned_68 : decode cX4_reckoned 68 = .ok (.invokestatic 89, 3) := by decide +kernel
theorem dX4_reckoned_71 : decode cX4_reckoned 71 = .ok (.ifCond .ge 7, 3) := by decide +kernel
theorem dX4_reckoned_74 : decode cX4_reckoned 74 = .ok (.iconst 1, 1) := by decide +kernel
theorem dX4_reckoned_75 : decode cX4_reckoned 75 = .ok (.goto 4, 3) := by decide +kernel
theorem dX4_reckoned_78 : decode cX4_reckoned 78 = .ok (.iconst 0, 1) := by decide +kernel
theorem dX4_reckoned_79 : decode cX4_reckoned 79 = .ok (.ireturn, 1) := by decide +kernel
theorem dX4_reckoned_80 : decode cX4_reckoned 80 = .ok (.iload_n 1, 1) := by decide +kernel
theorem dX4_reckoned_81 : decode cX4_reckoned 81 = .ok (.iload_n 2, 1) := by decide +kernel
theorem dX4_reckoned_82 : decode cX4_reckoned 82 = .ok (.ixor, 1) := by decide +kernel
theorem dX4_reckoned_83 : decode cX4_reckoned 83 = .ok (.ireturn, 1) := by decide +kernel
theorem dX4_reckoned_84 : decode cX4_reckoned 84 = .ok (.iload_n 1, 1) := by decide +kernel
theorem dX4_reckoned_85 : decode cX4_reckoned 85 = .ok (.iload_n 2, 1) := by decide +kernel
theorem dX4_reckoned_86 : decode cX4_reckoned 86 = .ok (.bipush 31, 2) := by decide +kernel
theorem dX4_reckoned_88 : decode cX4_reckoned 88 = .ok (.iand, 1) := by decide +kernel
theorem dX4_reckoned_89 : decode cX4_reckoned 89 = .ok (.iushr, 1) := by decide +kernel
theorem dX4_reckoned_90 : decode cX4_reckoned 90 = .ok (.ireturn, 1) := by decide +kernel
theorem dX4_reckoned_91 : decode cX4_reckoned 91 = .ok (.iload_n 1, 1) := by decide +kernel
theorem dX4_reckoned_92 : decode cX4_reckoned 92 = .ok (.iload_n 2, 1) := by decide +kernel
theorem dX4_reckoned_93 : decode cX4_reckoned 93 = .ok (.ior, 1) := by decide +kernel
theorem dX4_reckoned_94 : decode cX4_reckoned 94 = .ok (.ireturn, 1) := by decide +kernel
theorem dX4_reckoned_95 : decode cX4_reckoned 95 = .ok (.iload_n 1, 1) := by decide +kernel
theorem dX4_reckoned_96 : decode cX4_reckoned 96 = .ok (.iload_n 2, 1) := by decide +kernel
theorem dX4_reckoned_97 : decode cX4_reckoned 97 = .ok (.iand, 1) := by decide +kernel
theorem dX4_reckoned_98 : decode cX4_reckoned 98 = .ok (.ireturn, 1) := by decide +kernel
theorem dX4_isAtomic_0 : decode cX4_isAtomic 0 = .ok (.iload_n 0, 1) := by decide +kernel
theorem dX4_isAtomic_1 : decode cX4_isAtomic 1 = .ok (.iconst 4, 1) := by decide +kernel
theorem dX4_isAtomic_2 : decode cX4_isAtomic 2 = .ok (.if_icmp .le 9, 3) := by decide +kernel
theorem dX4_isAtomic_5 : decode cX4_isAtomic 5 = .ok (.iload_n 0, 1) := by decide +kernel
theorem dX4_isAtomic_6 : decode cX4_isAtomic 6 = .ok (.iconst 3, 1) := by decide +kernel
theorem dX4_isAtomic_7 : decode cX4_isAtomic 7 = .ok (.iand, 1) := by decide +kernel
theorem dX4_isAtomic_8 : decode cX4_isAtomic 8 = .ok (.ifCond .ne 7, 3) := by decide +kernel
theorem dX4_isAtomic_11 : decode cX4_isAtomic 11 = .ok (.iconst 1, 1) := by decide +kernel
theorem dX4_isAtomic_12 : decode cX4_isAtomic 12 = .ok (.goto 4, 3) := by decide +kernel
theorem dX4_isAtomic_15 : decode cX4_isAtomic 15 = .ok (.iconst 0, 1) := by decide +kernel
theorem dX4_isAtomic_16 : decode cX4_isAtomic 16 = .ok (.ireturn, 1) := by decide +kernel
theorem dX4_changed_0 : decode cX4_changed 0 = .ok (.iload_n 0, 1) := by decide +kernel
theorem dX4_changed_1 : decode cX4_changed 1 = .ok (.tableswitch 159 0 24 #[115, 119, 159, 159, 121, 159, 159, 159, 125, 159, 159, 159, 129, 159, 159, 159, 133, 159, 159, 159, 139, 159, 159, 159, 145], 115) := by decide +kernel
theorem dX4_changed_116 : decode cX4_changed 116 = .ok (.iload_n 1, 1) := by decide +kernel
theorem dX4_changed_117 : decode cX4_changed 117 = .ok (.iload_n 2, 1) := by decide +kernel
theorem dX4_changed_118 : decode cX4_changed 118 = .ok (.iadd, 1) := by decide +kernel
theorem dX4_changed_119 : decode cX4_changed 119 = .ok (.ireturn, 1) := by decide +kernel
theorem dX4_changed_120 : decode cX4_changed 120 = .ok (.iload_n 2, 1) := by decide +kernel
theorem dX4_changed_121 : decode cX4_changed 121 = .ok (.ireturn, 1) := by decide +kernel
theorem dX4_changed_122 : decode cX4_changed 122 = .ok (.iload_n 1, 1) := by decide +kernel
theorem dX4_changed_123 : decode cX4_changed 123 = .ok (.iload_n 2, 1) := by decide +kernel
theorem dX4_changed_124 : decode cX4_changed 124 = .ok (.ixor, 1) := by decide +kernel
theorem dX4_changed_125 : decode cX4_changed 125 = .ok (.ireturn, 1) := by decide +kernel
theorem dX4_changed_126 : decode cX4_changed 126 = .ok (.iload_n 1, 1) := by decide +kernel
theorem dX4_changed_127 : decode cX4_changed 127 = .ok (.iload_n 2, 1) := by decide +kernel
theorem dX4_changed_128 : decode cX4_changed 128 = .ok (.ior, 1) := by decide +kernel
theorem dX4_changed_129 : decode cX4_changed 129 = .ok (.ireturn, 1) := by decide +kernel
theorem dX4_changed_130 : decode cX4_changed 130 = .ok (.iload_n 1, 1) := by decide +kernel
theorem dX4_changed_131 : decode cX4_changed 131 = .ok (.iload_n 2, 1) := by decide +kernel
theorem dX4_changed_132 : decode cX4_changed 132 = .ok (.iand, 1) := by decide +kernel
theorem dX4_changed_133 : decode cX4_changed 133 = .ok (.ireturn, 1) := by decide +kernel
theorem dX4_changed_134 : decode cX4_changed 134 = .ok (.iload_n 1, 1) := by decide +kernel
theorem dX4_changed_135 : decode cX4_changed 135 = .ok (.iload_n 2, 1) := by decide +kernel
theorem dX4_changed_136 : decode cX4_changed 136 = .ok (.invokestatic 128, 3) := by decide +kernel
theorem dX4_changed_139 : decode cX4_changed 139 = .ok (.ireturn, 1) := by decide +kernel
theorem dX4_changed_140 : decode cX4_changed 140 = .ok (.iload_n 1, 1) := by decide +kernel
theorem dX4_changed_141 : decode cX4_changed 141 = .ok (.iload_n 2, 1) := by decide +kernel
theorem dX4_changed_142 : decode cX4_changed 142 = .ok (.invokestatic 133, 3) := by decide +kernel
theorem dX4_changed_145 : decode cX4_changed 145 = .ok (.ireturn, 1) := by decide +kernel
theorem dX4_changed_146 : decode cX4_changed 146 = .ok (.iload_n 1, 1) := by decide +kernel
theorem dX4_changed_147 : decode cX4_changed 147 = .ok (.iload_n 2, 1) := by decide +kernel
theorem dX4_changed_148 : decode cX4_changed 148 = .ok (.invokestatic 89, 3) := by decide +kernel
theorem dX4_changed_151 : decode cX4_changed 151 = .ok (.ifCond .ge 7, 3) := by decide +kernel
theorem dX4_changed_154 : decode cX4_changed 154 = .ok (.iload_n 1, 1) := by decide +kernel
theorem dX4_changed_155 : decode cX4_changed 155 = .ok (.goto 4, 3) := by decide +kernel
theorem dX4_changed_158 : decode cX4_changed 158 = .ok (.iload_n 2, 1) := by decide +kernel
theorem dX4_changed_159 : decode cX4_changed 159 = .ok (.ireturn, 1) := by decide +kernel
theorem dX4_changed_160 : decode cX4_changed 160 = .ok (.iload_n 1, 1) := by decide +kernel
theorem dX4_changed_161 : decode cX4_changed 161 = .ok (.iload_n 2, 1) := by decide +kernel
theorem dX4_changed_162 : decode cX4_changed 162 = .ok (.invokestatic 89, 3) := by decide +kernel
theorem dX4_changed_165 : decode cX4_changed 165 = .ok (.ifCond .le 7, 3) := by decide +kernel
theorem dX4_changed_168 : decode cX4_changed 168 = .ok (.iload_n 1, 1) := by decide +kernel
theorem dX4_changed_169 : decode cX4_changed 169 = .ok (.goto 4, 3) := by decide +kernel
theorem dX4_changed_172 : decode cX4_changed 172 = .ok (.iload_n 2, 1) := by decide +kernel
theorem dX4_changed_173 : decode cX4_changed 173 = .ok (.ireturn, 1) := by decide +kernel
theorem dX4_number_0 : decode cX4_number 0 = .ok (.iload_n 0, 1) := by decide +kernel
theorem dX4_number_1 : decode cX4_number 1 = .ok (.bipush 20, 2) := by decide +kernel
theorem dX4_number_3 : decode cX4_number 3 = .ok (.ishl, 1) := by decide +kernel
theorem dX4_number_4 : decode cX4_number 4 = .ok (.iload_n 1, 1) := by decide +kernel
theorem dX4_number_5 : decode cX4_number 5 = .ok (.bipush 15, 2) := by decide +kernel
theorem dX4_number_7 : decode cX4_number 7 = .ok (.ishl, 1) := by decide +kernel
theorem dX4_number_8 : decode cX4_number 8 = .ok (.ior, 1) := by decide +kernel
theorem dX4_number_9 : decode cX4_number 9 = .ok (.iload_n 2, 1) := by decide +kernel
theorem dX4_number_10 : decode cX4_number 10 = .ok (.bipush 12, 2) := by decide +kernel
theorem dX4_number_12 : decode cX4_number 12 = .ok (.ishl, 1) := by decide +kernel
theorem dX4_number_13 : decode cX4_number 13 = .ok (.ior, 1) := by decide +kernel
theorem dX4_number_14 : decode cX4_number 14 = .ok (.iload_n 3, 1) := by decide +kernel
theorem dX4_number_15 : decode cX4_number 15 = .ok (.bipush 7, 2) := by decide +kernel
theorem dX4_number_17 : decode cX4_number 17 = .ok (.ishl, 1) := by decide +kernel
theorem dX4_number_18 : decode cX4_number 18 = .ok (.ior, 1) := by decide +kernel
theorem dX4_number_19 : decode cX4_number 19 = .ok (.bipush 19, 2) := by decide +kernel
theorem dX4_number_21 : decode cX4_number 21 = .ok (.ior, 1) := by decide +kernel
theorem dX4_number_22 : decode cX4_number 22 = .ok (.ireturn, 1) := by decide +kernel
theorem dX4_loading_0 : decode cX4_loading 0 = .ok (.iload_n 0, 1) := by decide +kernel
theorem dX4_loading_1 : decode cX4_loading 1 = .ok (.bipush 20, 2) := by decide +kernel
theorem dX4_loading_3 : decode cX4_loading 3 = .ok (.ishl, 1) := by decide +kernel
theorem dX4_loading_4 : decode cX4_loading 4 = .ok (.iload_n 1, 1) := by decide +kernel
theorem dX4_loading_5 : decode cX4_loading 5 = .ok (.bipush 15, 2) := by decide +kernel
theorem dX4_loading_7 : decode cX4_loading 7 = .ok (.ishl, 1) := by decide +kernel
theorem dX4_loading_8 : decode cX4_loading 8 = .ok (.ior, 1) := by decide +kernel
theorem dX4_loading_9 : decode cX4_loading 9 = .ok (.sipush 8192, 3) := by decide +kernel
theorem dX4_loading_12 : decode cX4_loading 12 = .ok (.ior, 1) := by decide +kernel
theorem dX4_loading_13 : decode cX4_loading 13 = .ok (.iload_n 2, 1) := by decide +kernel
theorem dX4_loading_14 : decode cX4_loading 14 = .ok (.bipush 7, 2) := by decide +kernel
theorem dX4_loading_16 : decode cX4_loading 16 = .ok (.ishl, 1) := by decide +kernel
theorem dX4_loading_17 : decode cX4_loading 17 = .ok (.ior, 1) := by decide +kernel
theorem dX4_loading_18 : decode cX4_loading 18 = .ok (.iconst 3, 1) := by decide +kernel
theorem dX4_loading_19 : decode cX4_loading 19 = .ok (.ior, 1) := by decide +kernel
theorem dX4_loading_20 : decode cX4_loading 20 = .ok (.ireturn, 1) := by decide +kernel
theorem dX4_storing_0 : decode cX4_storing 0 = .ok (.iload_n 0, 1) := by decide +kernel
theorem dX4_storing_1 : decode cX4_storing 1 = .ok (.iconst 5, 1) := by decide +kernel
theorem dX4_storing_2 : decode cX4_storing 2 = .ok (.ishr, 1) := by decide +kernel
theorem dX4_storing_3 : decode cX4_storing 3 = .ok (.bipush 25, 2) := by decide +kernel
theorem dX4_storing_5 : decode cX4_storing 5 = .ok (.ishl, 1) := by decide +kernel
theorem dX4_storing_6 : decode cX4_storing 6 = .ok (.iload_n 2, 1) := by decide +kernel
theorem dX4_storing_7 : decode cX4_storing 7 = .ok (.bipush 20, 2) := by decide +kernel
theorem dX4_storing_9 : decode cX4_storing 9 = .ok (.ishl, 1) := by decide +kernel
theorem dX4_storing_10 : decode cX4_storing 10 = .ok (.ior, 1) := by decide +kernel
theorem dX4_storing_11 : decode cX4_storing 11 = .ok (.iload_n 1, 1) := by decide +kernel
theorem dX4_storing_12 : decode cX4_storing 12 = .ok (.bipush 15, 2) := by decide +kernel
theorem dX4_storing_14 : decode cX4_storing 14 = .ok (.ishl, 1) := by decide +kernel
theorem dX4_storing_15 : decode cX4_storing 15 = .ok (.ior, 1) := by decide +kernel
theorem dX4_storing_16 : decode cX4_storing 16 = .ok (.sipush 8192, 3) := by decide +kernel
theorem dX4_storing_19 : decode cX4_storing 19 = .ok (.ior, 1) := by decide +kernel
theorem dX4_storing_20 : decode cX4_storing 20 = .ok (.iload_n 0, 1) := by decide +kernel
theorem dX4_storing_21 : decode cX4_storing 21 = .ok (.bipush 31, 2) := by decide +kernel
theorem dX4_storing_23 : decode cX4_storing 23 = .ok (.iand, 1) := by decide +kernel
theorem dX4_storing_24 : decode cX4_storing 24 = .ok (.bipush 7, 2) := by decide +kernel
theorem dX4_storing_26 : decode cX4_storing 26 = .ok (.ishl, 1) := by decide +kernel
theorem dX4_storing_27 : decode cX4_storing 27 = .ok (.ior, 1) := by decide +kernel
theorem dX4_storing_28 : decode cX4_storing 28 = .ok (.bipush 35, 2) := by decide +kernel
theorem dX4_storing_30 : decode cX4_storing 30 = .ok (.ior, 1) := by decide +kernel
theorem dX4_storing_31 : decode cX4_storing 31 = .ok (.ireturn, 1) := by decide +kernel
theorem dX4_jumping_0 : decode cX4_jumping 0 = .ok (.iload_n 0, 1) := by decide +kernel
theorem dX4_jumping_1 : decode cX4_jumping 1 = .ok (.ldc 152, 2) := by decide +kernel
theorem dX4_jumping_3 : decode cX4_jumping 3 = .ok (.iand, 1) := by decide +kernel
theorem dX4_jumping_4 : decode cX4_jumping 4 = .ok (.iload_n 0, 1) := by decide +kernel
theorem dX4_jumping_5 : decode cX4_jumping 5 = .ok (.sipush 2046, 3) := by decide +kernel
theorem dX4_jumping_8 : decode cX4_jumping 8 = .ok (.iand, 1) := by decide +kernel
theorem dX4_jumping_9 : decode cX4_jumping 9 = .ok (.bipush 20, 2) := by decide +kernel
theorem dX4_jumping_11 : decode cX4_jumping 11 = .ok (.ishl, 1) := by decide +kernel
theorem dX4_jumping_12 : decode cX4_jumping 12 = .ok (.ior, 1) := by decide +kernel
theorem dX4_jumping_13 : decode cX4_jumping 13 = .ok (.iload_n 0, 1) := by decide +kernel
theorem dX4_jumping_14 : decode cX4_jumping 14 = .ok (.sipush 2048, 3) := by decide +kernel
theorem dX4_jumping_17 : decode cX4_jumping 17 = .ok (.iand, 1) := by decide +kernel
theorem dX4_jumping_18 : decode cX4_jumping 18 = .ok (.bipush 9, 2) := by decide +kernel
theorem dX4_jumping_20 : decode cX4_jumping 20 = .ok (.ishl, 1) := by decide +kernel
theorem dX4_jumping_21 : decode cX4_jumping 21 = .ok (.ior, 1) := by decide +kernel
theorem dX4_jumping_22 : decode cX4_jumping 22 = .ok (.iload_n 0, 1) := by decide +kernel
theorem dX4_jumping_23 : decode cX4_jumping 23 = .ok (.ldc 88, 2) := by decide +kernel
theorem dX4_jumping_25 : decode cX4_jumping 25 = .ok (.iand, 1) := by decide +kernel
theorem dX4_jumping_26 : decode cX4_jumping 26 = .ok (.ior, 1) := by decide +kernel
theorem dX4_jumping_27 : decode cX4_jumping 27 = .ok (.ireturn, 1) := by decide +kernel
theorem dX4_branching_0 : decode cX4_branching 0 = .ok (.iload_n 0, 1) := by decide +kernel
theorem dX4_branching_1 : decode cX4_branching 1 = .ok (.ldc 152, 2) := by decide +kernel
theorem dX4_branching_3 : decode cX4_branching 3 = .ok (.iand, 1) := by decide +kernel
theorem dX4_branching_4 : decode cX4_branching 4 = .ok (.iload_n 0, 1) := by decide +kernel
theorem dX4_branching_5 : decode cX4_branching 5 = .ok (.sipush 2016, 3) := by decide +kernel
theorem dX4_branching_8 : decode cX4_branching 8 = .ok (.iand, 1) := by decide +kernel
theorem dX4_branching_9 : decode cX4_branching 9 = .ok (.bipush 20, 2) := by decide +kernel
theorem dX4_branching_11 : decode cX4_branching 11 = .ok (.ishl, 1) := by decide +kernel
theorem dX4_branching_12 : decode cX4_branching 12 = .ok (.ior, 1) := by decide +kernel
theorem dX4_branching_13 : decode cX4_branching 13 = .ok (.iload_n 0, 1) := by decide +kernel
theorem dX4_branching_14 : decode cX4_branching 14 = .ok (.bipush 30, 2) := by decide +kernel
theorem dX4_branching_16 : decode cX4_branching 16 = .ok (.iand, 1) := by decide +kernel
theorem dX4_branching_17 : decode cX4_branching 17 = .ok (.bipush 7, 2) := by decide +kernel
theorem dX4_branching_19 : decode cX4_branching 19 = .ok (.ishl, 1) := by decide +kernel
theorem dX4_branching_20 : decode cX4_branching 20 = .ok (.ior, 1) := by decide +kernel
theorem dX4_branching_21 : decode cX4_branching 21 = .ok (.iload_n 0, 1) := by decide +kernel
theorem dX4_branching_22 : decode cX4_branching 22 = .ok (.sipush 2048, 3) := by decide +kernel
theorem dX4_branching_25 : decode cX4_branching 25 = .ok (.iand, 1) := by decide +kernel
theorem dX4_branching_26 : decode cX4_branching 26 = .ok (.iconst 4, 1) := by decide +kernel
theorem dX4_branching_27 : decode cX4_branching 27 = .ok (.ishr, 1) := by decide +kernel
theorem dX4_branching_28 : decode cX4_branching 28 = .ok (.ior, 1) := by decide +kernel
theorem dX4_branching_29 : decode cX4_branching 29 = .ok (.ireturn, 1) := by decide +kernel
theorem dX4_expandedFirst_0 : decode cX4_expandedFirst 0 = .ok (.bipush 8, 2) := by decide +kernel
theorem dX4_expandedFirst_2 : decode cX4_expandedFirst 2 = .ok (.iload_n 0, 1) := by decide +kernel
theorem dX4_expandedFirst_3 : decode cX4_expandedFirst 3 = .ok (.iconst 2, 1) := by decide +kernel
theorem dX4_expandedFirst_4 : decode cX4_expandedFirst 4 = .ok (.ishr, 1) := by decide +kernel
theorem dX4_expandedFirst_5 : decode cX4_expandedFirst 5 = .ok (.bipush 7, 2) := by decide +kernel
theorem dX4_expandedFirst_7 : decode cX4_expandedFirst 7 = .ok (.iand, 1) := by decide +kernel
theorem dX4_expandedFirst_8 : decode cX4_expandedFirst 8 = .ok (.iadd, 1) := by decide +kernel
theorem dX4_expandedFirst_9 : decode cX4_expandedFirst 9 = .ok (.istore_n 1, 1) := by decide +kernel
theorem dX4_expandedFirst_10 : decode cX4_expandedFirst 10 = .ok (.bipush 8, 2) := by decide +kernel
theorem dX4_expandedFirst_12 : decode cX4_expandedFirst 12 = .ok (.iload_n 0, 1) := by decide +kernel
theorem dX4_expandedFirst_13 : decode cX4_expandedFirst 13 = .ok (.bipush 7, 2) := by decide +kernel
theorem dX4_expandedFirst_15 : decode cX4_expandedFirst 15 = .ok (.ishr, 1) := by decide +kernel
theorem dX4_expandedFirst_16 : decode cX4_expandedFirst 16 = .ok (.bipush 7, 2) := by decide +kernel
theorem dX4_expandedFirst_18 : decode cX4_expandedFirst 18 = .ok (.iand, 1) := by decide +kernel
theorem dX4_expandedFirst_19 : decode cX4_expandedFirst 19 = .ok (.iadd, 1) := by decide +kernel
theorem dX4_expandedFirst_20 : decode cX4_expandedFirst 20 = .ok (.istore_n 2, 1) := by decide +kernel
theorem dX4_expandedFirst_21 : decode cX4_expandedFirst 21 = .ok (.iload_n 0, 1) := by decide +kernel
theorem dX4_expandedFirst_22 : decode cX4_expandedFirst 22 = .ok (.bipush 7, 2) := by decide +kernel
theorem dX4_expandedFirst_24 : decode cX4_expandedFirst 24 = .ok (.ishr, 1) := by decide +kernel
theorem dX4_expandedFirst_25 : decode cX4_expandedFirst 25 = .ok (.bipush 56, 2) := by decide +kernel
theorem dX4_expandedFirst_27 : decode cX4_expandedFirst 27 = .ok (.iand, 1) := by decide +kernel
theorem dX4_expandedFirst_28 : decode cX4_expandedFirst 28 = .ok (.iload_n 0, 1) := by decide +kernel
theorem dX4_expandedFirst_29 : decode cX4_expandedFirst 29 = .ok (.iconst 4, 1) := by decide +kernel
theorem dX4_expandedFirst_30 : decode cX4_expandedFirst 30 = .ok (.ishr, 1) := by decide +kernel
theorem dX4_expandedFirst_31 : decode cX4_expandedFirst 31 = .ok (.iconst 4, 1) := by decide +kernel
theorem dX4_expandedFirst_32 : decode cX4_expandedFirst 32 = .ok (.iand, 1) := by decide +kernel
theorem dX4_expandedFirst_33 : decode cX4_expandedFirst 33 = .ok (.ior, 1) := by decide +kernel
theorem dX4_expandedFirst_34 : decode cX4_expandedFirst 34 = .ok (.iload_n 0, 1) := by decide +kernel
theorem dX4_expandedFirst_35 : decode cX4_expandedFirst 35 = .ok (.iconst 1, 1) := by decide +kernel
theorem dX4_expandedFirst_36 : decode cX4_expandedFirst 36 = .ok (.ishl, 1) := by decide +kernel
theorem dX4_expandedFirst_37 : decode cX4_expandedFirst 37 = .ok (.bipush 64, 2) := by decide +kernel
theorem dX4_expandedFirst_39 : decode cX4_expandedFirst 39 = .ok (.iand, 1) := by decide +kernel
theorem dX4_expandedFirst_40 : decode cX4_expandedFirst 40 = .ok (.ior, 1) := by decide +kernel
theorem dX4_expandedFirst_41 : decode cX4_expandedFirst 41 = .ok (.istore_n 3, 1) := by decide +kernel
theorem dX4_expandedFirst_42 : decode cX4_expandedFirst 42 = .ok (.iload_n 0, 1) := by decide +kernel
theorem dX4_expandedFirst_43 : decode cX4_expandedFirst 43 = .ok (.bipush 13, 2) := by decide +kernel
theorem dX4_expandedFirst_45 : decode cX4_expandedFirst 45 = .ok (.ishr, 1) := by decide +kernel
theorem dX4_expandedFirst_46 : decode cX4_expandedFirst 46 = .ok (.lookupswitch 96 #[(0, 34), (2, 82), (6, 89)], 34) := by decide +kernel
theorem dX4_expandedFirst_80 : decode cX4_expandedFirst 80 = .ok (.iload_n 0, 1) := by decide +kernel
theorem dX4_expandedFirst_81 : decode cX4_expandedFirst 81 = .ok (.bipush 7, 2) := by decide +kernel
theorem dX4_expandedFirst_83 : decode cX4_expandedFirst 83 = .ok (.ishr, 1) := by decide +kernel
theorem dX4_expandedFirst_84 : decode cX4_expandedFirst 84 = .ok (.bipush 48, 2) := by decide +kernel
theorem dX4_expandedFirst_86 : decode cX4_expandedFirst 86 = .ok (.iand, 1) := by decide +kernel
theorem dX4_expandedFirst_87 : decode cX4_expandedFirst 87 = .ok (.iload_n 0, 1) := by decide +kernel
theorem dX4_expandedFirst_88 : decode cX4_expandedFirst 88 = .ok (.iconst 1, 1) := by decide +kernel
theorem dX4_expandedFirst_89 : decode cX4_expandedFirst 89 = .ok (.ishr, 1) := by decide +kernel
theorem dX4_expandedFirst_90 : decode cX4_expandedFirst 90 = .ok (.sipush 960, 3) := by decide +kernel
theorem dX4_expandedFirst_93 : decode cX4_expandedFirst 93 = .ok (.iand, 1) := by decide +kernel
theorem dX4_expandedFirst_94 : decode cX4_expandedFirst 94 = .ok (.ior, 1) := by decide +kernel
theorem dX4_expandedFirst_95 : decode cX4_expandedFirst 95 = .ok (.iload_n 0, 1) := by decide +kernel
theorem dX4_expandedFirst_96 : decode cX4_expandedFirst 96 = .ok (.iconst 4, 1) := by decide +kernel
theorem dX4_expandedFirst_97 : decode cX4_expandedFirst 97 = .ok (.ishr, 1) := by decide +kernel
theorem dX4_expandedFirst_98 : decode cX4_expandedFirst 98 = .ok (.iconst 4, 1) := by decide +kernel
theorem dX4_expandedFirst_99 : decode cX4_expandedFirst 99 = .ok (.iand, 1) := by decide +kernel
theorem dX4_expandedFirst_100 : decode cX4_expandedFirst 100 = .ok (.ior, 1) := by decide +kernel
theorem dX4_expandedFirst_101 : decode cX4_expandedFirst 101 = .ok (.iload_n 0, 1) := by decide +kernel
theorem dX4_expandedFirst_102 : decode cX4_expandedFirst 102 = .ok (.iconst 2, 1) := by decide +kernel
theorem dX4_expandedFirst_103 : decode cX4_expandedFirst 103 = .ok (.ishr, 1) := by decide +kernel
theorem dX4_expandedFirst_104 : decode cX4_expandedFirst 104 = .ok (.bipush 8, 2) := by decide +kernel
theorem dX4_expandedFirst_106 : decode cX4_expandedFirst 106 = .ok (.iand, 1) := by decide +kernel
theorem dX4_expandedFirst_107 : decode cX4_expandedFirst 107 = .ok (.ior, 1) := by decide +kernel
theorem dX4_expandedFirst_108 : decode cX4_expandedFirst 108 = .ok (.istore 4, 2) := by decide +kernel
theorem dX4_expandedFirst_110 : decode cX4_expandedFirst 110 = .ok (.iload 4, 2) := by decide +kernel
theorem dX4_expandedFirst_112 : decode cX4_expandedFirst 112 = .ok (.ifCond .ne 7, 3) := by decide +kernel
theorem dX4_expandedFirst_115 : decode cX4_expandedFirst 115 = .ok (.iconst 0, 1) := by decide +kernel
theorem dX4_expandedFirst_116 : decode cX4_expandedFirst 116 = .ok (.goto 11, 3) := by decide +kernel
theorem dX4_expandedFirst_119 : decode cX4_expandedFirst 119 = .ok (.iload 4, 2) := by decide +kernel
theorem dX4_expandedFirst_121 : decode cX4_expandedFirst 121 = .ok (.iconst 2, 1) := by decide +kernel
theorem dX4_expandedFirst_122 : decode cX4_expandedFirst 122 = .ok (.iconst 0, 1) := by decide +kernel
theorem dX4_expandedFirst_123 : decode cX4_expandedFirst 123 = .ok (.iload_n 1, 1) := by decide +kernel
theorem dX4_expandedFirst_124 : decode cX4_expandedFirst 124 = .ok (.invokestatic 153, 3) := by decide +kernel
theorem dX4_expandedFirst_127 : decode cX4_expandedFirst 127 = .ok (.ireturn, 1) := by decide +kernel
theorem dX4_expandedFirst_128 : decode cX4_expandedFirst 128 = .ok (.iload_n 3, 1) := by decide +kernel
theorem dX4_expandedFirst_129 : decode cX4_expandedFirst 129 = .ok (.iload_n 2, 1) := by decide +kernel
theorem dX4_expandedFirst_130 : decode cX4_expandedFirst 130 = .ok (.iload_n 1, 1) := by decide +kernel
theorem dX4_expandedFirst_131 : decode cX4_expandedFirst 131 = .ok (.invokestatic 156, 3) := by decide +kernel
theorem dX4_expandedFirst_134 : decode cX4_expandedFirst 134 = .ok (.ireturn, 1) := by decide +kernel
theorem dX4_expandedFirst_135 : decode cX4_expandedFirst 135 = .ok (.iload_n 3, 1) := by decide +kernel
theorem dX4_expandedFirst_136 : decode cX4_expandedFirst 136 = .ok (.iload_n 2, 1) := by decide +kernel
theorem dX4_expandedFirst_137 : decode cX4_expandedFirst 137 = .ok (.iload_n 1, 1) := by decide +kernel
theorem dX4_expandedFirst_138 : decode cX4_expandedFirst 138 = .ok (.invokestatic 159, 3) := by decide +kernel
theorem dX4_expandedFirst_141 : decode cX4_expandedFirst 141 = .ok (.ireturn, 1) := by decide +kernel
theorem dX4_expandedFirst_142 : decode cX4_expandedFirst 142 = .ok (.iconst 0, 1) := by decide +kernel
theorem dX4_expandedFirst_143 : decode cX4_expandedFirst 143 = .ok (.ireturn, 1) := by decide +kernel
theorem dX4_signedNumber_0 : decode cX4_signedNumber 0 = .ok (.iload_n 0, 1) := by decide +kernel
theorem dX4_signedNumber_1 : decode cX4_signedNumber 1 = .ok (.bipush 19, 2) := by decide +kernel
theorem dX4_signedNumber_3 : decode cX4_signedNumber 3 = .ok (.ishl, 1) := by decide +kernel
theorem dX4_signedNumber_4 : decode cX4_signedNumber 4 = .ok (.bipush 31, 2) := by decide +kernel
theorem dX4_signedNumber_6 : decode cX4_signedNumber 6 = .ok (.ishr, 1) := by decide +kernel
theorem dX4_signedNumber_7 : decode cX4_signedNumber 7 = .ok (.iconst 5, 1) := by decide +kernel
theorem dX4_signedNumber_8 : decode cX4_signedNumber 8 = .ok (.ishl, 1) := by decide +kernel
theorem dX4_signedNumber_9 : decode cX4_signedNumber 9 = .ok (.iload_n 0, 1) := by decide +kernel
theorem dX4_signedNumber_10 : decode cX4_signedNumber 10 = .ok (.iconst 2, 1) := by decide +kernel
theorem dX4_signedNumber_11 : decode cX4_signedNumber 11 = .ok (.ishr, 1) := by decide +kernel
theorem dX4_signedNumber_12 : decode cX4_signedNumber 12 = .ok (.bipush 31, 2) := by decide +kernel
theorem dX4_signedNumber_14 : decode cX4_signedNumber 14 = .ok (.iand, 1) := by decide +kernel
theorem dX4_signedNumber_15 : decode cX4_signedNumber 15 = .ok (.ior, 1) := by decide +kernel
theorem dX4_signedNumber_16 : decode cX4_signedNumber 16 = .ok (.ireturn, 1) := by decide +kernel
theorem dX4_expandedSecond_0 : decode cX4_expandedSecond 0 = .ok (.iload_n 0, 1) := by decide +kernel
theorem dX4_expandedSecond_1 : decode cX4_expandedSecond 1 = .ok (.bipush 7, 2) := by decide +kernel
theorem dX4_expandedSecond_3 : decode cX4_expandedSecond 3 = .ok (.ishr, 1) := by decide +kernel
theorem dX4_expandedSecond_4 : decode cX4_expandedSecond 4 = .ok (.bipush 31, 2) := by decide +kernel
theorem dX4_expandedSecond_6 : decode cX4_expandedSecond 6 = .ok (.iand, 1) := by decide +kernel
theorem dX4_expandedSecond_7 : decode cX4_expandedSecond 7 = .ok (.istore_n 1, 1) := by decide +kernel
theorem dX4_expandedSecond_8 : decode cX4_expandedSecond 8 = .ok (.iload_n 0, 1) := by decide +kernel
theorem dX4_expandedSecond_9 : decode cX4_expandedSecond 9 = .ok (.invokestatic 162, 3) := by decide +kernel
theorem dX4_expandedSecond_12 : decode cX4_expandedSecond 12 = .ok (.istore_n 2, 1) := by decide +kernel
theorem dX4_expandedSecond_13 : decode cX4_expandedSecond 13 = .ok (.iload_n 0, 1) := by decide +kernel
theorem dX4_expandedSecond_14 : decode cX4_expandedSecond 14 = .ok (.bipush 13, 2) := by decide +kernel
theorem dX4_expandedSecond_16 : decode cX4_expandedSecond 16 = .ok (.ishr, 1) := by decide +kernel
theorem dX4_expandedSecond_17 : decode cX4_expandedSecond 17 = .ok (.tableswitch 228 0 5 #[39, 47, 135, 143, 228, 47], 39) := by decide +kernel
theorem dX4_expandedSecond_56 : decode cX4_expandedSecond 56 = .ok (.iload_n 2, 1) := by decide +kernel
theorem dX4_expandedSecond_57 : decode cX4_expandedSecond 57 = .ok (.iload_n 1, 1) := by decide +kernel
theorem dX4_expandedSecond_58 : decode cX4_expandedSecond 58 = .ok (.iconst 0, 1) := by decide +kernel
theorem dX4_expandedSecond_59 : decode cX4_expandedSecond 59 = .ok (.iload_n 1, 1) := by decide +kernel
theorem dX4_expandedSecond_60 : decode cX4_expandedSecond 60 = .ok (.invokestatic 153, 3) := by decide +kernel
theorem dX4_expandedSecond_63 : decode cX4_expandedSecond 63 = .ok (.ireturn, 1) := by decide +kernel
theorem dX4_expandedSecond_64 : decode cX4_expandedSecond 64 = .ok (.iload_n 0, 1) := by decide +kernel
theorem dX4_expandedSecond_65 : decode cX4_expandedSecond 65 = .ok (.bipush 19, 2) := by decide +kernel
theorem dX4_expandedSecond_67 : decode cX4_expandedSecond 67 = .ok (.ishl, 1) := by decide +kernel
theorem dX4_expandedSecond_68 : decode cX4_expandedSecond 68 = .ok (.bipush 31, 2) := by decide +kernel
theorem dX4_expandedSecond_70 : decode cX4_expandedSecond 70 = .ok (.ishr, 1) := by decide +kernel
theorem dX4_expandedSecond_71 : decode cX4_expandedSecond 71 = .ok (.bipush 11, 2) := by decide +kernel
theorem dX4_expandedSecond_73 : decode cX4_expandedSecond 73 = .ok (.ishl, 1) := by decide +kernel
theorem dX4_expandedSecond_74 : decode cX4_expandedSecond 74 = .ok (.iload_n 0, 1) := by decide +kernel
theorem dX4_expandedSecond_75 : decode cX4_expandedSecond 75 = .ok (.bipush 7, 2) := by decide +kernel
