theorem dX4_atomic_261 : decode cX4_atomic 261 = .ok (.iconst 0, 1) := by decide +kernel
theorem dX4_atomic_262 : decode cX4_atomic 262 = .ok (.ireturn, 1) := by decide +kernel
theorem dX4_isAtomic_0 : decode cX4_isAtomic 0 = .ok (.iload_n 0, 1) := by decide +kernel
theorem dX4_isAtomic_1 : decode cX4_isAtomic 1 = .ok (.iconst 4, 1) := by decide +kernel
theorem dX4_isAtomic_2 : decode cX4_isAtomic 2 = .ok (.if_icmp .le 9, 3) := by decide +kernel
theorem dX4_isAtomic_5 : decode cX4_isAtomic 5 = .ok (.iload_n 0, 1) := by decide +kernel
theorem dX4_isAtomic_6 : decode cX4_isAtomic 6 = .ok (.iconst 3, 1) := by decide +kernel
theorem dX4_isAtomic_7 : decode cX4_isAtomic 7 = .ok (.iand, 1) := by decide +kernel
theorem dX4_isAtomic_8 : decode cX4_isAtomic 8 = .ok (.ifCond .ne 7, 3) := by decide +kernel
theorem dX4_isAtomic_11 : decode cX4_isAtomic 11 = .ok (.iconst 1, 1) := by decide +kernel
theorem dX4_isAtomic_12 : decode cX4_isAtomic 12 = .ok (.goto 4, 3) := by decide +kernel
theorem dX4_isAtomic_15 : decode cX4_isAtomic 15 = .ok (.iconst 0, 1) := by decide +kernel
theorem dX4_isAtomic_16 : decode cX4_isAtomic 16 = .ok (.ireturn, 1) := by decide +kernel
theorem dX4_changed_0 : decode cX4_changed 0 = .ok (.iload_n 0, 1) := by decide +kernel
theorem dX4_changed_1 : decode cX4_changed 1 = .ok (.tableswitch 159 0 24 #[115, 119, 159, 159, 121, 159, 159, 159, 125, 159, 159, 159, 129, 159, 159, 159, 133, 159, 159, 159, 139, 159, 159, 159, 145], 115) := by decide +kernel
theorem dX4_changed_116 : decode cX4_changed 116 = .ok (.iload_n 1, 1) := by decide +kernel
theorem dX4_changed_117 : decode cX4_changed 117 = .ok (.iload_n 2, 1) := by decide +kernel
theorem dX4_changed_118 : decode cX4_changed 118 = .ok (.iadd, 1) := by decide +kernel
theorem dX4_changed_119 : decode cX4_changed 119 = .ok (.ireturn, 1) := by decide +kernel
theorem dX4_changed_120 : decode cX4_changed 120 = .ok (.iload_n 2, 1) := by decide +kernel
theorem dX4_changed_121 : decode cX4_changed 121 = .ok (.ireturn, 1) := by decide +kernel
theorem dX4_changed_122 : decode cX4_changed 122 = .ok (.iload_n 1, 1) := by decide +kernel
theorem dX4_changed_123 : decode cX4_changed 123 = .ok (.iload_n 2, 1) := by decide +kernel
theorem dX4_changed_124 : decode cX4_changed 124 = .ok (.ixor, 1) := by decide +kernel
theorem dX4_changed_125 : decode cX4_changed 125 = .ok (.ireturn, 1) := by decide +kernel
theorem dX4_changed_126 : decode cX4_changed 126 = .ok (.iload_n 1, 1) := by decide +kernel
theorem dX4_changed_127 : decode cX4_changed 127 = .ok (.iload_n 2, 1) := by decide +kernel
theorem dX4_changed_128 : decode cX4_changed 128 = .ok (.ior, 1) := by decide +kernel
theorem dX4_changed_129 : decode cX4_changed 129 = .ok (.ireturn, 1) := by decide +kernel
theorem dX4_changed_130 : decode cX4_changed 130 = .ok (.iload_n 1, 1) := by decide +kernel
theorem dX4_changed_131 : decode cX4_changed 131 = .ok (.iload_n 2, 1) := by decide +kernel
theorem dX4_changed_132 : decode cX4_changed 132 = .ok (.iand, 1) := by decide +kernel
theorem dX4_changed_133 : decode cX4_changed 133 = .ok (.ireturn, 1) := by decide +kernel
theorem dX4_changed_134 : decode cX4_changed 134 = .ok (.iload_n 1, 1) := by decide +kernel
theorem dX4_changed_135 : decode cX4_changed 135 = .ok (.iload_n 2, 1) := by decide +kernel
theorem dX4_changed_136 : decode cX4_changed 136 = .ok (.invokestatic 128, 3) := by decide +kernel
theorem dX4_changed_139 : decode cX4_changed 139 = .ok (.ireturn, 1) := by decide +kernel
theorem dX4_changed_140 : decode cX4_changed 140 = .ok (.iload_n 1, 1) := by decide +kernel
theorem dX4_changed_141 : decode cX4_changed 141 = .ok (.iload_n 2, 1) := by decide +kernel
theorem dX4_changed_142 : decode cX4_changed 142 = .ok (.invokestatic 133, 3) := by decide +kernel
theorem dX4_changed_145 : decode cX4_changed 145 = .ok (.ireturn, 1) := by decide +kernel
theorem dX4_changed_146 : decode cX4_changed 146 = .ok (.iload_n 1, 1) := by decide +kernel
theorem dX4_changed_147 : decode cX4_changed 147 = .ok (.iload_n 2, 1) := by decide +kernel
theorem dX4_changed_148 : decode cX4_changed 148 = .ok (.invokestatic 89, 3) := by decide +kernel
theorem dX4_changed_151 : decode cX4_changed 151 = .ok (.ifCond .ge 7, 3) := by decide +kernel
theorem dX4_changed_154 : decode cX4_changed 154 = .ok (.iload_n 1, 1) := by decide +kernel
theorem dX4_changed_155 : decode cX4_changed 155 = .ok (.goto 4, 3) := by decide +kernel
theorem dX4_changed_158 : decode cX4_changed 158 = .ok (.iload_n 2, 1) := by decide +kernel
theorem dX4_changed_159 : decode cX4_changed 159 = .ok (.ireturn, 1) := by decide +kernel
theorem dX4_changed_160 : decode cX4_changed 160 = .ok (.iload_n 1, 1) := by decide +kernel
theorem dX4_changed_161 : decode cX4_changed 161 = .ok (.iload_n 2, 1) := by decide +kernel
theorem dX4_changed_162 : decode cX4_changed 162 = .ok (.invokestatic 89, 3) := by decide +kernel
theorem dX4_changed_165 : decode cX4_changed 165 = .ok (.ifCond .le 7, 3) := by decide +kernel
theorem dX4_changed_168 : decode cX4_changed 168 = .ok (.iload_n 1, 1) := by decide +kernel
theorem dX4_changed_169 : decode cX4_changed 169 = .ok (.goto 4, 3) := by decide +kernel
theorem dX4_changed_172 : decode cX4_changed 172 = .ok (.iload_n 2, 1) := by decide +kernel
theorem dX4_changed_173 : decode cX4_changed 173 = .ok (.ireturn, 1) := by decide +kernel
theorem dX4_system_0 : decode cX4_system 0 = .ok (.iload_n 1, 1) := by decide +kernel
theorem dX4_system_1 : decode cX4_system 1 = .ok (.bipush 115, 2) := by decide +kernel
theorem dX4_system_3 : decode cX4_system 3 = .ok (.if_icmp .ne 5, 3) := by decide +kernel
theorem dX4_system_6 : decode cX4_system 6 = .ok (.iconst (-1), 1) := by decide +kernel
theorem dX4_system_7 : decode cX4_system 7 = .ok (.ireturn, 1) := by decide +kernel
theorem dX4_system_8 : decode cX4_system 8 = .ok (.iload_n 1, 1) := by decide +kernel
theorem dX4_system_9 : decode cX4_system 9 = .ok (.ldc 136, 2) := by decide +kernel
theorem dX4_system_11 : decode cX4_system 11 = .ok (.if_icmp .ne 5, 3) := by decide +kernel
theorem dX4_system_14 : decode cX4_system 14 = .ok (.iconst 5, 1) := by decide +kernel
theorem dX4_system_15 : decode cX4_system 15 = .ok (.ireturn, 1) := by decide +kernel
theorem dX4_system_16 : decode cX4_system 16 = .ok (.iload_n 2, 1) := by decide +kernel
theorem dX4_system_17 : decode cX4_system 17 = .ok (.iconst 3, 1) := by decide +kernel
theorem dX4_system_18 : decode cX4_system 18 = .ok (.iand, 1) := by decide +kernel
theorem dX4_system_19 : decode cX4_system 19 = .ok (.iconst 2, 1) := by decide +kernel
theorem dX4_system_20 : decode cX4_system 20 = .ok (.if_icmp .lt 13, 3) := by decide +kernel
theorem dX4_system_23 : decode cX4_system 23 = .ok (.iload_n 1, 1) := by decide +kernel
theorem dX4_system_24 : decode cX4_system 24 = .ok (.bipush 15, 2) := by decide +kernel
theorem dX4_system_26 : decode cX4_system 26 = .ok (.ishr, 1) := by decide +kernel
theorem dX4_system_27 : decode cX4_system 27 = .ok (.bipush 31, 2) := by decide +kernel
theorem dX4_system_29 : decode cX4_system 29 = .ok (.iand, 1) := by decide +kernel
theorem dX4_system_30 : decode cX4_system 30 = .ok (.ifCond .eq 5, 3) := by decide +kernel
theorem dX4_system_33 : decode cX4_system 33 = .ok (.iconst 4, 1) := by decide +kernel
theorem dX4_system_34 : decode cX4_system 34 = .ok (.ireturn, 1) := by decide +kernel
theorem dX4_system_35 : decode cX4_system 35 = .ok (.iload_n 1, 1) := by decide +kernel
theorem dX4_system_36 : decode cX4_system 36 = .ok (.bipush 20, 2) := by decide +kernel
theorem dX4_system_38 : decode cX4_system 38 = .ok (.iushr, 1) := by decide +kernel
theorem dX4_system_39 : decode cX4_system 39 = .ok (.lookupswitch 123 #[(3072, 57), (3073, 90), (3074, 57), (3200, 72), (3201, 105), (3202, 72)], 57) := by decide +kernel
theorem dX4_system_96 : decode cX4_system 96 = .ok (.aload_n 0, 1) := by decide +kernel
theorem dX4_system_97 : decode cX4_system 97 = .ok (.iload_n 1, 1) := by decide +kernel
theorem dX4_system_98 : decode cX4_system 98 = .ok (.aload_n 0, 1) := by decide +kernel
theorem dX4_system_99 : decode cX4_system 99 = .ok (.getfield 7, 3) := by decide +kernel
theorem dX4_system_102 : decode cX4_system 102 = .ok (.getfield 48, 3) := by decide +kernel
theorem dX4_system_105 : decode cX4_system 105 = .ok (.l2i, 1) := by decide +kernel
theorem dX4_system_106 : decode cX4_system 106 = .ok (.invokevirtual 52, 3) := by decide +kernel
theorem dX4_system_109 : decode cX4_system 109 = .ok (.iconst 0, 1) := by decide +kernel
theorem dX4_system_110 : decode cX4_system 110 = .ok (.ireturn, 1) := by decide +kernel
theorem dX4_system_111 : decode cX4_system 111 = .ok (.aload_n 0, 1) := by decide +kernel
theorem dX4_system_112 : decode cX4_system 112 = .ok (.iload_n 1, 1) := by decide +kernel
theorem dX4_system_113 : decode cX4_system 113 = .ok (.aload_n 0, 1) := by decide +kernel
theorem dX4_system_114 : decode cX4_system 114 = .ok (.getfield 7, 3) := by decide +kernel
theorem dX4_system_117 : decode cX4_system 117 = .ok (.getfield 48, 3) := by decide +kernel
theorem dX4_system_120 : decode cX4_system 120 = .ok (.bipush 32, 2) := by decide +kernel
theorem dX4_system_122 : decode cX4_system 122 = .ok (.lshr, 1) := by decide +kernel
theorem dX4_system_123 : decode cX4_system 123 = .ok (.l2i, 1) := by decide +kernel
theorem dX4_system_124 : decode cX4_system 124 = .ok (.invokevirtual 52, 3) := by decide +kernel
theorem dX4_system_127 : decode cX4_system 127 = .ok (.iconst 0, 1) := by decide +kernel
theorem dX4_system_128 : decode cX4_system 128 = .ok (.ireturn, 1) := by decide +kernel
theorem dX4_system_129 : decode cX4_system 129 = .ok (.aload_n 0, 1) := by decide +kernel
theorem dX4_system_130 : decode cX4_system 130 = .ok (.iload_n 1, 1) := by decide +kernel
theorem dX4_system_131 : decode cX4_system 131 = .ok (.aload_n 0, 1) := by decide +kernel
theorem dX4_system_132 : decode cX4_system 132 = .ok (.getfield 7, 3) := by decide +kernel
theorem dX4_system_135 : decode cX4_system 135 = .ok (.getfield 137, 3) := by decide +kernel
theorem dX4_system_138 : decode cX4_system 138 = .ok (.l2i, 1) := by decide +kernel
theorem dX4_system_139 : decode cX4_system 139 = .ok (.invokevirtual 52, 3) := by decide +kernel
theorem dX4_system_142 : decode cX4_system 142 = .ok (.iconst 0, 1) := by decide +kernel
theorem dX4_system_143 : decode cX4_system 143 = .ok (.ireturn, 1) := by decide +kernel
theorem dX4_system_144 : decode cX4_system 144 = .ok (.aload_n 0, 1) := by decide +kernel
theorem dX4_system_145 : decode cX4_system 145 = .ok (.iload_n 1, 1) := by decide +kernel
theorem dX4_system_146 : decode cX4_system 146 = .ok (.aload_n 0, 1) := by decide +kernel
theorem dX4_system_147 : decode cX4_system 147 = .ok (.getfield 7, 3) := by decide +kernel
theorem dX4_system_150 : decode cX4_system 150 = .ok (.getfield 137, 3) := by decide +kernel
theorem dX4_system_153 : decode cX4_system 153 = .ok (.bipush 32, 2) := by decide +kernel
theorem dX4_system_155 : decode cX4_system 155 = .ok (.lshr, 1) := by decide +kernel
theorem dX4_system_156 : decode cX4_system 156 = .ok (.l2i, 1) := by decide +kernel
theorem dX4_system_157 : decode cX4_system 157 = .ok (.invokevirtual 52, 3) := by decide +kernel
theorem dX4_system_160 : decode cX4_system 160 = .ok (.iconst 0, 1) := by decide +kernel
theorem dX4_system_161 : decode cX4_system 161 = .ok (.ireturn, 1) := by decide +kernel
theorem dX4_system_162 : decode cX4_system 162 = .ok (.iconst 4, 1) := by decide +kernel
theorem dX4_system_163 : decode cX4_system 163 = .ok (.ireturn, 1) := by decide +kernel
theorem dX4_expanded_0 : decode cX4_expanded 0 = .ok (.iload_n 0, 1) := by decide +kernel
theorem dX4_expanded_1 : decode cX4_expanded 1 = .ok (.iconst 3, 1) := by decide +kernel
theorem dX4_expanded_2 : decode cX4_expanded 2 = .ok (.iand, 1) := by decide +kernel
theorem dX4_expanded_3 : decode cX4_expanded 3 = .ok (.lookupswitch 50 #[(0, 25), (1, 30)], 25) := by decide +kernel
theorem dX4_expanded_28 : decode cX4_expanded 28 = .ok (.iload_n 0, 1) := by decide +kernel
theorem dX4_expanded_29 : decode cX4_expanded 29 = .ok (.invokestatic 140, 3) := by decide +kernel
theorem dX4_expanded_32 : decode cX4_expanded 32 = .ok (.ireturn, 1) := by decide +kernel
theorem dX4_expanded_33 : decode cX4_expanded 33 = .ok (.iload_n 0, 1) := by decide +kernel
theorem dX4_expanded_34 : decode cX4_expanded 34 = .ok (.bipush 13, 2) := by decide +kernel
theorem dX4_expanded_36 : decode cX4_expanded 36 = .ok (.ishr, 1) := by decide +kernel
theorem dX4_expanded_37 : decode cX4_expanded 37 = .ok (.iconst 4, 1) := by decide +kernel
theorem dX4_expanded_38 : decode cX4_expanded 38 = .ok (.if_icmp .ne 10, 3) := by decide +kernel
theorem dX4_expanded_41 : decode cX4_expanded 41 = .ok (.iload_n 0, 1) := by decide +kernel
theorem dX4_expanded_42 : decode cX4_expanded 42 = .ok (.invokestatic 143, 3) := by decide +kernel
theorem dX4_expanded_45 : decode cX4_expanded 45 = .ok (.goto 7, 3) := by decide +kernel
theorem dX4_expanded_48 : decode cX4_expanded 48 = .ok (.iload_n 0, 1) := by decide +kernel
theorem dX4_expanded_49 : decode cX4_expanded 49 = .ok (.invokestatic 146, 3) := by decide +kernel
theorem dX4_expanded_52 : decode cX4_expanded 52 = .ok (.ireturn, 1) := by decide +kernel
theorem dX4_expanded_53 : decode cX4_expanded 53 = .ok (.iload_n 0, 1) := by decide +kernel
theorem dX4_expanded_54 : decode cX4_expanded 54 = .ok (.invokestatic 149, 3) := by decide +kernel
theorem dX4_expanded_57 : decode cX4_expanded 57 = .ok (.ireturn, 1) := by decide +kernel
theorem dX4_number_0 : decode cX4_number 0 = .ok (.iload_n 0, 1) := by decide +kernel
theorem dX4_number_1 : decode cX4_number 1 = .ok (.bipush 20, 2) := by decide +kernel
theorem dX4_number_3 : decode cX4_number 3 = .ok (.ishl, 1) := by decide +kernel
theorem dX4_number_4 : decode cX4_number 4 = .ok (.iload_n 1, 1) := by decide +kernel
theorem dX4_number_5 : decode cX4_number 5 = .ok (.bipush 15, 2) := by decide +kernel
theorem dX4_number_7 : decode cX4_number 7 = .ok (.ishl, 1) := by decide +kernel
theorem dX4_number_8 : decode cX4_number 8 = .ok (.ior, 1) := by decide +kernel
theorem dX4_number_9 : decode cX4_number 9 = .ok (.iload_n 2, 1) := by decide +kernel
theorem dX4_number_10 : decode cX4_number 10 = .ok (.bipush 12, 2) := by decide +kernel
theorem dX4_number_12 : decode cX4_number 12 = .ok (.ishl, 1) := by decide +kernel
theorem dX4_number_13 : decode cX4_number 13 = .ok (.ior, 1) := by decide +kernel
theorem dX4_number_14 : decode cX4_number 14 = .ok (.iload_n 3, 1) := by decide +kernel
theorem dX4_number_15 : decode cX4_number 15 = .ok (.bipush 7, 2) := by decide +kernel
theorem dX4_number_17 : decode cX4_number 17 = .ok (.ishl, 1) := by decide +kernel
theorem dX4_number_18 : decode cX4_number 18 = .ok (.ior, 1) := by decide +kernel
theorem dX4_number_19 : decode cX4_number 19 = .ok (.bipush 19, 2) := by decide +kernel
theorem dX4_number_21 : decode cX4_number 21 = .ok (.ior, 1) := by decide +kernel
theorem dX4_number_22 : decode cX4_number 22 = .ok (.ireturn, 1) := by decide +kernel
theorem dX4_loading_0 : decode cX4_loading 0 = .ok (.iload_n 0, 1) := by decide +kernel
theorem dX4_loading_1 : decode cX4_loading 1 = .ok (.bipush 20, 2) := by decide +kernel
theorem dX4_loading_3 : decode cX4_loading 3 = .ok (.ishl, 1) := by decide +kernel
theorem dX4_loading_4 : decode cX4_loading 4 = .ok (.iload_n 1, 1) := by decide +kernel
theorem dX4_loading_5 : decode cX4_loading 5 = .ok (.bipush 15, 2) := by decide +kernel
theorem dX4_loading_7 : decode cX4_loading 7 = .ok (.ishl, 1) := by decide +kernel
theorem dX4_loading_8 : decode cX4_loading 8 = .ok (.ior, 1) := by decide +kernel
theorem dX4_loading_9 : decode cX4_loading 9 = .ok (.sipush 8192, 3) := by decide +kernel
theorem dX4_loading_12 : decode cX4_loading 12 = .ok (.ior, 1) := by decide +kernel
theorem dX4_loading_13 : decode cX4_loading 13 = .ok (.iload_n 2, 1) := by decide +kernel
theorem dX4_loading_14 : decode cX4_loading 14 = .ok (.bipush 7, 2) := by decide +kernel
theorem dX4_loading_16 : decode cX4_loading 16 = .ok (.ishl, 1) := by decide +kernel
theorem dX4_loading_17 : decode cX4_loading 17 = .ok (.ior, 1) := by decide +kernel
theorem dX4_loading_18 : decode cX4_loading 18 = .ok (.iconst 3, 1) := by decide +kernel
theorem dX4_loading_19 : decode cX4_loading 19 = .ok (.ior, 1) := by decide +kernel
theorem dX4_loading_20 : decode cX4_loading 20 = .ok (.ireturn, 1) := by decide +kernel
theorem dX4_storing_0 : decode cX4_storing 0 = .ok (.iload_n 0, 1) := by decide +kernel
theorem dX4_storing_1 : decode cX4_storing 1 = .ok (.iconst 5, 1) := by decide +kernel
theorem dX4_storing_2 : decode cX4_storing 2 = .ok (.ishr, 1) := by decide +kernel
theorem dX4_storing_3 : decode cX4_storing 3 = .ok (.bipush 25, 2) := by decide +kernel
theorem dX4_storing_5 : decode cX4_storing 5 = .ok (.ishl, 1) := by decide +kernel
theorem dX4_storing_6 : decode cX4_storing 6 = .ok (.iload_n 2, 1) := by decide +kernel
theorem dX4_storing_7 : decode cX4_storing 7 = .ok (.bipush 20, 2) := by decide +kernel
theorem dX4_storing_9 : decode cX4_storing 9 = .ok (.ishl, 1) := by decide +kernel
theorem dX4_storing_10 : decode cX4_storing 10 = .ok (.ior, 1) := by decide +kernel
theorem dX4_storing_11 : decode cX4_storing 11 = .ok (.iload_n 1, 1) := by decide +kernel
theorem dX4_storing_12 : decode cX4_storing 12 = .ok (.bipush 15, 2) := by decide +kernel
theorem dX4_storing_14 : decode cX4_storing 14 = .ok (.ishl, 1) := by decide +kernel
theorem dX4_storing_15 : decode cX4_storing 15 = .ok (.ior, 1) := by decide +kernel
theorem dX4_storing_16 : decode cX4_storing 16 = .ok (.sipush 8192, 3) := by decide +kernel
theorem dX4_storing_19 : decode cX4_storing 19 = .ok (.ior, 1) := by decide +kernel
theorem dX4_storing_20 : decode cX4_storing 20 = .ok (.iload_n 0, 1) := by decide +kernel
theorem dX4_storing_21 : decode cX4_storing 21 = .ok (.bipush 31, 2) := by decide +kernel
theorem dX4_storing_23 : decode cX4_storing 23 = .ok (.iand, 1) := by decide +kernel
theorem dX4_storing_24 : decode cX4_storing 24 = .ok (.bipush 7, 2) := by decide +kernel
theorem dX4_storing_26 : decode cX4_storing 26 = .ok (.ishl, 1) := by decide +kernel
theorem dX4_storing_27 : decode cX4_storing 27 = .ok (.ior, 1) := by decide +kernel
theorem dX4_storing_28 : decode cX4_storing 28 = .ok (.bipush 35, 2) := by decide +kernel
theorem dX4_storing_30 : decode cX4_storing 30 = .ok (.ior, 1) := by decide +kernel
theorem dX4_storing_31 : decode cX4_storing 31 = .ok (.ireturn, 1) := by decide +kernel
theorem dX4_jumping_0 : decode cX4_jumping 0 = .ok (.iload_n 0, 1) := by decide +kernel
theorem dX4_jumping_1 : decode cX4_jumping 1 = .ok (.ldc 152, 2) := by decide +kernel
theorem dX4_jumping_3 : decode cX4_jumping 3 = .ok (.iand, 1) := by decide +kernel
theorem dX4_jumping_4 : decode cX4_jumping 4 = .ok (.iload_n 0, 1) := by decide +kernel
theorem dX4_jumping_5 : decode cX4_jumping 5 = .ok (.sipush 2046, 3) := by decide +kernel
theorem dX4_jumping_8 : decode cX4_jumping 8 = .ok (.iand, 1) := by decide +kernel
theorem dX4_jumping_9 : decode cX4_jumping 9 = .ok (.bipush 20, 2) := by decide +kernel
theorem dX4_jumping_11 : decode cX4_jumping 11 = .ok (.ishl, 1) := by decide +kernel
theorem dX4_jumping_12 : decode cX4_jumping 12 = .ok (.ior, 1) := by decide +kernel
theorem dX4_jumping_13 : decode cX4_jumping 13 = .ok (.iload_n 0, 1) := by decide +kernel
theorem dX4_jumping_14 : decode cX4_jumping 14 = .ok (.sipush 2048, 3) := by decide +kernel
theorem dX4_jumping_17 : decode cX4_jumping 17 = .ok (.iand, 1) := by decide +kernel
theorem dX4_jumping_18 : decode cX4_jumping 18 = .ok (.bipush 9, 2) := by decide +kernel
theorem dX4_jumping_20 : decode cX4_jumping 20 = .ok (.ishl, 1) := by decide +kernel
theorem dX4_jumping_21 : decode cX4_jumping 21 = .ok (.ior, 1) := by decide +kernel
theorem dX4_jumping_22 : decode cX4_jumping 22 = .ok (.iload_n 0, 1) := by decide +kernel
theorem dX4_jumping_23 : decode cX4_jumping 23 = .ok (.ldc 88, 2) := by decide +kernel
theorem dX4_jumping_25 : decode cX4_jumping 25 = .ok (.iand, 1) := by decide +kernel
theorem dX4_jumping_26 : decode cX4_jumping 26 = .ok (.ior, 1) := by decide +kernel
theorem dX4_jumping_27 : decode cX4_jumping 27 = .ok (.ireturn, 1) := by decide +kernel
theorem dX4_branching_0 : decode cX4_branching 0 = .ok (.iload_n 0, 1) := by decide +kernel
theorem dX4_branching_1 : decode cX4_branching 1 = .ok (.ldc 152, 2) := by decide +kernel
theorem dX4_branching_3 : decode cX4_branching 3 = .ok (.iand, 1) := by decide +kernel
theorem dX4_branching_4 : decode cX4_branching 4 = .ok (.iload_n 0, 1) := by decide +kernel
theorem dX4_branching_5 : decode cX4_branching 5 = .ok (.sipush 2016, 3) := by decide +kernel
theorem dX4_branching_8 : decode cX4_branching 8 = .ok (.iand, 1) := by decide +kernel
theorem dX4_branching_9 : decode cX4_branching 9 = .ok (.bipush 20, 2) := by decide +kernel
theorem dX4_branching_11 : decode cX4_branching 11 = .ok (.ishl, 1) := by decide +kernel
theorem dX4_branching_12 : decode cX4_branching 12 = .ok (.ior, 1) := by decide +kernel
theorem dX4_branching_13 : decode cX4_branching 13 = .ok (.iload_n 0, 1) := by decide +kernel
theorem dX4_branching_14 : decode cX4_branching 14 = .ok (.bipush 30, 2) := by decide +kernel
theorem dX4_branching_16 : decode cX4_branching 16 = .ok (.iand, 1) := by decide +kernel
theorem dX4_branching_17 : decode cX4_branching 17 = .ok (.bipush 7, 2) := by decide +kernel
theorem dX4_branching_19 : decode cX4_branching 19 = .ok (.ishl, 1) := by decide +kernel
theorem dX4_branching_20 : decode cX4_branching 20 = .ok (.ior, 1) := by decide +kernel
theorem dX4_branching_21 : decode cX4_branching 21 = .ok (.iload_n 0, 1) := by decide +kernel
theorem dX4_branching_22 : decode cX4_branching 22 = .ok (.sipush 2048, 3) := by decide +kernel
theorem dX4_branching_25 : decode cX4_branching 25 = .ok (.iand, 1) := by decide +kernel
theorem dX4_branching_26 : decode cX4_branching 26 = .ok (.iconst 4, 1) := by decide +kernel
theorem dX4_branching_27 : decode cX4_branching 27 = .ok (.ishr, 1) := by decide +kernel
theorem dX4_branching_28 : decode cX4_branching 28 = .ok (.ior, 1) := by decide +kernel
theorem dX4_branching_29 : decode cX4_branching 29 = .ok (.ireturn, 1) := by decide +kernel
theorem dX4_expandedFirst_0 : decode cX4_expandedFirst 0 = .ok (.bipush 8, 2) := by decide +kernel
theorem dX4_expandedFirst_2 : decode cX4_expandedFirst 2 = .ok (.iload_n 0, 1) := by decide +kernel
theorem dX4_expandedFirst_3 : decode cX4_expandedFirst 3 = .ok (.iconst 2, 1) := by decide +kernel
theorem dX4_expandedFirst_4 : decode cX4_expandedFirst 4 = .ok (.ishr, 1) := by decide +kernel
theorem dX4_expandedFirst_5 : decode cX4_expandedFirst 5 = .ok (.bipush 7, 2) := by decide +kernel
theorem dX4_expandedFirst_7 : decode cX4_expandedFirst 7 = .ok (.iand, 1) := by decide +kernel
theorem dX4_expandedFirst_8 : decode cX4_expandedFirst 8 = .ok (.iadd, 1) := by decide +kernel
theorem dX4_expandedFirst_9 : decode cX4_expandedFirst 9 = .ok (.istore_n 1, 1) := by decide +kernel
theorem dX4_expandedFirst_10 : decode cX4_expandedFirst 10 = .ok (.bipush 8, 2) := by decide +kernel
theorem dX4_expandedFirst_12 : decode cX4_expandedFirst 12 = .ok (.iload_n 0, 1) := by decide +kernel
theorem dX4_expandedFirst_13 : decode cX4_expandedFirst 13 = .ok (.bipush 7, 2) := by decide +kernel
theorem dX4_expandedFirst_15 : decode cX4_expandedFirst 15 = .ok (.ishr, 1) := by decide +kernel
theorem dX4_expandedFirst_16 : decode cX4_expandedFirst 16 = .ok (.bipush 7, 2) := by decide +kernel
theorem dX4_expandedFirst_18 : decode cX4_expandedFirst 18 = .ok (.iand, 1) := by decide +kernel
theorem dX4_expandedFirst_19 : decode cX4_expandedFirst 19 = .ok (.iadd, 1) := by decide +kernel
theorem dX4_expandedFirst_20 : decode cX4_expandedFirst 20 = .ok (.istore_n 2, 1) := by decide +kernel
theorem dX4_expandedFirst_21 : decode cX4_expandedFirst 21 = .ok (.iload_n 0, 1) := by decide +kernel
theorem dX4_expandedFirst_22 : decode cX4_expandedFirst 22 = .ok (.bipush 7, 2) := by decide +kernel
theorem dX4_expandedFirst_24 : decode cX4_expandedFirst 24 = .ok (.ishr, 1) := by decide +kernel
theorem dX4_expandedFirst_25 : decode cX4_expandedFirst 25 = .ok (.bipush 56, 2) := by decide +kernel
theorem dX4_expandedFirst_27 : decode cX4_expandedFirst 27 = .ok (.iand, 1) := by decide +kernel
theorem dX4_expandedFirst_28 : decode cX4_expandedFirst 28 = .ok (.iload_n 0, 1) := by decide +kernel
theorem dX4_expandedFirst_29 : decode cX4_expandedFirst 29 = .ok (.iconst 4, 1) := by decide +kernel
theorem dX4_expandedFirst_30 : decode cX4_expandedFirst 30 = .ok (.ishr, 1) := by decide +kernel
theorem dX4_expandedFirst_31 : decode cX4_expandedFirst 31 = .ok (.iconst 4, 1) := by decide +kernel
theorem dX4_expandedFirst_32 : decode cX4_expandedFirst 32 = .ok (.iand, 1) := by decide +kernel
theorem dX4_expandedFirst_33 : decode cX4_expandedFirst 33 = .ok (.ior, 1) := by decide +kernel
theorem dX4_expandedFirst_34 : decode cX4_expandedFirst 34 = .ok (.iload_n 0, 1) := by decide +kernel
theorem dX4_expandedFirst_35 : decode cX4_expandedFirst 35 = .ok (.iconst 1, 1) := by decide +kernel
theorem dX4_expandedFirst_36 : decode cX4_expandedFirst 36 = .ok (.ishl, 1) := by decide +kernel
theorem dX4_expandedFirst_37 : decode cX4_expandedFirst 37 = .ok (.bipush 64, 2) := by decide +kernel
theorem dX4_expandedFirst_39 : decode cX4_expandedFirst 39 = .ok (.iand, 1) := by decide +kernel
theorem dX4_expandedFirst_40 : decode cX4_expandedFirst 40 = .ok (.ior, 1) := by decide +kernel
theorem dX4_expandedFirst_41 : decode cX4_expandedFirst 41 = .ok (.istore_n 3, 1) := by decide +kernel
theorem dX4_expandedFirst_42 : decode cX4_expandedFirst 42 = .ok (.iload_n 0, 1) := by decide +kernel
theorem dX4_expandedFirst_43 : decode cX4_expandedFirst 43 = .ok (.bipush 13, 2) := by decide +kernel
theorem dX4_expandedFirst_45 : decode cX4_expandedFirst 45 = .ok (.ishr, 1) := by decide +kernel
theorem dX4_expandedFirst_46 : decode cX4_expandedFirst 46 = .ok (.lookupswitch 96 #[(0, 34), (2, 82), (6, 89)], 34) := by decide +kernel
theorem dX4_expandedFirst_80 : decode cX4_expandedFirst 80 = .ok (.iload_n 0, 1) := by decide +kernel
theorem dX4_expandedFirst_81 : decode cX4_expandedFirst 81 = .ok (.bipush 7, 2) := by decide +kernel
theorem dX4_expandedFirst_83 : decode cX4_expandedFirst 83 = .ok (.ishr, 1) := by decide +kernel
theorem dX4_expandedFirst_84 : decode cX4_expandedFirst 84 = .ok (.bipush 48, 2) := by decide +kernel
theorem dX4_expandedFirst_86 : decode cX4_expandedFirst 86 = .ok (.iand, 1) := by decide +kernel
theorem dX4_expandedFirst_87 : decode cX4_expandedFirst 87 = .ok (.iload_n 0, 1) := by decide +kernel
theorem dX4_expandedFirst_88 : decode cX4_expandedFirst 88 = .ok (.iconst 1, 1) := by decide +kernel
theorem dX4_expandedFirst_89 : decode cX4_expandedFirst 89 = .ok (.ishr, 1) := by decide +kernel
theorem dX4_expandedFirst_90 : decode cX4_expandedFirst 90 = .ok (.sipush 960, 3) := by decide +kernel
theorem dX4_expandedFirst_93 : decode cX4_expandedFirst 93 = .ok (.iand, 1) := by decide +kernel
theorem dX4_expandedFirst_94 : decode cX4_expandedFirst 94 = .ok (.ior, 1) := by decide +kernel
theorem dX4_expandedFirst_95 : decode cX4_expandedFirst 95 = .ok (.iload_n 0, 1) := by decide +kernel
theorem dX4_expandedFirst_96 : decode cX4_expandedFirst 96 = .ok (.iconst 4, 1) := by decide +kernel
theorem dX4_expandedFirst_97 : decode cX4_expandedFirst 97 = .ok (.ishr, 1) := by decide +kernel
theorem dX4_expandedFirst_98 : decode cX4_expandedFirst 98 = .ok (.iconst 4, 1) := by decide +kernel
theorem dX4_expandedFirst_99 : decode cX4_expandedFirst 99 = .ok (.iand, 1) := by decide +kernel
theorem dX4_expandedFirst_100 : decode cX4_expandedFirst 100 = .ok (.ior, 1) := by decide +kernel
theorem dX4_expandedFirst_101 : decode cX4_expandedFirst 101 = .ok (.iload_n 0, 1) := by decide +kernel
theorem dX4_expandedFirst_102 : decode cX4_expandedFirst 102 = .ok (.iconst 2, 1) := by decide +kernel
theorem dX4_expandedFirst_103 : decode cX4_expandedFirst 103 = .ok (.ishr, 1) := by decide +kernel
theorem dX4_expandedFirst_104 : decode cX4_expandedFirst 104 = .ok (.bipush 8, 2) := by decide +kernel
theorem dX4_expandedFirst_106 : decode cX4_expandedFirst 106 = .ok (.iand, 1) := by decide +kernel
theorem dX4_expandedFirst_107 : decode cX4_expandedFirst 107 = .ok (.ior, 1) := by decide +kernel
theorem dX4_expandedFirst_108 : decode cX4_expandedFirst 108 = .ok (.istore 4, 2) := by decide +kernel
theorem dX4_expandedFirst_110 : decode cX4_expandedFirst 110 = .ok (.iload 4, 2) := by decide +kernel
theorem dX4_expandedFirst_112 : decode cX4_expandedFirst 112 = .ok (.ifCond .ne 7, 3) := by decide +kernel
theorem dX4_expandedFirst_115 : decode cX4_expandedFirst 115 = .ok (.iconst 0, 1) := by decide +kernel
theorem dX4_expandedFirst_116 : decode cX4_expandedFirst 116 = .ok (.goto 11, 3) := by decide +kernel
theorem dX4_expandedFirst_119 : decode cX4_expandedFirst 119 = .ok (.iload 4, 2) := by decide +kernel
theorem dX4_expandedFirst_121 : decode cX4_expandedFirst 121 = .ok (.iconst 2, 1) := by decide +kernel
theorem dX4_expandedFirst_122 : decode cX4_expandedFirst 122 = .ok (.iconst 0, 1) := by decide +kernel
theorem dX4_expandedFirst_123 : decode cX4_expandedFirst 123 = .ok (.iload_n 1, 1) := by decide +kernel
theorem dX4_expandedFirst_124 : decode cX4_expandedFirst 124 = .ok (.invokestatic 153, 3) := by decide +kernel
theorem dX4_expandedFirst_127 : decode cX4_expandedFirst 127 = .ok (.ireturn, 1) := by decide +kernel
theorem dX4_expandedFirst_128 : decode cX4_expandedFirst 128 = .ok (.iload_n 3, 1) := by decide +kernel
theorem dX4_expandedFirst_129 : decode cX4_expandedFirst 129 = .ok (.iload_n 2, 1) := by decide +kernel
theorem dX4_expandedFirst_130 : decode cX4_expandedFirst 130 = .ok (.iload_n 1, 1) := by decide +kernel
theorem dX4_expandedFirst_131 : decode cX4_expandedFirst 131 = .ok (.invokestatic 156, 3) := by decide +kernel
theorem dX4_expandedFirst_134 : decode cX4_expandedFirst 134 = .ok (.ireturn, 1) := by decide +kernel
theorem dX4_expandedFirst_135 : decode cX4_expandedFirst 135 = .ok (.iload_n 3, 1) := by decide +kernel
theorem dX4_expandedFirst_136 : decode cX4_expandedFirst 136 = .ok (.iload_n 2, 1) := by decide +kernel
theorem dX4_expandedFirst_137 : decode cX4_expandedFirst 137 = .ok (.iload_n 1, 1) := by decide +kernel
theorem dX4_expandedFirst_138 : decode cX4_expandedFirst 138 = .ok (.invokestatic 159, 3) := by decide +kernel
theorem dX4_expandedFirst_141 : decode cX4_expandedFirst 141 = .ok (.ireturn, 1) := by decide +kernel
theorem dX4_expandedFirst_142 : decode cX4_expandedFirst 142 = .ok (.iconst 0, 1) := by decide +kernel
theorem dX4_expandedFirst_143 : decode cX4_expandedFirst 143 = .ok (.ireturn, 1) := by decide +kernel
theorem dX4_signedNumber_0 : decode cX4_signedNumber 0 = .ok (.iload_n 0, 1) := by decide +kernel
theorem dX4_signedNumber_1 : decode cX4_signedNumber 1 = .ok (.bipush 19, 2) := by decide +kernel
theorem dX4_signedNumber_3 : decode cX4_signedNumber 3 = .ok (.ishl, 1) := by decide +kernel
theorem dX4_signedNumber_4 : decode cX4_signedNumber 4 = .ok (.bipush 31, 2) := by decide +kernel
theorem dX4_signedNumber_6 : decode cX4_signedNumber 6 = .ok (.ishr, 1) := by decide +kernel
theorem dX4_signedNumber_7 : decode cX4_signedNumber 7 = .ok (.iconst 5, 1) := by decide +kernel
theorem dX4_signedNumber_8 : decode cX4_signedNumber 8 = .ok (.ishl, 1) := by decide +kernel
theorem dX4_signedNumber_9 : decode cX4_signedNumber 9 = .ok (.iload_n 0, 1) := by decide +kernel
theorem dX4_signedNumber_10 : decode cX4_signedNumber 10 = .ok (.iconst 2, 1) := by decide +kernel
theorem dX4_signedNumber_11 : decode cX4_signedNumber 11 = .ok (.ishr, 1) := by decide +kernel
theorem dX4_signedNumber_12 : decode cX4_signedNumber 12 = .ok (.bipush 31, 2) := by decide +kernel
theorem dX4_signedNumber_14 : decode cX4_signedNumber 14 = .ok (.iand, 1) := by decide +kernel
theorem dX4_signedNumber_15 : decode cX4_signedNumber 15 = .ok (.ior, 1) := by decide +kernel
theorem dX4_signedNumber_16 : decode cX4_signedNumber 16 = .ok (.ireturn, 1) := by decide +kernel
theorem dX4_expandedSecond_0 : decode cX4_expandedSecond 0 = .ok (.iload_n 0, 1) := by decide +kernel
theorem dX4_expandedSecond_1 : decode cX4_expandedSecond 1 = .ok (.bipush 7, 2) := by decide +kernel
theorem dX4_expandedSecond_3 : decode cX4_expandedSecond 3 = .ok (.ishr, 1) := by decide +kernel
theorem dX4_expandedSecond_4 : decode cX4_expandedSecond 4 = .ok (.bipush 31, 2) := by decide +kernel
theorem dX4_expandedSecond_6 : decode cX4_expandedSecond 6 = .ok (.iand, 1) := by decide +kernel
theorem dX4_expandedSecond_7 : decode cX4_expandedSecond 7 = .ok (.istore_n 1, 1) := by decide +kernel
theorem dX4_expandedSecond_8 : decode cX4_expandedSecond 8 = .ok (.iload_n 0, 1) := by decide +kernel
theorem dX4_expandedSecond_9 : decode cX4_expandedSecond 9 = .ok (.invokestatic 162, 3) := by decide +kernel
theorem dX4_expandedSecond_12 : decode cX4_expandedSecond 12 = .ok (.istore_n 2, 1) := by decide +kernel
theorem dX4_expandedSecond_13 : decode cX4_expandedSecond 13 = .ok (.iload_n 0, 1) := by decide +kernel
theorem dX4_expandedSecond_14 : decode cX4_expandedSecond 14 = .ok (.bipush 13, 2) := by decide +kernel
theorem dX4_expandedSecond_16 : decode cX4_expandedSecond 16 = .ok (.ishr, 1) := by decide +kernel
theorem dX4_expandedSecond_17 : decode cX4_expandedSecond 17 = .ok (.tableswitch 228 0 5 #[39, 47, 135, 143, 228, 47], 39) := by decide +kernel
theorem dX4_expandedSecond_56 : decode cX4_expandedSecond 56 = .ok (.iload_n 2, 1) := by decide +kernel
theorem dX4_expandedSecond_57 : decode cX4_expandedSecond 57 = .ok (.iload_n 1, 1) := by decide +kernel
theorem dX4_expandedSecond_58 : decode cX4_expandedSecond 58 = .ok (.iconst 0, 1) := by decide +kernel
theorem dX4_expandedSecond_59 : decode cX4_expandedSecond 59 = .ok (.iload_n 1, 1) := by decide +kernel
theorem dX4_expandedSecond_60 : decode cX4_expandedSecond 60 = .ok (.invokestatic 153, 3) := by decide +kernel
theorem dX4_expandedSecond_63 : decode cX4_expandedSecond 63 = .ok (.ireturn, 1) := by decide +kernel
theorem dX4_expandedSecond_64 : decode cX4_expandedSecond 64 = .ok (.iload_n 0, 1) := by decide +kernel
theorem dX4_expandedSecond_65 : decode cX4_expandedSecond 65 = .ok (.bipush 19, 2) := by decide +kernel
theorem dX4_expandedSecond_67 : decode cX4_expandedSecond 67 = .ok (.ishl, 1) := by decide +kernel
theorem dX4_expandedSecond_68 : decode cX4_expandedSecond 68 = .ok (.bipush 31, 2) := by decide +kernel
theorem dX4_expandedSecond_70 : decode cX4_expandedSecond 70 = .ok (.ishr, 1) := by decide +kernel
theorem dX4_expandedSecond_71 : decode cX4_expandedSecond 71 = .ok (.bipush 11, 2) := by decide +kernel
theorem dX4_expandedSecond_73 : decode cX4_expandedSecond 73 = .ok (.ishl, 1) := by decide +kernel
theorem dX4_expandedSecond_74 : decode cX4_expandedSecond 74 = .ok (.iload_n 0, 1) := by decide +kernel
theorem dX4_expandedSecond_75 : decode cX4_expandedSecond 75 = .ok (.bipush 7, 2) := by decide +kernel
theorem dX4_expandedSecond_77 : decode cX4_expandedSecond 77 = .ok (.ishr, 1) := by decide +kernel
theorem dX4_expandedSecond_78 : decode cX4_expandedSecond 78 = .ok (.bipush 16, 2) := by decide +kernel
theorem dX4_expandedSecond_80 : decode cX4_expandedSecond 80 = .ok (.iand, 1) := by decide +kernel
theorem dX4_expandedSecond_81 : decode cX4_expandedSecond 81 = .ok (.ior, 1) := by decide +kernel
theorem dX4_expandedSecond_82 : decode cX4_expandedSecond 82 = .ok (.iload_n 0, 1) := by decide +kernel
theorem dX4_expandedSecond_83 : decode cX4_expandedSecond 83 = .ok (.iconst 1, 1) := by decide +kernel
theorem dX4_expandedSecond_84 : decode cX4_expandedSecond 84 = .ok (.ishr, 1) := by decide +kernel
theorem dX4_expandedSecond_85 : decode cX4_expandedSecond 85 = .ok (.sipush 768, 3) := by decide +kernel
theorem dX4_expandedSecond_88 : decode cX4_expandedSecond 88 = .ok (.iand, 1) := by decide +kernel
theorem dX4_expandedSecond_89 : decode cX4_expandedSecond 89 = .ok (.ior, 1) := by decide +kernel
theorem dX4_expandedSecond_90 : decode cX4_expandedSecond 90 = .ok (.iload_n 0, 1) := by decide +kernel
theorem dX4_expandedSecond_91 : decode cX4_expandedSecond 91 = .ok (.iconst 2, 1) := by decide +kernel
theorem dX4_expandedSecond_92 : decode cX4_expandedSecond 92 = .ok (.ishl, 1) := by decide +kernel
theorem dX4_expandedSecond_93 : decode cX4_expandedSecond 93 = .ok (.sipush 1024, 3) := by decide +kernel
theorem dX4_expandedSecond_96 : decode cX4_expandedSecond 96 = .ok (.iand, 1) := by decide +kernel
theorem dX4_expandedSecond_97 : decode cX4_expandedSecond 97 = .ok (.ior, 1) := by decide +kernel
theorem dX4_expandedSecond_98 : decode cX4_expandedSecond 98 = .ok (.iload_n 0, 1) := by decide +kernel
theorem dX4_expandedSecond_99 : decode cX4_expandedSecond 99 = .ok (.iconst 1, 1) := by decide +kernel
theorem dX4_expandedSecond_100 : decode cX4_expandedSecond 100 = .ok (.ishr, 1) := by decide +kernel
theorem dX4_expandedSecond_101 : decode cX4_expandedSecond 101 = .ok (.bipush 64, 2) := by decide +kernel
theorem dX4_expandedSecond_103 : decode cX4_expandedSecond 103 = .ok (.iand, 1) := by decide +kernel
theorem dX4_expandedSecond_104 : decode cX4_expandedSecond 104 = .ok (.ior, 1) := by decide +kernel
theorem dX4_expandedSecond_105 : decode cX4_expandedSecond 105 = .ok (.iload_n 0, 1) := by decide +kernel
theorem dX4_expandedSecond_106 : decode cX4_expandedSecond 106 = .ok (.iconst 1, 1) := by decide +kernel
theorem dX4_expandedSecond_107 : decode cX4_expandedSecond 107 = .ok (.ishl, 1) := by decide +kernel
theorem dX4_expandedSecond_108 : decode cX4_expandedSecond 108 = .ok (.sipush 128, 3) := by decide +kernel
theorem dX4_expandedSecond_111 : decode cX4_expandedSecond 111 = .ok (.iand, 1) := by decide +kernel
theorem dX4_expandedSecond_112 : decode cX4_expandedSecond 112 = .ok (.ior, 1) := by decide +kernel
theorem dX4_expandedSecond_113 : decode cX4_expandedSecond 113 = .ok (.iload_n 0, 1) := by decide +kernel
theorem dX4_expandedSecond_114 : decode cX4_expandedSecond 114 = .ok (.iconst 2, 1) := by decide +kernel
theorem dX4_expandedSecond_115 : decode cX4_expandedSecond 115 = .ok (.ishr, 1) := by decide +kernel
theorem dX4_expandedSecond_116 : decode cX4_expandedSecond 116 = .ok (.bipush 14, 2) := by decide +kernel
theorem dX4_expandedSecond_118 : decode cX4_expandedSecond 118 = .ok (.iand, 1) := by decide +kernel
theorem dX4_expandedSecond_119 : decode cX4_expandedSecond 119 = .ok (.ior, 1) := by decide +kernel
theorem dX4_expandedSecond_120 : decode cX4_expandedSecond 120 = .ok (.iload_n 0, 1) := by decide +kernel
theorem dX4_expandedSecond_121 : decode cX4_expandedSecond 121 = .ok (.iconst 3, 1) := by decide +kernel
theorem dX4_expandedSecond_122 : decode cX4_expandedSecond 122 = .ok (.ishl, 1) := by decide +kernel
theorem dX4_expandedSecond_123 : decode cX4_expandedSecond 123 = .ok (.bipush 32, 2) := by decide +kernel
theorem dX4_expandedSecond_125 : decode cX4_expandedSecond 125 = .ok (.iand, 1) := by decide +kernel
theorem dX4_expandedSecond_126 : decode cX4_expandedSecond 126 = .ok (.ior, 1) := by decide +kernel
theorem dX4_expandedSecond_127 : decode cX4_expandedSecond 127 = .ok (.istore_n 3, 1) := by decide +kernel
theorem dX4_expandedSecond_128 : decode cX4_expandedSecond 128 = .ok (.bipush 111, 2) := by decide +kernel
theorem dX4_expandedSecond_130 : decode cX4_expandedSecond 130 = .ok (.iload_n 0, 1) := by decide +kernel
theorem dX4_expandedSecond_131 : decode cX4_expandedSecond 131 = .ok (.bipush 13, 2) := by decide +kernel
theorem dX4_expandedSecond_133 : decode cX4_expandedSecond 133 = .ok (.ishr, 1) := by decide +kernel
theorem dX4_expandedSecond_134 : decode cX4_expandedSecond 134 = .ok (.iconst 1, 1) := by decide +kernel
theorem dX4_expandedSecond_135 : decode cX4_expandedSecond 135 = .ok (.if_icmp .ne 9, 3) := by decide +kernel
theorem dX4_expandedSecond_138 : decode cX4_expandedSecond 138 = .ok (.sipush 128, 3) := by decide +kernel
theorem dX4_expandedSecond_141 : decode cX4_expandedSecond 141 = .ok (.goto 4, 3) := by decide +kernel
theorem dX4_expandedSecond_144 : decode cX4_expandedSecond 144 = .ok (.iconst 0, 1) := by decide +kernel
theorem dX4_expandedSecond_145 : decode cX4_expandedSecond 145 = .ok (.ior, 1) := by decide +kernel
theorem dX4_expandedSecond_146 : decode cX4_expandedSecond 146 = .ok (.iload_n 3, 1) := by decide +kernel
theorem dX4_expandedSecond_147 : decode cX4_expandedSecond 147 = .ok (.invokestatic 165, 3) := by decide +kernel
theorem dX4_expandedSecond_150 : decode cX4_expandedSecond 150 = .ok (.ior, 1) := by decide +kernel
theorem dX4_expandedSecond_151 : decode cX4_expandedSecond 151 = .ok (.ireturn, 1) := by decide +kernel
theorem dX4_expandedSecond_152 : decode cX4_expandedSecond 152 = .ok (.iload_n 2, 1) := by decide +kernel
theorem dX4_expandedSecond_153 : decode cX4_expandedSecond 153 = .ok (.iconst 0, 1) := by decide +kernel
theorem dX4_expandedSecond_154 : decode cX4_expandedSecond 154 = .ok (.iconst 0, 1) := by decide +kernel
theorem dX4_expandedSecond_155 : decode cX4_expandedSecond 155 = .ok (.iload_n 1, 1) := by decide +kernel
theorem dX4_expandedSecond_156 : decode cX4_expandedSecond 156 = .ok (.invokestatic 153, 3) := by decide +kernel
theorem dX4_expandedSecond_159 : decode cX4_expandedSecond 159 = .ok (.ireturn, 1) := by decide +kernel
theorem dX4_expandedSecond_160 : decode cX4_expandedSecond 160 = .ok (.iload_n 1, 1) := by decide +kernel
theorem dX4_expandedSecond_161 : decode cX4_expandedSecond 161 = .ok (.iconst 2, 1) := by decide +kernel
theorem dX4_expandedSecond_162 : decode cX4_expandedSecond 162 = .ok (.if_icmp .eq 24, 3) := by decide +kernel
theorem dX4_expandedSecond_165 : decode cX4_expandedSecond 165 = .ok (.iload_n 2, 1) := by decide +kernel
theorem dX4_expandedSecond_166 : decode cX4_expandedSecond 166 = .ok (.ifCond .ne 7, 3) := by decide +kernel
theorem dX4_expandedSecond_169 : decode cX4_expandedSecond 169 = .ok (.iconst 0, 1) := by decide +kernel
theorem dX4_expandedSecond_170 : decode cX4_expandedSecond 170 = .ok (.goto 15, 3) := by decide +kernel
theorem dX4_expandedSecond_173 : decode cX4_expandedSecond 173 = .ok (.iload_n 2, 1) := by decide +kernel
theorem dX4_expandedSecond_174 : decode cX4_expandedSecond 174 = .ok (.bipush 12, 2) := by decide +kernel
theorem dX4_expandedSecond_176 : decode cX4_expandedSecond 176 = .ok (.ishl, 1) := by decide +kernel
theorem dX4_expandedSecond_177 : decode cX4_expandedSecond 177 = .ok (.iload_n 1, 1) := by decide +kernel
theorem dX4_expandedSecond_178 : decode cX4_expandedSecond 178 = .ok (.bipush 7, 2) := by decide +kernel
theorem dX4_expandedSecond_180 : decode cX4_expandedSecond 180 = .ok (.ishl, 1) := by decide +kernel
theorem dX4_expandedSecond_181 : decode cX4_expandedSecond 181 = .ok (.ior, 1) := by decide +kernel
theorem dX4_expandedSecond_182 : decode cX4_expandedSecond 182 = .ok (.bipush 55, 2) := by decide +kernel
theorem dX4_expandedSecond_184 : decode cX4_expandedSecond 184 = .ok (.ior, 1) := by decide +kernel
theorem dX4_expandedSecond_185 : decode cX4_expandedSecond 185 = .ok (.ireturn, 1) := by decide +kernel
theorem dX4_expandedSecond_186 : decode cX4_expandedSecond 186 = .ok (.iload_n 0, 1) := by decide +kernel
theorem dX4_expandedSecond_187 : decode cX4_expandedSecond 187 = .ok (.bipush 19, 2) := by decide +kernel
theorem dX4_expandedSecond_189 : decode cX4_expandedSecond 189 = .ok (.ishl, 1) := by decide +kernel
theorem dX4_expandedSecond_190 : decode cX4_expandedSecond 190 = .ok (.bipush 31, 2) := by decide +kernel
theorem dX4_expandedSecond_192 : decode cX4_expandedSecond 192 = .ok (.ishr, 1) := by decide +kernel
theorem dX4_expandedSecond_193 : decode cX4_expandedSecond 193 = .ok (.bipush 9, 2) := by decide +kernel
theorem dX4_expandedSecond_195 : decode cX4_expandedSecond 195 = .ok (.ishl, 1) := by decide +kernel
theorem dX4_expandedSecond_196 : decode cX4_expandedSecond 196 = .ok (.iload_n 0, 1) := by decide +kernel
theorem dX4_expandedSecond_197 : decode cX4_expandedSecond 197 = .ok (.iconst 2, 1) := by decide +kernel
theorem dX4_expandedSecond_198 : decode cX4_expandedSecond 198 = .ok (.ishr, 1) := by decide +kernel
theorem dX4_expandedSecond_199 : decode cX4_expandedSecond 199 = .ok (.bipush 16, 2) := by decide +kernel
theorem dX4_expandedSecond_201 : decode cX4_expandedSecond 201 = .ok (.iand, 1) := by decide +kernel
theorem dX4_expandedSecond_202 : decode cX4_expandedSecond 202 = .ok (.ior, 1) := by decide +kernel
theorem dX4_expandedSecond_203 : decode cX4_expandedSecond 203 = .ok (.iload_n 0, 1) := by decide +kernel
theorem dX4_expandedSecond_204 : decode cX4_expandedSecond 204 = .ok (.iconst 1, 1) := by decide +kernel
theorem dX4_expandedSecond_205 : decode cX4_expandedSecond 205 = .ok (.ishl, 1) := by decide +kernel
theorem dX4_expandedSecond_206 : decode cX4_expandedSecond 206 = .ok (.bipush 64, 2) := by decide +kernel
theorem dX4_expandedSecond_208 : decode cX4_expandedSecond 208 = .ok (.iand, 1) := by decide +kernel
theorem dX4_expandedSecond_209 : decode cX4_expandedSecond 209 = .ok (.ior, 1) := by decide +kernel
theorem dX4_expandedSecond_210 : decode cX4_expandedSecond 210 = .ok (.iload_n 0, 1) := by decide +kernel
theorem dX4_expandedSecond_211 : decode cX4_expandedSecond 211 = .ok (.iconst 4, 1) := by decide +kernel
theorem dX4_expandedSecond_212 : decode cX4_expandedSecond 212 = .ok (.ishl, 1) := by decide +kernel
theorem dX4_expandedSecond_213 : decode cX4_expandedSecond 213 = .ok (.sipush 384, 3) := by decide +kernel
theorem dX4_expandedSecond_216 : decode cX4_expandedSecond 216 = .ok (.iand, 1) := by decide +kernel
theorem dX4_expandedSecond_217 : decode cX4_expandedSecond 217 = .ok (.ior, 1) := by decide +kernel
theorem dX4_expandedSecond_218 : decode cX4_expandedSecond 218 = .ok (.iload_n 0, 1) := by decide +kernel
theorem dX4_expandedSecond_219 : decode cX4_expandedSecond 219 = .ok (.iconst 3, 1) := by decide +kernel
theorem dX4_expandedSecond_220 : decode cX4_expandedSecond 220 = .ok (.ishl, 1) := by decide +kernel
theorem dX4_expandedSecond_221 : decode cX4_expandedSecond 221 = .ok (.bipush 32, 2) := by decide +kernel
theorem dX4_expandedSecond_223 : decode cX4_expandedSecond 223 = .ok (.iand, 1) := by decide +kernel
theorem dX4_expandedSecond_224 : decode cX4_expandedSecond 224 = .ok (.ior, 1) := by decide +kernel
theorem dX4_expandedSecond_225 : decode cX4_expandedSecond 225 = .ok (.istore 4, 2) := by decide +kernel
theorem dX4_expandedSecond_227 : decode cX4_expandedSecond 227 = .ok (.iload 4, 2) := by decide +kernel
theorem dX4_expandedSecond_229 : decode cX4_expandedSecond 229 = .ok (.ifCond .ne 7, 3) := by decide +kernel
theorem dX4_expandedSecond_232 : decode cX4_expandedSecond 232 = .ok (.iconst 0, 1) := by decide +kernel
theorem dX4_expandedSecond_233 : decode cX4_expandedSecond 233 = .ok (.goto 11, 3) := by decide +kernel
theorem dX4_expandedSecond_236 : decode cX4_expandedSecond 236 = .ok (.iload 4, 2) := by decide +kernel
theorem dX4_expandedSecond_238 : decode cX4_expandedSecond 238 = .ok (.iconst 2, 1) := by decide +kernel
theorem dX4_expandedSecond_239 : decode cX4_expandedSecond 239 = .ok (.iconst 0, 1) := by decide +kernel
theorem dX4_expandedSecond_240 : decode cX4_expandedSecond 240 = .ok (.iconst 2, 1) := by decide +kernel
theorem dX4_expandedSecond_241 : decode cX4_expandedSecond 241 = .ok (.invokestatic 153, 3) := by decide +kernel
theorem dX4_expandedSecond_244 : decode cX4_expandedSecond 244 = .ok (.ireturn, 1) := by decide +kernel
theorem dX4_expandedSecond_245 : decode cX4_expandedSecond 245 = .ok (.iload_n 0, 1) := by decide +kernel
theorem dX4_expandedSecond_246 : decode cX4_expandedSecond 246 = .ok (.bipush 19, 2) := by decide +kernel
theorem dX4_expandedSecond_248 : decode cX4_expandedSecond 248 = .ok (.ishl, 1) := by decide +kernel
theorem dX4_expandedSecond_249 : decode cX4_expandedSecond 249 = .ok (.bipush 31, 2) := by decide +kernel
theorem dX4_expandedSecond_251 : decode cX4_expandedSecond 251 = .ok (.ishr, 1) := by decide +kernel
theorem dX4_expandedSecond_252 : decode cX4_expandedSecond 252 = .ok (.bipush 8, 2) := by decide +kernel
theorem dX4_expandedSecond_254 : decode cX4_expandedSecond 254 = .ok (.ishl, 1) := by decide +kernel
theorem dX4_expandedSecond_255 : decode cX4_expandedSecond 255 = .ok (.iload_n 0, 1) := by decide +kernel
theorem dX4_expandedSecond_256 : decode cX4_expandedSecond 256 = .ok (.bipush 7, 2) := by decide +kernel
theorem dX4_expandedSecond_258 : decode cX4_expandedSecond 258 = .ok (.ishr, 1) := by decide +kernel
theorem dX4_expandedSecond_259 : decode cX4_expandedSecond 259 = .ok (.bipush 24, 2) := by decide +kernel
theorem dX4_expandedSecond_261 : decode cX4_expandedSecond 261 = .ok (.iand, 1) := by decide +kernel
theorem dX4_expandedSecond_262 : decode cX4_expandedSecond 262 = .ok (.ior, 1) := by decide +kernel
theorem dX4_expandedSecond_263 : decode cX4_expandedSecond 263 = .ok (.iload_n 0, 1) := by decide +kernel
theorem dX4_expandedSecond_264 : decode cX4_expandedSecond 264 = .ok (.iconst 1, 1) := by decide +kernel
theorem dX4_expandedSecond_265 : decode cX4_expandedSecond 265 = .ok (.ishl, 1) := by decide +kernel
theorem dX4_expandedSecond_266 : decode cX4_expandedSecond 266 = .ok (.sipush 192, 3) := by decide +kernel
theorem dX4_expandedSecond_269 : decode cX4_expandedSecond 269 = .ok (.iand, 1) := by decide +kernel
theorem dX4_expandedSecond_270 : decode cX4_expandedSecond 270 = .ok (.ior, 1) := by decide +kernel
theorem dX4_expandedSecond_271 : decode cX4_expandedSecond 271 = .ok (.iload_n 0, 1) := by decide +kernel
theorem dX4_expandedSecond_272 : decode cX4_expandedSecond 272 = .ok (.iconst 2, 1) := by decide +kernel
theorem dX4_expandedSecond_273 : decode cX4_expandedSecond 273 = .ok (.ishr, 1) := by decide +kernel
theorem dX4_expandedSecond_274 : decode cX4_expandedSecond 274 = .ok (.bipush 6, 2) := by decide +kernel
theorem dX4_expandedSecond_276 : decode cX4_expandedSecond 276 = .ok (.iand, 1) := by decide +kernel
theorem dX4_expandedSecond_277 : decode cX4_expandedSecond 277 = .ok (.ior, 1) := by decide +kernel
theorem dX4_expandedSecond_278 : decode cX4_expandedSecond 278 = .ok (.iload_n 0, 1) := by decide +kernel
theorem dX4_expandedSecond_279 : decode cX4_expandedSecond 279 = .ok (.iconst 3, 1) := by decide +kernel
theorem dX4_expandedSecond_280 : decode cX4_expandedSecond 280 = .ok (.ishl, 1) := by decide +kernel
theorem dX4_expandedSecond_281 : decode cX4_expandedSecond 281 = .ok (.bipush 32, 2) := by decide +kernel
theorem dX4_expandedSecond_283 : decode cX4_expandedSecond 283 = .ok (.iand, 1) := by decide +kernel
theorem dX4_expandedSecond_284 : decode cX4_expandedSecond 284 = .ok (.ior, 1) := by decide +kernel
theorem dX4_expandedSecond_285 : decode cX4_expandedSecond 285 = .ok (.istore 5, 2) := by decide +kernel
theorem dX4_expandedSecond_287 : decode cX4_expandedSecond 287 = .ok (.bipush 99, 2) := by decide +kernel
theorem dX4_expandedSecond_289 : decode cX4_expandedSecond 289 = .ok (.iload_n 0, 1) := by decide +kernel
theorem dX4_expandedSecond_290 : decode cX4_expandedSecond 290 = .ok (.bipush 13, 2) := by decide +kernel
theorem dX4_expandedSecond_292 : decode cX4_expandedSecond 292 = .ok (.ishr, 1) := by decide +kernel
theorem dX4_expandedSecond_293 : decode cX4_expandedSecond 293 = .ok (.bipush 12, 2) := by decide +kernel
theorem dX4_expandedSecond_295 : decode cX4_expandedSecond 295 = .ok (.ishl, 1) := by decide +kernel
theorem dX4_expandedSecond_296 : decode cX4_expandedSecond 296 = .ok (.sipush 4096, 3) := by decide +kernel
theorem dX4_expandedSecond_299 : decode cX4_expandedSecond 299 = .ok (.iand, 1) := by decide +kernel
theorem dX4_expandedSecond_300 : decode cX4_expandedSecond 300 = .ok (.ior, 1) := by decide +kernel
theorem dX4_expandedSecond_301 : decode cX4_expandedSecond 301 = .ok (.bipush 8, 2) := by decide +kernel
theorem dX4_expandedSecond_303 : decode cX4_expandedSecond 303 = .ok (.iload_n 0, 1) := by decide +kernel
theorem dX4_expandedSecond_304 : decode cX4_expandedSecond 304 = .ok (.bipush 7, 2) := by decide +kernel
theorem dX4_expandedSecond_306 : decode cX4_expandedSecond 306 = .ok (.ishr, 1) := by decide +kernel
theorem dX4_expandedSecond_307 : decode cX4_expandedSecond 307 = .ok (.bipush 7, 2) := by decide +kernel
theorem dX4_expandedSecond_309 : decode cX4_expandedSecond 309 = .ok (.iand, 1) := by decide +kernel
theorem dX4_expandedSecond_310 : decode cX4_expandedSecond 310 = .ok (.iadd, 1) := by decide +kernel
theorem dX4_expandedSecond_311 : decode cX4_expandedSecond 311 = .ok (.bipush 15, 2) := by decide +kernel
theorem dX4_expandedSecond_313 : decode cX4_expandedSecond 313 = .ok (.ishl, 1) := by decide +kernel
theorem dX4_expandedSecond_314 : decode cX4_expandedSecond 314 = .ok (.ior, 1) := by decide +kernel
theorem dX4_expandedSecond_315 : decode cX4_expandedSecond 315 = .ok (.iload 5, 2) := by decide +kernel
theorem dX4_expandedSecond_317 : decode cX4_expandedSecond 317 = .ok (.invokestatic 168, 3) := by decide +kernel
theorem dX4_expandedSecond_320 : decode cX4_expandedSecond 320 = .ok (.ior, 1) := by decide +kernel
theorem dX4_expandedSecond_321 : decode cX4_expandedSecond 321 = .ok (.ireturn, 1) := by decide +kernel
theorem dX4_expandedSums_0 : decode cX4_expandedSums 0 = .ok (.bipush 8, 2) := by decide +kernel
theorem dX4_expandedSums_2 : decode cX4_expandedSums 2 = .ok (.iload_n 0, 1) := by decide +kernel
theorem dX4_expandedSums_3 : decode cX4_expandedSums 3 = .ok (.bipush 7, 2) := by decide +kernel
theorem dX4_expandedSums_5 : decode cX4_expandedSums 5 = .ok (.ishr, 1) := by decide +kernel
theorem dX4_expandedSums_6 : decode cX4_expandedSums 6 = .ok (.bipush 7, 2) := by decide +kernel
theorem dX4_expandedSums_8 : decode cX4_expandedSums 8 = .ok (.iand, 1) := by decide +kernel
theorem dX4_expandedSums_9 : decode cX4_expandedSums 9 = .ok (.iadd, 1) := by decide +kernel
theorem dX4_expandedSums_10 : decode cX4_expandedSums 10 = .ok (.istore_n 1, 1) := by decide +kernel
theorem dX4_expandedSums_11 : decode cX4_expandedSums 11 = .ok (.bipush 8, 2) := by decide +kernel
theorem dX4_expandedSums_13 : decode cX4_expandedSums 13 = .ok (.iload_n 0, 1) := by decide +kernel
theorem dX4_expandedSums_14 : decode cX4_expandedSums 14 = .ok (.iconst 2, 1) := by decide +kernel
theorem dX4_expandedSums_15 : decode cX4_expandedSums 15 = .ok (.ishr, 1) := by decide +kernel
theorem dX4_expandedSums_16 : decode cX4_expandedSums 16 = .ok (.bipush 7, 2) := by decide +kernel
theorem dX4_expandedSums_18 : decode cX4_expandedSums 18 = .ok (.iand, 1) := by decide +kernel
theorem dX4_expandedSums_19 : decode cX4_expandedSums 19 = .ok (.iadd, 1) := by decide +kernel
theorem dX4_expandedSums_20 : decode cX4_expandedSums 20 = .ok (.istore_n 2, 1) := by decide +kernel
theorem dX4_expandedSums_21 : decode cX4_expandedSums 21 = .ok (.iload_n 0, 1) := by decide +kernel
theorem dX4_expandedSums_22 : decode cX4_expandedSums 22 = .ok (.sipush 4096, 3) := by decide +kernel
theorem dX4_expandedSums_25 : decode cX4_expandedSums 25 = .ok (.iand, 1) := by decide +kernel
theorem dX4_expandedSums_26 : decode cX4_expandedSums 26 = .ok (.ifCond .eq 7, 3) := by decide +kernel
theorem dX4_expandedSums_29 : decode cX4_expandedSums 29 = .ok (.iconst 1, 1) := by decide +kernel
theorem dX4_expandedSums_30 : decode cX4_expandedSums 30 = .ok (.goto 4, 3) := by decide +kernel
theorem dX4_expandedSums_33 : decode cX4_expandedSums 33 = .ok (.iconst 0, 1) := by decide +kernel
theorem dX4_expandedSums_34 : decode cX4_expandedSums 34 = .ok (.istore_n 3, 1) := by decide +kernel
theorem dX4_expandedSums_35 : decode cX4_expandedSums 35 = .ok (.iload_n 0, 1) := by decide +kernel
theorem dX4_expandedSums_36 : decode cX4_expandedSums 36 = .ok (.bipush 10, 2) := by decide +kernel
theorem dX4_expandedSums_38 : decode cX4_expandedSums 38 = .ok (.ishr, 1) := by decide +kernel
theorem dX4_expandedSums_39 : decode cX4_expandedSums 39 = .ok (.iconst 3, 1) := by decide +kernel
theorem dX4_expandedSums_40 : decode cX4_expandedSums 40 = .ok (.iand, 1) := by decide +kernel
theorem dX4_expandedSums_41 : decode cX4_expandedSums 41 = .ok (.istore 4, 2) := by decide +kernel
theorem dX4_expandedSums_43 : decode cX4_expandedSums 43 = .ok (.iload 4, 2) := by decide +kernel
theorem dX4_expandedSums_45 : decode cX4_expandedSums 45 = .ok (.iconst 2, 1) := by decide +kernel
theorem dX4_expandedSums_46 : decode cX4_expandedSums 46 = .ok (.if_icmp .ne 15, 3) := by decide +kernel
theorem dX4_expandedSums_49 : decode cX4_expandedSums 49 = .ok (.iload_n 0, 1) := by decide +kernel
theorem dX4_expandedSums_50 : decode cX4_expandedSums 50 = .ok (.invokestatic 162, 3) := by decide +kernel
theorem dX4_expandedSums_53 : decode cX4_expandedSums 53 = .ok (.iload_n 1, 1) := by decide +kernel
theorem dX4_expandedSums_54 : decode cX4_expandedSums 54 = .ok (.bipush 7, 2) := by decide +kernel
theorem dX4_expandedSums_56 : decode cX4_expandedSums 56 = .ok (.iload_n 1, 1) := by decide +kernel
theorem dX4_expandedSums_57 : decode cX4_expandedSums 57 = .ok (.invokestatic 153, 3) := by decide +kernel
theorem dX4_expandedSums_60 : decode cX4_expandedSums 60 = .ok (.ireturn, 1) := by decide +kernel
theorem dX4_expandedSums_61 : decode cX4_expandedSums 61 = .ok (.iload_n 3, 1) := by decide +kernel
theorem dX4_expandedSums_62 : decode cX4_expandedSums 62 = .ok (.ifCond .eq 5, 3) := by decide +kernel
theorem dX4_expandedSums_65 : decode cX4_expandedSums 65 = .ok (.iconst 0, 1) := by decide +kernel
theorem dX4_expandedSums_66 : decode cX4_expandedSums 66 = .ok (.ireturn, 1) := by decide +kernel
theorem dX4_expandedSums_67 : decode cX4_expandedSums 67 = .ok (.iload 4, 2) := by decide +kernel
theorem dX4_expandedSums_69 : decode cX4_expandedSums 69 = .ok (.iconst 2, 1) := by decide +kernel
theorem dX4_expandedSums_70 : decode cX4_expandedSums 70 = .ok (.if_icmp .ge 22, 3) := by decide +kernel
theorem dX4_expandedSums_73 : decode cX4_expandedSums 73 = .ok (.iload_n 0, 1) := by decide +kernel
theorem dX4_expandedSums_74 : decode cX4_expandedSums 74 = .ok (.iconst 2, 1) := by decide +kernel
theorem dX4_expandedSums_75 : decode cX4_expandedSums 75 = .ok (.ishr, 1) := by decide +kernel
theorem dX4_expandedSums_76 : decode cX4_expandedSums 76 = .ok (.bipush 31, 2) := by decide +kernel
theorem dX4_expandedSums_78 : decode cX4_expandedSums 78 = .ok (.iand, 1) := by decide +kernel
theorem dX4_expandedSums_79 : decode cX4_expandedSums 79 = .ok (.iload 4, 2) := by decide +kernel
theorem dX4_expandedSums_81 : decode cX4_expandedSums 81 = .ok (.bipush 10, 2) := by decide +kernel
theorem dX4_expandedSums_83 : decode cX4_expandedSums 83 = .ok (.ishl, 1) := by decide +kernel
theorem dX4_expandedSums_84 : decode cX4_expandedSums 84 = .ok (.ior, 1) := by decide +kernel
theorem dX4_expandedSums_85 : decode cX4_expandedSums 85 = .ok (.iload_n 1, 1) := by decide +kernel
theorem dX4_expandedSums_86 : decode cX4_expandedSums 86 = .ok (.iconst 5, 1) := by decide +kernel
theorem dX4_expandedSums_87 : decode cX4_expandedSums 87 = .ok (.iload_n 1, 1) := by decide +kernel
theorem dX4_expandedSums_88 : decode cX4_expandedSums 88 = .ok (.invokestatic 153, 3) := by decide +kernel
theorem dX4_expandedSums_91 : decode cX4_expandedSums 91 = .ok (.ireturn, 1) := by decide +kernel
theorem dX4_expandedSums_92 : decode cX4_expandedSums 92 = .ok (.iload_n 2, 1) := by decide +kernel
theorem dX4_expandedSums_93 : decode cX4_expandedSums 93 = .ok (.bipush 20, 2) := by decide +kernel
theorem dX4_expandedSums_95 : decode cX4_expandedSums 95 = .ok (.ishl, 1) := by decide +kernel
theorem dX4_expandedSums_96 : decode cX4_expandedSums 96 = .ok (.iload_n 1, 1) := by decide +kernel
theorem dX4_expandedSums_97 : decode cX4_expandedSums 97 = .ok (.bipush 15, 2) := by decide +kernel
theorem dX4_expandedSums_99 : decode cX4_expandedSums 99 = .ok (.ishl, 1) := by decide +kernel
theorem dX4_expandedSums_100 : decode cX4_expandedSums 100 = .ok (.ior, 1) := by decide +kernel
theorem dX4_expandedSums_101 : decode cX4_expandedSums 101 = .ok (.iload_n 1, 1) := by decide +kernel
theorem dX4_expandedSums_102 : decode cX4_expandedSums 102 = .ok (.bipush 7, 2) := by decide +kernel
theorem dX4_expandedSums_104 : decode cX4_expandedSums 104 = .ok (.ishl, 1) := by decide +kernel
theorem dX4_expandedSums_105 : decode cX4_expandedSums 105 = .ok (.ior, 1) := by decide +kernel
theorem dX4_expandedSums_106 : decode cX4_expandedSums 106 = .ok (.bipush 51, 2) := by decide +kernel
theorem dX4_expandedSums_108 : decode cX4_expandedSums 108 = .ok (.ior, 1) := by decide +kernel
theorem dX4_expandedSums_109 : decode cX4_expandedSums 109 = .ok (.istore 5, 2) := by decide +kernel
theorem dX4_expandedSums_111 : decode cX4_expandedSums 111 = .ok (.iload_n 0, 1) := by decide +kernel
theorem dX4_expandedSums_112 : decode cX4_expandedSums 112 = .ok (.iconst 5, 1) := by decide +kernel
theorem dX4_expandedSums_113 : decode cX4_expandedSums 113 = .ok (.ishr, 1) := by decide +kernel
theorem dX4_expandedSums_114 : decode cX4_expandedSums 114 = .ok (.iconst 3, 1) := by decide +kernel
theorem dX4_expandedSums_115 : decode cX4_expandedSums 115 = .ok (.iand, 1) := by decide +kernel
theorem dX4_expandedSums_116 : decode cX4_expandedSums 116 = .ok (.tableswitch 48 0 2 #[28, 34, 41], 28) := by decide +kernel
theorem dX4_expandedSums_144 : decode cX4_expandedSums 144 = .ok (.iload 5, 2) := by decide +kernel
theorem dX4_expandedSums_146 : decode cX4_expandedSums 146 = .ok (.ldc 171, 2) := by decide +kernel
theorem dX4_expandedSums_148 : decode cX4_expandedSums 148 = .ok (.ior, 1) := by decide +kernel
theorem dX4_expandedSums_149 : decode cX4_expandedSums 149 = .ok (.ireturn, 1) := by decide +kernel
theorem dX4_expandedSums_150 : decode cX4_expandedSums 150 = .ok (.iload 5, 2) := by decide +kernel
theorem dX4_expandedSums_152 : decode cX4_expandedSums 152 = .ok (.sipush 16384, 3) := by decide +kernel
theorem dX4_expandedSums_155 : decode cX4_expandedSums 155 = .ok (.ior, 1) := by decide +kernel
theorem dX4_expandedSums_156 : decode cX4_expandedSums 156 = .ok (.ireturn, 1) := by decide +kernel
theorem dX4_expandedSums_157 : decode cX4_expandedSums 157 = .ok (.iload 5, 2) := by decide +kernel
theorem dX4_expandedSums_159 : decode cX4_expandedSums 159 = .ok (.sipush 24576, 3) := by decide +kernel
theorem dX4_expandedSums_162 : decode cX4_expandedSums 162 = .ok (.ior, 1) := by decide +kernel
theorem dX4_expandedSums_163 : decode cX4_expandedSums 163 = .ok (.ireturn, 1) := by decide +kernel
theorem dX4_expandedSums_164 : decode cX4_expandedSums 164 = .ok (.iload 5, 2) := by decide +kernel
theorem dX4_expandedSums_166 : decode cX4_expandedSums 166 = .ok (.sipush 28672, 3) := by decide +kernel
theorem dX4_expandedSums_169 : decode cX4_expandedSums 169 = .ok (.ior, 1) := by decide +kernel
theorem dX4_expandedSums_170 : decode cX4_expandedSums 170 = .ok (.ireturn, 1) := by decide +kernel
theorem dX4_expandedThird_0 : decode cX4_expandedThird 0 = .ok (.iload_n 0, 1) := by decide +kernel
theorem dX4_expandedThird_1 : decode cX4_expandedThird 1 = .ok (.bipush 7, 2) := by decide +kernel
theorem dX4_expandedThird_3 : decode cX4_expandedThird 3 = .ok (.ishr, 1) := by decide +kernel
theorem dX4_expandedThird_4 : decode cX4_expandedThird 4 = .ok (.bipush 31, 2) := by decide +kernel
theorem dX4_expandedThird_6 : decode cX4_expandedThird 6 = .ok (.iand, 1) := by decide +kernel
theorem dX4_expandedThird_7 : decode cX4_expandedThird 7 = .ok (.istore_n 1, 1) := by decide +kernel
theorem dX4_expandedThird_8 : decode cX4_expandedThird 8 = .ok (.iload_n 0, 1) := by decide +kernel
theorem dX4_expandedThird_9 : decode cX4_expandedThird 9 = .ok (.iconst 2, 1) := by decide +kernel
theorem dX4_expandedThird_10 : decode cX4_expandedThird 10 = .ok (.ishr, 1) := by decide +kernel
theorem dX4_expandedThird_11 : decode cX4_expandedThird 11 = .ok (.bipush 31, 2) := by decide +kernel
theorem dX4_expandedThird_13 : decode cX4_expandedThird 13 = .ok (.iand, 1) := by decide +kernel
theorem dX4_expandedThird_14 : decode cX4_expandedThird 14 = .ok (.istore_n 2, 1) := by decide +kernel
theorem dX4_expandedThird_15 : decode cX4_expandedThird 15 = .ok (.iload_n 0, 1) := by decide +kernel
theorem dX4_expandedThird_16 : decode cX4_expandedThird 16 = .ok (.sipush 4096, 3) := by decide +kernel
theorem dX4_expandedThird_19 : decode cX4_expandedThird 19 = .ok (.iand, 1) := by decide +kernel
theorem dX4_expandedThird_20 : decode cX4_expandedThird 20 = .ok (.ifCond .eq 7, 3) := by decide +kernel
theorem dX4_expandedThird_23 : decode cX4_expandedThird 23 = .ok (.iconst 1, 1) := by decide +kernel
theorem dX4_expandedThird_24 : decode cX4_expandedThird 24 = .ok (.goto 4, 3) := by decide +kernel
theorem dX4_expandedThird_27 : decode cX4_expandedThird 27 = .ok (.iconst 0, 1) := by decide +kernel
theorem dX4_expandedThird_28 : decode cX4_expandedThird 28 = .ok (.istore_n 3, 1) := by decide +kernel
theorem dX4_expandedThird_29 : decode cX4_expandedThird 29 = .ok (.iload_n 0, 1) := by decide +kernel
theorem dX4_expandedThird_30 : decode cX4_expandedThird 30 = .ok (.bipush 13, 2) := by decide +kernel
theorem dX4_expandedThird_32 : decode cX4_expandedThird 32 = .ok (.ishr, 1) := by decide +kernel
theorem dX4_expandedThird_33 : decode cX4_expandedThird 33 = .ok (.tableswitch 182 0 6 #[43, 182, 59, 182, 95, 182, 161], 43) := by decide +kernel
theorem dX4_expandedThird_76 : decode cX4_expandedThird 76 = .ok (.iload_n 3, 1) := by decide +kernel
theorem dX4_expandedThird_77 : decode cX4_expandedThird 77 = .ok (.ifCond .eq 7, 3) := by decide +kernel
theorem dX4_expandedThird_80 : decode cX4_expandedThird 80 = .ok (.iconst 0, 1) := by decide +kernel
theorem dX4_expandedThird_81 : decode cX4_expandedThird 81 = .ok (.goto 10, 3) := by decide +kernel
theorem dX4_expandedThird_84 : decode cX4_expandedThird 84 = .ok (.iload_n 2, 1) := by decide +kernel
theorem dX4_expandedThird_85 : decode cX4_expandedThird 85 = .ok (.iload_n 1, 1) := by decide +kernel
theorem dX4_expandedThird_86 : decode cX4_expandedThird 86 = .ok (.iconst 1, 1) := by decide +kernel
theorem dX4_expandedThird_87 : decode cX4_expandedThird 87 = .ok (.iload_n 1, 1) := by decide +kernel
theorem dX4_expandedThird_88 : decode cX4_expandedThird 88 = .ok (.invokestatic 153, 3) := by decide +kernel
theorem dX4_expandedThird_91 : decode cX4_expandedThird 91 = .ok (.ireturn, 1) := by decide +kernel
theorem dX4_expandedThird_92 : decode cX4_expandedThird 92 = .ok (.iload_n 1, 1) := by decide +kernel
theorem dX4_expandedThird_93 : decode cX4_expandedThird 93 = .ok (.ifCond .ne 7, 3) := by decide +kernel
theorem dX4_expandedThird_96 : decode cX4_expandedThird 96 = .ok (.iconst 0, 1) := by decide +kernel
theorem dX4_expandedThird_97 : decode cX4_expandedThird 97 = .ok (.goto 30, 3) := by decide +kernel
theorem dX4_expandedThird_100 : decode cX4_expandedThird 100 = .ok (.iload_n 0, 1) := by decide +kernel
theorem dX4_expandedThird_101 : decode cX4_expandedThird 101 = .ok (.bipush 7, 2) := by decide +kernel
theorem dX4_expandedThird_103 : decode cX4_expandedThird 103 = .ok (.ishr, 1) := by decide +kernel
theorem dX4_expandedThird_104 : decode cX4_expandedThird 104 = .ok (.bipush 32, 2) := by decide +kernel
theorem dX4_expandedThird_106 : decode cX4_expandedThird 106 = .ok (.iand, 1) := by decide +kernel
theorem dX4_expandedThird_107 : decode cX4_expandedThird 107 = .ok (.iload_n 0, 1) := by decide +kernel
theorem dX4_expandedThird_108 : decode cX4_expandedThird 108 = .ok (.iconst 2, 1) := by decide +kernel
theorem dX4_expandedThird_109 : decode cX4_expandedThird 109 = .ok (.ishr, 1) := by decide +kernel
theorem dX4_expandedThird_110 : decode cX4_expandedThird 110 = .ok (.bipush 28, 2) := by decide +kernel
theorem dX4_expandedThird_112 : decode cX4_expandedThird 112 = .ok (.iand, 1) := by decide +kernel
theorem dX4_expandedThird_113 : decode cX4_expandedThird 113 = .ok (.ior, 1) := by decide +kernel
theorem dX4_expandedThird_114 : decode cX4_expandedThird 114 = .ok (.iload_n 0, 1) := by decide +kernel
theorem dX4_expandedThird_115 : decode cX4_expandedThird 115 = .ok (.iconst 4, 1) := by decide +kernel
theorem dX4_expandedThird_116 : decode cX4_expandedThird 116 = .ok (.ishl, 1) := by decide +kernel
theorem dX4_expandedThird_117 : decode cX4_expandedThird 117 = .ok (.sipush 192, 3) := by decide +kernel
theorem dX4_expandedThird_120 : decode cX4_expandedThird 120 = .ok (.iand, 1) := by decide +kernel
theorem dX4_expandedThird_121 : decode cX4_expandedThird 121 = .ok (.ior, 1) := by decide +kernel
theorem dX4_expandedThird_122 : decode cX4_expandedThird 122 = .ok (.iconst 2, 1) := by decide +kernel
theorem dX4_expandedThird_123 : decode cX4_expandedThird 123 = .ok (.iload_n 1, 1) := by decide +kernel
theorem dX4_expandedThird_124 : decode cX4_expandedThird 124 = .ok (.invokestatic 156, 3) := by decide +kernel
theorem dX4_expandedThird_127 : decode cX4_expandedThird 127 = .ok (.ireturn, 1) := by decide +kernel
theorem dX4_expandedThird_128 : decode cX4_expandedThird 128 = .ok (.iload_n 2, 1) := by decide +kernel
theorem dX4_expandedThird_129 : decode cX4_expandedThird 129 = .ok (.ifCond .eq 29, 3) := by decide +kernel
theorem dX4_expandedThird_132 : decode cX4_expandedThird 132 = .ok (.iload_n 2, 1) := by decide +kernel
theorem dX4_expandedThird_133 : decode cX4_expandedThird 133 = .ok (.bipush 20, 2) := by decide +kernel
theorem dX4_expandedThird_135 : decode cX4_expandedThird 135 = .ok (.ishl, 1) := by decide +kernel
theorem dX4_expandedThird_136 : decode cX4_expandedThird 136 = .ok (.iload_n 3, 1) := by decide +kernel
theorem dX4_expandedThird_137 : decode cX4_expandedThird 137 = .ok (.ifCond .eq 7, 3) := by decide +kernel
theorem dX4_expandedThird_140 : decode cX4_expandedThird 140 = .ok (.iload_n 1, 1) := by decide +kernel
theorem dX4_expandedThird_141 : decode cX4_expandedThird 141 = .ok (.goto 4, 3) := by decide +kernel
theorem dX4_expandedThird_144 : decode cX4_expandedThird 144 = .ok (.iconst 0, 1) := by decide +kernel
theorem dX4_expandedThird_145 : decode cX4_expandedThird 145 = .ok (.bipush 15, 2) := by decide +kernel
theorem dX4_expandedThird_147 : decode cX4_expandedThird 147 = .ok (.ishl, 1) := by decide +kernel
theorem dX4_expandedThird_148 : decode cX4_expandedThird 148 = .ok (.ior, 1) := by decide +kernel
theorem dX4_expandedThird_149 : decode cX4_expandedThird 149 = .ok (.iload_n 1, 1) := by decide +kernel
theorem dX4_expandedThird_150 : decode cX4_expandedThird 150 = .ok (.bipush 7, 2) := by decide +kernel
theorem dX4_expandedThird_152 : decode cX4_expandedThird 152 = .ok (.ishl, 1) := by decide +kernel
theorem dX4_expandedThird_153 : decode cX4_expandedThird 153 = .ok (.ior, 1) := by decide +kernel
theorem dX4_expandedThird_154 : decode cX4_expandedThird 154 = .ok (.bipush 51, 2) := by decide +kernel
theorem dX4_expandedThird_156 : decode cX4_expandedThird 156 = .ok (.ior, 1) := by decide +kernel
theorem dX4_expandedThird_157 : decode cX4_expandedThird 157 = .ok (.ireturn, 1) := by decide +kernel
theorem dX4_expandedThird_158 : decode cX4_expandedThird 158 = .ok (.iload_n 1, 1) := by decide +kernel
theorem dX4_expandedThird_159 : decode cX4_expandedThird 159 = .ok (.ifCond .ne 14, 3) := by decide +kernel
theorem dX4_expandedThird_162 : decode cX4_expandedThird 162 = .ok (.iload_n 3, 1) := by decide +kernel
theorem dX4_expandedThird_163 : decode cX4_expandedThird 163 = .ok (.ifCond .eq 8, 3) := by decide +kernel
theorem dX4_expandedThird_166 : decode cX4_expandedThird 166 = .ok (.ldc 136, 2) := by decide +kernel
theorem dX4_expandedThird_168 : decode cX4_expandedThird 168 = .ok (.goto 4, 3) := by decide +kernel
theorem dX4_expandedThird_171 : decode cX4_expandedThird 171 = .ok (.iconst 0, 1) := by decide +kernel
theorem dX4_expandedThird_172 : decode cX4_expandedThird 172 = .ok (.ireturn, 1) := by decide +kernel
theorem dX4_expandedThird_173 : decode cX4_expandedThird 173 = .ok (.iload_n 1, 1) := by decide +kernel
theorem dX4_expandedThird_174 : decode cX4_expandedThird 174 = .ok (.bipush 15, 2) := by decide +kernel
theorem dX4_expandedThird_176 : decode cX4_expandedThird 176 = .ok (.ishl, 1) := by decide +kernel
theorem dX4_expandedThird_177 : decode cX4_expandedThird 177 = .ok (.iload_n 3, 1) := by decide +kernel
theorem dX4_expandedThird_178 : decode cX4_expandedThird 178 = .ok (.ifCond .eq 7, 3) := by decide +kernel
theorem dX4_expandedThird_181 : decode cX4_expandedThird 181 = .ok (.iconst 1, 1) := by decide +kernel
theorem dX4_expandedThird_182 : decode cX4_expandedThird 182 = .ok (.goto 4, 3) := by decide +kernel
theorem dX4_expandedThird_185 : decode cX4_expandedThird 185 = .ok (.iconst 0, 1) := by decide +kernel
theorem dX4_expandedThird_186 : decode cX4_expandedThird 186 = .ok (.bipush 7, 2) := by decide +kernel
theorem dX4_expandedThird_188 : decode cX4_expandedThird 188 = .ok (.ishl, 1) := by decide +kernel
theorem dX4_expandedThird_189 : decode cX4_expandedThird 189 = .ok (.ior, 1) := by decide +kernel
theorem dX4_expandedThird_190 : decode cX4_expandedThird 190 = .ok (.bipush 103, 2) := by decide +kernel
theorem dX4_expandedThird_192 : decode cX4_expandedThird 192 = .ok (.ior, 1) := by decide +kernel
theorem dX4_expandedThird_193 : decode cX4_expandedThird 193 = .ok (.ireturn, 1) := by decide +kernel
theorem dX4_expandedThird_194 : decode cX4_expandedThird 194 = .ok (.iload_n 0, 1) := by decide +kernel
theorem dX4_expandedThird_195 : decode cX4_expandedThird 195 = .ok (.bipush 7, 2) := by decide +kernel
theorem dX4_expandedThird_197 : decode cX4_expandedThird 197 = .ok (.ishr, 1) := by decide +kernel
theorem dX4_expandedThird_198 : decode cX4_expandedThird 198 = .ok (.bipush 60, 2) := by decide +kernel
theorem dX4_expandedThird_200 : decode cX4_expandedThird 200 = .ok (.iand, 1) := by decide +kernel
theorem dX4_expandedThird_201 : decode cX4_expandedThird 201 = .ok (.iload_n 0, 1) := by decide +kernel
theorem dX4_expandedThird_202 : decode cX4_expandedThird 202 = .ok (.iconst 1, 1) := by decide +kernel
theorem dX4_expandedThird_203 : decode cX4_expandedThird 203 = .ok (.ishr, 1) := by decide +kernel
theorem dX4_expandedThird_204 : decode cX4_expandedThird 204 = .ok (.sipush 192, 3) := by decide +kernel
theorem dX4_expandedThird_207 : decode cX4_expandedThird 207 = .ok (.iand, 1) := by decide +kernel
theorem dX4_expandedThird_208 : decode cX4_expandedThird 208 = .ok (.ior, 1) := by decide +kernel
theorem dX4_expandedThird_209 : decode cX4_expandedThird 209 = .ok (.iconst 2, 1) := by decide +kernel
theorem dX4_expandedThird_210 : decode cX4_expandedThird 210 = .ok (.iload_n 2, 1) := by decide +kernel
theorem dX4_expandedThird_211 : decode cX4_expandedThird 211 = .ok (.invokestatic 159, 3) := by decide +kernel
theorem dX4_expandedThird_214 : decode cX4_expandedThird 214 = .ok (.ireturn, 1) := by decide +kernel
theorem dX4_expandedThird_215 : decode cX4_expandedThird 215 = .ok (.iconst 0, 1) := by decide +kernel
theorem dX4_expandedThird_216 : decode cX4_expandedThird 216 = .ok (.ireturn, 1) := by decide +kernel
theorem dX6_start_0 : decode cX6_start 0 = .ok (.aload_n 0, 1) := by decide +kernel
theorem dX6_start_1 : decode cX6_start 1 = .ok (.getfield 14, 3) := by decide +kernel
theorem dX6_start_4 : decode cX6_start 4 = .ok (.iconst 0, 1) := by decide +kernel
theorem dX6_start_5 : decode cX6_start 5 = .ok (.invokestatic 46, 3) := by decide +kernel
theorem dX6_start_8 : decode cX6_start 8 = .ok (.aload_n 0, 1) := by decide +kernel
theorem dX6_start_9 : decode cX6_start 9 = .ok (.getfield 17, 3) := by decide +kernel
theorem dX6_start_12 : decode cX6_start 12 = .ok (.iconst 0, 1) := by decide +kernel
theorem dX6_start_13 : decode cX6_start 13 = .ok (.invokestatic 46, 3) := by decide +kernel
theorem dX6_start_16 : decode cX6_start 16 = .ok (.aload_n 0, 1) := by decide +kernel
theorem dX6_start_17 : decode cX6_start 17 = .ok (.iconst 0, 1) := by decide +kernel
theorem dX6_start_18 : decode cX6_start 18 = .ok (.putfield 52, 3) := by decide +kernel
theorem dX6_start_21 : decode cX6_start 21 = .ok (.iconst 0, 1) := by decide +kernel
theorem dX6_start_22 : decode cX6_start 22 = .ok (.istore_n 2, 1) := by decide +kernel
theorem dX6_start_23 : decode cX6_start 23 = .ok (.iload_n 2, 1) := by decide +kernel
theorem dX6_start_24 : decode cX6_start 24 = .ok (.bipush 16, 2) := by decide +kernel
theorem dX6_start_26 : decode cX6_start 26 = .ok (.if_icmp .ge 14, 3) := by decide +kernel
theorem dX6_start_29 : decode cX6_start 29 = .ok (.aload_n 0, 1) := by decide +kernel
theorem dX6_start_30 : decode cX6_start 30 = .ok (.iload_n 2, 1) := by decide +kernel
theorem dX6_start_31 : decode cX6_start 31 = .ok (.invokevirtual 56, 3) := by decide +kernel
theorem dX6_start_34 : decode cX6_start 34 = .ok (.iinc 2 1, 3) := by decide +kernel
theorem dX6_start_37 : decode cX6_start 37 = .ok (.goto (-14), 3) := by decide +kernel
theorem dX6_start_40 : decode cX6_start 40 = .ok (.aload_n 0, 1) := by decide +kernel
theorem dX6_start_41 : decode cX6_start 41 = .ok (.iconst 0, 1) := by decide +kernel
theorem dX6_start_42 : decode cX6_start 42 = .ok (.putfield 60, 3) := by decide +kernel
theorem dX6_start_45 : decode cX6_start 45 = .ok (.aload_n 0, 1) := by decide +kernel
theorem dX6_start_46 : decode cX6_start 46 = .ok (.iconst 0, 1) := by decide +kernel
theorem dX6_start_47 : decode cX6_start 47 = .ok (.putfield 63, 3) := by decide +kernel
theorem dX6_start_50 : decode cX6_start 50 = .ok (.aload_n 0, 1) := by decide +kernel
theorem dX6_start_51 : decode cX6_start 51 = .ok (.iconst (-1), 1) := by decide +kernel
theorem dX6_start_52 : decode cX6_start 52 = .ok (.putfield 66, 3) := by decide +kernel
theorem dX6_start_55 : decode cX6_start 55 = .ok (.aload_n 0, 1) := by decide +kernel
theorem dX6_start_56 : decode cX6_start 56 = .ok (.bipush 15, 2) := by decide +kernel
theorem dX6_start_58 : decode cX6_start 58 = .ok (.putfield 69, 3) := by decide +kernel
theorem dX6_start_61 : decode cX6_start 61 = .ok (.aload_n 0, 1) := by decide +kernel
theorem dX6_start_62 : decode cX6_start 62 = .ok (.iconst (-1), 1) := by decide +kernel
theorem dX6_start_63 : decode cX6_start 63 = .ok (.putfield 72, 3) := by decide +kernel
theorem dX6_start_66 : decode cX6_start 66 = .ok (.aload_n 0, 1) := by decide +kernel
theorem dX6_start_67 : decode cX6_start 67 = .ok (.lconst 0, 1) := by decide +kernel
theorem dX6_start_68 : decode cX6_start 68 = .ok (.putfield 75, 3) := by decide +kernel
theorem dX6_start_71 : decode cX6_start 71 = .ok (.aload_n 0, 1) := by decide +kernel
theorem dX6_start_72 : decode cX6_start 72 = .ok (.lconst 0, 1) := by decide +kernel
theorem dX6_start_73 : decode cX6_start 73 = .ok (.putfield 79, 3) := by decide +kernel
theorem dX6_start_76 : decode cX6_start 76 = .ok (.aload_n 0, 1) := by decide +kernel
theorem dX6_start_77 : decode cX6_start 77 = .ok (.iconst 0, 1) := by decide +kernel
theorem dX6_start_78 : decode cX6_start 78 = .ok (.putfield 82, 3) := by decide +kernel
theorem dX6_start_81 : decode cX6_start 81 = .ok (.aload_n 0, 1) := by decide +kernel
theorem dX6_start_82 : decode cX6_start 82 = .ok (.getfield 42, 3) := by decide +kernel
theorem dX6_start_85 : decode cX6_start 85 = .ok (.invokevirtual 85, 3) := by decide +kernel
theorem dX6_start_88 : decode cX6_start 88 = .ok (.aload_n 0, 1) := by decide +kernel
theorem dX6_start_89 : decode cX6_start 89 = .ok (.iconst 0, 1) := by decide +kernel
theorem dX6_start_90 : decode cX6_start 90 = .ok (.aload_n 1, 1) := by decide +kernel
theorem dX6_start_91 : decode cX6_start 91 = .ok (.invokevirtual 88, 3) := by decide +kernel
theorem dX6_start_94 : decode cX6_start 94 = .ok (.aload_n 0, 1) := by decide +kernel
theorem dX6_start_95 : decode cX6_start 95 = .ok (.getfield 29, 3) := by decide +kernel
theorem dX6_start_98 : decode cX6_start 98 = .ok (.iconst 0, 1) := by decide +kernel
theorem dX6_start_99 : decode cX6_start 99 = .ok (.iconst 1, 1) := by decide +kernel
theorem dX6_start_100 : decode cX6_start 100 = .ok (.iastore, 1) := by decide +kernel
theorem dX6_start_101 : decode cX6_start 101 = .ok (.aload_n 0, 1) := by decide +kernel
theorem dX6_start_102 : decode cX6_start 102 = .ok (.invokevirtual 92, 3) := by decide +kernel
theorem dX6_start_105 : decode cX6_start 105 = .ok (.return_, 1) := by decide +kernel
theorem dX6_become_0 : decode cX6_become 0 = .ok (.iconst 0, 1) := by decide +kernel
theorem dX6_become_1 : decode cX6_become 1 = .ok (.istore_n 2, 1) := by decide +kernel
theorem dX6_become_2 : decode cX6_become 2 = .ok (.iload_n 2, 1) := by decide +kernel
theorem dX6_become_3 : decode cX6_become 3 = .ok (.sipush 256, 3) := by decide +kernel
theorem dX6_become_6 : decode cX6_become 6 = .ok (.if_icmp .ge 42, 3) := by decide +kernel
theorem dX6_become_9 : decode cX6_become 9 = .ok (.aload_n 1, 1) := by decide +kernel
theorem dX6_become_10 : decode cX6_become 10 = .ok (.getfield 14, 3) := by decide +kernel
theorem dX6_become_13 : decode cX6_become 13 = .ok (.iload_n 2, 1) := by decide +kernel
theorem dX6_become_14 : decode cX6_become 14 = .ok (.iaload, 1) := by decide +kernel
theorem dX6_become_15 : decode cX6_become 15 = .ok (.ifCond .le 27, 3) := by decide +kernel
theorem dX6_become_18 : decode cX6_become 18 = .ok (.aload_n 1, 1) := by decide +kernel
theorem dX6_become_19 : decode cX6_become 19 = .ok (.getfield 10, 3) := by decide +kernel
theorem dX6_become_22 : decode cX6_become 22 = .ok (.iload_n 2, 1) := by decide +kernel
theorem dX6_become_23 : decode cX6_become 23 = .ok (.sipush 256, 3) := by decide +kernel
theorem dX6_become_26 : decode cX6_become 26 = .ok (.imul, 1) := by decide +kernel
theorem dX6_become_27 : decode cX6_become 27 = .ok (.aload_n 0, 1) := by decide +kernel
theorem dX6_become_28 : decode cX6_become 28 = .ok (.getfield 10, 3) := by decide +kernel
theorem dX6_become_31 : decode cX6_become 31 = .ok (.iload_n 2, 1) := by decide +kernel
theorem dX6_become_32 : decode cX6_become 32 = .ok (.sipush 256, 3) := by decide +kernel
theorem dX6_become_35 : decode cX6_become 35 = .ok (.imul, 1) := by decide +kernel
theorem dX6_become_36 : decode cX6_become 36 = .ok (.sipush 256, 3) := by decide +kernel
theorem dX6_become_39 : decode cX6_become 39 = .ok (.invokestatic 95, 3) := by decide +kernel
theorem dX6_become_42 : decode cX6_become 42 = .ok (.iinc 2 1, 3) := by decide +kernel
theorem dX6_become_45 : decode cX6_become 45 = .ok (.goto (-43), 3) := by decide +kernel
theorem dX6_become_48 : decode cX6_become 48 = .ok (.aload_n 1, 1) := by decide +kernel
theorem dX6_become_49 : decode cX6_become 49 = .ok (.getfield 14, 3) := by decide +kernel
theorem dX6_become_52 : decode cX6_become 52 = .ok (.iconst 0, 1) := by decide +kernel
theorem dX6_become_53 : decode cX6_become 53 = .ok (.aload_n 0, 1) := by decide +kernel
theorem dX6_become_54 : decode cX6_become 54 = .ok (.getfield 14, 3) := by decide +kernel
theorem dX6_become_57 : decode cX6_become 57 = .ok (.iconst 0, 1) := by decide +kernel
theorem dX6_become_58 : decode cX6_become 58 = .ok (.aload_n 0, 1) := by decide +kernel
theorem dX6_become_59 : decode cX6_become 59 = .ok (.getfield 14, 3) := by decide +kernel
theorem dX6_become_62 : decode cX6_become 62 = .ok (.arraylength, 1) := by decide +kernel
theorem dX6_become_63 : decode cX6_become 63 = .ok (.invokestatic 95, 3) := by decide +kernel
theorem dX6_become_66 : decode cX6_become 66 = .ok (.aload_n 1, 1) := by decide +kernel
theorem dX6_become_67 : decode cX6_become 67 = .ok (.getfield 17, 3) := by decide +kernel
theorem dX6_become_70 : decode cX6_become 70 = .ok (.iconst 0, 1) := by decide +kernel
theorem dX6_become_71 : decode cX6_become 71 = .ok (.aload_n 0, 1) := by decide +kernel
theorem dX6_become_72 : decode cX6_become 72 = .ok (.getfield 17, 3) := by decide +kernel
theorem dX6_become_75 : decode cX6_become 75 = .ok (.iconst 0, 1) := by decide +kernel
theorem dX6_become_76 : decode cX6_become 76 = .ok (.aload_n 0, 1) := by decide +kernel
theorem dX6_become_77 : decode cX6_become 77 = .ok (.getfield 17, 3) := by decide +kernel
theorem dX6_become_80 : decode cX6_become 80 = .ok (.arraylength, 1) := by decide +kernel
theorem dX6_become_81 : decode cX6_become 81 = .ok (.invokestatic 95, 3) := by decide +kernel
theorem dX6_become_84 : decode cX6_become 84 = .ok (.aload_n 0, 1) := by decide +kernel
theorem dX6_become_85 : decode cX6_become 85 = .ok (.aload_n 1, 1) := by decide +kernel
theorem dX6_become_86 : decode cX6_become 86 = .ok (.getfield 52, 3) := by decide +kernel
theorem dX6_become_89 : decode cX6_become 89 = .ok (.putfield 52, 3) := by decide +kernel
theorem dX6_become_92 : decode cX6_become 92 = .ok (.aload_n 1, 1) := by decide +kernel
theorem dX6_become_93 : decode cX6_become 93 = .ok (.getfield 20, 3) := by decide +kernel
theorem dX6_become_96 : decode cX6_become 96 = .ok (.iconst 0, 1) := by decide +kernel
theorem dX6_become_97 : decode cX6_become 97 = .ok (.aload_n 0, 1) := by decide +kernel
theorem dX6_become_98 : decode cX6_become 98 = .ok (.getfield 20, 3) := by decide +kernel
theorem dX6_become_101 : decode cX6_become 101 = .ok (.iconst 0, 1) := by decide +kernel
theorem dX6_become_102 : decode cX6_become 102 = .ok (.aload_n 0, 1) := by decide +kernel
theorem dX6_become_103 : decode cX6_become 103 = .ok (.getfield 20, 3) := by decide +kernel
theorem dX6_become_106 : decode cX6_become 106 = .ok (.arraylength, 1) := by decide +kernel
theorem dX6_become_107 : decode cX6_become 107 = .ok (.invokestatic 95, 3) := by decide +kernel
theorem dX6_become_110 : decode cX6_become 110 = .ok (.aload_n 1, 1) := by decide +kernel
theorem dX6_become_111 : decode cX6_become 111 = .ok (.getfield 23, 3) := by decide +kernel
theorem dX6_become_114 : decode cX6_become 114 = .ok (.iconst 0, 1) := by decide +kernel
theorem dX6_become_115 : decode cX6_become 115 = .ok (.aload_n 0, 1) := by decide +kernel
theorem dX6_become_116 : decode cX6_become 116 = .ok (.getfield 23, 3) := by decide +kernel
theorem dX6_become_119 : decode cX6_become 119 = .ok (.iconst 0, 1) := by decide +kernel
theorem dX6_become_120 : decode cX6_become 120 = .ok (.aload_n 0, 1) := by decide +kernel
theorem dX6_become_121 : decode cX6_become 121 = .ok (.getfield 23, 3) := by decide +kernel
theorem dX6_become_124 : decode cX6_become 124 = .ok (.arraylength, 1) := by decide +kernel
theorem dX6_become_125 : decode cX6_become 125 = .ok (.invokestatic 95, 3) := by decide +kernel
theorem dX6_become_128 : decode cX6_become 128 = .ok (.aload_n 1, 1) := by decide +kernel
theorem dX6_become_129 : decode cX6_become 129 = .ok (.getfield 26, 3) := by decide +kernel
theorem dX6_become_132 : decode cX6_become 132 = .ok (.iconst 0, 1) := by decide +kernel
theorem dX6_become_133 : decode cX6_become 133 = .ok (.aload_n 0, 1) := by decide +kernel
theorem dX6_become_134 : decode cX6_become 134 = .ok (.getfield 26, 3) := by decide +kernel
theorem dX6_become_137 : decode cX6_become 137 = .ok (.iconst 0, 1) := by decide +kernel
theorem dX6_become_138 : decode cX6_become 138 = .ok (.aload_n 0, 1) := by decide +kernel
theorem dX6_become_139 : decode cX6_become 139 = .ok (.getfield 26, 3) := by decide +kernel
theorem dX6_become_142 : decode cX6_become 142 = .ok (.arraylength, 1) := by decide +kernel
