theorem dX16_random_41 : decode cX16_random 41 = .ok (.getfield 9, 3) := by decide +kernel
theorem dX16_random_44 : decode cX16_random 44 = .ok (.iload_n 2, 1) := by decide +kernel
theorem dX16_random_45 : decode cX16_random 45 = .ok (.aload_n 0, 1) := by decide +kernel
theorem dX16_random_46 : decode cX16_random 46 = .ok (.getfield 9, 3) := by decide +kernel
theorem dX16_random_49 : decode cX16_random 49 = .ok (.iload_n 2, 1) := by decide +kernel
theorem dX16_random_50 : decode cX16_random 50 = .ok (.iconst 1, 1) := by decide +kernel
theorem dX16_random_51 : decode cX16_random 51 = .ok (.iadd, 1) := by decide +kernel
theorem dX16_random_52 : decode cX16_random 52 = .ok (.iaload, 1) := by decide +kernel
theorem dX16_random_53 : decode cX16_random 53 = .ok (.iastore, 1) := by decide +kernel
theorem dX16_random_54 : decode cX16_random 54 = .ok (.iinc 2 1, 3) := by decide +kernel
theorem dX16_random_57 : decode cX16_random 57 = .ok (.goto (-25), 3) := by decide +kernel
theorem dX16_random_60 : decode cX16_random 60 = .ok (.iload_n 1, 1) := by decide +kernel
theorem dX16_random_61 : decode cX16_random 61 = .ok (.ireturn, 1) := by decide +kernel
theorem dX16_register_0 : decode cX16_register 0 = .ok (.iload_n 1, 1) := by decide +kernel
theorem dX16_register_1 : decode cX16_register 1 = .ok (.ifCond .lt 28, 3) := by decide +kernel
theorem dX16_register_4 : decode cX16_register 4 = .ok (.iload_n 1, 1) := by decide +kernel
theorem dX16_register_5 : decode cX16_register 5 = .ok (.bipush 15, 2) := by decide +kernel
theorem dX16_register_7 : decode cX16_register 7 = .ok (.if_icmp .gt 22, 3) := by decide +kernel
theorem dX16_register_10 : decode cX16_register 10 = .ok (.iload_n 2, 1) := by decide +kernel
theorem dX16_register_11 : decode cX16_register 11 = .ok (.ifCond .lt 18, 3) := by decide +kernel
theorem dX16_register_14 : decode cX16_register 14 = .ok (.iload_n 2, 1) := by decide +kernel
theorem dX16_register_15 : decode cX16_register 15 = .ok (.bipush 32, 2) := by decide +kernel
theorem dX16_register_17 : decode cX16_register 17 = .ok (.if_icmp .gt 12, 3) := by decide +kernel
theorem dX16_register_20 : decode cX16_register 20 = .ok (.aload_n 0, 1) := by decide +kernel
theorem dX16_register_21 : decode cX16_register 21 = .ok (.getfield 13, 3) := by decide +kernel
theorem dX16_register_24 : decode cX16_register 24 = .ok (.iload_n 1, 1) := by decide +kernel
theorem dX16_register_25 : decode cX16_register 25 = .ok (.iaload, 1) := by decide +kernel
theorem dX16_register_26 : decode cX16_register 26 = .ok (.ifCond .ne 7, 3) := by decide +kernel
theorem dX16_register_29 : decode cX16_register 29 = .ok (.iconst 0, 1) := by decide +kernel
theorem dX16_register_30 : decode cX16_register 30 = .ok (.goto 29, 3) := by decide +kernel
theorem dX16_register_33 : decode cX16_register 33 = .ok (.iload_n 2, 1) := by decide +kernel
theorem dX16_register_34 : decode cX16_register 34 = .ok (.bipush 32, 2) := by decide +kernel
theorem dX16_register_36 : decode cX16_register 36 = .ok (.if_icmp .ne 12, 3) := by decide +kernel
theorem dX16_register_39 : decode cX16_register 39 = .ok (.aload_n 0, 1) := by decide +kernel
theorem dX16_register_40 : decode cX16_register 40 = .ok (.getfield 45, 3) := by decide +kernel
theorem dX16_register_43 : decode cX16_register 43 = .ok (.iload_n 1, 1) := by decide +kernel
theorem dX16_register_44 : decode cX16_register 44 = .ok (.iaload, 1) := by decide +kernel
theorem dX16_register_45 : decode cX16_register 45 = .ok (.goto 14, 3) := by decide +kernel
theorem dX16_register_48 : decode cX16_register 48 = .ok (.aload_n 0, 1) := by decide +kernel
theorem dX16_register_49 : decode cX16_register 49 = .ok (.getfield 42, 3) := by decide +kernel
theorem dX16_register_52 : decode cX16_register 52 = .ok (.bipush 32, 2) := by decide +kernel
theorem dX16_register_54 : decode cX16_register 54 = .ok (.iload_n 1, 1) := by decide +kernel
theorem dX16_register_55 : decode cX16_register 55 = .ok (.imul, 1) := by decide +kernel
theorem dX16_register_56 : decode cX16_register 56 = .ok (.iload_n 2, 1) := by decide +kernel
theorem dX16_register_57 : decode cX16_register 57 = .ok (.iadd, 1) := by decide +kernel
theorem dX16_register_58 : decode cX16_register 58 = .ok (.iaload, 1) := by decide +kernel
theorem dX16_register_59 : decode cX16_register 59 = .ok (.ireturn, 1) := by decide +kernel
theorem dX16_process_0 : decode cX16_process 0 = .ok (.iload_n 1, 1) := by decide +kernel
theorem dX16_process_1 : decode cX16_process 1 = .ok (.ifCond .lt 19, 3) := by decide +kernel
theorem dX16_process_4 : decode cX16_process 4 = .ok (.iload_n 1, 1) := by decide +kernel
theorem dX16_process_5 : decode cX16_process 5 = .ok (.bipush 15, 2) := by decide +kernel
theorem dX16_process_7 : decode cX16_process 7 = .ok (.if_icmp .gt 13, 3) := by decide +kernel
theorem dX16_process_10 : decode cX16_process 10 = .ok (.iload_n 2, 1) := by decide +kernel
theorem dX16_process_11 : decode cX16_process 11 = .ok (.ifCond .lt 9, 3) := by decide +kernel
theorem dX16_process_14 : decode cX16_process 14 = .ok (.iload_n 2, 1) := by decide +kernel
theorem dX16_process_15 : decode cX16_process 15 = .ok (.bipush 7, 2) := by decide +kernel
theorem dX16_process_17 : decode cX16_process 17 = .ok (.if_icmp .le 5, 3) := by decide +kernel
theorem dX16_process_20 : decode cX16_process 20 = .ok (.iconst (-1), 1) := by decide +kernel
theorem dX16_process_21 : decode cX16_process 21 = .ok (.ireturn, 1) := by decide +kernel
theorem dX16_process_22 : decode cX16_process 22 = .ok (.iconst 0, 1) := by decide +kernel
theorem dX16_process_23 : decode cX16_process 23 = .ok (.istore_n 3, 1) := by decide +kernel
theorem dX16_process_24 : decode cX16_process 24 = .ok (.iconst 0, 1) := by decide +kernel
theorem dX16_process_25 : decode cX16_process 25 = .ok (.istore 4, 2) := by decide +kernel
theorem dX16_process_27 : decode cX16_process 27 = .ok (.iload 4, 2) := by decide +kernel
theorem dX16_process_29 : decode cX16_process 29 = .ok (.bipush 64, 2) := by decide +kernel
theorem dX16_process_31 : decode cX16_process 31 = .ok (.if_icmp .ge 33, 3) := by decide +kernel
theorem dX16_process_34 : decode cX16_process 34 = .ok (.aload_n 0, 1) := by decide +kernel
theorem dX16_process_35 : decode cX16_process 35 = .ok (.getfield 64, 3) := by decide +kernel
theorem dX16_process_38 : decode cX16_process 38 = .ok (.bipush 64, 2) := by decide +kernel
theorem dX16_process_40 : decode cX16_process 40 = .ok (.iload_n 1, 1) := by decide +kernel
theorem dX16_process_41 : decode cX16_process 41 = .ok (.imul, 1) := by decide +kernel
theorem dX16_process_42 : decode cX16_process 42 = .ok (.iload 4, 2) := by decide +kernel
theorem dX16_process_44 : decode cX16_process 44 = .ok (.iadd, 1) := by decide +kernel
theorem dX16_process_45 : decode cX16_process 45 = .ok (.iaload, 1) := by decide +kernel
theorem dX16_process_46 : decode cX16_process 46 = .ok (.iconst (-1), 1) := by decide +kernel
theorem dX16_process_47 : decode cX16_process 47 = .ok (.if_icmp .ne 7, 3) := by decide +kernel
theorem dX16_process_50 : decode cX16_process 50 = .ok (.iload_n 3, 1) := by decide +kernel
theorem dX16_process_51 : decode cX16_process 51 = .ok (.goto 6, 3) := by decide +kernel
theorem dX16_process_54 : decode cX16_process 54 = .ok (.iload_n 3, 1) := by decide +kernel
theorem dX16_process_55 : decode cX16_process 55 = .ok (.iconst 1, 1) := by decide +kernel
theorem dX16_process_56 : decode cX16_process 56 = .ok (.iadd, 1) := by decide +kernel
theorem dX16_process_57 : decode cX16_process 57 = .ok (.istore_n 3, 1) := by decide +kernel
theorem dX16_process_58 : decode cX16_process 58 = .ok (.iinc 4 1, 3) := by decide +kernel
theorem dX16_process_61 : decode cX16_process 61 = .ok (.goto (-34), 3) := by decide +kernel
theorem dX16_process_64 : decode cX16_process 64 = .ok (.iload_n 2, 1) := by decide +kernel
theorem dX16_process_65 : decode cX16_process 65 = .ok (.tableswitch 109 0 6 #[43, 50, 57, 78, 85, 100, 102], 43) := by decide +kernel
theorem dX16_process_108 : decode cX16_process 108 = .ok (.aload_n 0, 1) := by decide +kernel
theorem dX16_process_109 : decode cX16_process 109 = .ok (.getfield 13, 3) := by decide +kernel
theorem dX16_process_112 : decode cX16_process 112 = .ok (.iload_n 1, 1) := by decide +kernel
theorem dX16_process_113 : decode cX16_process 113 = .ok (.iaload, 1) := by decide +kernel
theorem dX16_process_114 : decode cX16_process 114 = .ok (.ireturn, 1) := by decide +kernel
theorem dX16_process_115 : decode cX16_process 115 = .ok (.aload_n 0, 1) := by decide +kernel
theorem dX16_process_116 : decode cX16_process 116 = .ok (.getfield 16, 3) := by decide +kernel
theorem dX16_process_119 : decode cX16_process 119 = .ok (.iload_n 1, 1) := by decide +kernel
theorem dX16_process_120 : decode cX16_process 120 = .ok (.iaload, 1) := by decide +kernel
theorem dX16_process_121 : decode cX16_process 121 = .ok (.ireturn, 1) := by decide +kernel
theorem dX16_process_122 : decode cX16_process 122 = .ok (.aload_n 0, 1) := by decide +kernel
theorem dX16_process_123 : decode cX16_process 123 = .ok (.getfield 13, 3) := by decide +kernel
theorem dX16_process_126 : decode cX16_process 126 = .ok (.iload_n 1, 1) := by decide +kernel
theorem dX16_process_127 : decode cX16_process 127 = .ok (.iaload, 1) := by decide +kernel
theorem dX16_process_128 : decode cX16_process 128 = .ok (.iconst 3, 1) := by decide +kernel
theorem dX16_process_129 : decode cX16_process 129 = .ok (.if_icmp .ne 12, 3) := by decide +kernel
theorem dX16_process_132 : decode cX16_process 132 = .ok (.aload_n 0, 1) := by decide +kernel
theorem dX16_process_133 : decode cX16_process 133 = .ok (.getfield 19, 3) := by decide +kernel
theorem dX16_process_136 : decode cX16_process 136 = .ok (.iload_n 1, 1) := by decide +kernel
theorem dX16_process_137 : decode cX16_process 137 = .ok (.iaload, 1) := by decide +kernel
theorem dX16_process_138 : decode cX16_process 138 = .ok (.goto 4, 3) := by decide +kernel
theorem dX16_process_141 : decode cX16_process 141 = .ok (.iconst 0, 1) := by decide +kernel
theorem dX16_process_142 : decode cX16_process 142 = .ok (.ireturn, 1) := by decide +kernel
theorem dX16_process_143 : decode cX16_process 143 = .ok (.aload_n 0, 1) := by decide +kernel
theorem dX16_process_144 : decode cX16_process 144 = .ok (.getfield 22, 3) := by decide +kernel
theorem dX16_process_147 : decode cX16_process 147 = .ok (.iload_n 1, 1) := by decide +kernel
theorem dX16_process_148 : decode cX16_process 148 = .ok (.iaload, 1) := by decide +kernel
theorem dX16_process_149 : decode cX16_process 149 = .ok (.ireturn, 1) := by decide +kernel
theorem dX16_process_150 : decode cX16_process 150 = .ok (.aload_n 0, 1) := by decide +kernel
theorem dX16_process_151 : decode cX16_process 151 = .ok (.getfield 34, 3) := by decide +kernel
theorem dX16_process_154 : decode cX16_process 154 = .ok (.iload_n 1, 1) := by decide +kernel
theorem dX16_process_155 : decode cX16_process 155 = .ok (.baload, 1) := by decide +kernel
theorem dX16_process_156 : decode cX16_process 156 = .ok (.ifCond .eq 7, 3) := by decide +kernel
theorem dX16_process_159 : decode cX16_process 159 = .ok (.iconst 1, 1) := by decide +kernel
theorem dX16_process_160 : decode cX16_process 160 = .ok (.goto 4, 3) := by decide +kernel
theorem dX16_process_163 : decode cX16_process 163 = .ok (.iconst 0, 1) := by decide +kernel
theorem dX16_process_164 : decode cX16_process 164 = .ok (.ireturn, 1) := by decide +kernel
theorem dX16_process_165 : decode cX16_process 165 = .ok (.iload_n 3, 1) := by decide +kernel
theorem dX16_process_166 : decode cX16_process 166 = .ok (.ireturn, 1) := by decide +kernel
theorem dX16_process_167 : decode cX16_process 167 = .ok (.aload_n 0, 1) := by decide +kernel
theorem dX16_process_168 : decode cX16_process 168 = .ok (.getfield 28, 3) := by decide +kernel
theorem dX16_process_171 : decode cX16_process 171 = .ok (.iload_n 1, 1) := by decide +kernel
theorem dX16_process_172 : decode cX16_process 172 = .ok (.iaload, 1) := by decide +kernel
theorem dX16_process_173 : decode cX16_process 173 = .ok (.ireturn, 1) := by decide +kernel
theorem dX16_process_174 : decode cX16_process 174 = .ok (.aload_n 0, 1) := by decide +kernel
theorem dX16_process_175 : decode cX16_process 175 = .ok (.getfield 31, 3) := by decide +kernel
theorem dX16_process_178 : decode cX16_process 178 = .ok (.iload_n 1, 1) := by decide +kernel
theorem dX16_process_179 : decode cX16_process 179 = .ok (.iaload, 1) := by decide +kernel
theorem dX16_process_180 : decode cX16_process 180 = .ok (.ireturn, 1) := by decide +kernel
theorem dX16_instruction_0 : decode cX16_instruction 0 = .ok (.aload_n 0, 1) := by decide +kernel
theorem dX16_instruction_1 : decode cX16_instruction 1 = .ok (.iload_n 1, 1) := by decide +kernel
theorem dX16_instruction_2 : decode cX16_instruction 2 = .ok (.iload_n 2, 1) := by decide +kernel
theorem dX16_instruction_3 : decode cX16_instruction 3 = .ok (.iconst 4, 1) := by decide +kernel
theorem dX16_instruction_4 : decode cX16_instruction 4 = .ok (.invokevirtual 218, 3) := by decide +kernel
theorem dX16_instruction_7 : decode cX16_instruction 7 = .ok (.ifCond .eq 15, 3) := by decide +kernel
theorem dX16_instruction_10 : decode cX16_instruction 10 = .ok (.aload_n 0, 1) := by decide +kernel
theorem dX16_instruction_11 : decode cX16_instruction 11 = .ok (.iload_n 1, 1) := by decide +kernel
theorem dX16_instruction_12 : decode cX16_instruction 12 = .ok (.iload_n 2, 1) := by decide +kernel
theorem dX16_instruction_13 : decode cX16_instruction 13 = .ok (.iconst 1, 1) := by decide +kernel
theorem dX16_instruction_14 : decode cX16_instruction 14 = .ok (.iadd, 1) := by decide +kernel
theorem dX16_instruction_15 : decode cX16_instruction 15 = .ok (.iconst 4, 1) := by decide +kernel
theorem dX16_instruction_16 : decode cX16_instruction 16 = .ok (.invokevirtual 218, 3) := by decide +kernel
theorem dX16_instruction_19 : decode cX16_instruction 19 = .ok (.ifCond .ne 7, 3) := by decide +kernel
theorem dX16_instruction_22 : decode cX16_instruction 22 = .ok (.ldc2_w 175, 3) := by decide +kernel
theorem dX16_instruction_25 : decode cX16_instruction 25 = .ok (.lreturn, 1) := by decide +kernel
theorem dX16_instruction_26 : decode cX16_instruction 26 = .ok (.aload_n 0, 1) := by decide +kernel
theorem dX16_instruction_27 : decode cX16_instruction 27 = .ok (.iload_n 1, 1) := by decide +kernel
theorem dX16_instruction_28 : decode cX16_instruction 28 = .ok (.iload_n 2, 1) := by decide +kernel
theorem dX16_instruction_29 : decode cX16_instruction 29 = .ok (.invokevirtual 517, 3) := by decide +kernel
theorem dX16_instruction_32 : decode cX16_instruction 32 = .ok (.aload_n 0, 1) := by decide +kernel
theorem dX16_instruction_33 : decode cX16_instruction 33 = .ok (.iload_n 1, 1) := by decide +kernel
theorem dX16_instruction_34 : decode cX16_instruction 34 = .ok (.iload_n 2, 1) := by decide +kernel
theorem dX16_instruction_35 : decode cX16_instruction 35 = .ok (.iconst 1, 1) := by decide +kernel
theorem dX16_instruction_36 : decode cX16_instruction 36 = .ok (.iadd, 1) := by decide +kernel
theorem dX16_instruction_37 : decode cX16_instruction 37 = .ok (.invokevirtual 517, 3) := by decide +kernel
theorem dX16_instruction_40 : decode cX16_instruction 40 = .ok (.bipush 8, 2) := by decide +kernel
theorem dX16_instruction_42 : decode cX16_instruction 42 = .ok (.ishl, 1) := by decide +kernel
theorem dX16_instruction_43 : decode cX16_instruction 43 = .ok (.ior, 1) := by decide +kernel
theorem dX16_instruction_44 : decode cX16_instruction 44 = .ok (.istore_n 3, 1) := by decide +kernel
theorem dX16_instruction_45 : decode cX16_instruction 45 = .ok (.iload_n 3, 1) := by decide +kernel
theorem dX16_instruction_46 : decode cX16_instruction 46 = .ok (.iconst 3, 1) := by decide +kernel
theorem dX16_instruction_47 : decode cX16_instruction 47 = .ok (.iand, 1) := by decide +kernel
theorem dX16_instruction_48 : decode cX16_instruction 48 = .ok (.iconst 3, 1) := by decide +kernel
theorem dX16_instruction_49 : decode cX16_instruction 49 = .ok (.if_icmp .eq 6, 3) := by decide +kernel
theorem dX16_instruction_52 : decode cX16_instruction 52 = .ok (.iload_n 3, 1) := by decide +kernel
theorem dX16_instruction_53 : decode cX16_instruction 53 = .ok (.i2l, 1) := by decide +kernel
theorem dX16_instruction_54 : decode cX16_instruction 54 = .ok (.lreturn, 1) := by decide +kernel
theorem dX16_instruction_55 : decode cX16_instruction 55 = .ok (.aload_n 0, 1) := by decide +kernel
theorem dX16_instruction_56 : decode cX16_instruction 56 = .ok (.iload_n 1, 1) := by decide +kernel
theorem dX16_instruction_57 : decode cX16_instruction 57 = .ok (.iload_n 2, 1) := by decide +kernel
theorem dX16_instruction_58 : decode cX16_instruction 58 = .ok (.iconst 2, 1) := by decide +kernel
theorem dX16_instruction_59 : decode cX16_instruction 59 = .ok (.iadd, 1) := by decide +kernel
theorem dX16_instruction_60 : decode cX16_instruction 60 = .ok (.iconst 4, 1) := by decide +kernel
theorem dX16_instruction_61 : decode cX16_instruction 61 = .ok (.invokevirtual 218, 3) := by decide +kernel
theorem dX16_instruction_64 : decode cX16_instruction 64 = .ok (.ifCond .eq 15, 3) := by decide +kernel
theorem dX16_instruction_67 : decode cX16_instruction 67 = .ok (.aload_n 0, 1) := by decide +kernel
theorem dX16_instruction_68 : decode cX16_instruction 68 = .ok (.iload_n 1, 1) := by decide +kernel
theorem dX16_instruction_69 : decode cX16_instruction 69 = .ok (.iload_n 2, 1) := by decide +kernel
theorem dX16_instruction_70 : decode cX16_instruction 70 = .ok (.iconst 3, 1) := by decide +kernel
theorem dX16_instruction_71 : decode cX16_instruction 71 = .ok (.iadd, 1) := by decide +kernel
theorem dX16_instruction_72 : decode cX16_instruction 72 = .ok (.iconst 4, 1) := by decide +kernel
theorem dX16_instruction_73 : decode cX16_instruction 73 = .ok (.invokevirtual 218, 3) := by decide +kernel
theorem dX16_instruction_76 : decode cX16_instruction 76 = .ok (.ifCond .ne 7, 3) := by decide +kernel
theorem dX16_instruction_79 : decode cX16_instruction 79 = .ok (.ldc2_w 175, 3) := by decide +kernel
theorem dX16_instruction_82 : decode cX16_instruction 82 = .ok (.lreturn, 1) := by decide +kernel
theorem dX16_instruction_83 : decode cX16_instruction 83 = .ok (.iload_n 3, 1) := by decide +kernel
theorem dX16_instruction_84 : decode cX16_instruction 84 = .ok (.aload_n 0, 1) := by decide +kernel
theorem dX16_instruction_85 : decode cX16_instruction 85 = .ok (.iload_n 1, 1) := by decide +kernel
theorem dX16_instruction_86 : decode cX16_instruction 86 = .ok (.iload_n 2, 1) := by decide +kernel
theorem dX16_instruction_87 : decode cX16_instruction 87 = .ok (.iconst 2, 1) := by decide +kernel
theorem dX16_instruction_88 : decode cX16_instruction 88 = .ok (.iadd, 1) := by decide +kernel
theorem dX16_instruction_89 : decode cX16_instruction 89 = .ok (.invokevirtual 517, 3) := by decide +kernel
theorem dX16_instruction_92 : decode cX16_instruction 92 = .ok (.bipush 16, 2) := by decide +kernel
theorem dX16_instruction_94 : decode cX16_instruction 94 = .ok (.ishl, 1) := by decide +kernel
theorem dX16_instruction_95 : decode cX16_instruction 95 = .ok (.ior, 1) := by decide +kernel
theorem dX16_instruction_96 : decode cX16_instruction 96 = .ok (.aload_n 0, 1) := by decide +kernel
theorem dX16_instruction_97 : decode cX16_instruction 97 = .ok (.iload_n 1, 1) := by decide +kernel
theorem dX16_instruction_98 : decode cX16_instruction 98 = .ok (.iload_n 2, 1) := by decide +kernel
theorem dX16_instruction_99 : decode cX16_instruction 99 = .ok (.iconst 3, 1) := by decide +kernel
theorem dX16_instruction_100 : decode cX16_instruction 100 = .ok (.iadd, 1) := by decide +kernel
theorem dX16_instruction_101 : decode cX16_instruction 101 = .ok (.invokevirtual 517, 3) := by decide +kernel
theorem dX16_instruction_104 : decode cX16_instruction 104 = .ok (.bipush 24, 2) := by decide +kernel
theorem dX16_instruction_106 : decode cX16_instruction 106 = .ok (.ishl, 1) := by decide +kernel
theorem dX16_instruction_107 : decode cX16_instruction 107 = .ok (.ior, 1) := by decide +kernel
theorem dX16_instruction_108 : decode cX16_instruction 108 = .ok (.invokestatic 390, 3) := by decide +kernel
theorem dX16_instruction_111 : decode cX16_instruction 111 = .ok (.lreturn, 1) := by decide +kernel
theorem dX16_descriptor_0 : decode cX16_descriptor 0 = .ok (.iload_n 1, 1) := by decide +kernel
theorem dX16_descriptor_1 : decode cX16_descriptor 1 = .ok (.ifCond .lt 28, 3) := by decide +kernel
theorem dX16_descriptor_4 : decode cX16_descriptor 4 = .ok (.iload_n 1, 1) := by decide +kernel
theorem dX16_descriptor_5 : decode cX16_descriptor 5 = .ok (.bipush 15, 2) := by decide +kernel
theorem dX16_descriptor_7 : decode cX16_descriptor 7 = .ok (.if_icmp .gt 22, 3) := by decide +kernel
theorem dX16_descriptor_10 : decode cX16_descriptor 10 = .ok (.iload_n 2, 1) := by decide +kernel
theorem dX16_descriptor_11 : decode cX16_descriptor 11 = .ok (.ifCond .lt 18, 3) := by decide +kernel
theorem dX16_descriptor_14 : decode cX16_descriptor 14 = .ok (.iload_n 2, 1) := by decide +kernel
theorem dX16_descriptor_15 : decode cX16_descriptor 15 = .ok (.bipush 15, 2) := by decide +kernel
theorem dX16_descriptor_17 : decode cX16_descriptor 17 = .ok (.if_icmp .gt 12, 3) := by decide +kernel
theorem dX16_descriptor_20 : decode cX16_descriptor 20 = .ok (.iload_n 3, 1) := by decide +kernel
theorem dX16_descriptor_21 : decode cX16_descriptor 21 = .ok (.ifCond .lt 8, 3) := by decide +kernel
theorem dX16_descriptor_24 : decode cX16_descriptor 24 = .ok (.iload_n 3, 1) := by decide +kernel
theorem dX16_descriptor_25 : decode cX16_descriptor 25 = .ok (.iconst 4, 1) := by decide +kernel
theorem dX16_descriptor_26 : decode cX16_descriptor 26 = .ok (.if_icmp .le 5, 3) := by decide +kernel
theorem dX16_descriptor_29 : decode cX16_descriptor 29 = .ok (.iconst (-1), 1) := by decide +kernel
theorem dX16_descriptor_30 : decode cX16_descriptor 30 = .ok (.ireturn, 1) := by decide +kernel
theorem dX16_descriptor_31 : decode cX16_descriptor 31 = .ok (.aload_n 0, 1) := by decide +kernel
theorem dX16_descriptor_32 : decode cX16_descriptor 32 = .ok (.getfield 57, 3) := by decide +kernel
theorem dX16_descriptor_35 : decode cX16_descriptor 35 = .ok (.bipush 16, 2) := by decide +kernel
theorem dX16_descriptor_37 : decode cX16_descriptor 37 = .ok (.iload_n 1, 1) := by decide +kernel
theorem dX16_descriptor_38 : decode cX16_descriptor 38 = .ok (.imul, 1) := by decide +kernel
theorem dX16_descriptor_39 : decode cX16_descriptor 39 = .ok (.iload_n 2, 1) := by decide +kernel
theorem dX16_descriptor_40 : decode cX16_descriptor 40 = .ok (.iadd, 1) := by decide +kernel
theorem dX16_descriptor_41 : decode cX16_descriptor 41 = .ok (.iaload, 1) := by decide +kernel
theorem dX16_descriptor_42 : decode cX16_descriptor 42 = .ok (.istore 4, 2) := by decide +kernel
theorem dX16_descriptor_44 : decode cX16_descriptor 44 = .ok (.iload 4, 2) := by decide +kernel
theorem dX16_descriptor_46 : decode cX16_descriptor 46 = .ok (.iconst (-1), 1) := by decide +kernel
theorem dX16_descriptor_47 : decode cX16_descriptor 47 = .ok (.if_icmp .ne 13, 3) := by decide +kernel
theorem dX16_descriptor_50 : decode cX16_descriptor 50 = .ok (.iload_n 3, 1) := by decide +kernel
theorem dX16_descriptor_51 : decode cX16_descriptor 51 = .ok (.ifCond .ne 7, 3) := by decide +kernel
theorem dX16_descriptor_54 : decode cX16_descriptor 54 = .ok (.iconst 0, 1) := by decide +kernel
theorem dX16_descriptor_55 : decode cX16_descriptor 55 = .ok (.goto 4, 3) := by decide +kernel
theorem dX16_descriptor_58 : decode cX16_descriptor 58 = .ok (.iconst (-1), 1) := by decide +kernel
theorem dX16_descriptor_59 : decode cX16_descriptor 59 = .ok (.ireturn, 1) := by decide +kernel
theorem dX16_descriptor_60 : decode cX16_descriptor 60 = .ok (.iload_n 3, 1) := by decide +kernel
theorem dX16_descriptor_61 : decode cX16_descriptor 61 = .ok (.tableswitch 126 0 3 #[31, 39, 46, 103], 31) := by decide +kernel
theorem dX16_descriptor_92 : decode cX16_descriptor 92 = .ok (.aload_n 0, 1) := by decide +kernel
theorem dX16_descriptor_93 : decode cX16_descriptor 93 = .ok (.getfield 73, 3) := by decide +kernel
theorem dX16_descriptor_96 : decode cX16_descriptor 96 = .ok (.iload 4, 2) := by decide +kernel
theorem dX16_descriptor_98 : decode cX16_descriptor 98 = .ok (.iaload, 1) := by decide +kernel
theorem dX16_descriptor_99 : decode cX16_descriptor 99 = .ok (.ireturn, 1) := by decide +kernel
theorem dX16_descriptor_100 : decode cX16_descriptor 100 = .ok (.aload_n 0, 1) := by decide +kernel
theorem dX16_descriptor_101 : decode cX16_descriptor 101 = .ok (.iload 4, 2) := by decide +kernel
theorem dX16_descriptor_103 : decode cX16_descriptor 103 = .ok (.invokevirtual 240, 3) := by decide +kernel
theorem dX16_descriptor_106 : decode cX16_descriptor 106 = .ok (.ireturn, 1) := by decide +kernel
theorem dX16_descriptor_107 : decode cX16_descriptor 107 = .ok (.aload_n 0, 1) := by decide +kernel
theorem dX16_descriptor_108 : decode cX16_descriptor 108 = .ok (.getfield 73, 3) := by decide +kernel
theorem dX16_descriptor_111 : decode cX16_descriptor 111 = .ok (.iload 4, 2) := by decide +kernel
theorem dX16_descriptor_113 : decode cX16_descriptor 113 = .ok (.iaload, 1) := by decide +kernel
theorem dX16_descriptor_114 : decode cX16_descriptor 114 = .ok (.iconst 3, 1) := by decide +kernel
theorem dX16_descriptor_115 : decode cX16_descriptor 115 = .ok (.if_icmp .ne 18, 3) := by decide +kernel
theorem dX16_descriptor_118 : decode cX16_descriptor 118 = .ok (.aload_n 0, 1) := by decide +kernel
theorem dX16_descriptor_119 : decode cX16_descriptor 119 = .ok (.getfield 100, 3) := by decide +kernel
theorem dX16_descriptor_122 : decode cX16_descriptor 122 = .ok (.aload_n 0, 1) := by decide +kernel
theorem dX16_descriptor_123 : decode cX16_descriptor 123 = .ok (.getfield 76, 3) := by decide +kernel
theorem dX16_descriptor_126 : decode cX16_descriptor 126 = .ok (.iload 4, 2) := by decide +kernel
theorem dX16_descriptor_128 : decode cX16_descriptor 128 = .ok (.iaload, 1) := by decide +kernel
theorem dX16_descriptor_129 : decode cX16_descriptor 129 = .ok (.iaload, 1) := by decide +kernel
theorem dX16_descriptor_130 : decode cX16_descriptor 130 = .ok (.goto 33, 3) := by decide +kernel
theorem dX16_descriptor_133 : decode cX16_descriptor 133 = .ok (.aload_n 0, 1) := by decide +kernel
theorem dX16_descriptor_134 : decode cX16_descriptor 134 = .ok (.getfield 73, 3) := by decide +kernel
theorem dX16_descriptor_137 : decode cX16_descriptor 137 = .ok (.iload 4, 2) := by decide +kernel
theorem dX16_descriptor_139 : decode cX16_descriptor 139 = .ok (.iaload, 1) := by decide +kernel
theorem dX16_descriptor_140 : decode cX16_descriptor 140 = .ok (.iconst 4, 1) := by decide +kernel
theorem dX16_descriptor_141 : decode cX16_descriptor 141 = .ok (.if_icmp .ne 10, 3) := by decide +kernel
theorem dX16_descriptor_144 : decode cX16_descriptor 144 = .ok (.aload_n 0, 1) := by decide +kernel
theorem dX16_descriptor_145 : decode cX16_descriptor 145 = .ok (.getfield 122, 3) := by decide +kernel
theorem dX16_descriptor_148 : decode cX16_descriptor 148 = .ok (.goto 15, 3) := by decide +kernel
theorem dX16_descriptor_151 : decode cX16_descriptor 151 = .ok (.aload_n 0, 1) := by decide +kernel
theorem dX16_descriptor_152 : decode cX16_descriptor 152 = .ok (.getfield 94, 3) := by decide +kernel
theorem dX16_descriptor_155 : decode cX16_descriptor 155 = .ok (.aload_n 0, 1) := by decide +kernel
theorem dX16_descriptor_156 : decode cX16_descriptor 156 = .ok (.getfield 76, 3) := by decide +kernel
theorem dX16_descriptor_159 : decode cX16_descriptor 159 = .ok (.iload 4, 2) := by decide +kernel
theorem dX16_descriptor_161 : decode cX16_descriptor 161 = .ok (.iaload, 1) := by decide +kernel
theorem dX16_descriptor_162 : decode cX16_descriptor 162 = .ok (.iaload, 1) := by decide +kernel
theorem dX16_descriptor_163 : decode cX16_descriptor 163 = .ok (.ireturn, 1) := by decide +kernel
theorem dX16_descriptor_164 : decode cX16_descriptor 164 = .ok (.aload_n 0, 1) := by decide +kernel
theorem dX16_descriptor_165 : decode cX16_descriptor 165 = .ok (.getfield 73, 3) := by decide +kernel
theorem dX16_descriptor_168 : decode cX16_descriptor 168 = .ok (.iload 4, 2) := by decide +kernel
theorem dX16_descriptor_170 : decode cX16_descriptor 170 = .ok (.iaload, 1) := by decide +kernel
theorem dX16_descriptor_171 : decode cX16_descriptor 171 = .ok (.iconst 3, 1) := by decide +kernel
theorem dX16_descriptor_172 : decode cX16_descriptor 172 = .ok (.if_icmp .ne 13, 3) := by decide +kernel
theorem dX16_descriptor_175 : decode cX16_descriptor 175 = .ok (.aload_n 0, 1) := by decide +kernel
theorem dX16_descriptor_176 : decode cX16_descriptor 176 = .ok (.getfield 79, 3) := by decide +kernel
theorem dX16_descriptor_179 : decode cX16_descriptor 179 = .ok (.iload 4, 2) := by decide +kernel
theorem dX16_descriptor_181 : decode cX16_descriptor 181 = .ok (.iaload, 1) := by decide +kernel
theorem dX16_descriptor_182 : decode cX16_descriptor 182 = .ok (.goto 4, 3) := by decide +kernel
theorem dX16_descriptor_185 : decode cX16_descriptor 185 = .ok (.iconst 0, 1) := by decide +kernel
theorem dX16_descriptor_186 : decode cX16_descriptor 186 = .ok (.ireturn, 1) := by decide +kernel
theorem dX16_descriptor_187 : decode cX16_descriptor 187 = .ok (.aload_n 0, 1) := by decide +kernel
theorem dX16_descriptor_188 : decode cX16_descriptor 188 = .ok (.getfield 82, 3) := by decide +kernel
theorem dX16_descriptor_191 : decode cX16_descriptor 191 = .ok (.iload 4, 2) := by decide +kernel
theorem dX16_descriptor_193 : decode cX16_descriptor 193 = .ok (.iaload, 1) := by decide +kernel
theorem dX16_descriptor_194 : decode cX16_descriptor 194 = .ok (.ireturn, 1) := by decide +kernel
theorem dX16_heldByte_0 : decode cX16_heldByte 0 = .ok (.aload_n 0, 1) := by decide +kernel
theorem dX16_heldByte_1 : decode cX16_heldByte 1 = .ok (.iload_n 1, 1) := by decide +kernel
theorem dX16_heldByte_2 : decode cX16_heldByte 2 = .ok (.iload_n 2, 1) := by decide +kernel
theorem dX16_heldByte_3 : decode cX16_heldByte 3 = .ok (.iconst 2, 1) := by decide +kernel
theorem dX16_heldByte_4 : decode cX16_heldByte 4 = .ok (.invokevirtual 520, 3) := by decide +kernel
theorem dX16_heldByte_7 : decode cX16_heldByte 7 = .ok (.istore 4, 2) := by decide +kernel
theorem dX16_heldByte_9 : decode cX16_heldByte 9 = .ok (.iload_n 3, 1) := by decide +kernel
theorem dX16_heldByte_10 : decode cX16_heldByte 10 = .ok (.ifCond .lt 9, 3) := by decide +kernel
theorem dX16_heldByte_13 : decode cX16_heldByte 13 = .ok (.iload_n 3, 1) := by decide +kernel
theorem dX16_heldByte_14 : decode cX16_heldByte 14 = .ok (.iload 4, 2) := by decide +kernel
theorem dX16_heldByte_16 : decode cX16_heldByte 16 = .ok (.if_icmp .lt 5, 3) := by decide +kernel
theorem dX16_heldByte_19 : decode cX16_heldByte 19 = .ok (.iconst (-1), 1) := by decide +kernel
theorem dX16_heldByte_20 : decode cX16_heldByte 20 = .ok (.ireturn, 1) := by decide +kernel
theorem dX16_heldByte_21 : decode cX16_heldByte 21 = .ok (.aload_n 0, 1) := by decide +kernel
theorem dX16_heldByte_22 : decode cX16_heldByte 22 = .ok (.getfield 57, 3) := by decide +kernel
theorem dX16_heldByte_25 : decode cX16_heldByte 25 = .ok (.bipush 16, 2) := by decide +kernel
theorem dX16_heldByte_27 : decode cX16_heldByte 27 = .ok (.iload_n 1, 1) := by decide +kernel
theorem dX16_heldByte_28 : decode cX16_heldByte 28 = .ok (.imul, 1) := by decide +kernel
theorem dX16_heldByte_29 : decode cX16_heldByte 29 = .ok (.iload_n 2, 1) := by decide +kernel
theorem dX16_heldByte_30 : decode cX16_heldByte 30 = .ok (.iadd, 1) := by decide +kernel
theorem dX16_heldByte_31 : decode cX16_heldByte 31 = .ok (.iaload, 1) := by decide +kernel
theorem dX16_heldByte_32 : decode cX16_heldByte 32 = .ok (.istore 5, 2) := by decide +kernel
theorem dX16_heldByte_34 : decode cX16_heldByte 34 = .ok (.aload_n 0, 1) := by decide +kernel
theorem dX16_heldByte_35 : decode cX16_heldByte 35 = .ok (.getfield 73, 3) := by decide +kernel
theorem dX16_heldByte_38 : decode cX16_heldByte 38 = .ok (.iload 5, 2) := by decide +kernel
theorem dX16_heldByte_40 : decode cX16_heldByte 40 = .ok (.iaload, 1) := by decide +kernel
theorem dX16_heldByte_41 : decode cX16_heldByte 41 = .ok (.iconst 3, 1) := by decide +kernel
theorem dX16_heldByte_42 : decode cX16_heldByte 42 = .ok (.if_icmp .ne 24, 3) := by decide +kernel
theorem dX16_heldByte_45 : decode cX16_heldByte 45 = .ok (.aload_n 0, 1) := by decide +kernel
theorem dX16_heldByte_46 : decode cX16_heldByte 46 = .ok (.getfield 103, 3) := by decide +kernel
theorem dX16_heldByte_49 : decode cX16_heldByte 49 = .ok (.sipush 512, 3) := by decide +kernel
theorem dX16_heldByte_52 : decode cX16_heldByte 52 = .ok (.aload_n 0, 1) := by decide +kernel
theorem dX16_heldByte_53 : decode cX16_heldByte 53 = .ok (.getfield 76, 3) := by decide +kernel
theorem dX16_heldByte_56 : decode cX16_heldByte 56 = .ok (.iload 5, 2) := by decide +kernel
theorem dX16_heldByte_58 : decode cX16_heldByte 58 = .ok (.iaload, 1) := by decide +kernel
theorem dX16_heldByte_59 : decode cX16_heldByte 59 = .ok (.imul, 1) := by decide +kernel
theorem dX16_heldByte_60 : decode cX16_heldByte 60 = .ok (.iload_n 3, 1) := by decide +kernel
theorem dX16_heldByte_61 : decode cX16_heldByte 61 = .ok (.iadd, 1) := by decide +kernel
theorem dX16_heldByte_62 : decode cX16_heldByte 62 = .ok (.iaload, 1) := by decide +kernel
theorem dX16_heldByte_63 : decode cX16_heldByte 63 = .ok (.goto 41, 3) := by decide +kernel
theorem dX16_heldByte_66 : decode cX16_heldByte 66 = .ok (.aload_n 0, 1) := by decide +kernel
theorem dX16_heldByte_67 : decode cX16_heldByte 67 = .ok (.getfield 73, 3) := by decide +kernel
theorem dX16_heldByte_70 : decode cX16_heldByte 70 = .ok (.iload 5, 2) := by decide +kernel
