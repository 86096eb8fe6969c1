theorem dX18_twos_136 : decode cX18_twos 136 = .ok (.if_icmp .ne 9, 3) := by decide +kernel
theorem dX18_twos_139 : decode cX18_twos 139 = .ok (.ldc2_w 134, 3) := by decide +kernel
theorem dX18_twos_142 : decode cX18_twos 142 = .ok (.goto 21, 3) := by decide +kernel
theorem dX18_twos_145 : decode cX18_twos 145 = .ok (.aload_n 0, 1) := by decide +kernel
theorem dX18_twos_146 : decode cX18_twos 146 = .ok (.getfield 80, 3) := by decide +kernel
theorem dX18_twos_149 : decode cX18_twos 149 = .ok (.bipush 6, 2) := by decide +kernel
theorem dX18_twos_151 : decode cX18_twos 151 = .ok (.if_icmp .ne 9, 3) := by decide +kernel
theorem dX18_twos_154 : decode cX18_twos 154 = .ok (.ldc2_w 136, 3) := by decide +kernel
theorem dX18_twos_157 : decode cX18_twos 157 = .ok (.goto 6, 3) := by decide +kernel
theorem dX18_twos_160 : decode cX18_twos 160 = .ok (.ldc2_w 138, 3) := by decide +kernel
theorem dX18_twos_163 : decode cX18_twos 163 = .ok (.invokevirtual 65, 3) := by decide +kernel
theorem dX18_twos_166 : decode cX18_twos 166 = .ok (.aload_n 0, 1) := by decide +kernel
theorem dX18_twos_167 : decode cX18_twos 167 = .ok (.aload_n 0, 1) := by decide +kernel
theorem dX18_twos_168 : decode cX18_twos 168 = .ok (.getfield 68, 3) := by decide +kernel
theorem dX18_twos_171 : decode cX18_twos 171 = .ok (.invokevirtual 71, 3) := by decide +kernel
theorem dX18_twos_174 : decode cX18_twos 174 = .ok (.aload_n 0, 1) := by decide +kernel
theorem dX18_twos_175 : decode cX18_twos 175 = .ok (.aload_n 0, 1) := by decide +kernel
theorem dX18_twos_176 : decode cX18_twos 176 = .ok (.getfield 74, 3) := by decide +kernel
theorem dX18_twos_179 : decode cX18_twos 179 = .ok (.invokevirtual 71, 3) := by decide +kernel
theorem dX18_twos_182 : decode cX18_twos 182 = .ok (.aload_n 0, 1) := by decide +kernel
theorem dX18_twos_183 : decode cX18_twos 183 = .ok (.iload_n 2, 1) := by decide +kernel
theorem dX18_twos_184 : decode cX18_twos 184 = .ok (.ifCond .eq 10, 3) := by decide +kernel
theorem dX18_twos_187 : decode cX18_twos 187 = .ok (.aload_n 0, 1) := by decide +kernel
theorem dX18_twos_188 : decode cX18_twos 188 = .ok (.getfield 77, 3) := by decide +kernel
theorem dX18_twos_191 : decode cX18_twos 191 = .ok (.goto 10, 3) := by decide +kernel
theorem dX18_twos_194 : decode cX18_twos 194 = .ok (.aload_n 0, 1) := by decide +kernel
theorem dX18_twos_195 : decode cX18_twos 195 = .ok (.getfield 20, 3) := by decide +kernel
theorem dX18_twos_198 : decode cX18_twos 198 = .ok (.bipush 20, 2) := by decide +kernel
theorem dX18_twos_200 : decode cX18_twos 200 = .ok (.ishr, 1) := by decide +kernel
theorem dX18_twos_201 : decode cX18_twos 201 = .ok (.invokevirtual 59, 3) := by decide +kernel
theorem dX18_twos_204 : decode cX18_twos 204 = .ok (.return_, 1) := by decide +kernel
theorem dX18_loads_0 : decode cX18_loads 0 = .ok (.aload_n 0, 1) := by decide +kernel
theorem dX18_loads_1 : decode cX18_loads 1 = .ok (.getfield 80, 3) := by decide +kernel
theorem dX18_loads_4 : decode cX18_loads 4 = .ok (.iconst 3, 1) := by decide +kernel
theorem dX18_loads_5 : decode cX18_loads 5 = .ok (.if_icmp .eq 11, 3) := by decide +kernel
theorem dX18_loads_8 : decode cX18_loads 8 = .ok (.aload_n 0, 1) := by decide +kernel
theorem dX18_loads_9 : decode cX18_loads 9 = .ok (.getfield 80, 3) := by decide +kernel
theorem dX18_loads_12 : decode cX18_loads 12 = .ok (.iconst 5, 1) := by decide +kernel
theorem dX18_loads_13 : decode cX18_loads 13 = .ok (.if_icmp .le 4, 3) := by decide +kernel
theorem dX18_loads_16 : decode cX18_loads 16 = .ok (.return_, 1) := by decide +kernel
theorem dX18_loads_17 : decode cX18_loads 17 = .ok (.aload_n 0, 1) := by decide +kernel
theorem dX18_loads_18 : decode cX18_loads 18 = .ok (.aload_n 0, 1) := by decide +kernel
theorem dX18_loads_19 : decode cX18_loads 19 = .ok (.getfield 80, 3) := by decide +kernel
theorem dX18_loads_22 : decode cX18_loads 22 = .ok (.ifCond .ne 9, 3) := by decide +kernel
theorem dX18_loads_25 : decode cX18_loads 25 = .ok (.ldc2_w 140, 3) := by decide +kernel
theorem dX18_loads_28 : decode cX18_loads 28 = .ok (.goto 48, 3) := by decide +kernel
theorem dX18_loads_31 : decode cX18_loads 31 = .ok (.aload_n 0, 1) := by decide +kernel
theorem dX18_loads_32 : decode cX18_loads 32 = .ok (.getfield 80, 3) := by decide +kernel
theorem dX18_loads_35 : decode cX18_loads 35 = .ok (.iconst 1, 1) := by decide +kernel
theorem dX18_loads_36 : decode cX18_loads 36 = .ok (.if_icmp .ne 9, 3) := by decide +kernel
theorem dX18_loads_39 : decode cX18_loads 39 = .ok (.ldc2_w 142, 3) := by decide +kernel
theorem dX18_loads_42 : decode cX18_loads 42 = .ok (.goto 34, 3) := by decide +kernel
theorem dX18_loads_45 : decode cX18_loads 45 = .ok (.aload_n 0, 1) := by decide +kernel
theorem dX18_loads_46 : decode cX18_loads 46 = .ok (.getfield 80, 3) := by decide +kernel
theorem dX18_loads_49 : decode cX18_loads 49 = .ok (.iconst 2, 1) := by decide +kernel
theorem dX18_loads_50 : decode cX18_loads 50 = .ok (.if_icmp .ne 9, 3) := by decide +kernel
theorem dX18_loads_53 : decode cX18_loads 53 = .ok (.ldc2_w 144, 3) := by decide +kernel
theorem dX18_loads_56 : decode cX18_loads 56 = .ok (.goto 20, 3) := by decide +kernel
theorem dX18_loads_59 : decode cX18_loads 59 = .ok (.aload_n 0, 1) := by decide +kernel
theorem dX18_loads_60 : decode cX18_loads 60 = .ok (.getfield 80, 3) := by decide +kernel
theorem dX18_loads_63 : decode cX18_loads 63 = .ok (.iconst 4, 1) := by decide +kernel
theorem dX18_loads_64 : decode cX18_loads 64 = .ok (.if_icmp .ne 9, 3) := by decide +kernel
theorem dX18_loads_67 : decode cX18_loads 67 = .ok (.ldc2_w 146, 3) := by decide +kernel
theorem dX18_loads_70 : decode cX18_loads 70 = .ok (.goto 6, 3) := by decide +kernel
theorem dX18_loads_73 : decode cX18_loads 73 = .ok (.ldc2_w 148, 3) := by decide +kernel
theorem dX18_loads_76 : decode cX18_loads 76 = .ok (.invokevirtual 65, 3) := by decide +kernel
theorem dX18_loads_79 : decode cX18_loads 79 = .ok (.aload_n 0, 1) := by decide +kernel
theorem dX18_loads_80 : decode cX18_loads 80 = .ok (.aload_n 0, 1) := by decide +kernel
theorem dX18_loads_81 : decode cX18_loads 81 = .ok (.getfield 68, 3) := by decide +kernel
theorem dX18_loads_84 : decode cX18_loads 84 = .ok (.invokevirtual 71, 3) := by decide +kernel
theorem dX18_loads_87 : decode cX18_loads 87 = .ok (.aload_n 0, 1) := by decide +kernel
theorem dX18_loads_88 : decode cX18_loads 88 = .ok (.aload_n 0, 1) := by decide +kernel
theorem dX18_loads_89 : decode cX18_loads 89 = .ok (.getfield 20, 3) := by decide +kernel
theorem dX18_loads_92 : decode cX18_loads 92 = .ok (.bipush 20, 2) := by decide +kernel
theorem dX18_loads_94 : decode cX18_loads 94 = .ok (.ishr, 1) := by decide +kernel
theorem dX18_loads_95 : decode cX18_loads 95 = .ok (.aload_n 0, 1) := by decide +kernel
theorem dX18_loads_96 : decode cX18_loads 96 = .ok (.getfield 74, 3) := by decide +kernel
theorem dX18_loads_99 : decode cX18_loads 99 = .ok (.invokevirtual 150, 3) := by decide +kernel
theorem dX18_loads_102 : decode cX18_loads 102 = .ok (.return_, 1) := by decide +kernel
theorem dX18_stores_0 : decode cX18_stores 0 = .ok (.aload_n 0, 1) := by decide +kernel
theorem dX18_stores_1 : decode cX18_stores 1 = .ok (.getfield 80, 3) := by decide +kernel
theorem dX18_stores_4 : decode cX18_stores 4 = .ok (.iconst 2, 1) := by decide +kernel
theorem dX18_stores_5 : decode cX18_stores 5 = .ok (.if_icmp .le 4, 3) := by decide +kernel
theorem dX18_stores_8 : decode cX18_stores 8 = .ok (.return_, 1) := by decide +kernel
theorem dX18_stores_9 : decode cX18_stores 9 = .ok (.aload_n 0, 1) := by decide +kernel
theorem dX18_stores_10 : decode cX18_stores 10 = .ok (.aload_n 0, 1) := by decide +kernel
theorem dX18_stores_11 : decode cX18_stores 11 = .ok (.getfield 80, 3) := by decide +kernel
theorem dX18_stores_14 : decode cX18_stores 14 = .ok (.ifCond .ne 9, 3) := by decide +kernel
theorem dX18_stores_17 : decode cX18_stores 17 = .ok (.ldc2_w 154, 3) := by decide +kernel
theorem dX18_stores_20 : decode cX18_stores 20 = .ok (.goto 20, 3) := by decide +kernel
theorem dX18_stores_23 : decode cX18_stores 23 = .ok (.aload_n 0, 1) := by decide +kernel
theorem dX18_stores_24 : decode cX18_stores 24 = .ok (.getfield 80, 3) := by decide +kernel
theorem dX18_stores_27 : decode cX18_stores 27 = .ok (.iconst 1, 1) := by decide +kernel
theorem dX18_stores_28 : decode cX18_stores 28 = .ok (.if_icmp .ne 9, 3) := by decide +kernel
theorem dX18_stores_31 : decode cX18_stores 31 = .ok (.ldc2_w 156, 3) := by decide +kernel
theorem dX18_stores_34 : decode cX18_stores 34 = .ok (.goto 6, 3) := by decide +kernel
theorem dX18_stores_37 : decode cX18_stores 37 = .ok (.ldc2_w 158, 3) := by decide +kernel
theorem dX18_stores_40 : decode cX18_stores 40 = .ok (.invokevirtual 65, 3) := by decide +kernel
theorem dX18_stores_43 : decode cX18_stores 43 = .ok (.aload_n 0, 1) := by decide +kernel
theorem dX18_stores_44 : decode cX18_stores 44 = .ok (.aload_n 0, 1) := by decide +kernel
theorem dX18_stores_45 : decode cX18_stores 45 = .ok (.getfield 77, 3) := by decide +kernel
theorem dX18_stores_48 : decode cX18_stores 48 = .ok (.invokevirtual 71, 3) := by decide +kernel
theorem dX18_stores_51 : decode cX18_stores 51 = .ok (.aload_n 0, 1) := by decide +kernel
theorem dX18_stores_52 : decode cX18_stores 52 = .ok (.aload_n 0, 1) := by decide +kernel
theorem dX18_stores_53 : decode cX18_stores 53 = .ok (.getfield 20, 3) := by decide +kernel
theorem dX18_stores_56 : decode cX18_stores 56 = .ok (.bipush 25, 2) := by decide +kernel
theorem dX18_stores_58 : decode cX18_stores 58 = .ok (.ishr, 1) := by decide +kernel
theorem dX18_stores_59 : decode cX18_stores 59 = .ok (.iconst 5, 1) := by decide +kernel
theorem dX18_stores_60 : decode cX18_stores 60 = .ok (.ishl, 1) := by decide +kernel
theorem dX18_stores_61 : decode cX18_stores 61 = .ok (.aload_n 0, 1) := by decide +kernel
theorem dX18_stores_62 : decode cX18_stores 62 = .ok (.getfield 68, 3) := by decide +kernel
theorem dX18_stores_65 : decode cX18_stores 65 = .ok (.ior, 1) := by decide +kernel
theorem dX18_stores_66 : decode cX18_stores 66 = .ok (.aload_n 0, 1) := by decide +kernel
theorem dX18_stores_67 : decode cX18_stores 67 = .ok (.getfield 74, 3) := by decide +kernel
theorem dX18_stores_70 : decode cX18_stores 70 = .ok (.invokevirtual 150, 3) := by decide +kernel
theorem dX18_stores_73 : decode cX18_stores 73 = .ok (.return_, 1) := by decide +kernel
theorem dX18_branches_0 : decode cX18_branches 0 = .ok (.aload_n 0, 1) := by decide +kernel
theorem dX18_branches_1 : decode cX18_branches 1 = .ok (.getfield 80, 3) := by decide +kernel
theorem dX18_branches_4 : decode cX18_branches 4 = .ok (.iconst 2, 1) := by decide +kernel
theorem dX18_branches_5 : decode cX18_branches 5 = .ok (.if_icmp .eq 11, 3) := by decide +kernel
theorem dX18_branches_8 : decode cX18_branches 8 = .ok (.aload_n 0, 1) := by decide +kernel
theorem dX18_branches_9 : decode cX18_branches 9 = .ok (.getfield 80, 3) := by decide +kernel
theorem dX18_branches_12 : decode cX18_branches 12 = .ok (.iconst 3, 1) := by decide +kernel
theorem dX18_branches_13 : decode cX18_branches 13 = .ok (.if_icmp .ne 4, 3) := by decide +kernel
theorem dX18_branches_16 : decode cX18_branches 16 = .ok (.return_, 1) := by decide +kernel
theorem dX18_branches_17 : decode cX18_branches 17 = .ok (.aload_n 0, 1) := by decide +kernel
theorem dX18_branches_18 : decode cX18_branches 18 = .ok (.aload_n 0, 1) := by decide +kernel
theorem dX18_branches_19 : decode cX18_branches 19 = .ok (.getfield 80, 3) := by decide +kernel
theorem dX18_branches_22 : decode cX18_branches 22 = .ok (.ifCond .ne 9, 3) := by decide +kernel
theorem dX18_branches_25 : decode cX18_branches 25 = .ok (.ldc2_w 160, 3) := by decide +kernel
theorem dX18_branches_28 : decode cX18_branches 28 = .ok (.goto 63, 3) := by decide +kernel
theorem dX18_branches_31 : decode cX18_branches 31 = .ok (.aload_n 0, 1) := by decide +kernel
theorem dX18_branches_32 : decode cX18_branches 32 = .ok (.getfield 80, 3) := by decide +kernel
theorem dX18_branches_35 : decode cX18_branches 35 = .ok (.iconst 1, 1) := by decide +kernel
theorem dX18_branches_36 : decode cX18_branches 36 = .ok (.if_icmp .ne 9, 3) := by decide +kernel
theorem dX18_branches_39 : decode cX18_branches 39 = .ok (.ldc2_w 162, 3) := by decide +kernel
theorem dX18_branches_42 : decode cX18_branches 42 = .ok (.goto 49, 3) := by decide +kernel
theorem dX18_branches_45 : decode cX18_branches 45 = .ok (.aload_n 0, 1) := by decide +kernel
theorem dX18_branches_46 : decode cX18_branches 46 = .ok (.getfield 80, 3) := by decide +kernel
theorem dX18_branches_49 : decode cX18_branches 49 = .ok (.iconst 4, 1) := by decide +kernel
theorem dX18_branches_50 : decode cX18_branches 50 = .ok (.if_icmp .ne 9, 3) := by decide +kernel
theorem dX18_branches_53 : decode cX18_branches 53 = .ok (.ldc2_w 164, 3) := by decide +kernel
theorem dX18_branches_56 : decode cX18_branches 56 = .ok (.goto 35, 3) := by decide +kernel
theorem dX18_branches_59 : decode cX18_branches 59 = .ok (.aload_n 0, 1) := by decide +kernel
theorem dX18_branches_60 : decode cX18_branches 60 = .ok (.getfield 80, 3) := by decide +kernel
theorem dX18_branches_63 : decode cX18_branches 63 = .ok (.iconst 5, 1) := by decide +kernel
theorem dX18_branches_64 : decode cX18_branches 64 = .ok (.if_icmp .ne 9, 3) := by decide +kernel
theorem dX18_branches_67 : decode cX18_branches 67 = .ok (.ldc2_w 166, 3) := by decide +kernel
theorem dX18_branches_70 : decode cX18_branches 70 = .ok (.goto 21, 3) := by decide +kernel
theorem dX18_branches_73 : decode cX18_branches 73 = .ok (.aload_n 0, 1) := by decide +kernel
theorem dX18_branches_74 : decode cX18_branches 74 = .ok (.getfield 80, 3) := by decide +kernel
theorem dX18_branches_77 : decode cX18_branches 77 = .ok (.bipush 6, 2) := by decide +kernel
theorem dX18_branches_79 : decode cX18_branches 79 = .ok (.if_icmp .ne 9, 3) := by decide +kernel
theorem dX18_branches_82 : decode cX18_branches 82 = .ok (.ldc2_w 168, 3) := by decide +kernel
theorem dX18_branches_85 : decode cX18_branches 85 = .ok (.goto 6, 3) := by decide +kernel
theorem dX18_branches_88 : decode cX18_branches 88 = .ok (.ldc2_w 170, 3) := by decide +kernel
theorem dX18_branches_91 : decode cX18_branches 91 = .ok (.invokevirtual 65, 3) := by decide +kernel
theorem dX18_branches_94 : decode cX18_branches 94 = .ok (.aload_n 0, 1) := by decide +kernel
theorem dX18_branches_95 : decode cX18_branches 95 = .ok (.aload_n 0, 1) := by decide +kernel
theorem dX18_branches_96 : decode cX18_branches 96 = .ok (.getfield 74, 3) := by decide +kernel
theorem dX18_branches_99 : decode cX18_branches 99 = .ok (.invokevirtual 71, 3) := by decide +kernel
theorem dX18_branches_102 : decode cX18_branches 102 = .ok (.aload_n 0, 1) := by decide +kernel
theorem dX18_branches_103 : decode cX18_branches 103 = .ok (.aload_n 0, 1) := by decide +kernel
theorem dX18_branches_104 : decode cX18_branches 104 = .ok (.getfield 77, 3) := by decide +kernel
theorem dX18_branches_107 : decode cX18_branches 107 = .ok (.invokevirtual 71, 3) := by decide +kernel
theorem dX18_branches_110 : decode cX18_branches 110 = .ok (.aload_n 0, 1) := by decide +kernel
theorem dX18_branches_111 : decode cX18_branches 111 = .ok (.aload_n 0, 1) := by decide +kernel
theorem dX18_branches_112 : decode cX18_branches 112 = .ok (.getfield 20, 3) := by decide +kernel
theorem dX18_branches_115 : decode cX18_branches 115 = .ok (.bipush 31, 2) := by decide +kernel
theorem dX18_branches_117 : decode cX18_branches 117 = .ok (.ishr, 1) := by decide +kernel
theorem dX18_branches_118 : decode cX18_branches 118 = .ok (.bipush 12, 2) := by decide +kernel
theorem dX18_branches_120 : decode cX18_branches 120 = .ok (.ishl, 1) := by decide +kernel
theorem dX18_branches_121 : decode cX18_branches 121 = .ok (.aload_n 0, 1) := by decide +kernel
theorem dX18_branches_122 : decode cX18_branches 122 = .ok (.bipush 7, 2) := by decide +kernel
theorem dX18_branches_124 : decode cX18_branches 124 = .ok (.iconst 1, 1) := by decide +kernel
theorem dX18_branches_125 : decode cX18_branches 125 = .ok (.invokevirtual 172, 3) := by decide +kernel
theorem dX18_branches_128 : decode cX18_branches 128 = .ok (.bipush 11, 2) := by decide +kernel
theorem dX18_branches_130 : decode cX18_branches 130 = .ok (.ishl, 1) := by decide +kernel
theorem dX18_branches_131 : decode cX18_branches 131 = .ok (.ior, 1) := by decide +kernel
theorem dX18_branches_132 : decode cX18_branches 132 = .ok (.aload_n 0, 1) := by decide +kernel
theorem dX18_branches_133 : decode cX18_branches 133 = .ok (.bipush 25, 2) := by decide +kernel
theorem dX18_branches_135 : decode cX18_branches 135 = .ok (.bipush 6, 2) := by decide +kernel
theorem dX18_branches_137 : decode cX18_branches 137 = .ok (.invokevirtual 172, 3) := by decide +kernel
theorem dX18_branches_140 : decode cX18_branches 140 = .ok (.iconst 5, 1) := by decide +kernel
theorem dX18_branches_141 : decode cX18_branches 141 = .ok (.ishl, 1) := by decide +kernel
theorem dX18_branches_142 : decode cX18_branches 142 = .ok (.ior, 1) := by decide +kernel
theorem dX18_branches_143 : decode cX18_branches 143 = .ok (.aload_n 0, 1) := by decide +kernel
theorem dX18_branches_144 : decode cX18_branches 144 = .ok (.bipush 8, 2) := by decide +kernel
theorem dX18_branches_146 : decode cX18_branches 146 = .ok (.iconst 4, 1) := by decide +kernel
theorem dX18_branches_147 : decode cX18_branches 147 = .ok (.invokevirtual 172, 3) := by decide +kernel
theorem dX18_branches_150 : decode cX18_branches 150 = .ok (.iconst 1, 1) := by decide +kernel
theorem dX18_branches_151 : decode cX18_branches 151 = .ok (.ishl, 1) := by decide +kernel
theorem dX18_branches_152 : decode cX18_branches 152 = .ok (.ior, 1) := by decide +kernel
theorem dX18_branches_153 : decode cX18_branches 153 = .ok (.invokevirtual 176, 3) := by decide +kernel
theorem dX18_branches_156 : decode cX18_branches 156 = .ok (.return_, 1) := by decide +kernel
theorem dX18_atomic_0 : decode cX18_atomic 0 = .ok (.aload_n 0, 1) := by decide +kernel
theorem dX18_atomic_1 : decode cX18_atomic 1 = .ok (.getfield 80, 3) := by decide +kernel
theorem dX18_atomic_4 : decode cX18_atomic 4 = .ok (.iconst 2, 1) := by decide +kernel
theorem dX18_atomic_5 : decode cX18_atomic 5 = .ok (.if_icmp .ne 15, 3) := by decide +kernel
theorem dX18_atomic_8 : decode cX18_atomic 8 = .ok (.iload_n 1, 1) := by decide +kernel
theorem dX18_atomic_9 : decode cX18_atomic 9 = .ok (.iconst 2, 1) := by decide +kernel
theorem dX18_atomic_10 : decode cX18_atomic 10 = .ok (.if_icmp .ne 11, 3) := by decide +kernel
theorem dX18_atomic_13 : decode cX18_atomic 13 = .ok (.aload_n 0, 1) := by decide +kernel
theorem dX18_atomic_14 : decode cX18_atomic 14 = .ok (.getfield 77, 3) := by decide +kernel
theorem dX18_atomic_17 : decode cX18_atomic 17 = .ok (.ifCond .eq 4, 3) := by decide +kernel
theorem dX18_atomic_20 : decode cX18_atomic 20 = .ok (.return_, 1) := by decide +kernel
theorem dX18_atomic_21 : decode cX18_atomic 21 = .ok (.iload_n 1, 1) := by decide +kernel
theorem dX18_atomic_22 : decode cX18_atomic 22 = .ok (.iconst 1, 1) := by decide +kernel
theorem dX18_atomic_23 : decode cX18_atomic 23 = .ok (.if_icmp .ne 7, 3) := by decide +kernel
theorem dX18_atomic_26 : decode cX18_atomic 26 = .ok (.iconst 1, 1) := by decide +kernel
theorem dX18_atomic_27 : decode cX18_atomic 27 = .ok (.goto 4, 3) := by decide +kernel
theorem dX18_atomic_30 : decode cX18_atomic 30 = .ok (.iconst 0, 1) := by decide +kernel
theorem dX18_atomic_31 : decode cX18_atomic 31 = .ok (.istore_n 2, 1) := by decide +kernel
theorem dX18_atomic_32 : decode cX18_atomic 32 = .ok (.iload_n 1, 1) := by decide +kernel
theorem dX18_atomic_33 : decode cX18_atomic 33 = .ok (.bipush 16, 2) := by decide +kernel
theorem dX18_atomic_35 : decode cX18_atomic 35 = .ok (.if_icmp .lt 13, 3) := by decide +kernel
theorem dX18_atomic_38 : decode cX18_atomic 38 = .ok (.iload_n 1, 1) := by decide +kernel
theorem dX18_atomic_39 : decode cX18_atomic 39 = .ok (.iconst 4, 1) := by decide +kernel
theorem dX18_atomic_40 : decode cX18_atomic 40 = .ok (.irem, 1) := by decide +kernel
theorem dX18_atomic_41 : decode cX18_atomic 41 = .ok (.ifCond .ne 7, 3) := by decide +kernel
theorem dX18_atomic_44 : decode cX18_atomic 44 = .ok (.iconst 1, 1) := by decide +kernel
theorem dX18_atomic_45 : decode cX18_atomic 45 = .ok (.goto 4, 3) := by decide +kernel
theorem dX18_atomic_48 : decode cX18_atomic 48 = .ok (.iconst 0, 1) := by decide +kernel
theorem dX18_atomic_49 : decode cX18_atomic 49 = .ok (.istore_n 3, 1) := by decide +kernel
theorem dX18_atomic_50 : decode cX18_atomic 50 = .ok (.iload_n 1, 1) := by decide +kernel
theorem dX18_atomic_51 : decode cX18_atomic 51 = .ok (.iconst 5, 1) := by decide +kernel
theorem dX18_atomic_52 : decode cX18_atomic 52 = .ok (.if_icmp .lt 19, 3) := by decide +kernel
theorem dX18_atomic_55 : decode cX18_atomic 55 = .ok (.iload_n 1, 1) := by decide +kernel
theorem dX18_atomic_56 : decode cX18_atomic 56 = .ok (.bipush 8, 2) := by decide +kernel
theorem dX18_atomic_58 : decode cX18_atomic 58 = .ok (.if_icmp .eq 13, 3) := by decide +kernel
theorem dX18_atomic_61 : decode cX18_atomic 61 = .ok (.iload_n 1, 1) := by decide +kernel
theorem dX18_atomic_62 : decode cX18_atomic 62 = .ok (.bipush 12, 2) := by decide +kernel
theorem dX18_atomic_64 : decode cX18_atomic 64 = .ok (.if_icmp .eq 7, 3) := by decide +kernel
theorem dX18_atomic_67 : decode cX18_atomic 67 = .ok (.iload_n 3, 1) := by decide +kernel
theorem dX18_atomic_68 : decode cX18_atomic 68 = .ok (.ifCond .eq 7, 3) := by decide +kernel
theorem dX18_atomic_71 : decode cX18_atomic 71 = .ok (.iconst 1, 1) := by decide +kernel
theorem dX18_atomic_72 : decode cX18_atomic 72 = .ok (.goto 4, 3) := by decide +kernel
theorem dX18_atomic_75 : decode cX18_atomic 75 = .ok (.iconst 0, 1) := by decide +kernel
theorem dX18_atomic_76 : decode cX18_atomic 76 = .ok (.istore 4, 2) := by decide +kernel
theorem dX18_atomic_78 : decode cX18_atomic 78 = .ok (.iload 4, 2) := by decide +kernel
theorem dX18_atomic_80 : decode cX18_atomic 80 = .ok (.ifCond .ne 4, 3) := by decide +kernel
theorem dX18_atomic_83 : decode cX18_atomic 83 = .ok (.return_, 1) := by decide +kernel
theorem dX18_atomic_84 : decode cX18_atomic 84 = .ok (.aload_n 0, 1) := by decide +kernel
theorem dX18_atomic_85 : decode cX18_atomic 85 = .ok (.iload_n 1, 1) := by decide +kernel
theorem dX18_atomic_86 : decode cX18_atomic 86 = .ok (.iconst 2, 1) := by decide +kernel
theorem dX18_atomic_87 : decode cX18_atomic 87 = .ok (.if_icmp .ne 9, 3) := by decide +kernel
theorem dX18_atomic_90 : decode cX18_atomic 90 = .ok (.ldc2_w 179, 3) := by decide +kernel
theorem dX18_atomic_93 : decode cX18_atomic 93 = .ok (.goto 17, 3) := by decide +kernel
theorem dX18_atomic_96 : decode cX18_atomic 96 = .ok (.iload_n 1, 1) := by decide +kernel
theorem dX18_atomic_97 : decode cX18_atomic 97 = .ok (.iconst 3, 1) := by decide +kernel
theorem dX18_atomic_98 : decode cX18_atomic 98 = .ok (.if_icmp .ne 9, 3) := by decide +kernel
theorem dX18_atomic_101 : decode cX18_atomic 101 = .ok (.ldc2_w 181, 3) := by decide +kernel
theorem dX18_atomic_104 : decode cX18_atomic 104 = .ok (.goto 6, 3) := by decide +kernel
theorem dX18_atomic_107 : decode cX18_atomic 107 = .ok (.ldc2_w 183, 3) := by decide +kernel
theorem dX18_atomic_110 : decode cX18_atomic 110 = .ok (.invokevirtual 65, 3) := by decide +kernel
theorem dX18_atomic_113 : decode cX18_atomic 113 = .ok (.aload_n 0, 1) := by decide +kernel
theorem dX18_atomic_114 : decode cX18_atomic 114 = .ok (.iconst 0, 1) := by decide +kernel
theorem dX18_atomic_115 : decode cX18_atomic 115 = .ok (.putfield 47, 3) := by decide +kernel
theorem dX18_atomic_118 : decode cX18_atomic 118 = .ok (.iload_n 1, 1) := by decide +kernel
theorem dX18_atomic_119 : decode cX18_atomic 119 = .ok (.iconst 2, 1) := by decide +kernel
theorem dX18_atomic_120 : decode cX18_atomic 120 = .ok (.if_icmp .eq 106, 3) := by decide +kernel
theorem dX18_atomic_123 : decode cX18_atomic 123 = .ok (.iload_n 1, 1) := by decide +kernel
theorem dX18_atomic_124 : decode cX18_atomic 124 = .ok (.iconst 3, 1) := by decide +kernel
theorem dX18_atomic_125 : decode cX18_atomic 125 = .ok (.if_icmp .eq 101, 3) := by decide +kernel
theorem dX18_atomic_128 : decode cX18_atomic 128 = .ok (.aload_n 0, 1) := by decide +kernel
theorem dX18_atomic_129 : decode cX18_atomic 129 = .ok (.iload_n 2, 1) := by decide +kernel
theorem dX18_atomic_130 : decode cX18_atomic 130 = .ok (.ifCond .eq 9, 3) := by decide +kernel
theorem dX18_atomic_133 : decode cX18_atomic 133 = .ok (.ldc2_w 185, 3) := by decide +kernel
theorem dX18_atomic_136 : decode cX18_atomic 136 = .ok (.goto 87, 3) := by decide +kernel
theorem dX18_atomic_139 : decode cX18_atomic 139 = .ok (.iload_n 1, 1) := by decide +kernel
theorem dX18_atomic_140 : decode cX18_atomic 140 = .ok (.ifCond .ne 9, 3) := by decide +kernel
theorem dX18_atomic_143 : decode cX18_atomic 143 = .ok (.ldc2_w 83, 3) := by decide +kernel
theorem dX18_atomic_146 : decode cX18_atomic 146 = .ok (.goto 77, 3) := by decide +kernel
theorem dX18_atomic_149 : decode cX18_atomic 149 = .ok (.iload_n 1, 1) := by decide +kernel
theorem dX18_atomic_150 : decode cX18_atomic 150 = .ok (.iconst 4, 1) := by decide +kernel
theorem dX18_atomic_151 : decode cX18_atomic 151 = .ok (.if_icmp .ne 9, 3) := by decide +kernel
theorem dX18_atomic_154 : decode cX18_atomic 154 = .ok (.ldc2_w 91, 3) := by decide +kernel
theorem dX18_atomic_157 : decode cX18_atomic 157 = .ok (.goto 66, 3) := by decide +kernel
theorem dX18_atomic_160 : decode cX18_atomic 160 = .ok (.iload_n 1, 1) := by decide +kernel
theorem dX18_atomic_161 : decode cX18_atomic 161 = .ok (.bipush 12, 2) := by decide +kernel
theorem dX18_atomic_163 : decode cX18_atomic 163 = .ok (.if_icmp .ne 9, 3) := by decide +kernel
theorem dX18_atomic_166 : decode cX18_atomic 166 = .ok (.ldc2_w 97, 3) := by decide +kernel
theorem dX18_atomic_169 : decode cX18_atomic 169 = .ok (.goto 54, 3) := by decide +kernel
theorem dX18_atomic_172 : decode cX18_atomic 172 = .ok (.iload_n 1, 1) := by decide +kernel
theorem dX18_atomic_173 : decode cX18_atomic 173 = .ok (.bipush 8, 2) := by decide +kernel
theorem dX18_atomic_175 : decode cX18_atomic 175 = .ok (.if_icmp .ne 9, 3) := by decide +kernel
theorem dX18_atomic_178 : decode cX18_atomic 178 = .ok (.ldc2_w 95, 3) := by decide +kernel
theorem dX18_atomic_181 : decode cX18_atomic 181 = .ok (.goto 42, 3) := by decide +kernel
theorem dX18_atomic_184 : decode cX18_atomic 184 = .ok (.iload_n 1, 1) := by decide +kernel
theorem dX18_atomic_185 : decode cX18_atomic 185 = .ok (.bipush 16, 2) := by decide +kernel
theorem dX18_atomic_187 : decode cX18_atomic 187 = .ok (.if_icmp .ne 9, 3) := by decide +kernel
theorem dX18_atomic_190 : decode cX18_atomic 190 = .ok (.ldc2_w 187, 3) := by decide +kernel
theorem dX18_atomic_193 : decode cX18_atomic 193 = .ok (.goto 30, 3) := by decide +kernel
theorem dX18_atomic_196 : decode cX18_atomic 196 = .ok (.iload_n 1, 1) := by decide +kernel
theorem dX18_atomic_197 : decode cX18_atomic 197 = .ok (.bipush 20, 2) := by decide +kernel
theorem dX18_atomic_199 : decode cX18_atomic 199 = .ok (.if_icmp .ne 9, 3) := by decide +kernel
theorem dX18_atomic_202 : decode cX18_atomic 202 = .ok (.ldc2_w 189, 3) := by decide +kernel
theorem dX18_atomic_205 : decode cX18_atomic 205 = .ok (.goto 18, 3) := by decide +kernel
theorem dX18_atomic_208 : decode cX18_atomic 208 = .ok (.iload_n 1, 1) := by decide +kernel
theorem dX18_atomic_209 : decode cX18_atomic 209 = .ok (.bipush 24, 2) := by decide +kernel
theorem dX18_atomic_211 : decode cX18_atomic 211 = .ok (.if_icmp .ne 9, 3) := by decide +kernel
theorem dX18_atomic_214 : decode cX18_atomic 214 = .ok (.ldc2_w 191, 3) := by decide +kernel
theorem dX18_atomic_217 : decode cX18_atomic 217 = .ok (.goto 6, 3) := by decide +kernel
theorem dX18_atomic_220 : decode cX18_atomic 220 = .ok (.ldc2_w 193, 3) := by decide +kernel
theorem dX18_atomic_223 : decode cX18_atomic 223 = .ok (.invokevirtual 50, 3) := by decide +kernel
theorem dX18_atomic_226 : decode cX18_atomic 226 = .ok (.aload_n 0, 1) := by decide +kernel
theorem dX18_atomic_227 : decode cX18_atomic 227 = .ok (.ldc2_w 195, 3) := by decide +kernel
theorem dX18_atomic_230 : decode cX18_atomic 230 = .ok (.invokevirtual 50, 3) := by decide +kernel
theorem dX18_atomic_233 : decode cX18_atomic 233 = .ok (.aload_n 0, 1) := by decide +kernel
theorem dX18_atomic_234 : decode cX18_atomic 234 = .ok (.bipush 25, 2) := by decide +kernel
theorem dX18_atomic_236 : decode cX18_atomic 236 = .ok (.iconst 2, 1) := by decide +kernel
theorem dX18_atomic_237 : decode cX18_atomic 237 = .ok (.invokevirtual 172, 3) := by decide +kernel
theorem dX18_atomic_240 : decode cX18_atomic 240 = .ok (.ifCond .eq 44, 3) := by decide +kernel
theorem dX18_atomic_243 : decode cX18_atomic 243 = .ok (.aload_n 0, 1) := by decide +kernel
theorem dX18_atomic_244 : decode cX18_atomic 244 = .ok (.aload_n 0, 1) := by decide +kernel
theorem dX18_atomic_245 : decode cX18_atomic 245 = .ok (.bipush 25, 2) := by decide +kernel
theorem dX18_atomic_247 : decode cX18_atomic 247 = .ok (.iconst 2, 1) := by decide +kernel
theorem dX18_atomic_248 : decode cX18_atomic 248 = .ok (.invokevirtual 172, 3) := by decide +kernel
theorem dX18_atomic_251 : decode cX18_atomic 251 = .ok (.iconst 1, 1) := by decide +kernel
theorem dX18_atomic_252 : decode cX18_atomic 252 = .ok (.if_icmp .ne 9, 3) := by decide +kernel
theorem dX18_atomic_255 : decode cX18_atomic 255 = .ok (.ldc2_w 197, 3) := by decide +kernel
theorem dX18_atomic_258 : decode cX18_atomic 258 = .ok (.goto 23, 3) := by decide +kernel
theorem dX18_atomic_261 : decode cX18_atomic 261 = .ok (.aload_n 0, 1) := by decide +kernel
theorem dX18_atomic_262 : decode cX18_atomic 262 = .ok (.bipush 25, 2) := by decide +kernel
theorem dX18_atomic_264 : decode cX18_atomic 264 = .ok (.iconst 2, 1) := by decide +kernel
theorem dX18_atomic_265 : decode cX18_atomic 265 = .ok (.invokevirtual 172, 3) := by decide +kernel
theorem dX18_atomic_268 : decode cX18_atomic 268 = .ok (.iconst 2, 1) := by decide +kernel
theorem dX18_atomic_269 : decode cX18_atomic 269 = .ok (.if_icmp .ne 9, 3) := by decide +kernel
theorem dX18_atomic_272 : decode cX18_atomic 272 = .ok (.ldc2_w 199, 3) := by decide +kernel
theorem dX18_atomic_275 : decode cX18_atomic 275 = .ok (.goto 6, 3) := by decide +kernel
theorem dX18_atomic_278 : decode cX18_atomic 278 = .ok (.ldc2_w 201, 3) := by decide +kernel
theorem dX18_atomic_281 : decode cX18_atomic 281 = .ok (.invokevirtual 50, 3) := by decide +kernel
theorem dX18_atomic_284 : decode cX18_atomic 284 = .ok (.aload_n 0, 1) := by decide +kernel
theorem dX18_atomic_285 : decode cX18_atomic 285 = .ok (.aload_n 0, 1) := by decide +kernel
theorem dX18_atomic_286 : decode cX18_atomic 286 = .ok (.getfield 68, 3) := by decide +kernel
theorem dX18_atomic_289 : decode cX18_atomic 289 = .ok (.invokevirtual 71, 3) := by decide +kernel
theorem dX18_atomic_292 : decode cX18_atomic 292 = .ok (.iload_n 1, 1) := by decide +kernel
theorem dX18_atomic_293 : decode cX18_atomic 293 = .ok (.iconst 2, 1) := by decide +kernel
theorem dX18_atomic_294 : decode cX18_atomic 294 = .ok (.if_icmp .eq 11, 3) := by decide +kernel
theorem dX18_atomic_297 : decode cX18_atomic 297 = .ok (.aload_n 0, 1) := by decide +kernel
theorem dX18_atomic_298 : decode cX18_atomic 298 = .ok (.aload_n 0, 1) := by decide +kernel
theorem dX18_atomic_299 : decode cX18_atomic 299 = .ok (.getfield 77, 3) := by decide +kernel
theorem dX18_atomic_302 : decode cX18_atomic 302 = .ok (.invokevirtual 71, 3) := by decide +kernel
theorem dX18_atomic_305 : decode cX18_atomic 305 = .ok (.aload_n 0, 1) := by decide +kernel
theorem dX18_atomic_306 : decode cX18_atomic 306 = .ok (.invokevirtual 53, 3) := by decide +kernel
theorem dX18_atomic_309 : decode cX18_atomic 309 = .ok (.aload_n 0, 1) := by decide +kernel
theorem dX18_atomic_310 : decode cX18_atomic 310 = .ok (.aload_n 0, 1) := by decide +kernel
theorem dX18_atomic_311 : decode cX18_atomic 311 = .ok (.getfield 74, 3) := by decide +kernel
theorem dX18_atomic_314 : decode cX18_atomic 314 = .ok (.invokevirtual 62, 3) := by decide +kernel
theorem dX18_atomic_317 : decode cX18_atomic 317 = .ok (.return_, 1) := by decide +kernel
