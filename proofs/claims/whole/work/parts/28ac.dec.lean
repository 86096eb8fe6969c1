theorem dX4_branch_74 : decode cX4_branch 74 = .ok (.goto 4, 3) := by decide +kernel
theorem dX4_branch_77 : decode cX4_branch 77 = .ok (.iconst 0, 1) := by decide +kernel
theorem dX4_branch_78 : decode cX4_branch 78 = .ok (.istore 5, 2) := by decide +kernel
theorem dX4_branch_80 : decode cX4_branch 80 = .ok (.goto 5, 3) := by decide +kernel
theorem dX4_branch_83 : decode cX4_branch 83 = .ok (.iconst 4, 1) := by decide +kernel
theorem dX4_branch_84 : decode cX4_branch 84 = .ok (.ireturn, 1) := by decide +kernel
theorem dX4_branch_85 : decode cX4_branch 85 = .ok (.iload 5, 2) := by decide +kernel
theorem dX4_branch_87 : decode cX4_branch 87 = .ok (.iload_n 2, 1) := by decide +kernel
theorem dX4_branch_88 : decode cX4_branch 88 = .ok (.iconst 1, 1) := by decide +kernel
theorem dX4_branch_89 : decode cX4_branch 89 = .ok (.iand, 1) := by decide +kernel
theorem dX4_branch_90 : decode cX4_branch 90 = .ok (.ifCond .ne 7, 3) := by decide +kernel
theorem dX4_branch_93 : decode cX4_branch 93 = .ok (.iconst 1, 1) := by decide +kernel
theorem dX4_branch_94 : decode cX4_branch 94 = .ok (.goto 4, 3) := by decide +kernel
theorem dX4_branch_97 : decode cX4_branch 97 = .ok (.iconst 0, 1) := by decide +kernel
theorem dX4_branch_98 : decode cX4_branch 98 = .ok (.if_icmp .ne 44, 3) := by decide +kernel
theorem dX4_branch_101 : decode cX4_branch 101 = .ok (.aload_n 0, 1) := by decide +kernel
theorem dX4_branch_102 : decode cX4_branch 102 = .ok (.aload_n 0, 1) := by decide +kernel
theorem dX4_branch_103 : decode cX4_branch 103 = .ok (.getfield 27, 3) := by decide +kernel
theorem dX4_branch_106 : decode cX4_branch 106 = .ok (.iload_n 1, 1) := by decide +kernel
theorem dX4_branch_107 : decode cX4_branch 107 = .ok (.bipush 31, 2) := by decide +kernel
theorem dX4_branch_109 : decode cX4_branch 109 = .ok (.ishr, 1) := by decide +kernel
theorem dX4_branch_110 : decode cX4_branch 110 = .ok (.bipush 12, 2) := by decide +kernel
theorem dX4_branch_112 : decode cX4_branch 112 = .ok (.ishl, 1) := by decide +kernel
theorem dX4_branch_113 : decode cX4_branch 113 = .ok (.iload_n 1, 1) := by decide +kernel
theorem dX4_branch_114 : decode cX4_branch 114 = .ok (.iconst 4, 1) := by decide +kernel
theorem dX4_branch_115 : decode cX4_branch 115 = .ok (.ishl, 1) := by decide +kernel
theorem dX4_branch_116 : decode cX4_branch 116 = .ok (.sipush 2048, 3) := by decide +kernel
theorem dX4_branch_119 : decode cX4_branch 119 = .ok (.iand, 1) := by decide +kernel
theorem dX4_branch_120 : decode cX4_branch 120 = .ok (.ior, 1) := by decide +kernel
theorem dX4_branch_121 : decode cX4_branch 121 = .ok (.iload_n 1, 1) := by decide +kernel
theorem dX4_branch_122 : decode cX4_branch 122 = .ok (.bipush 20, 2) := by decide +kernel
theorem dX4_branch_124 : decode cX4_branch 124 = .ok (.ishr, 1) := by decide +kernel
theorem dX4_branch_125 : decode cX4_branch 125 = .ok (.sipush 2016, 3) := by decide +kernel
theorem dX4_branch_128 : decode cX4_branch 128 = .ok (.iand, 1) := by decide +kernel
theorem dX4_branch_129 : decode cX4_branch 129 = .ok (.ior, 1) := by decide +kernel
theorem dX4_branch_130 : decode cX4_branch 130 = .ok (.iload_n 1, 1) := by decide +kernel
theorem dX4_branch_131 : decode cX4_branch 131 = .ok (.bipush 7, 2) := by decide +kernel
theorem dX4_branch_133 : decode cX4_branch 133 = .ok (.ishr, 1) := by decide +kernel
theorem dX4_branch_134 : decode cX4_branch 134 = .ok (.bipush 30, 2) := by decide +kernel
theorem dX4_branch_136 : decode cX4_branch 136 = .ok (.iand, 1) := by decide +kernel
theorem dX4_branch_137 : decode cX4_branch 137 = .ok (.ior, 1) := by decide +kernel
theorem dX4_branch_138 : decode cX4_branch 138 = .ok (.iadd, 1) := by decide +kernel
theorem dX4_branch_139 : decode cX4_branch 139 = .ok (.putfield 38, 3) := by decide +kernel
theorem dX4_branch_142 : decode cX4_branch 142 = .ok (.iconst 0, 1) := by decide +kernel
theorem dX4_branch_143 : decode cX4_branch 143 = .ok (.ireturn, 1) := by decide +kernel
theorem dX4_load_0 : decode cX4_load 0 = .ok (.iload_n 2, 1) := by decide +kernel
theorem dX4_load_1 : decode cX4_load 1 = .ok (.iconst 3, 1) := by decide +kernel
theorem dX4_load_2 : decode cX4_load 2 = .ok (.if_icmp .eq 8, 3) := by decide +kernel
theorem dX4_load_5 : decode cX4_load 5 = .ok (.iload_n 2, 1) := by decide +kernel
theorem dX4_load_6 : decode cX4_load 6 = .ok (.iconst 5, 1) := by decide +kernel
theorem dX4_load_7 : decode cX4_load 7 = .ok (.if_icmp .le 5, 3) := by decide +kernel
theorem dX4_load_10 : decode cX4_load 10 = .ok (.iconst 4, 1) := by decide +kernel
theorem dX4_load_11 : decode cX4_load 11 = .ok (.ireturn, 1) := by decide +kernel
theorem dX4_load_12 : decode cX4_load 12 = .ok (.iload_n 3, 1) := by decide +kernel
theorem dX4_load_13 : decode cX4_load 13 = .ok (.iconst 1, 1) := by decide +kernel
theorem dX4_load_14 : decode cX4_load 14 = .ok (.iload_n 2, 1) := by decide +kernel
theorem dX4_load_15 : decode cX4_load 15 = .ok (.iconst 3, 1) := by decide +kernel
theorem dX4_load_16 : decode cX4_load 16 = .ok (.iand, 1) := by decide +kernel
theorem dX4_load_17 : decode cX4_load 17 = .ok (.ishl, 1) := by decide +kernel
theorem dX4_load_18 : decode cX4_load 18 = .ok (.iconst 1, 1) := by decide +kernel
theorem dX4_load_19 : decode cX4_load 19 = .ok (.isub, 1) := by decide +kernel
theorem dX4_load_20 : decode cX4_load 20 = .ok (.iand, 1) := by decide +kernel
theorem dX4_load_21 : decode cX4_load 21 = .ok (.ifCond .eq 6, 3) := by decide +kernel
theorem dX4_load_24 : decode cX4_load 24 = .ok (.bipush 7, 2) := by decide +kernel
theorem dX4_load_26 : decode cX4_load 26 = .ok (.ireturn, 1) := by decide +kernel
theorem dX4_load_27 : decode cX4_load 27 = .ok (.aload_n 0, 1) := by decide +kernel
theorem dX4_load_28 : decode cX4_load 28 = .ok (.getfield 7, 3) := by decide +kernel
theorem dX4_load_31 : decode cX4_load 31 = .ok (.aload_n 0, 1) := by decide +kernel
theorem dX4_load_32 : decode cX4_load 32 = .ok (.getfield 20, 3) := by decide +kernel
theorem dX4_load_35 : decode cX4_load 35 = .ok (.iload_n 3, 1) := by decide +kernel
theorem dX4_load_36 : decode cX4_load 36 = .ok (.iconst 1, 1) := by decide +kernel
theorem dX4_load_37 : decode cX4_load 37 = .ok (.invokevirtual 30, 3) := by decide +kernel
theorem dX4_load_40 : decode cX4_load 40 = .ok (.ifCond .ne 6, 3) := by decide +kernel
theorem dX4_load_43 : decode cX4_load 43 = .ok (.bipush 11, 2) := by decide +kernel
theorem dX4_load_45 : decode cX4_load 45 = .ok (.ireturn, 1) := by decide +kernel
theorem dX4_load_46 : decode cX4_load 46 = .ok (.iload_n 2, 1) := by decide +kernel
theorem dX4_load_47 : decode cX4_load 47 = .ok (.tableswitch 115 0 4 #[33, 54, 75, 115, 95], 33) := by decide +kernel
theorem dX4_load_80 : decode cX4_load 80 = .ok (.aload_n 0, 1) := by decide +kernel
theorem dX4_load_81 : decode cX4_load 81 = .ok (.iload_n 1, 1) := by decide +kernel
theorem dX4_load_82 : decode cX4_load 82 = .ok (.aload_n 0, 1) := by decide +kernel
theorem dX4_load_83 : decode cX4_load 83 = .ok (.getfield 7, 3) := by decide +kernel
theorem dX4_load_86 : decode cX4_load 86 = .ok (.aload_n 0, 1) := by decide +kernel
theorem dX4_load_87 : decode cX4_load 87 = .ok (.getfield 20, 3) := by decide +kernel
theorem dX4_load_90 : decode cX4_load 90 = .ok (.iload_n 3, 1) := by decide +kernel
theorem dX4_load_91 : decode cX4_load 91 = .ok (.invokevirtual 94, 3) := by decide +kernel
theorem dX4_load_94 : decode cX4_load 94 = .ok (.i2b, 1) := by decide +kernel
theorem dX4_load_95 : decode cX4_load 95 = .ok (.invokevirtual 52, 3) := by decide +kernel
theorem dX4_load_98 : decode cX4_load 98 = .ok (.goto 81, 3) := by decide +kernel
theorem dX4_load_101 : decode cX4_load 101 = .ok (.aload_n 0, 1) := by decide +kernel
theorem dX4_load_102 : decode cX4_load 102 = .ok (.iload_n 1, 1) := by decide +kernel
theorem dX4_load_103 : decode cX4_load 103 = .ok (.aload_n 0, 1) := by decide +kernel
theorem dX4_load_104 : decode cX4_load 104 = .ok (.getfield 7, 3) := by decide +kernel
theorem dX4_load_107 : decode cX4_load 107 = .ok (.aload_n 0, 1) := by decide +kernel
theorem dX4_load_108 : decode cX4_load 108 = .ok (.getfield 20, 3) := by decide +kernel
theorem dX4_load_111 : decode cX4_load 111 = .ok (.iload_n 3, 1) := by decide +kernel
theorem dX4_load_112 : decode cX4_load 112 = .ok (.invokevirtual 34, 3) := by decide +kernel
theorem dX4_load_115 : decode cX4_load 115 = .ok (.i2s, 1) := by decide +kernel
theorem dX4_load_116 : decode cX4_load 116 = .ok (.invokevirtual 52, 3) := by decide +kernel
theorem dX4_load_119 : decode cX4_load 119 = .ok (.goto 60, 3) := by decide +kernel
theorem dX4_load_122 : decode cX4_load 122 = .ok (.aload_n 0, 1) := by decide +kernel
theorem dX4_load_123 : decode cX4_load 123 = .ok (.iload_n 1, 1) := by decide +kernel
theorem dX4_load_124 : decode cX4_load 124 = .ok (.aload_n 0, 1) := by decide +kernel
theorem dX4_load_125 : decode cX4_load 125 = .ok (.getfield 7, 3) := by decide +kernel
theorem dX4_load_128 : decode cX4_load 128 = .ok (.aload_n 0, 1) := by decide +kernel
theorem dX4_load_129 : decode cX4_load 129 = .ok (.getfield 20, 3) := by decide +kernel
theorem dX4_load_132 : decode cX4_load 132 = .ok (.iload_n 3, 1) := by decide +kernel
theorem dX4_load_133 : decode cX4_load 133 = .ok (.invokevirtual 97, 3) := by decide +kernel
theorem dX4_load_136 : decode cX4_load 136 = .ok (.invokevirtual 52, 3) := by decide +kernel
theorem dX4_load_139 : decode cX4_load 139 = .ok (.goto 40, 3) := by decide +kernel
theorem dX4_load_142 : decode cX4_load 142 = .ok (.aload_n 0, 1) := by decide +kernel
theorem dX4_load_143 : decode cX4_load 143 = .ok (.iload_n 1, 1) := by decide +kernel
theorem dX4_load_144 : decode cX4_load 144 = .ok (.aload_n 0, 1) := by decide +kernel
theorem dX4_load_145 : decode cX4_load 145 = .ok (.getfield 7, 3) := by decide +kernel
theorem dX4_load_148 : decode cX4_load 148 = .ok (.aload_n 0, 1) := by decide +kernel
theorem dX4_load_149 : decode cX4_load 149 = .ok (.getfield 20, 3) := by decide +kernel
theorem dX4_load_152 : decode cX4_load 152 = .ok (.iload_n 3, 1) := by decide +kernel
theorem dX4_load_153 : decode cX4_load 153 = .ok (.invokevirtual 94, 3) := by decide +kernel
theorem dX4_load_156 : decode cX4_load 156 = .ok (.invokevirtual 52, 3) := by decide +kernel
theorem dX4_load_159 : decode cX4_load 159 = .ok (.goto 20, 3) := by decide +kernel
theorem dX4_load_162 : decode cX4_load 162 = .ok (.aload_n 0, 1) := by decide +kernel
theorem dX4_load_163 : decode cX4_load 163 = .ok (.iload_n 1, 1) := by decide +kernel
theorem dX4_load_164 : decode cX4_load 164 = .ok (.aload_n 0, 1) := by decide +kernel
theorem dX4_load_165 : decode cX4_load 165 = .ok (.getfield 7, 3) := by decide +kernel
theorem dX4_load_168 : decode cX4_load 168 = .ok (.aload_n 0, 1) := by decide +kernel
theorem dX4_load_169 : decode cX4_load 169 = .ok (.getfield 20, 3) := by decide +kernel
theorem dX4_load_172 : decode cX4_load 172 = .ok (.iload_n 3, 1) := by decide +kernel
theorem dX4_load_173 : decode cX4_load 173 = .ok (.invokevirtual 34, 3) := by decide +kernel
theorem dX4_load_176 : decode cX4_load 176 = .ok (.invokevirtual 52, 3) := by decide +kernel
theorem dX4_load_179 : decode cX4_load 179 = .ok (.iconst 0, 1) := by decide +kernel
theorem dX4_load_180 : decode cX4_load 180 = .ok (.ireturn, 1) := by decide +kernel
theorem dX4_store_0 : decode cX4_store 0 = .ok (.iload_n 1, 1) := by decide +kernel
theorem dX4_store_1 : decode cX4_store 1 = .ok (.iconst 2, 1) := by decide +kernel
theorem dX4_store_2 : decode cX4_store 2 = .ok (.if_icmp .le 5, 3) := by decide +kernel
theorem dX4_store_5 : decode cX4_store 5 = .ok (.iconst 4, 1) := by decide +kernel
theorem dX4_store_6 : decode cX4_store 6 = .ok (.ireturn, 1) := by decide +kernel
theorem dX4_store_7 : decode cX4_store 7 = .ok (.iload_n 2, 1) := by decide +kernel
theorem dX4_store_8 : decode cX4_store 8 = .ok (.iconst 1, 1) := by decide +kernel
theorem dX4_store_9 : decode cX4_store 9 = .ok (.iload_n 1, 1) := by decide +kernel
theorem dX4_store_10 : decode cX4_store 10 = .ok (.ishl, 1) := by decide +kernel
theorem dX4_store_11 : decode cX4_store 11 = .ok (.iconst 1, 1) := by decide +kernel
theorem dX4_store_12 : decode cX4_store 12 = .ok (.isub, 1) := by decide +kernel
theorem dX4_store_13 : decode cX4_store 13 = .ok (.iand, 1) := by decide +kernel
theorem dX4_store_14 : decode cX4_store 14 = .ok (.ifCond .eq 6, 3) := by decide +kernel
theorem dX4_store_17 : decode cX4_store 17 = .ok (.bipush 7, 2) := by decide +kernel
theorem dX4_store_19 : decode cX4_store 19 = .ok (.ireturn, 1) := by decide +kernel
theorem dX4_store_20 : decode cX4_store 20 = .ok (.aload_n 0, 1) := by decide +kernel
theorem dX4_store_21 : decode cX4_store 21 = .ok (.getfield 7, 3) := by decide +kernel
theorem dX4_store_24 : decode cX4_store 24 = .ok (.aload_n 0, 1) := by decide +kernel
theorem dX4_store_25 : decode cX4_store 25 = .ok (.getfield 20, 3) := by decide +kernel
theorem dX4_store_28 : decode cX4_store 28 = .ok (.iload_n 2, 1) := by decide +kernel
theorem dX4_store_29 : decode cX4_store 29 = .ok (.iconst 2, 1) := by decide +kernel
theorem dX4_store_30 : decode cX4_store 30 = .ok (.invokevirtual 30, 3) := by decide +kernel
theorem dX4_store_33 : decode cX4_store 33 = .ok (.ifCond .ne 6, 3) := by decide +kernel
theorem dX4_store_36 : decode cX4_store 36 = .ok (.bipush 11, 2) := by decide +kernel
theorem dX4_store_38 : decode cX4_store 38 = .ok (.ireturn, 1) := by decide +kernel
theorem dX4_store_39 : decode cX4_store 39 = .ok (.aload_n 0, 1) := by decide +kernel
theorem dX4_store_40 : decode cX4_store 40 = .ok (.getfield 7, 3) := by decide +kernel
theorem dX4_store_43 : decode cX4_store 43 = .ok (.aload_n 0, 1) := by decide +kernel
theorem dX4_store_44 : decode cX4_store 44 = .ok (.getfield 20, 3) := by decide +kernel
theorem dX4_store_47 : decode cX4_store 47 = .ok (.iload_n 2, 1) := by decide +kernel
theorem dX4_store_48 : decode cX4_store 48 = .ok (.invokevirtual 100, 3) := by decide +kernel
theorem dX4_store_51 : decode cX4_store 51 = .ok (.ifCond .ne 6, 3) := by decide +kernel
theorem dX4_store_54 : decode cX4_store 54 = .ok (.bipush 7, 2) := by decide +kernel
theorem dX4_store_56 : decode cX4_store 56 = .ok (.ireturn, 1) := by decide +kernel
theorem dX4_store_57 : decode cX4_store 57 = .ok (.aload_n 0, 1) := by decide +kernel
theorem dX4_store_58 : decode cX4_store 58 = .ok (.getfield 7, 3) := by decide +kernel
theorem dX4_store_61 : decode cX4_store 61 = .ok (.aload_n 0, 1) := by decide +kernel
theorem dX4_store_62 : decode cX4_store 62 = .ok (.getfield 20, 3) := by decide +kernel
theorem dX4_store_65 : decode cX4_store 65 = .ok (.iload_n 2, 1) := by decide +kernel
theorem dX4_store_66 : decode cX4_store 66 = .ok (.iload_n 1, 1) := by decide +kernel
theorem dX4_store_67 : decode cX4_store 67 = .ok (.ifCond .ne 9, 3) := by decide +kernel
theorem dX4_store_70 : decode cX4_store 70 = .ok (.sipush 255, 3) := by decide +kernel
theorem dX4_store_73 : decode cX4_store 73 = .ok (.goto 14, 3) := by decide +kernel
theorem dX4_store_76 : decode cX4_store 76 = .ok (.iload_n 1, 1) := by decide +kernel
theorem dX4_store_77 : decode cX4_store 77 = .ok (.iconst 1, 1) := by decide +kernel
theorem dX4_store_78 : decode cX4_store 78 = .ok (.if_icmp .ne 8, 3) := by decide +kernel
theorem dX4_store_81 : decode cX4_store 81 = .ok (.ldc 104, 2) := by decide +kernel
theorem dX4_store_83 : decode cX4_store 83 = .ok (.goto 4, 3) := by decide +kernel
theorem dX4_store_86 : decode cX4_store 86 = .ok (.iconst (-1), 1) := by decide +kernel
theorem dX4_store_87 : decode cX4_store 87 = .ok (.iload_n 3, 1) := by decide +kernel
theorem dX4_store_88 : decode cX4_store 88 = .ok (.invokevirtual 105, 3) := by decide +kernel
theorem dX4_store_91 : decode cX4_store 91 = .ok (.aload_n 0, 1) := by decide +kernel
theorem dX4_store_92 : decode cX4_store 92 = .ok (.getfield 7, 3) := by decide +kernel
theorem dX4_store_95 : decode cX4_store 95 = .ok (.aload_n 0, 1) := by decide +kernel
theorem dX4_store_96 : decode cX4_store 96 = .ok (.getfield 20, 3) := by decide +kernel
theorem dX4_store_99 : decode cX4_store 99 = .ok (.iload_n 2, 1) := by decide +kernel
theorem dX4_store_100 : decode cX4_store 100 = .ok (.iconst 1, 1) := by decide +kernel
theorem dX4_store_101 : decode cX4_store 101 = .ok (.iload_n 1, 1) := by decide +kernel
theorem dX4_store_102 : decode cX4_store 102 = .ok (.ishl, 1) := by decide +kernel
theorem dX4_store_103 : decode cX4_store 103 = .ok (.invokevirtual 109, 3) := by decide +kernel
theorem dX4_store_106 : decode cX4_store 106 = .ok (.iconst 0, 1) := by decide +kernel
theorem dX4_store_107 : decode cX4_store 107 = .ok (.ireturn, 1) := by decide +kernel
theorem dX4_workWithNumber_0 : decode cX4_workWithNumber 0 = .ok (.iload_n 1, 1) := by decide +kernel
theorem dX4_workWithNumber_1 : decode cX4_workWithNumber 1 = .ok (.bipush 20, 2) := by decide +kernel
theorem dX4_workWithNumber_3 : decode cX4_workWithNumber 3 = .ok (.ishr, 1) := by decide +kernel
theorem dX4_workWithNumber_4 : decode cX4_workWithNumber 4 = .ok (.istore 4, 2) := by decide +kernel
theorem dX4_workWithNumber_6 : decode cX4_workWithNumber 6 = .ok (.iload_n 1, 1) := by decide +kernel
theorem dX4_workWithNumber_7 : decode cX4_workWithNumber 7 = .ok (.bipush 25, 2) := by decide +kernel
theorem dX4_workWithNumber_9 : decode cX4_workWithNumber 9 = .ok (.iushr, 1) := by decide +kernel
theorem dX4_workWithNumber_10 : decode cX4_workWithNumber 10 = .ok (.istore 5, 2) := by decide +kernel
theorem dX4_workWithNumber_12 : decode cX4_workWithNumber 12 = .ok (.iload_n 2, 1) := by decide +kernel
theorem dX4_workWithNumber_13 : decode cX4_workWithNumber 13 = .ok (.iconst 1, 1) := by decide +kernel
theorem dX4_workWithNumber_14 : decode cX4_workWithNumber 14 = .ok (.if_icmp .ne 8, 3) := by decide +kernel
theorem dX4_workWithNumber_17 : decode cX4_workWithNumber 17 = .ok (.iload 5, 2) := by decide +kernel
theorem dX4_workWithNumber_19 : decode cX4_workWithNumber 19 = .ok (.ifCond .ne 20, 3) := by decide +kernel
theorem dX4_workWithNumber_22 : decode cX4_workWithNumber 22 = .ok (.iload_n 2, 1) := by decide +kernel
theorem dX4_workWithNumber_23 : decode cX4_workWithNumber 23 = .ok (.iconst 5, 1) := by decide +kernel
theorem dX4_workWithNumber_24 : decode cX4_workWithNumber 24 = .ok (.if_icmp .ne 17, 3) := by decide +kernel
theorem dX4_workWithNumber_27 : decode cX4_workWithNumber 27 = .ok (.iload 5, 2) := by decide +kernel
theorem dX4_workWithNumber_29 : decode cX4_workWithNumber 29 = .ok (.ifCond .eq 12, 3) := by decide +kernel
theorem dX4_workWithNumber_32 : decode cX4_workWithNumber 32 = .ok (.iload 5, 2) := by decide +kernel
theorem dX4_workWithNumber_34 : decode cX4_workWithNumber 34 = .ok (.bipush 32, 2) := by decide +kernel
theorem dX4_workWithNumber_36 : decode cX4_workWithNumber 36 = .ok (.if_icmp .eq 5, 3) := by decide +kernel
theorem dX4_workWithNumber_39 : decode cX4_workWithNumber 39 = .ok (.iconst 4, 1) := by decide +kernel
theorem dX4_workWithNumber_40 : decode cX4_workWithNumber 40 = .ok (.ireturn, 1) := by decide +kernel
theorem dX4_workWithNumber_41 : decode cX4_workWithNumber 41 = .ok (.aload_n 0, 1) := by decide +kernel
theorem dX4_workWithNumber_42 : decode cX4_workWithNumber 42 = .ok (.iload_n 1, 1) := by decide +kernel
theorem dX4_workWithNumber_43 : decode cX4_workWithNumber 43 = .ok (.iload_n 2, 1) := by decide +kernel
theorem dX4_workWithNumber_44 : decode cX4_workWithNumber 44 = .ok (.iconst 5, 1) := by decide +kernel
theorem dX4_workWithNumber_45 : decode cX4_workWithNumber 45 = .ok (.if_icmp .ne 20, 3) := by decide +kernel
theorem dX4_workWithNumber_48 : decode cX4_workWithNumber 48 = .ok (.iload 5, 2) := by decide +kernel
theorem dX4_workWithNumber_50 : decode cX4_workWithNumber 50 = .ok (.bipush 32, 2) := by decide +kernel
theorem dX4_workWithNumber_52 : decode cX4_workWithNumber 52 = .ok (.if_icmp .ne 13, 3) := by decide +kernel
theorem dX4_workWithNumber_55 : decode cX4_workWithNumber 55 = .ok (.iload_n 3, 1) := by decide +kernel
theorem dX4_workWithNumber_56 : decode cX4_workWithNumber 56 = .ok (.iload 4, 2) := by decide +kernel
theorem dX4_workWithNumber_58 : decode cX4_workWithNumber 58 = .ok (.bipush 31, 2) := by decide +kernel
theorem dX4_workWithNumber_60 : decode cX4_workWithNumber 60 = .ok (.iand, 1) := by decide +kernel
theorem dX4_workWithNumber_61 : decode cX4_workWithNumber 61 = .ok (.ishr, 1) := by decide +kernel
theorem dX4_workWithNumber_62 : decode cX4_workWithNumber 62 = .ok (.goto 10, 3) := by decide +kernel
theorem dX4_workWithNumber_65 : decode cX4_workWithNumber 65 = .ok (.iload_n 2, 1) := by decide +kernel
theorem dX4_workWithNumber_66 : decode cX4_workWithNumber 66 = .ok (.iload_n 3, 1) := by decide +kernel
theorem dX4_workWithNumber_67 : decode cX4_workWithNumber 67 = .ok (.iload 4, 2) := by decide +kernel
theorem dX4_workWithNumber_69 : decode cX4_workWithNumber 69 = .ok (.invokestatic 113, 3) := by decide +kernel
theorem dX4_workWithNumber_72 : decode cX4_workWithNumber 72 = .ok (.invokevirtual 52, 3) := by decide +kernel
theorem dX4_workWithNumber_75 : decode cX4_workWithNumber 75 = .ok (.iconst 0, 1) := by decide +kernel
theorem dX4_workWithNumber_76 : decode cX4_workWithNumber 76 = .ok (.ireturn, 1) := by decide +kernel
theorem dX4_workWithRegister_0 : decode cX4_workWithRegister 0 = .ok (.iload_n 1, 1) := by decide +kernel
theorem dX4_workWithRegister_1 : decode cX4_workWithRegister 1 = .ok (.bipush 25, 2) := by decide +kernel
theorem dX4_workWithRegister_3 : decode cX4_workWithRegister 3 = .ok (.iushr, 1) := by decide +kernel
theorem dX4_workWithRegister_4 : decode cX4_workWithRegister 4 = .ok (.istore 5, 2) := by decide +kernel
theorem dX4_workWithRegister_6 : decode cX4_workWithRegister 6 = .ok (.iload 5, 2) := by decide +kernel
theorem dX4_workWithRegister_8 : decode cX4_workWithRegister 8 = .ok (.ifCond .ne 18, 3) := by decide +kernel
theorem dX4_workWithRegister_11 : decode cX4_workWithRegister 11 = .ok (.aload_n 0, 1) := by decide +kernel
theorem dX4_workWithRegister_12 : decode cX4_workWithRegister 12 = .ok (.iload_n 1, 1) := by decide +kernel
theorem dX4_workWithRegister_13 : decode cX4_workWithRegister 13 = .ok (.iload_n 2, 1) := by decide +kernel
theorem dX4_workWithRegister_14 : decode cX4_workWithRegister 14 = .ok (.iload_n 3, 1) := by decide +kernel
theorem dX4_workWithRegister_15 : decode cX4_workWithRegister 15 = .ok (.iload 4, 2) := by decide +kernel
theorem dX4_workWithRegister_17 : decode cX4_workWithRegister 17 = .ok (.invokestatic 113, 3) := by decide +kernel
theorem dX4_workWithRegister_20 : decode cX4_workWithRegister 20 = .ok (.invokevirtual 52, 3) := by decide +kernel
theorem dX4_workWithRegister_23 : decode cX4_workWithRegister 23 = .ok (.goto 55, 3) := by decide +kernel
theorem dX4_workWithRegister_26 : decode cX4_workWithRegister 26 = .ok (.iload 5, 2) := by decide +kernel
theorem dX4_workWithRegister_28 : decode cX4_workWithRegister 28 = .ok (.bipush 32, 2) := by decide +kernel
theorem dX4_workWithRegister_30 : decode cX4_workWithRegister 30 = .ok (.if_icmp .ne 19, 3) := by decide +kernel
theorem dX4_workWithRegister_33 : decode cX4_workWithRegister 33 = .ok (.iload_n 2, 1) := by decide +kernel
theorem dX4_workWithRegister_34 : decode cX4_workWithRegister 34 = .ok (.ifCond .ne 15, 3) := by decide +kernel
theorem dX4_workWithRegister_37 : decode cX4_workWithRegister 37 = .ok (.aload_n 0, 1) := by decide +kernel
theorem dX4_workWithRegister_38 : decode cX4_workWithRegister 38 = .ok (.iload_n 1, 1) := by decide +kernel
theorem dX4_workWithRegister_39 : decode cX4_workWithRegister 39 = .ok (.iload_n 3, 1) := by decide +kernel
theorem dX4_workWithRegister_40 : decode cX4_workWithRegister 40 = .ok (.iload 4, 2) := by decide +kernel
theorem dX4_workWithRegister_42 : decode cX4_workWithRegister 42 = .ok (.isub, 1) := by decide +kernel
theorem dX4_workWithRegister_43 : decode cX4_workWithRegister 43 = .ok (.invokevirtual 52, 3) := by decide +kernel
theorem dX4_workWithRegister_46 : decode cX4_workWithRegister 46 = .ok (.goto 32, 3) := by decide +kernel
theorem dX4_workWithRegister_49 : decode cX4_workWithRegister 49 = .ok (.iload 5, 2) := by decide +kernel
theorem dX4_workWithRegister_51 : decode cX4_workWithRegister 51 = .ok (.bipush 32, 2) := by decide +kernel
theorem dX4_workWithRegister_53 : decode cX4_workWithRegister 53 = .ok (.if_icmp .ne 23, 3) := by decide +kernel
theorem dX4_workWithRegister_56 : decode cX4_workWithRegister 56 = .ok (.iload_n 2, 1) := by decide +kernel
theorem dX4_workWithRegister_57 : decode cX4_workWithRegister 57 = .ok (.iconst 5, 1) := by decide +kernel
theorem dX4_workWithRegister_58 : decode cX4_workWithRegister 58 = .ok (.if_icmp .ne 18, 3) := by decide +kernel
theorem dX4_workWithRegister_61 : decode cX4_workWithRegister 61 = .ok (.aload_n 0, 1) := by decide +kernel
theorem dX4_workWithRegister_62 : decode cX4_workWithRegister 62 = .ok (.iload_n 1, 1) := by decide +kernel
theorem dX4_workWithRegister_63 : decode cX4_workWithRegister 63 = .ok (.iload_n 3, 1) := by decide +kernel
theorem dX4_workWithRegister_64 : decode cX4_workWithRegister 64 = .ok (.iload 4, 2) := by decide +kernel
theorem dX4_workWithRegister_66 : decode cX4_workWithRegister 66 = .ok (.bipush 31, 2) := by decide +kernel
theorem dX4_workWithRegister_68 : decode cX4_workWithRegister 68 = .ok (.iand, 1) := by decide +kernel
theorem dX4_workWithRegister_69 : decode cX4_workWithRegister 69 = .ok (.ishr, 1) := by decide +kernel
theorem dX4_workWithRegister_70 : decode cX4_workWithRegister 70 = .ok (.invokevirtual 52, 3) := by decide +kernel
theorem dX4_workWithRegister_73 : decode cX4_workWithRegister 73 = .ok (.goto 5, 3) := by decide +kernel
theorem dX4_workWithRegister_76 : decode cX4_workWithRegister 76 = .ok (.iconst 4, 1) := by decide +kernel
theorem dX4_workWithRegister_77 : decode cX4_workWithRegister 77 = .ok (.ireturn, 1) := by decide +kernel
theorem dX4_workWithRegister_78 : decode cX4_workWithRegister 78 = .ok (.iconst 0, 1) := by decide +kernel
theorem dX4_workWithRegister_79 : decode cX4_workWithRegister 79 = .ok (.ireturn, 1) := by decide +kernel
theorem dX4_reckoned_0 : decode cX4_reckoned 0 = .ok (.iload_n 0, 1) := by decide +kernel
theorem dX4_reckoned_1 : decode cX4_reckoned 1 = .ok (.tableswitch 94 0 6 #[43, 47, 54, 65, 79, 83, 90], 43) := by decide +kernel
theorem dX4_reckoned_44 : decode cX4_reckoned 44 = .ok (.iload_n 1, 1) := by decide +kernel
theorem dX4_reckoned_45 : decode cX4_reckoned 45 = .ok (.iload_n 2, 1) := by decide +kernel
theorem dX4_reckoned_46 : decode cX4_reckoned 46 = .ok (.iadd, 1) := by decide +kernel
theorem dX4_reckoned_47 : decode cX4_reckoned 47 = .ok (.ireturn, 1) := by decide +kernel
theorem dX4_reckoned_48 : decode cX4_reckoned 48 = .ok (.iload_n 1, 1) := by decide +kernel
theorem dX4_reckoned_49 : decode cX4_reckoned 49 = .ok (.iload_n 2, 1) := by decide +kernel
theorem dX4_reckoned_50 : decode cX4_reckoned 50 = .ok (.bipush 31, 2) := by decide +kernel
theorem dX4_reckoned_52 : decode cX4_reckoned 52 = .ok (.iand, 1) := by decide +kernel
theorem dX4_reckoned_53 : decode cX4_reckoned 53 = .ok (.ishl, 1) := by decide +kernel
theorem dX4_reckoned_54 : decode cX4_reckoned 54 = .ok (.ireturn, 1) := by decide +kernel
theorem dX4_reckoned_55 : decode cX4_reckoned 55 = .ok (.iload_n 1, 1) := by decide +kernel
theorem dX4_reckoned_56 : decode cX4_reckoned 56 = .ok (.iload_n 2, 1) := by decide +kernel
theorem dX4_reckoned_57 : decode cX4_reckoned 57 = .ok (.if_icmp .ge 7, 3) := by decide +kernel
theorem dX4_reckoned_60 : decode cX4_reckoned 60 = .ok (.iconst 1, 1) := by decide +kernel
theorem dX4_reckoned_61 : decode cX4_reckoned 61 = .ok (.goto 4, 3) := by decide +kernel
theorem dX4_reckoned_64 : decode cX4_reckoned 64 = .ok (.iconst 0, 1) := by decide +kernel
theorem dX4_reckoned_65 : decode cX4_reckoned 65 = .ok (.ireturn, 1) := by decide +kernel
theorem dX4_reckoned_66 : decode cX4_reckoned 66 = .ok (.iload_n 1, 1) := by decide +kernel
theorem dX4_reckoned_67 : decode cX4_reckoned 67 = .ok (.iload_n 2, 1) := by decide +kernel
theorem dX4_reckoned_68 : decode cX4_reckoned 68 = .ok (.invokestatic 89, 3) := by decide +kernel
theorem dX4_reckoned_71 : decode cX4_reckoned 71 = .ok (.ifCond .ge 7, 3) := by decide +kernel
theorem dX4_reckoned_74 : decode cX4_reckoned 74 = .ok (.iconst 1, 1) := by decide +kernel
theorem dX4_reckoned_75 : decode cX4_reckoned 75 = .ok (.goto 4, 3) := by decide +kernel
theorem dX4_reckoned_78 : decode cX4_reckoned 78 = .ok (.iconst 0, 1) := by decide +kernel
theorem dX4_reckoned_79 : decode cX4_reckoned 79 = .ok (.ireturn, 1) := by decide +kernel
theorem dX4_reckoned_80 : decode cX4_reckoned 80 = .ok (.iload_n 1, 1) := by decide +kernel
theorem dX4_reckoned_81 : decode cX4_reckoned 81 = .ok (.iload_n 2, 1) := by decide +kernel
theorem dX4_reckoned_82 : decode cX4_reckoned 82 = .ok (.ixor, 1) := by decide +kernel
theorem dX4_reckoned_83 : decode cX4_reckoned 83 = .ok (.ireturn, 1) := by decide +kernel
theorem dX4_reckoned_84 : decode cX4_reckoned 84 = .ok (.iload_n 1, 1) := by decide +kernel
theorem dX4_reckoned_85 : decode cX4_reckoned 85 = .ok (.iload_n 2, 1) := by decide +kernel
theorem dX4_reckoned_86 : decode cX4_reckoned 86 = .ok (.bipush 31, 2) := by decide +kernel
theorem dX4_reckoned_88 : decode cX4_reckoned 88 = .ok (.iand, 1) := by decide +kernel
theorem dX4_reckoned_89 : decode cX4_reckoned 89 = .ok (.iushr, 1) := by decide +kernel
theorem dX4_reckoned_90 : decode cX4_reckoned 90 = .ok (.ireturn, 1) := by decide +kernel
theorem dX4_reckoned_91 : decode cX4_reckoned 91 = .ok (.iload_n 1, 1) := by decide +kernel
theorem dX4_reckoned_92 : decode cX4_reckoned 92 = .ok (.iload_n 2, 1) := by decide +kernel
theorem dX4_reckoned_93 : decode cX4_reckoned 93 = .ok (.ior, 1) := by decide +kernel
theorem dX4_reckoned_94 : decode cX4_reckoned 94 = .ok (.ireturn, 1) := by decide +kernel
theorem dX4_reckoned_95 : decode cX4_reckoned 95 = .ok (.iload_n 1, 1) := by decide +kernel
theorem dX4_reckoned_96 : decode cX4_reckoned 96 = .ok (.iload_n 2, 1) := by decide +kernel
theorem dX4_reckoned_97 : decode cX4_reckoned 97 = .ok (.iand, 1) := by decide +kernel
theorem dX4_reckoned_98 : decode cX4_reckoned 98 = .ok (.ireturn, 1) := by decide +kernel
theorem dX4_multiply_0 : decode cX4_multiply 0 = .ok (.iload_n 3, 1) := by decide +kernel
theorem dX4_multiply_1 : decode cX4_multiply 1 = .ok (.i2l, 1) := by decide +kernel
theorem dX4_multiply_2 : decode cX4_multiply 2 = .ok (.ldc2_w 116, 3) := by decide +kernel
theorem dX4_multiply_5 : decode cX4_multiply 5 = .ok (.land, 1) := by decide +kernel
theorem dX4_multiply_6 : decode cX4_multiply 6 = .ok (.lstore 5, 2) := by decide +kernel
theorem dX4_multiply_8 : decode cX4_multiply 8 = .ok (.iload 4, 2) := by decide +kernel
theorem dX4_multiply_10 : decode cX4_multiply 10 = .ok (.i2l, 1) := by decide +kernel
theorem dX4_multiply_11 : decode cX4_multiply 11 = .ok (.ldc2_w 116, 3) := by decide +kernel
theorem dX4_multiply_14 : decode cX4_multiply 14 = .ok (.land, 1) := by decide +kernel
theorem dX4_multiply_15 : decode cX4_multiply 15 = .ok (.lstore 7, 2) := by decide +kernel
theorem dX4_multiply_17 : decode cX4_multiply 17 = .ok (.iload_n 2, 1) := by decide +kernel
theorem dX4_multiply_18 : decode cX4_multiply 18 = .ok (.tableswitch 150 0 6 #[42, 51, 66, 80, 94, 112, 132], 42) := by decide +kernel
theorem dX4_multiply_60 : decode cX4_multiply 60 = .ok (.iload_n 3, 1) := by decide +kernel
theorem dX4_multiply_61 : decode cX4_multiply 61 = .ok (.iload 4, 2) := by decide +kernel
theorem dX4_multiply_63 : decode cX4_multiply 63 = .ok (.imul, 1) := by decide +kernel
theorem dX4_multiply_64 : decode cX4_multiply 64 = .ok (.istore 9, 2) := by decide +kernel
theorem dX4_multiply_66 : decode cX4_multiply 66 = .ok (.goto 119, 3) := by decide +kernel
theorem dX4_multiply_69 : decode cX4_multiply 69 = .ok (.iload_n 3, 1) := by decide +kernel
theorem dX4_multiply_70 : decode cX4_multiply 70 = .ok (.i2l, 1) := by decide +kernel
theorem dX4_multiply_71 : decode cX4_multiply 71 = .ok (.iload 4, 2) := by decide +kernel
theorem dX4_multiply_73 : decode cX4_multiply 73 = .ok (.i2l, 1) := by decide +kernel
theorem dX4_multiply_74 : decode cX4_multiply 74 = .ok (.lmul, 1) := by decide +kernel
theorem dX4_multiply_75 : decode cX4_multiply 75 = .ok (.bipush 32, 2) := by decide +kernel
theorem dX4_multiply_77 : decode cX4_multiply 77 = .ok (.lshr, 1) := by decide +kernel
