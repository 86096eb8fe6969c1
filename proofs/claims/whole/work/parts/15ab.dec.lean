theorem dX1_start_0 : decode cX1_start 0 = .ok (.aload_n 0, 1) := by decide +kernel
theorem dX1_start_1 : decode cX1_start 1 = .ok (.getfield 12, 3) := by decide +kernel
theorem dX1_start_4 : decode cX1_start 4 = .ok (.aload_n 1, 1) := by decide +kernel
theorem dX1_start_5 : decode cX1_start 5 = .ok (.invokevirtual 61, 3) := by decide +kernel
theorem dX1_start_8 : decode cX1_start 8 = .ok (.aload_n 0, 1) := by decide +kernel
theorem dX1_start_9 : decode cX1_start 9 = .ok (.iconst 0, 1) := by decide +kernel
theorem dX1_start_10 : decode cX1_start 10 = .ok (.putfield 65, 3) := by decide +kernel
theorem dX1_start_13 : decode cX1_start 13 = .ok (.aload_n 0, 1) := by decide +kernel
theorem dX1_start_14 : decode cX1_start 14 = .ok (.iconst 0, 1) := by decide +kernel
theorem dX1_start_15 : decode cX1_start 15 = .ok (.putfield 68, 3) := by decide +kernel
theorem dX1_start_18 : decode cX1_start 18 = .ok (.aload_n 0, 1) := by decide +kernel
theorem dX1_start_19 : decode cX1_start 19 = .ok (.iconst 0, 1) := by decide +kernel
theorem dX1_start_20 : decode cX1_start 20 = .ok (.putfield 32, 3) := by decide +kernel
theorem dX1_start_23 : decode cX1_start 23 = .ok (.aload_n 0, 1) := by decide +kernel
theorem dX1_start_24 : decode cX1_start 24 = .ok (.iconst 0, 1) := by decide +kernel
theorem dX1_start_25 : decode cX1_start 25 = .ok (.putfield 36, 3) := by decide +kernel
theorem dX1_start_28 : decode cX1_start 28 = .ok (.aload_n 0, 1) := by decide +kernel
theorem dX1_start_29 : decode cX1_start 29 = .ok (.iconst 0, 1) := by decide +kernel
theorem dX1_start_30 : decode cX1_start 30 = .ok (.putfield 71, 3) := by decide +kernel
theorem dX1_start_33 : decode cX1_start 33 = .ok (.aload_n 0, 1) := by decide +kernel
theorem dX1_start_34 : decode cX1_start 34 = .ok (.iconst 0, 1) := by decide +kernel
theorem dX1_start_35 : decode cX1_start 35 = .ok (.putfield 74, 3) := by decide +kernel
theorem dX1_start_38 : decode cX1_start 38 = .ok (.iconst 1, 1) := by decide +kernel
theorem dX1_start_39 : decode cX1_start 39 = .ok (.istore_n 3, 1) := by decide +kernel
theorem dX1_start_40 : decode cX1_start 40 = .ok (.iconst 0, 1) := by decide +kernel
theorem dX1_start_41 : decode cX1_start 41 = .ok (.istore 4, 2) := by decide +kernel
theorem dX1_start_43 : decode cX1_start 43 = .ok (.iload 4, 2) := by decide +kernel
theorem dX1_start_45 : decode cX1_start 45 = .ok (.iload_n 2, 1) := by decide +kernel
theorem dX1_start_46 : decode cX1_start 46 = .ok (.if_icmp .ge 66, 3) := by decide +kernel
theorem dX1_start_49 : decode cX1_start 49 = .ok (.aload_n 0, 1) := by decide +kernel
theorem dX1_start_50 : decode cX1_start 50 = .ok (.getfield 32, 3) := by decide +kernel
theorem dX1_start_53 : decode cX1_start 53 = .ok (.ifCond .ne 59, 3) := by decide +kernel
theorem dX1_start_56 : decode cX1_start 56 = .ok (.aload_n 1, 1) := by decide +kernel
theorem dX1_start_57 : decode cX1_start 57 = .ok (.iload 4, 2) := by decide +kernel
theorem dX1_start_59 : decode cX1_start 59 = .ok (.baload, 1) := by decide +kernel
theorem dX1_start_60 : decode cX1_start 60 = .ok (.istore 5, 2) := by decide +kernel
theorem dX1_start_62 : decode cX1_start 62 = .ok (.iload 5, 2) := by decide +kernel
theorem dX1_start_64 : decode cX1_start 64 = .ok (.bipush 10, 2) := by decide +kernel
theorem dX1_start_66 : decode cX1_start 66 = .ok (.if_icmp .ne 9, 3) := by decide +kernel
theorem dX1_start_69 : decode cX1_start 69 = .ok (.iinc 3 1, 3) := by decide +kernel
theorem dX1_start_72 : decode cX1_start 72 = .ok (.goto 34, 3) := by decide +kernel
theorem dX1_start_75 : decode cX1_start 75 = .ok (.iload 5, 2) := by decide +kernel
theorem dX1_start_77 : decode cX1_start 77 = .ok (.bipush 9, 2) := by decide +kernel
theorem dX1_start_79 : decode cX1_start 79 = .ok (.if_icmp .eq 27, 3) := by decide +kernel
theorem dX1_start_82 : decode cX1_start 82 = .ok (.iload 5, 2) := by decide +kernel
theorem dX1_start_84 : decode cX1_start 84 = .ok (.bipush 32, 2) := by decide +kernel
theorem dX1_start_86 : decode cX1_start 86 = .ok (.if_icmp .lt 10, 3) := by decide +kernel
theorem dX1_start_89 : decode cX1_start 89 = .ok (.iload 5, 2) := by decide +kernel
theorem dX1_start_91 : decode cX1_start 91 = .ok (.bipush 126, 2) := by decide +kernel
theorem dX1_start_93 : decode cX1_start 93 = .ok (.if_icmp .le 13, 3) := by decide +kernel
theorem dX1_start_96 : decode cX1_start 96 = .ok (.aload_n 0, 1) := by decide +kernel
theorem dX1_start_97 : decode cX1_start 97 = .ok (.iconst 1, 1) := by decide +kernel
theorem dX1_start_98 : decode cX1_start 98 = .ok (.invokevirtual 77, 3) := by decide +kernel
theorem dX1_start_101 : decode cX1_start 101 = .ok (.aload_n 0, 1) := by decide +kernel
theorem dX1_start_102 : decode cX1_start 102 = .ok (.iload_n 3, 1) := by decide +kernel
theorem dX1_start_103 : decode cX1_start 103 = .ok (.putfield 36, 3) := by decide +kernel
theorem dX1_start_106 : decode cX1_start 106 = .ok (.iinc 4 1, 3) := by decide +kernel
theorem dX1_start_109 : decode cX1_start 109 = .ok (.goto (-66), 3) := by decide +kernel
theorem dX1_start_112 : decode cX1_start 112 = .ok (.return_, 1) := by decide +kernel
theorem dX1_blame_0 : decode cX1_blame 0 = .ok (.aload_n 0, 1) := by decide +kernel
theorem dX1_blame_1 : decode cX1_blame 1 = .ok (.getfield 32, 3) := by decide +kernel
theorem dX1_blame_4 : decode cX1_blame 4 = .ok (.ifCond .ne 8, 3) := by decide +kernel
theorem dX1_blame_7 : decode cX1_blame 7 = .ok (.aload_n 0, 1) := by decide +kernel
theorem dX1_blame_8 : decode cX1_blame 8 = .ok (.iload_n 1, 1) := by decide +kernel
theorem dX1_blame_9 : decode cX1_blame 9 = .ok (.putfield 32, 3) := by decide +kernel
theorem dX1_blame_12 : decode cX1_blame 12 = .ok (.return_, 1) := by decide +kernel
theorem dX1_readLine_0 : decode cX1_readLine 0 = .ok (.aload_n 0, 1) := by decide +kernel
theorem dX1_readLine_1 : decode cX1_readLine 1 = .ok (.getfield 12, 3) := by decide +kernel
theorem dX1_readLine_4 : decode cX1_readLine 4 = .ok (.iload_n 1, 1) := by decide +kernel
theorem dX1_readLine_5 : decode cX1_readLine 5 = .ok (.iload_n 2, 1) := by decide +kernel
theorem dX1_readLine_6 : decode cX1_readLine 6 = .ok (.invokevirtual 81, 3) := by decide +kernel
theorem dX1_readLine_9 : decode cX1_readLine 9 = .ok (.iload_n 2, 1) := by decide +kernel
theorem dX1_readLine_10 : decode cX1_readLine 10 = .ok (.iload_n 1, 1) := by decide +kernel
theorem dX1_readLine_11 : decode cX1_readLine 11 = .ok (.isub, 1) := by decide +kernel
theorem dX1_readLine_12 : decode cX1_readLine 12 = .ok (.istore_n 3, 1) := by decide +kernel
theorem dX1_readLine_13 : decode cX1_readLine 13 = .ok (.iload_n 3, 1) := by decide +kernel
theorem dX1_readLine_14 : decode cX1_readLine 14 = .ok (.ifCond .lt 146, 3) := by decide +kernel
theorem dX1_readLine_17 : decode cX1_readLine 17 = .ok (.aload_n 0, 1) := by decide +kernel
theorem dX1_readLine_18 : decode cX1_readLine 18 = .ok (.getfield 32, 3) := by decide +kernel
theorem dX1_readLine_21 : decode cX1_readLine 21 = .ok (.ifCond .ne 139, 3) := by decide +kernel
theorem dX1_readLine_24 : decode cX1_readLine 24 = .ok (.aload_n 0, 1) := by decide +kernel
theorem dX1_readLine_25 : decode cX1_readLine 25 = .ok (.getfield 12, 3) := by decide +kernel
theorem dX1_readLine_28 : decode cX1_readLine 28 = .ok (.getfield 85, 3) := by decide +kernel
theorem dX1_readLine_31 : decode cX1_readLine 31 = .ok (.ifCond .eq 129, 3) := by decide +kernel
theorem dX1_readLine_34 : decode cX1_readLine 34 = .ok (.aload_n 0, 1) := by decide +kernel
theorem dX1_readLine_35 : decode cX1_readLine 35 = .ok (.getfield 12, 3) := by decide +kernel
theorem dX1_readLine_38 : decode cX1_readLine 38 = .ok (.getfield 85, 3) := by decide +kernel
theorem dX1_readLine_41 : decode cX1_readLine 41 = .ok (.istore 4, 2) := by decide +kernel
theorem dX1_readLine_43 : decode cX1_readLine 43 = .ok (.aload_n 0, 1) := by decide +kernel
theorem dX1_readLine_44 : decode cX1_readLine 44 = .ok (.getfield 12, 3) := by decide +kernel
theorem dX1_readLine_47 : decode cX1_readLine 47 = .ok (.getfield 88, 3) := by decide +kernel
theorem dX1_readLine_50 : decode cX1_readLine 50 = .ok (.istore 5, 2) := by decide +kernel
theorem dX1_readLine_52 : decode cX1_readLine 52 = .ok (.aload_n 0, 1) := by decide +kernel
theorem dX1_readLine_53 : decode cX1_readLine 53 = .ok (.getfield 12, 3) := by decide +kernel
theorem dX1_readLine_56 : decode cX1_readLine 56 = .ok (.getfield 91, 3) := by decide +kernel
theorem dX1_readLine_59 : decode cX1_readLine 59 = .ok (.iload 5, 2) := by decide +kernel
theorem dX1_readLine_61 : decode cX1_readLine 61 = .ok (.isub, 1) := by decide +kernel
theorem dX1_readLine_62 : decode cX1_readLine 62 = .ok (.istore 6, 2) := by decide +kernel
theorem dX1_readLine_64 : decode cX1_readLine 64 = .ok (.iload 4, 2) := by decide +kernel
theorem dX1_readLine_66 : decode cX1_readLine 66 = .ok (.iconst 2, 1) := by decide +kernel
theorem dX1_readLine_67 : decode cX1_readLine 67 = .ok (.if_icmp .ne 19, 3) := by decide +kernel
theorem dX1_readLine_70 : decode cX1_readLine 70 = .ok (.iload 6, 2) := by decide +kernel
theorem dX1_readLine_72 : decode cX1_readLine 72 = .ok (.iconst 1, 1) := by decide +kernel
theorem dX1_readLine_73 : decode cX1_readLine 73 = .ok (.if_icmp .ne 13, 3) := by decide +kernel
theorem dX1_readLine_76 : decode cX1_readLine 76 = .ok (.aload_n 0, 1) := by decide +kernel
theorem dX1_readLine_77 : decode cX1_readLine 77 = .ok (.getfield 12, 3) := by decide +kernel
theorem dX1_readLine_80 : decode cX1_readLine 80 = .ok (.getfield 94, 3) := by decide +kernel
theorem dX1_readLine_83 : decode cX1_readLine 83 = .ok (.goto 4, 3) := by decide +kernel
theorem dX1_readLine_86 : decode cX1_readLine 86 = .ok (.iconst (-1), 1) := by decide +kernel
theorem dX1_readLine_87 : decode cX1_readLine 87 = .ok (.istore 7, 2) := by decide +kernel
theorem dX1_readLine_89 : decode cX1_readLine 89 = .ok (.iload 4, 2) := by decide +kernel
theorem dX1_readLine_91 : decode cX1_readLine 91 = .ok (.iconst 1, 1) := by decide +kernel
theorem dX1_readLine_92 : decode cX1_readLine 92 = .ok (.if_icmp .eq 15, 3) := by decide +kernel
theorem dX1_readLine_95 : decode cX1_readLine 95 = .ok (.iload 7, 2) := by decide +kernel
theorem dX1_readLine_97 : decode cX1_readLine 97 = .ok (.ifCond .ge 10, 3) := by decide +kernel
theorem dX1_readLine_100 : decode cX1_readLine 100 = .ok (.aload_n 0, 1) := by decide +kernel
theorem dX1_readLine_101 : decode cX1_readLine 101 = .ok (.iconst 1, 1) := by decide +kernel
theorem dX1_readLine_102 : decode cX1_readLine 102 = .ok (.invokevirtual 77, 3) := by decide +kernel
theorem dX1_readLine_105 : decode cX1_readLine 105 = .ok (.aconst_null, 1) := by decide +kernel
theorem dX1_readLine_106 : decode cX1_readLine 106 = .ok (.areturn, 1) := by decide +kernel
theorem dX1_readLine_107 : decode cX1_readLine 107 = .ok (.aload_n 0, 1) := by decide +kernel
theorem dX1_readLine_108 : decode cX1_readLine 108 = .ok (.getfield 12, 3) := by decide +kernel
theorem dX1_readLine_111 : decode cX1_readLine 111 = .ok (.invokevirtual 97, 3) := by decide +kernel
theorem dX1_readLine_114 : decode cX1_readLine 114 = .ok (.aload_n 0, 1) := by decide +kernel
theorem dX1_readLine_115 : decode cX1_readLine 115 = .ok (.getfield 12, 3) := by decide +kernel
theorem dX1_readLine_118 : decode cX1_readLine 118 = .ok (.bipush 58, 2) := by decide +kernel
theorem dX1_readLine_120 : decode cX1_readLine 120 = .ok (.invokevirtual 100, 3) := by decide +kernel
theorem dX1_readLine_123 : decode cX1_readLine 123 = .ok (.ifCond .ne 14, 3) := by decide +kernel
theorem dX1_readLine_126 : decode cX1_readLine 126 = .ok (.aload_n 0, 1) := by decide +kernel
theorem dX1_readLine_127 : decode cX1_readLine 127 = .ok (.iload 5, 2) := by decide +kernel
theorem dX1_readLine_129 : decode cX1_readLine 129 = .ok (.iload 6, 2) := by decide +kernel
theorem dX1_readLine_131 : decode cX1_readLine 131 = .ok (.iload 7, 2) := by decide +kernel
theorem dX1_readLine_133 : decode cX1_readLine 133 = .ok (.invokevirtual 104, 3) := by decide +kernel
theorem dX1_readLine_136 : decode cX1_readLine 136 = .ok (.areturn, 1) := by decide +kernel
theorem dX1_readLine_137 : decode cX1_readLine 137 = .ok (.aload_n 0, 1) := by decide +kernel
theorem dX1_readLine_138 : decode cX1_readLine 138 = .ok (.iload 5, 2) := by decide +kernel
theorem dX1_readLine_140 : decode cX1_readLine 140 = .ok (.iload 6, 2) := by decide +kernel
theorem dX1_readLine_142 : decode cX1_readLine 142 = .ok (.iload 7, 2) := by decide +kernel
theorem dX1_readLine_144 : decode cX1_readLine 144 = .ok (.invokevirtual 108, 3) := by decide +kernel
theorem dX1_readLine_147 : decode cX1_readLine 147 = .ok (.aload_n 0, 1) := by decide +kernel
theorem dX1_readLine_148 : decode cX1_readLine 148 = .ok (.getfield 12, 3) := by decide +kernel
theorem dX1_readLine_151 : decode cX1_readLine 151 = .ok (.invokevirtual 97, 3) := by decide +kernel
theorem dX1_readLine_154 : decode cX1_readLine 154 = .ok (.iinc 3 (-1), 3) := by decide +kernel
theorem dX1_readLine_157 : decode cX1_readLine 157 = .ok (.goto (-144), 3) := by decide +kernel
theorem dX1_readLine_160 : decode cX1_readLine 160 = .ok (.aconst_null, 1) := by decide +kernel
theorem dX1_readLine_161 : decode cX1_readLine 161 = .ok (.areturn, 1) := by decide +kernel
theorem dX1_readLabel_0 : decode cX1_readLabel 0 = .ok (.iload_n 3, 1) := by decide +kernel
theorem dX1_readLabel_1 : decode cX1_readLabel 1 = .ok (.ifCond .lt 21, 3) := by decide +kernel
theorem dX1_readLabel_4 : decode cX1_readLabel 4 = .ok (.aload_n 0, 1) := by decide +kernel
theorem dX1_readLabel_5 : decode cX1_readLabel 5 = .ok (.getfield 12, 3) := by decide +kernel
theorem dX1_readLabel_8 : decode cX1_readLabel 8 = .ok (.aload_n 0, 1) := by decide +kernel
theorem dX1_readLabel_9 : decode cX1_readLabel 9 = .ok (.getfield 65, 3) := by decide +kernel
theorem dX1_readLabel_12 : decode cX1_readLabel 12 = .ok (.aload_n 0, 1) := by decide +kernel
theorem dX1_readLabel_13 : decode cX1_readLabel 13 = .ok (.getfield 71, 3) := by decide +kernel
theorem dX1_readLabel_16 : decode cX1_readLabel 16 = .ok (.iload_n 3, 1) := by decide +kernel
theorem dX1_readLabel_17 : decode cX1_readLabel 17 = .ok (.invokevirtual 112, 3) := by decide +kernel
theorem dX1_readLabel_20 : decode cX1_readLabel 20 = .ok (.pop, 1) := by decide +kernel
theorem dX1_readLabel_21 : decode cX1_readLabel 21 = .ok (.return_, 1) := by decide +kernel
theorem dX1_readLabel_22 : decode cX1_readLabel 22 = .ok (.aload_n 0, 1) := by decide +kernel
theorem dX1_readLabel_23 : decode cX1_readLabel 23 = .ok (.getfield 12, 3) := by decide +kernel
theorem dX1_readLabel_26 : decode cX1_readLabel 26 = .ok (.iload_n 1, 1) := by decide +kernel
theorem dX1_readLabel_27 : decode cX1_readLabel 27 = .ok (.iload_n 2, 1) := by decide +kernel
theorem dX1_readLabel_28 : decode cX1_readLabel 28 = .ok (.invokevirtual 116, 3) := by decide +kernel
theorem dX1_readLabel_31 : decode cX1_readLabel 31 = .ok (.istore 4, 2) := by decide +kernel
theorem dX1_readLabel_33 : decode cX1_readLabel 33 = .ok (.aload_n 0, 1) := by decide +kernel
theorem dX1_readLabel_34 : decode cX1_readLabel 34 = .ok (.getfield 12, 3) := by decide +kernel
theorem dX1_readLabel_37 : decode cX1_readLabel 37 = .ok (.getfield 120, 3) := by decide +kernel
theorem dX1_readLabel_40 : decode cX1_readLabel 40 = .ok (.iload_n 1, 1) := by decide +kernel
theorem dX1_readLabel_41 : decode cX1_readLabel 41 = .ok (.iload_n 2, 1) := by decide +kernel
theorem dX1_readLabel_42 : decode cX1_readLabel 42 = .ok (.invokestatic 123, 3) := by decide +kernel
theorem dX1_readLabel_45 : decode cX1_readLabel 45 = .ok (.ifCond .ge 15, 3) := by decide +kernel
theorem dX1_readLabel_48 : decode cX1_readLabel 48 = .ok (.aload_n 0, 1) := by decide +kernel
theorem dX1_readLabel_49 : decode cX1_readLabel 49 = .ok (.getfield 12, 3) := by decide +kernel
theorem dX1_readLabel_52 : decode cX1_readLabel 52 = .ok (.iload 4, 2) := by decide +kernel
theorem dX1_readLabel_54 : decode cX1_readLabel 54 = .ok (.invokevirtual 129, 3) := by decide +kernel
theorem dX1_readLabel_57 : decode cX1_readLabel 57 = .ok (.ifCond .eq 9, 3) := by decide +kernel
theorem dX1_readLabel_60 : decode cX1_readLabel 60 = .ok (.aload_n 0, 1) := by decide +kernel
theorem dX1_readLabel_61 : decode cX1_readLabel 61 = .ok (.iconst 4, 1) := by decide +kernel
theorem dX1_readLabel_62 : decode cX1_readLabel 62 = .ok (.invokevirtual 77, 3) := by decide +kernel
theorem dX1_readLabel_65 : decode cX1_readLabel 65 = .ok (.return_, 1) := by decide +kernel
theorem dX1_readLabel_66 : decode cX1_readLabel 66 = .ok (.aload_n 0, 1) := by decide +kernel
theorem dX1_readLabel_67 : decode cX1_readLabel 67 = .ok (.getfield 12, 3) := by decide +kernel
theorem dX1_readLabel_70 : decode cX1_readLabel 70 = .ok (.iload 4, 2) := by decide +kernel
theorem dX1_readLabel_72 : decode cX1_readLabel 72 = .ok (.iconst 2, 1) := by decide +kernel
theorem dX1_readLabel_73 : decode cX1_readLabel 73 = .ok (.aload_n 0, 1) := by decide +kernel
theorem dX1_readLabel_74 : decode cX1_readLabel 74 = .ok (.getfield 12, 3) := by decide +kernel
theorem dX1_readLabel_77 : decode cX1_readLabel 77 = .ok (.aload_n 0, 1) := by decide +kernel
theorem dX1_readLabel_78 : decode cX1_readLabel 78 = .ok (.getfield 65, 3) := by decide +kernel
theorem dX1_readLabel_81 : decode cX1_readLabel 81 = .ok (.aload_n 0, 1) := by decide +kernel
theorem dX1_readLabel_82 : decode cX1_readLabel 82 = .ok (.getfield 71, 3) := by decide +kernel
theorem dX1_readLabel_85 : decode cX1_readLabel 85 = .ok (.iconst (-1), 1) := by decide +kernel
theorem dX1_readLabel_86 : decode cX1_readLabel 86 = .ok (.invokevirtual 112, 3) := by decide +kernel
theorem dX1_readLabel_89 : decode cX1_readLabel 89 = .ok (.invokevirtual 132, 3) := by decide +kernel
theorem dX1_readLabel_92 : decode cX1_readLabel 92 = .ok (.return_, 1) := by decide +kernel
theorem dX1_statementNamed_0 : decode cX1_statementNamed 0 = .ok (.iload_n 3, 1) := by decide +kernel
theorem dX1_statementNamed_1 : decode cX1_statementNamed 1 = .ok (.ifCond .lt 10, 3) := by decide +kernel
theorem dX1_statementNamed_4 : decode cX1_statementNamed 4 = .ok (.aload_n 0, 1) := by decide +kernel
theorem dX1_statementNamed_5 : decode cX1_statementNamed 5 = .ok (.iconst 1, 1) := by decide +kernel
theorem dX1_statementNamed_6 : decode cX1_statementNamed 6 = .ok (.invokevirtual 77, 3) := by decide +kernel
theorem dX1_statementNamed_9 : decode cX1_statementNamed 9 = .ok (.aconst_null, 1) := by decide +kernel
theorem dX1_statementNamed_10 : decode cX1_statementNamed 10 = .ok (.areturn, 1) := by decide +kernel
theorem dX1_statementNamed_11 : decode cX1_statementNamed 11 = .ok (.aload_n 0, 1) := by decide +kernel
theorem dX1_statementNamed_12 : decode cX1_statementNamed 12 = .ok (.iconst 0, 1) := by decide +kernel
theorem dX1_statementNamed_13 : decode cX1_statementNamed 13 = .ok (.putfield 135, 3) := by decide +kernel
theorem dX1_statementNamed_16 : decode cX1_statementNamed 16 = .ok (.aload_n 0, 1) := by decide +kernel
theorem dX1_statementNamed_17 : decode cX1_statementNamed 17 = .ok (.getfield 12, 3) := by decide +kernel
theorem dX1_statementNamed_20 : decode cX1_statementNamed 20 = .ok (.getfield 120, 3) := by decide +kernel
theorem dX1_statementNamed_23 : decode cX1_statementNamed 23 = .ok (.iload_n 1, 1) := by decide +kernel
theorem dX1_statementNamed_24 : decode cX1_statementNamed 24 = .ok (.iload_n 2, 1) := by decide +kernel
theorem dX1_statementNamed_25 : decode cX1_statementNamed 25 = .ok (.invokestatic 138, 3) := by decide +kernel
theorem dX1_statementNamed_28 : decode cX1_statementNamed 28 = .ok (.astore 4, 2) := by decide +kernel
theorem dX1_statementNamed_30 : decode cX1_statementNamed 30 = .ok (.aload 4, 2) := by decide +kernel
theorem dX1_statementNamed_32 : decode cX1_statementNamed 32 = .ok (.ifnonnull 98, 3) := by decide +kernel
theorem dX1_statementNamed_35 : decode cX1_statementNamed 35 = .ok (.aload_n 0, 1) := by decide +kernel
theorem dX1_statementNamed_36 : decode cX1_statementNamed 36 = .ok (.aload_n 0, 1) := by decide +kernel
theorem dX1_statementNamed_37 : decode cX1_statementNamed 37 = .ok (.getfield 12, 3) := by decide +kernel
theorem dX1_statementNamed_40 : decode cX1_statementNamed 40 = .ok (.getfield 120, 3) := by decide +kernel
theorem dX1_statementNamed_43 : decode cX1_statementNamed 43 = .ok (.iload_n 1, 1) := by decide +kernel
theorem dX1_statementNamed_44 : decode cX1_statementNamed 44 = .ok (.iload_n 2, 1) := by decide +kernel
theorem dX1_statementNamed_45 : decode cX1_statementNamed 45 = .ok (.invokestatic 142, 3) := by decide +kernel
theorem dX1_statementNamed_48 : decode cX1_statementNamed 48 = .ok (.putfield 135, 3) := by decide +kernel
theorem dX1_statementNamed_51 : decode cX1_statementNamed 51 = .ok (.aload_n 0, 1) := by decide +kernel
theorem dX1_statementNamed_52 : decode cX1_statementNamed 52 = .ok (.getfield 135, 3) := by decide +kernel
theorem dX1_statementNamed_55 : decode cX1_statementNamed 55 = .ok (.ldc 144, 2) := by decide +kernel
theorem dX1_statementNamed_57 : decode cX1_statementNamed 57 = .ok (.if_icmp .ne 7, 3) := by decide +kernel
theorem dX1_statementNamed_60 : decode cX1_statementNamed 60 = .ok (.iconst 5, 1) := by decide +kernel
theorem dX1_statementNamed_61 : decode cX1_statementNamed 61 = .ok (.goto 4, 3) := by decide +kernel
theorem dX1_statementNamed_64 : decode cX1_statementNamed 64 = .ok (.iconst 3, 1) := by decide +kernel
theorem dX1_statementNamed_65 : decode cX1_statementNamed 65 = .ok (.istore 5, 2) := by decide +kernel
theorem dX1_statementNamed_67 : decode cX1_statementNamed 67 = .ok (.aload_n 0, 1) := by decide +kernel
theorem dX1_statementNamed_68 : decode cX1_statementNamed 68 = .ok (.getfield 135, 3) := by decide +kernel
theorem dX1_statementNamed_71 : decode cX1_statementNamed 71 = .ok (.ifCond .ne 7, 3) := by decide +kernel
theorem dX1_statementNamed_74 : decode cX1_statementNamed 74 = .ok (.aconst_null, 1) := by decide +kernel
theorem dX1_statementNamed_75 : decode cX1_statementNamed 75 = .ok (.goto 18, 3) := by decide +kernel
theorem dX1_statementNamed_78 : decode cX1_statementNamed 78 = .ok (.aload_n 0, 1) := by decide +kernel
theorem dX1_statementNamed_79 : decode cX1_statementNamed 79 = .ok (.getfield 12, 3) := by decide +kernel
theorem dX1_statementNamed_82 : decode cX1_statementNamed 82 = .ok (.getfield 120, 3) := by decide +kernel
theorem dX1_statementNamed_85 : decode cX1_statementNamed 85 = .ok (.iload_n 1, 1) := by decide +kernel
theorem dX1_statementNamed_86 : decode cX1_statementNamed 86 = .ok (.iload_n 2, 1) := by decide +kernel
theorem dX1_statementNamed_87 : decode cX1_statementNamed 87 = .ok (.iload 5, 2) := by decide +kernel
theorem dX1_statementNamed_89 : decode cX1_statementNamed 89 = .ok (.isub, 1) := by decide +kernel
theorem dX1_statementNamed_90 : decode cX1_statementNamed 90 = .ok (.invokestatic 138, 3) := by decide +kernel
theorem dX1_statementNamed_93 : decode cX1_statementNamed 93 = .ok (.astore 4, 2) := by decide +kernel
theorem dX1_statementNamed_95 : decode cX1_statementNamed 95 = .ok (.aload 4, 2) := by decide +kernel
theorem dX1_statementNamed_97 : decode cX1_statementNamed 97 = .ok (.ifnull 25, 3) := by decide +kernel
theorem dX1_statementNamed_100 : decode cX1_statementNamed 100 = .ok (.aload 4, 2) := by decide +kernel
theorem dX1_statementNamed_102 : decode cX1_statementNamed 102 = .ok (.getfield 145, 3) := by decide +kernel
theorem dX1_statementNamed_105 : decode cX1_statementNamed 105 = .ok (.bipush 127, 2) := by decide +kernel
theorem dX1_statementNamed_107 : decode cX1_statementNamed 107 = .ok (.iand, 1) := by decide +kernel
theorem dX1_statementNamed_108 : decode cX1_statementNamed 108 = .ok (.bipush 47, 2) := by decide +kernel
theorem dX1_statementNamed_110 : decode cX1_statementNamed 110 = .ok (.if_icmp .ne 12, 3) := by decide +kernel
theorem dX1_statementNamed_113 : decode cX1_statementNamed 113 = .ok (.aload 4, 2) := by decide +kernel
theorem dX1_statementNamed_115 : decode cX1_statementNamed 115 = .ok (.getfield 148, 3) := by decide +kernel
theorem dX1_statementNamed_118 : decode cX1_statementNamed 118 = .ok (.iconst 1, 1) := by decide +kernel
theorem dX1_statementNamed_119 : decode cX1_statementNamed 119 = .ok (.if_icmp .eq 11, 3) := by decide +kernel
theorem dX1_statementNamed_122 : decode cX1_statementNamed 122 = .ok (.aconst_null, 1) := by decide +kernel
theorem dX1_statementNamed_123 : decode cX1_statementNamed 123 = .ok (.astore 4, 2) := by decide +kernel
theorem dX1_statementNamed_125 : decode cX1_statementNamed 125 = .ok (.aload_n 0, 1) := by decide +kernel
theorem dX1_statementNamed_126 : decode cX1_statementNamed 126 = .ok (.iconst 2, 1) := by decide +kernel
theorem dX1_statementNamed_127 : decode cX1_statementNamed 127 = .ok (.invokevirtual 77, 3) := by decide +kernel
theorem dX1_statementNamed_130 : decode cX1_statementNamed 130 = .ok (.aload 4, 2) := by decide +kernel
theorem dX1_statementNamed_132 : decode cX1_statementNamed 132 = .ok (.areturn, 1) := by decide +kernel
theorem dX1_readConstant_0 : decode cX1_readConstant 0 = .ok (.aload_n 0, 1) := by decide +kernel
theorem dX1_readConstant_1 : decode cX1_readConstant 1 = .ok (.getfield 12, 3) := by decide +kernel
theorem dX1_readConstant_4 : decode cX1_readConstant 4 = .ok (.getfield 85, 3) := by decide +kernel
theorem dX1_readConstant_7 : decode cX1_readConstant 7 = .ok (.iconst 1, 1) := by decide +kernel
theorem dX1_readConstant_8 : decode cX1_readConstant 8 = .ok (.if_icmp .eq 9, 3) := by decide +kernel
theorem dX1_readConstant_11 : decode cX1_readConstant 11 = .ok (.aload_n 0, 1) := by decide +kernel
theorem dX1_readConstant_12 : decode cX1_readConstant 12 = .ok (.iconst 1, 1) := by decide +kernel
theorem dX1_readConstant_13 : decode cX1_readConstant 13 = .ok (.invokevirtual 77, 3) := by decide +kernel
theorem dX1_readConstant_16 : decode cX1_readConstant 16 = .ok (.return_, 1) := by decide +kernel
theorem dX1_readConstant_17 : decode cX1_readConstant 17 = .ok (.aload_n 0, 1) := by decide +kernel
theorem dX1_readConstant_18 : decode cX1_readConstant 18 = .ok (.getfield 12, 3) := by decide +kernel
theorem dX1_readConstant_21 : decode cX1_readConstant 21 = .ok (.getfield 91, 3) := by decide +kernel
theorem dX1_readConstant_24 : decode cX1_readConstant 24 = .ok (.aload_n 0, 1) := by decide +kernel
theorem dX1_readConstant_25 : decode cX1_readConstant 25 = .ok (.getfield 12, 3) := by decide +kernel
theorem dX1_readConstant_28 : decode cX1_readConstant 28 = .ok (.getfield 88, 3) := by decide +kernel
theorem dX1_readConstant_31 : decode cX1_readConstant 31 = .ok (.isub, 1) := by decide +kernel
theorem dX1_readConstant_32 : decode cX1_readConstant 32 = .ok (.istore_n 1, 1) := by decide +kernel
theorem dX1_readConstant_33 : decode cX1_readConstant 33 = .ok (.aload_n 0, 1) := by decide +kernel
theorem dX1_readConstant_34 : decode cX1_readConstant 34 = .ok (.getfield 12, 3) := by decide +kernel
theorem dX1_readConstant_37 : decode cX1_readConstant 37 = .ok (.aload_n 0, 1) := by decide +kernel
theorem dX1_readConstant_38 : decode cX1_readConstant 38 = .ok (.getfield 12, 3) := by decide +kernel
theorem dX1_readConstant_41 : decode cX1_readConstant 41 = .ok (.getfield 88, 3) := by decide +kernel
theorem dX1_readConstant_44 : decode cX1_readConstant 44 = .ok (.iload_n 1, 1) := by decide +kernel
theorem dX1_readConstant_45 : decode cX1_readConstant 45 = .ok (.invokevirtual 116, 3) := by decide +kernel
theorem dX1_readConstant_48 : decode cX1_readConstant 48 = .ok (.istore_n 2, 1) := by decide +kernel
theorem dX1_readConstant_49 : decode cX1_readConstant 49 = .ok (.aload_n 0, 1) := by decide +kernel
theorem dX1_readConstant_50 : decode cX1_readConstant 50 = .ok (.getfield 12, 3) := by decide +kernel
theorem dX1_readConstant_53 : decode cX1_readConstant 53 = .ok (.getfield 120, 3) := by decide +kernel
theorem dX1_readConstant_56 : decode cX1_readConstant 56 = .ok (.aload_n 0, 1) := by decide +kernel
theorem dX1_readConstant_57 : decode cX1_readConstant 57 = .ok (.getfield 12, 3) := by decide +kernel
theorem dX1_readConstant_60 : decode cX1_readConstant 60 = .ok (.getfield 88, 3) := by decide +kernel
theorem dX1_readConstant_63 : decode cX1_readConstant 63 = .ok (.iload_n 1, 1) := by decide +kernel
theorem dX1_readConstant_64 : decode cX1_readConstant 64 = .ok (.invokestatic 123, 3) := by decide +kernel
theorem dX1_readConstant_67 : decode cX1_readConstant 67 = .ok (.ifCond .ge 14, 3) := by decide +kernel
theorem dX1_readConstant_70 : decode cX1_readConstant 70 = .ok (.aload_n 0, 1) := by decide +kernel
theorem dX1_readConstant_71 : decode cX1_readConstant 71 = .ok (.getfield 12, 3) := by decide +kernel
theorem dX1_readConstant_74 : decode cX1_readConstant 74 = .ok (.iload_n 2, 1) := by decide +kernel
theorem dX1_readConstant_75 : decode cX1_readConstant 75 = .ok (.invokevirtual 129, 3) := by decide +kernel
theorem dX1_readConstant_78 : decode cX1_readConstant 78 = .ok (.ifCond .eq 9, 3) := by decide +kernel
theorem dX1_readConstant_81 : decode cX1_readConstant 81 = .ok (.aload_n 0, 1) := by decide +kernel
theorem dX1_readConstant_82 : decode cX1_readConstant 82 = .ok (.iconst 4, 1) := by decide +kernel
theorem dX1_readConstant_83 : decode cX1_readConstant 83 = .ok (.invokevirtual 77, 3) := by decide +kernel
theorem dX1_readConstant_86 : decode cX1_readConstant 86 = .ok (.return_, 1) := by decide +kernel
theorem dX1_readConstant_87 : decode cX1_readConstant 87 = .ok (.aload_n 0, 1) := by decide +kernel
theorem dX1_readConstant_88 : decode cX1_readConstant 88 = .ok (.getfield 12, 3) := by decide +kernel
theorem dX1_readConstant_91 : decode cX1_readConstant 91 = .ok (.invokevirtual 97, 3) := by decide +kernel
theorem dX1_readConstant_94 : decode cX1_readConstant 94 = .ok (.aload_n 0, 1) := by decide +kernel
theorem dX1_readConstant_95 : decode cX1_readConstant 95 = .ok (.bipush 44, 2) := by decide +kernel
theorem dX1_readConstant_97 : decode cX1_readConstant 97 = .ok (.invokevirtual 194, 3) := by decide +kernel
theorem dX1_readConstant_100 : decode cX1_readConstant 100 = .ok (.aload_n 0, 1) := by decide +kernel
theorem dX1_readConstant_101 : decode cX1_readConstant 101 = .ok (.getfield 32, 3) := by decide +kernel
theorem dX1_readConstant_104 : decode cX1_readConstant 104 = .ok (.ifCond .ne 13, 3) := by decide +kernel
theorem dX1_readConstant_107 : decode cX1_readConstant 107 = .ok (.aload_n 0, 1) := by decide +kernel
theorem dX1_readConstant_108 : decode cX1_readConstant 108 = .ok (.getfield 12, 3) := by decide +kernel
theorem dX1_readConstant_111 : decode cX1_readConstant 111 = .ok (.invokevirtual 170, 3) := by decide +kernel
theorem dX1_readConstant_114 : decode cX1_readConstant 114 = .ok (.goto 4, 3) := by decide +kernel
theorem dX1_readConstant_117 : decode cX1_readConstant 117 = .ok (.iconst 0, 1) := by decide +kernel
theorem dX1_readConstant_118 : decode cX1_readConstant 118 = .ok (.istore_n 3, 1) := by decide +kernel
theorem dX1_readConstant_119 : decode cX1_readConstant 119 = .ok (.aload_n 0, 1) := by decide +kernel
theorem dX1_readConstant_120 : decode cX1_readConstant 120 = .ok (.iload_n 3, 1) := by decide +kernel
theorem dX1_readConstant_121 : decode cX1_readConstant 121 = .ok (.ldc 199, 2) := by decide +kernel
theorem dX1_readConstant_123 : decode cX1_readConstant 123 = .ok (.ldc 200, 2) := by decide +kernel
theorem dX1_readConstant_125 : decode cX1_readConstant 125 = .ok (.invokevirtual 173, 3) := by decide +kernel
theorem dX1_readConstant_128 : decode cX1_readConstant 128 = .ok (.istore 4, 2) := by decide +kernel
theorem dX1_readConstant_130 : decode cX1_readConstant 130 = .ok (.aload_n 0, 1) := by decide +kernel
theorem dX1_readConstant_131 : decode cX1_readConstant 131 = .ok (.getfield 32, 3) := by decide +kernel
theorem dX1_readConstant_134 : decode cX1_readConstant 134 = .ok (.ifCond .ne 24, 3) := by decide +kernel
theorem dX1_readConstant_137 : decode cX1_readConstant 137 = .ok (.aload_n 0, 1) := by decide +kernel
theorem dX1_readConstant_138 : decode cX1_readConstant 138 = .ok (.getfield 12, 3) := by decide +kernel
theorem dX1_readConstant_141 : decode cX1_readConstant 141 = .ok (.iload_n 2, 1) := by decide +kernel
theorem dX1_readConstant_142 : decode cX1_readConstant 142 = .ok (.iconst 1, 1) := by decide +kernel
theorem dX1_readConstant_143 : decode cX1_readConstant 143 = .ok (.iload 4, 2) := by decide +kernel
theorem dX1_readConstant_145 : decode cX1_readConstant 145 = .ok (.invokevirtual 132, 3) := by decide +kernel
theorem dX1_readConstant_148 : decode cX1_readConstant 148 = .ok (.aload_n 0, 1) := by decide +kernel
theorem dX1_readConstant_149 : decode cX1_readConstant 149 = .ok (.dup, 1) := by decide +kernel
theorem dX1_readConstant_150 : decode cX1_readConstant 150 = .ok (.getfield 74, 3) := by decide +kernel
theorem dX1_readConstant_153 : decode cX1_readConstant 153 = .ok (.iconst 1, 1) := by decide +kernel
theorem dX1_readConstant_154 : decode cX1_readConstant 154 = .ok (.iadd, 1) := by decide +kernel
theorem dX1_readConstant_155 : decode cX1_readConstant 155 = .ok (.putfield 74, 3) := by decide +kernel
theorem dX1_readConstant_158 : decode cX1_readConstant 158 = .ok (.return_, 1) := by decide +kernel
theorem dX1_readList_0 : decode cX1_readList 0 = .ok (.aload_n 0, 1) := by decide +kernel
theorem dX1_readList_1 : decode cX1_readList 1 = .ok (.getfield 12, 3) := by decide +kernel
theorem dX1_readList_4 : decode cX1_readList 4 = .ok (.getfield 201, 3) := by decide +kernel
theorem dX1_readList_7 : decode cX1_readList 7 = .ok (.istore_n 2, 1) := by decide +kernel
theorem dX1_readList_8 : decode cX1_readList 8 = .ok (.iconst 0, 1) := by decide +kernel
theorem dX1_readList_9 : decode cX1_readList 9 = .ok (.istore_n 3, 1) := by decide +kernel
theorem dX1_readList_10 : decode cX1_readList 10 = .ok (.aload_n 0, 1) := by decide +kernel
theorem dX1_readList_11 : decode cX1_readList 11 = .ok (.getfield 12, 3) := by decide +kernel
theorem dX1_readList_14 : decode cX1_readList 14 = .ok (.getfield 120, 3) := by decide +kernel
theorem dX1_readList_17 : decode cX1_readList 17 = .ok (.arraylength, 1) := by decide +kernel
theorem dX1_readList_18 : decode cX1_readList 18 = .ok (.istore 4, 2) := by decide +kernel
theorem dX1_readList_20 : decode cX1_readList 20 = .ok (.iload 4, 2) := by decide +kernel
theorem dX1_readList_22 : decode cX1_readList 22 = .ok (.ifCond .lt 56, 3) := by decide +kernel
theorem dX1_readList_25 : decode cX1_readList 25 = .ok (.aload_n 0, 1) := by decide +kernel
theorem dX1_readList_26 : decode cX1_readList 26 = .ok (.getfield 32, 3) := by decide +kernel
theorem dX1_readList_29 : decode cX1_readList 29 = .ok (.ifCond .ne 49, 3) := by decide +kernel
theorem dX1_readList_32 : decode cX1_readList 32 = .ok (.aload_n 0, 1) := by decide +kernel
theorem dX1_readList_33 : decode cX1_readList 33 = .ok (.getfield 12, 3) := by decide +kernel
theorem dX1_readList_36 : decode cX1_readList 36 = .ok (.invokevirtual 170, 3) := by decide +kernel
theorem dX1_readList_39 : decode cX1_readList 39 = .ok (.ifCond .ge 8, 3) := by decide +kernel
theorem dX1_readList_42 : decode cX1_readList 42 = .ok (.aload_n 0, 1) := by decide +kernel
theorem dX1_readList_43 : decode cX1_readList 43 = .ok (.iconst 1, 1) := by decide +kernel
theorem dX1_readList_44 : decode cX1_readList 44 = .ok (.invokevirtual 77, 3) := by decide +kernel
theorem dX1_readList_47 : decode cX1_readList 47 = .ok (.iinc 3 1, 3) := by decide +kernel
theorem dX1_readList_50 : decode cX1_readList 50 = .ok (.aload_n 0, 1) := by decide +kernel
theorem dX1_readList_51 : decode cX1_readList 51 = .ok (.getfield 12, 3) := by decide +kernel
theorem dX1_readList_54 : decode cX1_readList 54 = .ok (.bipush 44, 2) := by decide +kernel
theorem dX1_readList_56 : decode cX1_readList 56 = .ok (.invokevirtual 100, 3) := by decide +kernel
theorem dX1_readList_59 : decode cX1_readList 59 = .ok (.ifCond .ne 6, 3) := by decide +kernel
theorem dX1_readList_62 : decode cX1_readList 62 = .ok (.goto 16, 3) := by decide +kernel
theorem dX1_readList_65 : decode cX1_readList 65 = .ok (.aload_n 0, 1) := by decide +kernel
theorem dX1_readList_66 : decode cX1_readList 66 = .ok (.getfield 12, 3) := by decide +kernel
theorem dX1_readList_69 : decode cX1_readList 69 = .ok (.invokevirtual 97, 3) := by decide +kernel
theorem dX1_readList_72 : decode cX1_readList 72 = .ok (.iinc 4 (-1), 3) := by decide +kernel
theorem dX1_readList_75 : decode cX1_readList 75 = .ok (.goto (-55), 3) := by decide +kernel
theorem dX1_readList_78 : decode cX1_readList 78 = .ok (.aload_n 0, 1) := by decide +kernel
theorem dX1_readList_79 : decode cX1_readList 79 = .ok (.iconst 5, 1) := by decide +kernel
theorem dX1_readList_80 : decode cX1_readList 80 = .ok (.iload_n 3, 1) := by decide +kernel
theorem dX1_readList_81 : decode cX1_readList 81 = .ok (.iload_n 1, 1) := by decide +kernel
theorem dX1_readList_82 : decode cX1_readList 82 = .ok (.imul, 1) := by decide +kernel
theorem dX1_readList_83 : decode cX1_readList 83 = .ok (.iload_n 1, 1) := by decide +kernel
theorem dX1_readList_84 : decode cX1_readList 84 = .ok (.iload_n 2, 1) := by decide +kernel
theorem dX1_readList_85 : decode cX1_readList 85 = .ok (.invokevirtual 176, 3) := by decide +kernel
theorem dX1_readList_88 : decode cX1_readList 88 = .ok (.return_, 1) := by decide +kernel
theorem dX1_readTexts_0 : decode cX1_readTexts 0 = .ok (.aload_n 0, 1) := by decide +kernel
theorem dX1_readTexts_1 : decode cX1_readTexts 1 = .ok (.getfield 68, 3) := by decide +kernel
theorem dX1_readTexts_4 : decode cX1_readTexts 4 = .ok (.istore_n 2, 1) := by decide +kernel
theorem dX1_readTexts_5 : decode cX1_readTexts 5 = .ok (.aload_n 0, 1) := by decide +kernel
theorem dX1_readTexts_6 : decode cX1_readTexts 6 = .ok (.getfield 12, 3) := by decide +kernel
theorem dX1_readTexts_9 : decode cX1_readTexts 9 = .ok (.getfield 120, 3) := by decide +kernel
theorem dX1_readTexts_12 : decode cX1_readTexts 12 = .ok (.arraylength, 1) := by decide +kernel
theorem dX1_readTexts_13 : decode cX1_readTexts 13 = .ok (.istore_n 3, 1) := by decide +kernel
theorem dX1_readTexts_14 : decode cX1_readTexts 14 = .ok (.iload_n 3, 1) := by decide +kernel
theorem dX1_readTexts_15 : decode cX1_readTexts 15 = .ok (.ifCond .lt 75, 3) := by decide +kernel
theorem dX1_readTexts_18 : decode cX1_readTexts 18 = .ok (.aload_n 0, 1) := by decide +kernel
theorem dX1_readTexts_19 : decode cX1_readTexts 19 = .ok (.getfield 32, 3) := by decide +kernel
theorem dX1_readTexts_22 : decode cX1_readTexts 22 = .ok (.ifCond .ne 68, 3) := by decide +kernel
theorem dX1_readTexts_25 : decode cX1_readTexts 25 = .ok (.aload_n 0, 1) := by decide +kernel
theorem dX1_readTexts_26 : decode cX1_readTexts 26 = .ok (.getfield 12, 3) := by decide +kernel
theorem dX1_readTexts_29 : decode cX1_readTexts 29 = .ok (.getfield 85, 3) := by decide +kernel
theorem dX1_readTexts_32 : decode cX1_readTexts 32 = .ok (.iconst 4, 1) := by decide +kernel
theorem dX1_readTexts_33 : decode cX1_readTexts 33 = .ok (.if_icmp .eq 9, 3) := by decide +kernel
theorem dX1_readTexts_36 : decode cX1_readTexts 36 = .ok (.aload_n 0, 1) := by decide +kernel
theorem dX1_readTexts_37 : decode cX1_readTexts 37 = .ok (.iconst 1, 1) := by decide +kernel
theorem dX1_readTexts_38 : decode cX1_readTexts 38 = .ok (.invokevirtual 77, 3) := by decide +kernel
theorem dX1_readTexts_41 : decode cX1_readTexts 41 = .ok (.return_, 1) := by decide +kernel
theorem dX1_readTexts_42 : decode cX1_readTexts 42 = .ok (.aload_n 0, 1) := by decide +kernel
theorem dX1_readTexts_43 : decode cX1_readTexts 43 = .ok (.invokevirtual 204, 3) := by decide +kernel
theorem dX1_readTexts_46 : decode cX1_readTexts 46 = .ok (.iload_n 1, 1) := by decide +kernel
theorem dX1_readTexts_47 : decode cX1_readTexts 47 = .ok (.ifCond .eq 8, 3) := by decide +kernel
theorem dX1_readTexts_50 : decode cX1_readTexts 50 = .ok (.aload_n 0, 1) := by decide +kernel
theorem dX1_readTexts_51 : decode cX1_readTexts 51 = .ok (.iconst 0, 1) := by decide +kernel
theorem dX1_readTexts_52 : decode cX1_readTexts 52 = .ok (.invokevirtual 207, 3) := by decide +kernel
theorem dX1_readTexts_55 : decode cX1_readTexts 55 = .ok (.aload_n 0, 1) := by decide +kernel
theorem dX1_readTexts_56 : decode cX1_readTexts 56 = .ok (.getfield 12, 3) := by decide +kernel
theorem dX1_readTexts_59 : decode cX1_readTexts 59 = .ok (.invokevirtual 97, 3) := by decide +kernel
theorem dX1_readTexts_62 : decode cX1_readTexts 62 = .ok (.aload_n 0, 1) := by decide +kernel
theorem dX1_readTexts_63 : decode cX1_readTexts 63 = .ok (.getfield 12, 3) := by decide +kernel
theorem dX1_readTexts_66 : decode cX1_readTexts 66 = .ok (.bipush 44, 2) := by decide +kernel
theorem dX1_readTexts_68 : decode cX1_readTexts 68 = .ok (.invokevirtual 100, 3) := by decide +kernel
theorem dX1_readTexts_71 : decode cX1_readTexts 71 = .ok (.ifCond .ne 6, 3) := by decide +kernel
theorem dX1_readTexts_74 : decode cX1_readTexts 74 = .ok (.goto 16, 3) := by decide +kernel
theorem dX1_readTexts_77 : decode cX1_readTexts 77 = .ok (.aload_n 0, 1) := by decide +kernel
theorem dX1_readTexts_78 : decode cX1_readTexts 78 = .ok (.getfield 12, 3) := by decide +kernel
theorem dX1_readTexts_81 : decode cX1_readTexts 81 = .ok (.invokevirtual 97, 3) := by decide +kernel
theorem dX1_readTexts_84 : decode cX1_readTexts 84 = .ok (.iinc 3 (-1), 3) := by decide +kernel
theorem dX1_readTexts_87 : decode cX1_readTexts 87 = .ok (.goto (-73), 3) := by decide +kernel
theorem dX1_readTexts_90 : decode cX1_readTexts 90 = .ok (.aload_n 0, 1) := by decide +kernel
theorem dX1_readTexts_91 : decode cX1_readTexts 91 = .ok (.bipush 6, 2) := by decide +kernel
theorem dX1_readTexts_93 : decode cX1_readTexts 93 = .ok (.aload_n 0, 1) := by decide +kernel
theorem dX1_readTexts_94 : decode cX1_readTexts 94 = .ok (.getfield 68, 3) := by decide +kernel
theorem dX1_readTexts_97 : decode cX1_readTexts 97 = .ok (.iload_n 2, 1) := by decide +kernel
theorem dX1_readTexts_98 : decode cX1_readTexts 98 = .ok (.isub, 1) := by decide +kernel
theorem dX1_readTexts_99 : decode cX1_readTexts 99 = .ok (.iconst 0, 1) := by decide +kernel
theorem dX1_readTexts_100 : decode cX1_readTexts 100 = .ok (.iload_n 2, 1) := by decide +kernel
theorem dX1_readTexts_101 : decode cX1_readTexts 101 = .ok (.invokevirtual 176, 3) := by decide +kernel
theorem dX1_readTexts_104 : decode cX1_readTexts 104 = .ok (.return_, 1) := by decide +kernel
theorem dX1_keepText_0 : decode cX1_keepText 0 = .ok (.aload_n 0, 1) := by decide +kernel
theorem dX1_keepText_1 : decode cX1_keepText 1 = .ok (.getfield 12, 3) := by decide +kernel
theorem dX1_keepText_4 : decode cX1_keepText 4 = .ok (.getfield 88, 3) := by decide +kernel
theorem dX1_keepText_7 : decode cX1_keepText 7 = .ok (.iconst 1, 1) := by decide +kernel
theorem dX1_keepText_8 : decode cX1_keepText 8 = .ok (.iadd, 1) := by decide +kernel
theorem dX1_keepText_9 : decode cX1_keepText 9 = .ok (.istore_n 1, 1) := by decide +kernel
theorem dX1_keepText_10 : decode cX1_keepText 10 = .ok (.iload_n 1, 1) := by decide +kernel
theorem dX1_keepText_11 : decode cX1_keepText 11 = .ok (.aload_n 0, 1) := by decide +kernel
theorem dX1_keepText_12 : decode cX1_keepText 12 = .ok (.getfield 12, 3) := by decide +kernel
theorem dX1_keepText_15 : decode cX1_keepText 15 = .ok (.getfield 91, 3) := by decide +kernel
theorem dX1_keepText_18 : decode cX1_keepText 18 = .ok (.iconst 1, 1) := by decide +kernel
theorem dX1_keepText_19 : decode cX1_keepText 19 = .ok (.isub, 1) := by decide +kernel
theorem dX1_keepText_20 : decode cX1_keepText 20 = .ok (.if_icmp .ge 31, 3) := by decide +kernel
theorem dX1_keepText_23 : decode cX1_keepText 23 = .ok (.aload_n 0, 1) := by decide +kernel
theorem dX1_keepText_24 : decode cX1_keepText 24 = .ok (.aload_n 0, 1) := by decide +kernel
theorem dX1_keepText_25 : decode cX1_keepText 25 = .ok (.getfield 12, 3) := by decide +kernel
theorem dX1_keepText_28 : decode cX1_keepText 28 = .ok (.iload_n 1, 1) := by decide +kernel
theorem dX1_keepText_29 : decode cX1_keepText 29 = .ok (.bipush 34, 2) := by decide +kernel
theorem dX1_keepText_31 : decode cX1_keepText 31 = .ok (.invokevirtual 210, 3) := by decide +kernel
theorem dX1_keepText_34 : decode cX1_keepText 34 = .ok (.invokevirtual 207, 3) := by decide +kernel
theorem dX1_keepText_37 : decode cX1_keepText 37 = .ok (.iload_n 1, 1) := by decide +kernel
theorem dX1_keepText_38 : decode cX1_keepText 38 = .ok (.aload_n 0, 1) := by decide +kernel
theorem dX1_keepText_39 : decode cX1_keepText 39 = .ok (.getfield 12, 3) := by decide +kernel
theorem dX1_keepText_42 : decode cX1_keepText 42 = .ok (.iload_n 1, 1) := by decide +kernel
theorem dX1_keepText_43 : decode cX1_keepText 43 = .ok (.invokevirtual 213, 3) := by decide +kernel
theorem dX1_keepText_46 : decode cX1_keepText 46 = .ok (.iadd, 1) := by decide +kernel
theorem dX1_keepText_47 : decode cX1_keepText 47 = .ok (.istore_n 1, 1) := by decide +kernel
theorem dX1_keepText_48 : decode cX1_keepText 48 = .ok (.goto (-38), 3) := by decide +kernel
theorem dX1_keepText_51 : decode cX1_keepText 51 = .ok (.return_, 1) := by decide +kernel
theorem dX1_keepLetter_0 : decode cX1_keepLetter 0 = .ok (.aload_n 0, 1) := by decide +kernel
theorem dX1_keepLetter_1 : decode cX1_keepLetter 1 = .ok (.getfield 68, 3) := by decide +kernel
theorem dX1_keepLetter_4 : decode cX1_keepLetter 4 = .ok (.aload_n 0, 1) := by decide +kernel
theorem dX1_keepLetter_5 : decode cX1_keepLetter 5 = .ok (.getfield 24, 3) := by decide +kernel
theorem dX1_keepLetter_8 : decode cX1_keepLetter 8 = .ok (.arraylength, 1) := by decide +kernel
theorem dX1_keepLetter_9 : decode cX1_keepLetter 9 = .ok (.if_icmp .ge 24, 3) := by decide +kernel
theorem dX1_keepLetter_12 : decode cX1_keepLetter 12 = .ok (.aload_n 0, 1) := by decide +kernel
theorem dX1_keepLetter_13 : decode cX1_keepLetter 13 = .ok (.getfield 24, 3) := by decide +kernel
theorem dX1_keepLetter_16 : decode cX1_keepLetter 16 = .ok (.aload_n 0, 1) := by decide +kernel
theorem dX1_keepLetter_17 : decode cX1_keepLetter 17 = .ok (.getfield 68, 3) := by decide +kernel
theorem dX1_keepLetter_20 : decode cX1_keepLetter 20 = .ok (.iload_n 1, 1) := by decide +kernel
theorem dX1_keepLetter_21 : decode cX1_keepLetter 21 = .ok (.i2b, 1) := by decide +kernel
theorem dX1_keepLetter_22 : decode cX1_keepLetter 22 = .ok (.bastore, 1) := by decide +kernel
theorem dX1_keepLetter_23 : decode cX1_keepLetter 23 = .ok (.aload_n 0, 1) := by decide +kernel
theorem dX1_keepLetter_24 : decode cX1_keepLetter 24 = .ok (.dup, 1) := by decide +kernel
theorem dX1_keepLetter_25 : decode cX1_keepLetter 25 = .ok (.getfield 68, 3) := by decide +kernel
theorem dX1_keepLetter_28 : decode cX1_keepLetter 28 = .ok (.iconst 1, 1) := by decide +kernel
theorem dX1_keepLetter_29 : decode cX1_keepLetter 29 = .ok (.iadd, 1) := by decide +kernel
theorem dX1_keepLetter_30 : decode cX1_keepLetter 30 = .ok (.putfield 68, 3) := by decide +kernel
theorem dX1_keepLetter_33 : decode cX1_keepLetter 33 = .ok (.return_, 1) := by decide +kernel
theorem dX1_fixed_0 : decode cX1_fixed 0 = .ok (.aload_n 0, 1) := by decide +kernel
theorem dX1_fixed_1 : decode cX1_fixed 1 = .ok (.getfield 32, 3) := by decide +kernel
theorem dX1_fixed_4 : decode cX1_fixed 4 = .ok (.ifCond .eq 5, 3) := by decide +kernel
theorem dX1_fixed_7 : decode cX1_fixed 7 = .ok (.iconst 0, 1) := by decide +kernel
theorem dX1_fixed_8 : decode cX1_fixed 8 = .ok (.ireturn, 1) := by decide +kernel
theorem dX1_fixed_9 : decode cX1_fixed 9 = .ok (.iload_n 1, 1) := by decide +kernel
theorem dX1_fixed_10 : decode cX1_fixed 10 = .ok (.ifCond .lt 13, 3) := by decide +kernel
theorem dX1_fixed_13 : decode cX1_fixed 13 = .ok (.aload_n 0, 1) := by decide +kernel
theorem dX1_fixed_14 : decode cX1_fixed 14 = .ok (.getfield 12, 3) := by decide +kernel
theorem dX1_fixed_17 : decode cX1_fixed 17 = .ok (.getfield 217, 3) := by decide +kernel
theorem dX1_fixed_20 : decode cX1_fixed 20 = .ok (.ifCond .ne 18, 3) := by decide +kernel
theorem dX1_fixed_23 : decode cX1_fixed 23 = .ok (.aload_n 0, 1) := by decide +kernel
theorem dX1_fixed_24 : decode cX1_fixed 24 = .ok (.iload_n 1, 1) := by decide +kernel
theorem dX1_fixed_25 : decode cX1_fixed 25 = .ok (.ifCond .ge 7, 3) := by decide +kernel
theorem dX1_fixed_28 : decode cX1_fixed 28 = .ok (.iconst 1, 1) := by decide +kernel
theorem dX1_fixed_29 : decode cX1_fixed 29 = .ok (.goto 4, 3) := by decide +kernel
theorem dX1_fixed_32 : decode cX1_fixed 32 = .ok (.iconst 5, 1) := by decide +kernel
theorem dX1_fixed_33 : decode cX1_fixed 33 = .ok (.invokevirtual 77, 3) := by decide +kernel
theorem dX1_fixed_36 : decode cX1_fixed 36 = .ok (.iconst 0, 1) := by decide +kernel
theorem dX1_fixed_37 : decode cX1_fixed 37 = .ok (.ireturn, 1) := by decide +kernel
theorem dX1_fixed_38 : decode cX1_fixed 38 = .ok (.aload_n 0, 1) := by decide +kernel
theorem dX1_fixed_39 : decode cX1_fixed 39 = .ok (.getfield 12, 3) := by decide +kernel
theorem dX1_fixed_42 : decode cX1_fixed 42 = .ok (.iload_n 1, 1) := by decide +kernel
theorem dX1_fixed_43 : decode cX1_fixed 43 = .ok (.iconst 0, 1) := by decide +kernel
theorem dX1_fixed_44 : decode cX1_fixed 44 = .ok (.invokevirtual 220, 3) := by decide +kernel
theorem dX1_fixed_47 : decode cX1_fixed 47 = .ok (.istore 4, 2) := by decide +kernel
theorem dX1_fixed_49 : decode cX1_fixed 49 = .ok (.aload_n 0, 1) := by decide +kernel
theorem dX1_fixed_50 : decode cX1_fixed 50 = .ok (.getfield 12, 3) := by decide +kernel
theorem dX1_fixed_53 : decode cX1_fixed 53 = .ok (.getfield 223, 3) := by decide +kernel
theorem dX1_fixed_56 : decode cX1_fixed 56 = .ok (.ifCond .ne 15, 3) := by decide +kernel
theorem dX1_fixed_59 : decode cX1_fixed 59 = .ok (.iload 4, 2) := by decide +kernel
theorem dX1_fixed_61 : decode cX1_fixed 61 = .ok (.iload_n 2, 1) := by decide +kernel
theorem dX1_fixed_62 : decode cX1_fixed 62 = .ok (.if_icmp .lt 9, 3) := by decide +kernel
theorem dX1_fixed_65 : decode cX1_fixed 65 = .ok (.iload 4, 2) := by decide +kernel
theorem dX1_fixed_67 : decode cX1_fixed 67 = .ok (.iload_n 3, 1) := by decide +kernel
theorem dX1_fixed_68 : decode cX1_fixed 68 = .ok (.if_icmp .le 31, 3) := by decide +kernel
theorem dX1_fixed_71 : decode cX1_fixed 71 = .ok (.aload_n 0, 1) := by decide +kernel
theorem dX1_fixed_72 : decode cX1_fixed 72 = .ok (.aload_n 0, 1) := by decide +kernel
theorem dX1_fixed_73 : decode cX1_fixed 73 = .ok (.getfield 12, 3) := by decide +kernel
theorem dX1_fixed_76 : decode cX1_fixed 76 = .ok (.getfield 223, 3) := by decide +kernel
theorem dX1_fixed_79 : decode cX1_fixed 79 = .ok (.ifCond .eq 13, 3) := by decide +kernel
theorem dX1_fixed_82 : decode cX1_fixed 82 = .ok (.aload_n 0, 1) := by decide +kernel
theorem dX1_fixed_83 : decode cX1_fixed 83 = .ok (.getfield 12, 3) := by decide +kernel
theorem dX1_fixed_86 : decode cX1_fixed 86 = .ok (.getfield 223, 3) := by decide +kernel
theorem dX1_fixed_89 : decode cX1_fixed 89 = .ok (.goto 5, 3) := by decide +kernel
theorem dX1_fixed_92 : decode cX1_fixed 92 = .ok (.bipush 6, 2) := by decide +kernel
theorem dX1_fixed_94 : decode cX1_fixed 94 = .ok (.invokevirtual 77, 3) := by decide +kernel
theorem dX1_fixed_97 : decode cX1_fixed 97 = .ok (.iconst 0, 1) := by decide +kernel
theorem dX1_fixed_98 : decode cX1_fixed 98 = .ok (.ireturn, 1) := by decide +kernel
theorem dX1_fixed_99 : decode cX1_fixed 99 = .ok (.iload 4, 2) := by decide +kernel
theorem dX1_fixed_101 : decode cX1_fixed 101 = .ok (.ireturn, 1) := by decide +kernel
theorem dX1_expect_0 : decode cX1_expect 0 = .ok (.aload_n 0, 1) := by decide +kernel
theorem dX1_expect_1 : decode cX1_expect 1 = .ok (.getfield 32, 3) := by decide +kernel
theorem dX1_expect_4 : decode cX1_expect 4 = .ok (.ifCond .ne 19, 3) := by decide +kernel
theorem dX1_expect_7 : decode cX1_expect 7 = .ok (.aload_n 0, 1) := by decide +kernel
theorem dX1_expect_8 : decode cX1_expect 8 = .ok (.getfield 12, 3) := by decide +kernel
theorem dX1_expect_11 : decode cX1_expect 11 = .ok (.iload_n 1, 1) := by decide +kernel
theorem dX1_expect_12 : decode cX1_expect 12 = .ok (.invokevirtual 100, 3) := by decide +kernel
theorem dX1_expect_15 : decode cX1_expect 15 = .ok (.ifCond .ne 8, 3) := by decide +kernel
theorem dX1_expect_18 : decode cX1_expect 18 = .ok (.aload_n 0, 1) := by decide +kernel
theorem dX1_expect_19 : decode cX1_expect 19 = .ok (.iconst 1, 1) := by decide +kernel
theorem dX1_expect_20 : decode cX1_expect 20 = .ok (.invokevirtual 77, 3) := by decide +kernel
theorem dX1_expect_23 : decode cX1_expect 23 = .ok (.aload_n 0, 1) := by decide +kernel
theorem dX1_expect_24 : decode cX1_expect 24 = .ok (.getfield 32, 3) := by decide +kernel
theorem dX1_expect_27 : decode cX1_expect 27 = .ok (.ifCond .ne 10, 3) := by decide +kernel
theorem dX1_expect_30 : decode cX1_expect 30 = .ok (.aload_n 0, 1) := by decide +kernel
theorem dX1_expect_31 : decode cX1_expect 31 = .ok (.getfield 12, 3) := by decide +kernel
theorem dX1_expect_34 : decode cX1_expect 34 = .ok (.invokevirtual 97, 3) := by decide +kernel
theorem dX1_expect_37 : decode cX1_expect 37 = .ok (.return_, 1) := by decide +kernel
theorem dX1_isRegister_0 : decode cX1_isRegister 0 = .ok (.aload_n 0, 1) := by decide +kernel
theorem dX1_isRegister_1 : decode cX1_isRegister 1 = .ok (.getfield 12, 3) := by decide +kernel
theorem dX1_isRegister_4 : decode cX1_isRegister 4 = .ok (.getfield 85, 3) := by decide +kernel
theorem dX1_isRegister_7 : decode cX1_isRegister 7 = .ok (.iconst 1, 1) := by decide +kernel
theorem dX1_isRegister_8 : decode cX1_isRegister 8 = .ok (.if_icmp .ne 42, 3) := by decide +kernel
theorem dX1_isRegister_11 : decode cX1_isRegister 11 = .ok (.aload_n 0, 1) := by decide +kernel
theorem dX1_isRegister_12 : decode cX1_isRegister 12 = .ok (.getfield 12, 3) := by decide +kernel
theorem dX1_isRegister_15 : decode cX1_isRegister 15 = .ok (.getfield 120, 3) := by decide +kernel
theorem dX1_isRegister_18 : decode cX1_isRegister 18 = .ok (.aload_n 0, 1) := by decide +kernel
theorem dX1_isRegister_19 : decode cX1_isRegister 19 = .ok (.getfield 12, 3) := by decide +kernel
theorem dX1_isRegister_22 : decode cX1_isRegister 22 = .ok (.getfield 88, 3) := by decide +kernel
theorem dX1_isRegister_25 : decode cX1_isRegister 25 = .ok (.aload_n 0, 1) := by decide +kernel
theorem dX1_isRegister_26 : decode cX1_isRegister 26 = .ok (.getfield 12, 3) := by decide +kernel
theorem dX1_isRegister_29 : decode cX1_isRegister 29 = .ok (.getfield 91, 3) := by decide +kernel
theorem dX1_isRegister_32 : decode cX1_isRegister 32 = .ok (.aload_n 0, 1) := by decide +kernel
theorem dX1_isRegister_33 : decode cX1_isRegister 33 = .ok (.getfield 12, 3) := by decide +kernel
theorem dX1_isRegister_36 : decode cX1_isRegister 36 = .ok (.getfield 88, 3) := by decide +kernel
theorem dX1_isRegister_39 : decode cX1_isRegister 39 = .ok (.isub, 1) := by decide +kernel
theorem dX1_isRegister_40 : decode cX1_isRegister 40 = .ok (.invokestatic 123, 3) := by decide +kernel
theorem dX1_isRegister_43 : decode cX1_isRegister 43 = .ok (.ifCond .lt 7, 3) := by decide +kernel
theorem dX1_isRegister_46 : decode cX1_isRegister 46 = .ok (.iconst 1, 1) := by decide +kernel
theorem dX1_isRegister_47 : decode cX1_isRegister 47 = .ok (.goto 4, 3) := by decide +kernel
theorem dX1_isRegister_50 : decode cX1_isRegister 50 = .ok (.iconst 0, 1) := by decide +kernel
theorem dX1_isRegister_51 : decode cX1_isRegister 51 = .ok (.ireturn, 1) := by decide +kernel
theorem dX1_readInstruction_0 : decode cX1_readInstruction 0 = .ok (.aload_n 1, 1) := by decide +kernel
theorem dX1_readInstruction_1 : decode cX1_readInstruction 1 = .ok (.getfield 145, 3) := by decide +kernel
theorem dX1_readInstruction_4 : decode cX1_readInstruction 4 = .ok (.aload_n 0, 1) := by decide +kernel
theorem dX1_readInstruction_5 : decode cX1_readInstruction 5 = .ok (.getfield 135, 3) := by decide +kernel
theorem dX1_readInstruction_8 : decode cX1_readInstruction 8 = .ok (.ior, 1) := by decide +kernel
theorem dX1_readInstruction_9 : decode cX1_readInstruction 9 = .ok (.istore_n 2, 1) := by decide +kernel
theorem dX1_readInstruction_10 : decode cX1_readInstruction 10 = .ok (.iconst (-1), 1) := by decide +kernel
theorem dX1_readInstruction_11 : decode cX1_readInstruction 11 = .ok (.istore_n 3, 1) := by decide +kernel
theorem dX1_readInstruction_12 : decode cX1_readInstruction 12 = .ok (.iconst 0, 1) := by decide +kernel
theorem dX1_readInstruction_13 : decode cX1_readInstruction 13 = .ok (.istore 4, 2) := by decide +kernel
theorem dX1_readInstruction_15 : decode cX1_readInstruction 15 = .ok (.iconst 0, 1) := by decide +kernel
theorem dX1_readInstruction_16 : decode cX1_readInstruction 16 = .ok (.istore 5, 2) := by decide +kernel
theorem dX1_readInstruction_18 : decode cX1_readInstruction 18 = .ok (.iload 5, 2) := by decide +kernel
theorem dX1_readInstruction_20 : decode cX1_readInstruction 20 = .ok (.aload_n 1, 1) := by decide +kernel
theorem dX1_readInstruction_21 : decode cX1_readInstruction 21 = .ok (.getfield 226, 3) := by decide +kernel
theorem dX1_readInstruction_24 : decode cX1_readInstruction 24 = .ok (.invokevirtual 230, 3) := by decide +kernel
theorem dX1_readInstruction_27 : decode cX1_readInstruction 27 = .ok (.if_icmp .ge 83, 3) := by decide +kernel
theorem dX1_readInstruction_30 : decode cX1_readInstruction 30 = .ok (.aload_n 0, 1) := by decide +kernel
theorem dX1_readInstruction_31 : decode cX1_readInstruction 31 = .ok (.getfield 32, 3) := by decide +kernel
theorem dX1_readInstruction_34 : decode cX1_readInstruction 34 = .ok (.ifCond .ne 76, 3) := by decide +kernel
theorem dX1_readInstruction_37 : decode cX1_readInstruction 37 = .ok (.aload_n 1, 1) := by decide +kernel
theorem dX1_readInstruction_38 : decode cX1_readInstruction 38 = .ok (.getfield 226, 3) := by decide +kernel
theorem dX1_readInstruction_41 : decode cX1_readInstruction 41 = .ok (.iload 5, 2) := by decide +kernel
theorem dX1_readInstruction_43 : decode cX1_readInstruction 43 = .ok (.invokevirtual 235, 3) := by decide +kernel
theorem dX1_readInstruction_46 : decode cX1_readInstruction 46 = .ok (.istore 6, 2) := by decide +kernel
theorem dX1_readInstruction_48 : decode cX1_readInstruction 48 = .ok (.iload 6, 2) := by decide +kernel
theorem dX1_readInstruction_50 : decode cX1_readInstruction 50 = .ok (.bipush 65, 2) := by decide +kernel
theorem dX1_readInstruction_52 : decode cX1_readInstruction 52 = .ok (.if_icmp .ge 12, 3) := by decide +kernel
theorem dX1_readInstruction_55 : decode cX1_readInstruction 55 = .ok (.aload_n 0, 1) := by decide +kernel
theorem dX1_readInstruction_56 : decode cX1_readInstruction 56 = .ok (.iload 6, 2) := by decide +kernel
theorem dX1_readInstruction_58 : decode cX1_readInstruction 58 = .ok (.invokevirtual 194, 3) := by decide +kernel
theorem dX1_readInstruction_61 : decode cX1_readInstruction 61 = .ok (.goto 43, 3) := by decide +kernel
theorem dX1_readInstruction_64 : decode cX1_readInstruction 64 = .ok (.iload 6, 2) := by decide +kernel
theorem dX1_readInstruction_66 : decode cX1_readInstruction 66 = .ok (.bipush 97, 2) := by decide +kernel
theorem dX1_readInstruction_68 : decode cX1_readInstruction 68 = .ok (.if_icmp .lt 15, 3) := by decide +kernel
theorem dX1_readInstruction_71 : decode cX1_readInstruction 71 = .ok (.iload_n 2, 1) := by decide +kernel
theorem dX1_readInstruction_72 : decode cX1_readInstruction 72 = .ok (.aload_n 0, 1) := by decide +kernel
theorem dX1_readInstruction_73 : decode cX1_readInstruction 73 = .ok (.iload 6, 2) := by decide +kernel
theorem dX1_readInstruction_75 : decode cX1_readInstruction 75 = .ok (.invokevirtual 239, 3) := by decide +kernel
theorem dX1_readInstruction_78 : decode cX1_readInstruction 78 = .ok (.ior, 1) := by decide +kernel
theorem dX1_readInstruction_79 : decode cX1_readInstruction 79 = .ok (.istore_n 2, 1) := by decide +kernel
theorem dX1_readInstruction_80 : decode cX1_readInstruction 80 = .ok (.goto 24, 3) := by decide +kernel
theorem dX1_readInstruction_83 : decode cX1_readInstruction 83 = .ok (.iload 6, 2) := by decide +kernel
theorem dX1_readInstruction_85 : decode cX1_readInstruction 85 = .ok (.istore 4, 2) := by decide +kernel
theorem dX1_readInstruction_87 : decode cX1_readInstruction 87 = .ok (.aload_n 0, 1) := by decide +kernel
theorem dX1_readInstruction_88 : decode cX1_readInstruction 88 = .ok (.getfield 12, 3) := by decide +kernel
theorem dX1_readInstruction_91 : decode cX1_readInstruction 91 = .ok (.invokevirtual 170, 3) := by decide +kernel
theorem dX1_readInstruction_94 : decode cX1_readInstruction 94 = .ok (.istore_n 3, 1) := by decide +kernel
theorem dX1_readInstruction_95 : decode cX1_readInstruction 95 = .ok (.iload_n 3, 1) := by decide +kernel
theorem dX1_readInstruction_96 : decode cX1_readInstruction 96 = .ok (.ifCond .ge 8, 3) := by decide +kernel
theorem dX1_readInstruction_99 : decode cX1_readInstruction 99 = .ok (.aload_n 0, 1) := by decide +kernel
theorem dX1_readInstruction_100 : decode cX1_readInstruction 100 = .ok (.iconst 1, 1) := by decide +kernel
theorem dX1_readInstruction_101 : decode cX1_readInstruction 101 = .ok (.invokevirtual 77, 3) := by decide +kernel
theorem dX1_readInstruction_104 : decode cX1_readInstruction 104 = .ok (.iinc 5 1, 3) := by decide +kernel
theorem dX1_readInstruction_107 : decode cX1_readInstruction 107 = .ok (.goto (-89), 3) := by decide +kernel
theorem dX1_readInstruction_110 : decode cX1_readInstruction 110 = .ok (.aload_n 1, 1) := by decide +kernel
theorem dX1_readInstruction_111 : decode cX1_readInstruction 111 = .ok (.getfield 148, 3) := by decide +kernel
theorem dX1_readInstruction_114 : decode cX1_readInstruction 114 = .ok (.bipush 32, 2) := by decide +kernel
theorem dX1_readInstruction_116 : decode cX1_readInstruction 116 = .ok (.iand, 1) := by decide +kernel
theorem dX1_readInstruction_117 : decode cX1_readInstruction 117 = .ok (.ifCond .eq 26, 3) := by decide +kernel
theorem dX1_readInstruction_120 : decode cX1_readInstruction 120 = .ok (.aload_n 0, 1) := by decide +kernel
theorem dX1_readInstruction_121 : decode cX1_readInstruction 121 = .ok (.iload_n 2, 1) := by decide +kernel
theorem dX1_readInstruction_122 : decode cX1_readInstruction 122 = .ok (.bipush 7, 2) := by decide +kernel
theorem dX1_readInstruction_124 : decode cX1_readInstruction 124 = .ok (.ishr, 1) := by decide +kernel
theorem dX1_readInstruction_125 : decode cX1_readInstruction 125 = .ok (.bipush 31, 2) := by decide +kernel
theorem dX1_readInstruction_127 : decode cX1_readInstruction 127 = .ok (.iand, 1) := by decide +kernel
theorem dX1_readInstruction_128 : decode cX1_readInstruction 128 = .ok (.aload_n 0, 1) := by decide +kernel
theorem dX1_readInstruction_129 : decode cX1_readInstruction 129 = .ok (.iload_n 3, 1) := by decide +kernel
theorem dX1_readInstruction_130 : decode cX1_readInstruction 130 = .ok (.ldc 199, 2) := by decide +kernel
theorem dX1_readInstruction_132 : decode cX1_readInstruction 132 = .ok (.ldc 200, 2) := by decide +kernel
theorem dX1_readInstruction_134 : decode cX1_readInstruction 134 = .ok (.invokevirtual 173, 3) := by decide +kernel
theorem dX1_readInstruction_137 : decode cX1_readInstruction 137 = .ok (.invokevirtual 243, 3) := by decide +kernel
theorem dX1_readInstruction_140 : decode cX1_readInstruction 140 = .ok (.goto 19, 3) := by decide +kernel
theorem dX1_readInstruction_143 : decode cX1_readInstruction 143 = .ok (.aload_n 0, 1) := by decide +kernel
theorem dX1_readInstruction_144 : decode cX1_readInstruction 144 = .ok (.getfield 32, 3) := by decide +kernel
theorem dX1_readInstruction_147 : decode cX1_readInstruction 147 = .ok (.ifCond .ne 12, 3) := by decide +kernel
theorem dX1_readInstruction_150 : decode cX1_readInstruction 150 = .ok (.aload_n 0, 1) := by decide +kernel
theorem dX1_readInstruction_151 : decode cX1_readInstruction 151 = .ok (.aload_n 1, 1) := by decide +kernel
theorem dX1_readInstruction_152 : decode cX1_readInstruction 152 = .ok (.iload_n 2, 1) := by decide +kernel
theorem dX1_readInstruction_153 : decode cX1_readInstruction 153 = .ok (.iload_n 3, 1) := by decide +kernel
theorem dX1_readInstruction_154 : decode cX1_readInstruction 154 = .ok (.iload 4, 2) := by decide +kernel
theorem dX1_readInstruction_156 : decode cX1_readInstruction 156 = .ok (.invokevirtual 246, 3) := by decide +kernel
theorem dX1_readInstruction_159 : decode cX1_readInstruction 159 = .ok (.return_, 1) := by decide +kernel
theorem dX1_readJump_0 : decode cX1_readJump 0 = .ok (.aload_n 0, 1) := by decide +kernel
theorem dX1_readJump_1 : decode cX1_readJump 1 = .ok (.bipush 100, 2) := by decide +kernel
theorem dX1_readJump_3 : decode cX1_readJump 3 = .ok (.invokevirtual 239, 3) := by decide +kernel
theorem dX1_readJump_6 : decode cX1_readJump 6 = .ok (.istore_n 1, 1) := by decide +kernel
theorem dX1_readJump_7 : decode cX1_readJump 7 = .ok (.aload_n 0, 1) := by decide +kernel
theorem dX1_readJump_8 : decode cX1_readJump 8 = .ok (.getfield 32, 3) := by decide +kernel
theorem dX1_readJump_11 : decode cX1_readJump 11 = .ok (.ifCond .ne 36, 3) := by decide +kernel
theorem dX1_readJump_14 : decode cX1_readJump 14 = .ok (.aload_n 0, 1) := by decide +kernel
theorem dX1_readJump_15 : decode cX1_readJump 15 = .ok (.getfield 12, 3) := by decide +kernel
theorem dX1_readJump_18 : decode cX1_readJump 18 = .ok (.getfield 85, 3) := by decide +kernel
theorem dX1_readJump_21 : decode cX1_readJump 21 = .ok (.ifCond .ne 26, 3) := by decide +kernel
theorem dX1_readJump_24 : decode cX1_readJump 24 = .ok (.aload_n 0, 1) := by decide +kernel
theorem dX1_readJump_25 : decode cX1_readJump 25 = .ok (.iconst 0, 1) := by decide +kernel
theorem dX1_readJump_26 : decode cX1_readJump 26 = .ok (.iconst 4, 1) := by decide +kernel
theorem dX1_readJump_27 : decode cX1_readJump 27 = .ok (.getstatic 250, 3) := by decide +kernel
theorem dX1_readJump_30 : decode cX1_readJump 30 = .ok (.getfield 145, 3) := by decide +kernel
theorem dX1_readJump_33 : decode cX1_readJump 33 = .ok (.iload_n 1, 1) := by decide +kernel
theorem dX1_readJump_34 : decode cX1_readJump 34 = .ok (.bipush 8, 2) := by decide +kernel
theorem dX1_readJump_36 : decode cX1_readJump 36 = .ok (.ishl, 1) := by decide +kernel
theorem dX1_readJump_37 : decode cX1_readJump 37 = .ok (.ior, 1) := by decide +kernel
theorem dX1_readJump_38 : decode cX1_readJump 38 = .ok (.sipush 128, 3) := by decide +kernel
theorem dX1_readJump_41 : decode cX1_readJump 41 = .ok (.ior, 1) := by decide +kernel
theorem dX1_readJump_42 : decode cX1_readJump 42 = .ok (.iconst (-1), 1) := by decide +kernel
theorem dX1_readJump_43 : decode cX1_readJump 43 = .ok (.invokevirtual 176, 3) := by decide +kernel
theorem dX1_readJump_46 : decode cX1_readJump 46 = .ok (.return_, 1) := by decide +kernel
theorem dX1_readJump_47 : decode cX1_readJump 47 = .ok (.aload_n 0, 1) := by decide +kernel
theorem dX1_readJump_48 : decode cX1_readJump 48 = .ok (.bipush 44, 2) := by decide +kernel
theorem dX1_readJump_50 : decode cX1_readJump 50 = .ok (.invokevirtual 194, 3) := by decide +kernel
theorem dX1_readJump_53 : decode cX1_readJump 53 = .ok (.aload_n 0, 1) := by decide +kernel
theorem dX1_readJump_54 : decode cX1_readJump 54 = .ok (.getfield 32, 3) := by decide +kernel
theorem dX1_readJump_57 : decode cX1_readJump 57 = .ok (.ifCond .ne 13, 3) := by decide +kernel
theorem dX1_readJump_60 : decode cX1_readJump 60 = .ok (.aload_n 0, 1) := by decide +kernel
theorem dX1_readJump_61 : decode cX1_readJump 61 = .ok (.getfield 12, 3) := by decide +kernel
theorem dX1_readJump_64 : decode cX1_readJump 64 = .ok (.invokevirtual 170, 3) := by decide +kernel
theorem dX1_readJump_67 : decode cX1_readJump 67 = .ok (.goto 4, 3) := by decide +kernel
theorem dX1_readJump_70 : decode cX1_readJump 70 = .ok (.iconst 0, 1) := by decide +kernel
theorem dX1_readJump_71 : decode cX1_readJump 71 = .ok (.istore_n 2, 1) := by decide +kernel
theorem dX1_readJump_72 : decode cX1_readJump 72 = .ok (.iload_n 2, 1) := by decide +kernel
theorem dX1_readJump_73 : decode cX1_readJump 73 = .ok (.ifCond .ge 8, 3) := by decide +kernel
theorem dX1_readJump_76 : decode cX1_readJump 76 = .ok (.aload_n 0, 1) := by decide +kernel
theorem dX1_readJump_77 : decode cX1_readJump 77 = .ok (.iconst 1, 1) := by decide +kernel
theorem dX1_readJump_78 : decode cX1_readJump 78 = .ok (.invokevirtual 77, 3) := by decide +kernel
theorem dX1_readJump_81 : decode cX1_readJump 81 = .ok (.aload_n 0, 1) := by decide +kernel
theorem dX1_readJump_82 : decode cX1_readJump 82 = .ok (.bipush 40, 2) := by decide +kernel
theorem dX1_readJump_84 : decode cX1_readJump 84 = .ok (.invokevirtual 194, 3) := by decide +kernel
theorem dX1_readJump_87 : decode cX1_readJump 87 = .ok (.getstatic 250, 3) := by decide +kernel
theorem dX1_readJump_90 : decode cX1_readJump 90 = .ok (.getfield 145, 3) := by decide +kernel
theorem dX1_readJump_93 : decode cX1_readJump 93 = .ok (.iload_n 1, 1) := by decide +kernel
theorem dX1_readJump_94 : decode cX1_readJump 94 = .ok (.ior, 1) := by decide +kernel
theorem dX1_readJump_95 : decode cX1_readJump 95 = .ok (.aload_n 0, 1) := by decide +kernel
theorem dX1_readJump_96 : decode cX1_readJump 96 = .ok (.bipush 97, 2) := by decide +kernel
theorem dX1_readJump_98 : decode cX1_readJump 98 = .ok (.invokevirtual 239, 3) := by decide +kernel
theorem dX1_readJump_101 : decode cX1_readJump 101 = .ok (.ior, 1) := by decide +kernel
theorem dX1_readJump_102 : decode cX1_readJump 102 = .ok (.istore_n 3, 1) := by decide +kernel
theorem dX1_readJump_103 : decode cX1_readJump 103 = .ok (.aload_n 0, 1) := by decide +kernel
theorem dX1_readJump_104 : decode cX1_readJump 104 = .ok (.bipush 41, 2) := by decide +kernel
theorem dX1_readJump_106 : decode cX1_readJump 106 = .ok (.invokevirtual 194, 3) := by decide +kernel
theorem dX1_readJump_109 : decode cX1_readJump 109 = .ok (.aload_n 0, 1) := by decide +kernel
theorem dX1_readJump_110 : decode cX1_readJump 110 = .ok (.iconst 0, 1) := by decide +kernel
theorem dX1_readJump_111 : decode cX1_readJump 111 = .ok (.iconst 4, 1) := by decide +kernel
theorem dX1_readJump_112 : decode cX1_readJump 112 = .ok (.iload_n 3, 1) := by decide +kernel
theorem dX1_readJump_113 : decode cX1_readJump 113 = .ok (.iload_n 2, 1) := by decide +kernel
theorem dX1_readJump_114 : decode cX1_readJump 114 = .ok (.invokevirtual 176, 3) := by decide +kernel
theorem dX1_readJump_117 : decode cX1_readJump 117 = .ok (.aload_n 0, 1) := by decide +kernel
theorem dX1_readJump_118 : decode cX1_readJump 118 = .ok (.bipush 73, 2) := by decide +kernel
theorem dX1_readJump_120 : decode cX1_readJump 120 = .ok (.invokevirtual 253, 3) := by decide +kernel
theorem dX1_readJump_123 : decode cX1_readJump 123 = .ok (.return_, 1) := by decide +kernel
theorem dX1_readRegister_0 : decode cX1_readRegister 0 = .ok (.aload_n 0, 1) := by decide +kernel
theorem dX1_readRegister_1 : decode cX1_readRegister 1 = .ok (.getfield 32, 3) := by decide +kernel
theorem dX1_readRegister_4 : decode cX1_readRegister 4 = .ok (.ifCond .eq 5, 3) := by decide +kernel
theorem dX1_readRegister_7 : decode cX1_readRegister 7 = .ok (.iconst 0, 1) := by decide +kernel
theorem dX1_readRegister_8 : decode cX1_readRegister 8 = .ok (.ireturn, 1) := by decide +kernel
theorem dX1_readRegister_9 : decode cX1_readRegister 9 = .ok (.aload_n 0, 1) := by decide +kernel
theorem dX1_readRegister_10 : decode cX1_readRegister 10 = .ok (.getfield 12, 3) := by decide +kernel
theorem dX1_readRegister_13 : decode cX1_readRegister 13 = .ok (.getfield 85, 3) := by decide +kernel
theorem dX1_readRegister_16 : decode cX1_readRegister 16 = .ok (.ifCond .eq 15, 3) := by decide +kernel
theorem dX1_readRegister_19 : decode cX1_readRegister 19 = .ok (.aload_n 0, 1) := by decide +kernel
theorem dX1_readRegister_20 : decode cX1_readRegister 20 = .ok (.getfield 12, 3) := by decide +kernel
theorem dX1_readRegister_23 : decode cX1_readRegister 23 = .ok (.getfield 85, 3) := by decide +kernel
theorem dX1_readRegister_26 : decode cX1_readRegister 26 = .ok (.bipush 6, 2) := by decide +kernel
theorem dX1_readRegister_28 : decode cX1_readRegister 28 = .ok (.if_icmp .ne 10, 3) := by decide +kernel
theorem dX1_readRegister_31 : decode cX1_readRegister 31 = .ok (.aload_n 0, 1) := by decide +kernel
theorem dX1_readRegister_32 : decode cX1_readRegister 32 = .ok (.iconst 1, 1) := by decide +kernel
theorem dX1_readRegister_33 : decode cX1_readRegister 33 = .ok (.invokevirtual 77, 3) := by decide +kernel
theorem dX1_readRegister_36 : decode cX1_readRegister 36 = .ok (.iconst 0, 1) := by decide +kernel
theorem dX1_readRegister_37 : decode cX1_readRegister 37 = .ok (.ireturn, 1) := by decide +kernel
theorem dX1_readRegister_38 : decode cX1_readRegister 38 = .ok (.aload_n 0, 1) := by decide +kernel
theorem dX1_readRegister_39 : decode cX1_readRegister 39 = .ok (.getfield 12, 3) := by decide +kernel
theorem dX1_readRegister_42 : decode cX1_readRegister 42 = .ok (.getfield 91, 3) := by decide +kernel
theorem dX1_readRegister_45 : decode cX1_readRegister 45 = .ok (.aload_n 0, 1) := by decide +kernel
theorem dX1_readRegister_46 : decode cX1_readRegister 46 = .ok (.getfield 12, 3) := by decide +kernel
theorem dX1_readRegister_49 : decode cX1_readRegister 49 = .ok (.getfield 88, 3) := by decide +kernel
theorem dX1_readRegister_52 : decode cX1_readRegister 52 = .ok (.isub, 1) := by decide +kernel
theorem dX1_readRegister_53 : decode cX1_readRegister 53 = .ok (.istore_n 2, 1) := by decide +kernel
theorem dX1_readRegister_54 : decode cX1_readRegister 54 = .ok (.aload_n 0, 1) := by decide +kernel
theorem dX1_readRegister_55 : decode cX1_readRegister 55 = .ok (.getfield 12, 3) := by decide +kernel
theorem dX1_readRegister_58 : decode cX1_readRegister 58 = .ok (.getfield 85, 3) := by decide +kernel
theorem dX1_readRegister_61 : decode cX1_readRegister 61 = .ok (.iconst 1, 1) := by decide +kernel
theorem dX1_readRegister_62 : decode cX1_readRegister 62 = .ok (.if_icmp .ne 24, 3) := by decide +kernel
theorem dX1_readRegister_65 : decode cX1_readRegister 65 = .ok (.aload_n 0, 1) := by decide +kernel
theorem dX1_readRegister_66 : decode cX1_readRegister 66 = .ok (.getfield 12, 3) := by decide +kernel
theorem dX1_readRegister_69 : decode cX1_readRegister 69 = .ok (.getfield 120, 3) := by decide +kernel
theorem dX1_readRegister_72 : decode cX1_readRegister 72 = .ok (.aload_n 0, 1) := by decide +kernel
theorem dX1_readRegister_73 : decode cX1_readRegister 73 = .ok (.getfield 12, 3) := by decide +kernel
theorem dX1_readRegister_76 : decode cX1_readRegister 76 = .ok (.getfield 88, 3) := by decide +kernel
theorem dX1_readRegister_79 : decode cX1_readRegister 79 = .ok (.iload_n 2, 1) := by decide +kernel
theorem dX1_readRegister_80 : decode cX1_readRegister 80 = .ok (.invokestatic 123, 3) := by decide +kernel
theorem dX1_readRegister_83 : decode cX1_readRegister 83 = .ok (.goto 4, 3) := by decide +kernel
theorem dX1_readRegister_86 : decode cX1_readRegister 86 = .ok (.iconst (-1), 1) := by decide +kernel
theorem dX1_readRegister_87 : decode cX1_readRegister 87 = .ok (.istore_n 3, 1) := by decide +kernel
theorem dX1_readRegister_88 : decode cX1_readRegister 88 = .ok (.iload_n 3, 1) := by decide +kernel
theorem dX1_readRegister_89 : decode cX1_readRegister 89 = .ok (.ifCond .lt 11, 3) := by decide +kernel
theorem dX1_readRegister_92 : decode cX1_readRegister 92 = .ok (.iload_n 1, 1) := by decide +kernel
theorem dX1_readRegister_93 : decode cX1_readRegister 93 = .ok (.iload_n 3, 1) := by decide +kernel
theorem dX1_readRegister_94 : decode cX1_readRegister 94 = .ok (.invokestatic 257, 3) := by decide +kernel
theorem dX1_readRegister_97 : decode cX1_readRegister 97 = .ok (.ifCond .ne 10, 3) := by decide +kernel
theorem dX1_readRegister_100 : decode cX1_readRegister 100 = .ok (.aload_n 0, 1) := by decide +kernel
theorem dX1_readRegister_101 : decode cX1_readRegister 101 = .ok (.iconst 3, 1) := by decide +kernel
theorem dX1_readRegister_102 : decode cX1_readRegister 102 = .ok (.invokevirtual 77, 3) := by decide +kernel
theorem dX1_readRegister_105 : decode cX1_readRegister 105 = .ok (.iconst 0, 1) := by decide +kernel
theorem dX1_readRegister_106 : decode cX1_readRegister 106 = .ok (.ireturn, 1) := by decide +kernel
theorem dX1_readRegister_107 : decode cX1_readRegister 107 = .ok (.aload_n 0, 1) := by decide +kernel
theorem dX1_readRegister_108 : decode cX1_readRegister 108 = .ok (.getfield 12, 3) := by decide +kernel
theorem dX1_readRegister_111 : decode cX1_readRegister 111 = .ok (.invokevirtual 97, 3) := by decide +kernel
theorem dX1_readRegister_114 : decode cX1_readRegister 114 = .ok (.iload_n 1, 1) := by decide +kernel
theorem dX1_readRegister_115 : decode cX1_readRegister 115 = .ok (.iload_n 3, 1) := by decide +kernel
theorem dX1_readRegister_116 : decode cX1_readRegister 116 = .ok (.invokestatic 261, 3) := by decide +kernel
theorem dX1_readRegister_119 : decode cX1_readRegister 119 = .ok (.ireturn, 1) := by decide +kernel
theorem dX1_addInstruction_0 : decode cX1_addInstruction 0 = .ok (.aload_n 1, 1) := by decide +kernel
theorem dX1_addInstruction_1 : decode cX1_addInstruction 1 = .ok (.getfield 148, 3) := by decide +kernel
theorem dX1_addInstruction_4 : decode cX1_addInstruction 4 = .ok (.bipush 8, 2) := by decide +kernel
theorem dX1_addInstruction_6 : decode cX1_addInstruction 6 = .ok (.iand, 1) := by decide +kernel
theorem dX1_addInstruction_7 : decode cX1_addInstruction 7 = .ok (.ifCond .eq 14, 3) := by decide +kernel
theorem dX1_addInstruction_10 : decode cX1_addInstruction 10 = .ok (.aload_n 0, 1) := by decide +kernel
theorem dX1_addInstruction_11 : decode cX1_addInstruction 11 = .ok (.iconst 1, 1) := by decide +kernel
theorem dX1_addInstruction_12 : decode cX1_addInstruction 12 = .ok (.iconst 2, 1) := by decide +kernel
theorem dX1_addInstruction_13 : decode cX1_addInstruction 13 = .ok (.iload_n 2, 1) := by decide +kernel
theorem dX1_addInstruction_14 : decode cX1_addInstruction 14 = .ok (.iload_n 3, 1) := by decide +kernel
theorem dX1_addInstruction_15 : decode cX1_addInstruction 15 = .ok (.invokevirtual 176, 3) := by decide +kernel
theorem dX1_addInstruction_18 : decode cX1_addInstruction 18 = .ok (.goto 106, 3) := by decide +kernel
theorem dX1_addInstruction_21 : decode cX1_addInstruction 21 = .ok (.aload_n 1, 1) := by decide +kernel
theorem dX1_addInstruction_22 : decode cX1_addInstruction 22 = .ok (.getfield 148, 3) := by decide +kernel
theorem dX1_addInstruction_25 : decode cX1_addInstruction 25 = .ok (.iconst 2, 1) := by decide +kernel
theorem dX1_addInstruction_26 : decode cX1_addInstruction 26 = .ok (.iand, 1) := by decide +kernel
theorem dX1_addInstruction_27 : decode cX1_addInstruction 27 = .ok (.ifCond .eq 50, 3) := by decide +kernel
theorem dX1_addInstruction_30 : decode cX1_addInstruction 30 = .ok (.iload_n 2, 1) := by decide +kernel
theorem dX1_addInstruction_31 : decode cX1_addInstruction 31 = .ok (.bipush 15, 2) := by decide +kernel
theorem dX1_addInstruction_33 : decode cX1_addInstruction 33 = .ok (.ishr, 1) := by decide +kernel
theorem dX1_addInstruction_34 : decode cX1_addInstruction 34 = .ok (.bipush 31, 2) := by decide +kernel
theorem dX1_addInstruction_36 : decode cX1_addInstruction 36 = .ok (.iand, 1) := by decide +kernel
theorem dX1_addInstruction_37 : decode cX1_addInstruction 37 = .ok (.istore 5, 2) := by decide +kernel
theorem dX1_addInstruction_39 : decode cX1_addInstruction 39 = .ok (.aload_n 0, 1) := by decide +kernel
theorem dX1_addInstruction_40 : decode cX1_addInstruction 40 = .ok (.iconst 2, 1) := by decide +kernel
theorem dX1_addInstruction_41 : decode cX1_addInstruction 41 = .ok (.aload_n 1, 1) := by decide +kernel
theorem dX1_addInstruction_42 : decode cX1_addInstruction 42 = .ok (.getfield 148, 3) := by decide +kernel
theorem dX1_addInstruction_45 : decode cX1_addInstruction 45 = .ok (.iconst 4, 1) := by decide +kernel
theorem dX1_addInstruction_46 : decode cX1_addInstruction 46 = .ok (.iand, 1) := by decide +kernel
theorem dX1_addInstruction_47 : decode cX1_addInstruction 47 = .ok (.ifCond .eq 21, 3) := by decide +kernel
theorem dX1_addInstruction_50 : decode cX1_addInstruction 50 = .ok (.iload 5, 2) := by decide +kernel
theorem dX1_addInstruction_52 : decode cX1_addInstruction 52 = .ok (.bipush 8, 2) := by decide +kernel
theorem dX1_addInstruction_54 : decode cX1_addInstruction 54 = .ok (.if_icmp .lt 14, 3) := by decide +kernel
theorem dX1_addInstruction_57 : decode cX1_addInstruction 57 = .ok (.iload 5, 2) := by decide +kernel
theorem dX1_addInstruction_59 : decode cX1_addInstruction 59 = .ok (.bipush 15, 2) := by decide +kernel
theorem dX1_addInstruction_61 : decode cX1_addInstruction 61 = .ok (.if_icmp .gt 7, 3) := by decide +kernel
theorem dX1_addInstruction_64 : decode cX1_addInstruction 64 = .ok (.iconst 2, 1) := by decide +kernel
theorem dX1_addInstruction_65 : decode cX1_addInstruction 65 = .ok (.goto 4, 3) := by decide +kernel
theorem dX1_addInstruction_68 : decode cX1_addInstruction 68 = .ok (.iconst 4, 1) := by decide +kernel
theorem dX1_addInstruction_69 : decode cX1_addInstruction 69 = .ok (.iload_n 2, 1) := by decide +kernel
theorem dX1_addInstruction_70 : decode cX1_addInstruction 70 = .ok (.iload_n 3, 1) := by decide +kernel
theorem dX1_addInstruction_71 : decode cX1_addInstruction 71 = .ok (.invokevirtual 176, 3) := by decide +kernel
theorem dX1_addInstruction_74 : decode cX1_addInstruction 74 = .ok (.goto 50, 3) := by decide +kernel
theorem dX1_addInstruction_77 : decode cX1_addInstruction 77 = .ok (.aload_n 1, 1) := by decide +kernel
theorem dX1_addInstruction_78 : decode cX1_addInstruction 78 = .ok (.getfield 148, 3) := by decide +kernel
theorem dX1_addInstruction_81 : decode cX1_addInstruction 81 = .ok (.bipush 16, 2) := by decide +kernel
theorem dX1_addInstruction_83 : decode cX1_addInstruction 83 = .ok (.iand, 1) := by decide +kernel
theorem dX1_addInstruction_84 : decode cX1_addInstruction 84 = .ok (.ifCond .eq 15, 3) := by decide +kernel
theorem dX1_addInstruction_87 : decode cX1_addInstruction 87 = .ok (.aload_n 0, 1) := by decide +kernel
theorem dX1_addInstruction_88 : decode cX1_addInstruction 88 = .ok (.iconst 3, 1) := by decide +kernel
theorem dX1_addInstruction_89 : decode cX1_addInstruction 89 = .ok (.bipush 8, 2) := by decide +kernel
theorem dX1_addInstruction_91 : decode cX1_addInstruction 91 = .ok (.iload_n 2, 1) := by decide +kernel
theorem dX1_addInstruction_92 : decode cX1_addInstruction 92 = .ok (.iload_n 3, 1) := by decide +kernel
theorem dX1_addInstruction_93 : decode cX1_addInstruction 93 = .ok (.invokevirtual 176, 3) := by decide +kernel
theorem dX1_addInstruction_96 : decode cX1_addInstruction 96 = .ok (.goto 28, 3) := by decide +kernel
theorem dX1_addInstruction_99 : decode cX1_addInstruction 99 = .ok (.aload_n 0, 1) := by decide +kernel
theorem dX1_addInstruction_100 : decode cX1_addInstruction 100 = .ok (.iconst 0, 1) := by decide +kernel
theorem dX1_addInstruction_101 : decode cX1_addInstruction 101 = .ok (.iload_n 2, 1) := by decide +kernel
theorem dX1_addInstruction_102 : decode cX1_addInstruction 102 = .ok (.iconst 3, 1) := by decide +kernel
theorem dX1_addInstruction_103 : decode cX1_addInstruction 103 = .ok (.iand, 1) := by decide +kernel
theorem dX1_addInstruction_104 : decode cX1_addInstruction 104 = .ok (.iconst 3, 1) := by decide +kernel
theorem dX1_addInstruction_105 : decode cX1_addInstruction 105 = .ok (.if_icmp .ne 7, 3) := by decide +kernel
theorem dX1_addInstruction_108 : decode cX1_addInstruction 108 = .ok (.iconst 4, 1) := by decide +kernel
theorem dX1_addInstruction_109 : decode cX1_addInstruction 109 = .ok (.goto 4, 3) := by decide +kernel
theorem dX1_addInstruction_112 : decode cX1_addInstruction 112 = .ok (.iconst 2, 1) := by decide +kernel
theorem dX1_addInstruction_113 : decode cX1_addInstruction 113 = .ok (.iload_n 2, 1) := by decide +kernel
theorem dX1_addInstruction_114 : decode cX1_addInstruction 114 = .ok (.iload_n 3, 1) := by decide +kernel
theorem dX1_addInstruction_115 : decode cX1_addInstruction 115 = .ok (.invokevirtual 176, 3) := by decide +kernel
theorem dX1_addInstruction_118 : decode cX1_addInstruction 118 = .ok (.aload_n 0, 1) := by decide +kernel
theorem dX1_addInstruction_119 : decode cX1_addInstruction 119 = .ok (.iload 4, 2) := by decide +kernel
theorem dX1_addInstruction_121 : decode cX1_addInstruction 121 = .ok (.invokevirtual 253, 3) := by decide +kernel
theorem dX1_addInstruction_124 : decode cX1_addInstruction 124 = .ok (.return_, 1) := by decide +kernel
theorem dX1_addNumber_0 : decode cX1_addNumber 0 = .ok (.bipush 8, 2) := by decide +kernel
theorem dX1_addNumber_2 : decode cX1_addNumber 2 = .ok (.istore_n 3, 1) := by decide +kernel
theorem dX1_addNumber_3 : decode cX1_addNumber 3 = .ok (.bipush 78, 2) := by decide +kernel
theorem dX1_addNumber_5 : decode cX1_addNumber 5 = .ok (.iload_n 2, 1) := by decide +kernel
theorem dX1_addNumber_6 : decode cX1_addNumber 6 = .ok (.invokestatic 257, 3) := by decide +kernel
theorem dX1_addNumber_9 : decode cX1_addNumber 9 = .ok (.ifCond .eq 12, 3) := by decide +kernel
theorem dX1_addNumber_12 : decode cX1_addNumber 12 = .ok (.iload_n 1, 1) := by decide +kernel
theorem dX1_addNumber_13 : decode cX1_addNumber 13 = .ok (.ifCond .eq 8, 3) := by decide +kernel
theorem dX1_addNumber_16 : decode cX1_addNumber 16 = .ok (.iconst 2, 1) := by decide +kernel
theorem dX1_addNumber_17 : decode cX1_addNumber 17 = .ok (.istore_n 3, 1) := by decide +kernel
theorem dX1_addNumber_18 : decode cX1_addNumber 18 = .ok (.goto 21, 3) := by decide +kernel
theorem dX1_addNumber_21 : decode cX1_addNumber 21 = .ok (.bipush 73, 2) := by decide +kernel
theorem dX1_addNumber_23 : decode cX1_addNumber 23 = .ok (.iload_n 2, 1) := by decide +kernel
theorem dX1_addNumber_24 : decode cX1_addNumber 24 = .ok (.invokestatic 257, 3) := by decide +kernel
theorem dX1_addNumber_27 : decode cX1_addNumber 27 = .ok (.ifCond .ne 10, 3) := by decide +kernel
theorem dX1_addNumber_30 : decode cX1_addNumber 30 = .ok (.iload_n 2, 1) := by decide +kernel
theorem dX1_addNumber_31 : decode cX1_addNumber 31 = .ok (.invokestatic 265, 3) := by decide +kernel
theorem dX1_addNumber_34 : decode cX1_addNumber 34 = .ok (.ifCond .ne 5, 3) := by decide +kernel
theorem dX1_addNumber_37 : decode cX1_addNumber 37 = .ok (.iconst 4, 1) := by decide +kernel
theorem dX1_addNumber_38 : decode cX1_addNumber 38 = .ok (.istore_n 3, 1) := by decide +kernel
theorem dX1_addNumber_39 : decode cX1_addNumber 39 = .ok (.aload_n 0, 1) := by decide +kernel
theorem dX1_addNumber_40 : decode cX1_addNumber 40 = .ok (.iconst 4, 1) := by decide +kernel
theorem dX1_addNumber_41 : decode cX1_addNumber 41 = .ok (.iload_n 3, 1) := by decide +kernel
theorem dX1_addNumber_42 : decode cX1_addNumber 42 = .ok (.iload_n 1, 1) := by decide +kernel
theorem dX1_addNumber_43 : decode cX1_addNumber 43 = .ok (.iload_n 2, 1) := by decide +kernel
theorem dX1_addNumber_44 : decode cX1_addNumber 44 = .ok (.invokevirtual 176, 3) := by decide +kernel
theorem dX1_addNumber_47 : decode cX1_addNumber 47 = .ok (.return_, 1) := by decide +kernel
theorem dX1_add_0 : decode cX1_add 0 = .ok (.aload_n 0, 1) := by decide +kernel
theorem dX1_add_1 : decode cX1_add 1 = .ok (.getfield 32, 3) := by decide +kernel
theorem dX1_add_4 : decode cX1_add 4 = .ok (.ifCond .ne 13, 3) := by decide +kernel
theorem dX1_add_7 : decode cX1_add 7 = .ok (.aload_n 0, 1) := by decide +kernel
theorem dX1_add_8 : decode cX1_add 8 = .ok (.getfield 65, 3) := by decide +kernel
theorem dX1_add_11 : decode cX1_add 11 = .ok (.sipush 8194, 3) := by decide +kernel
theorem dX1_add_14 : decode cX1_add 14 = .ok (.if_icmp .lt 4, 3) := by decide +kernel
theorem dX1_add_17 : decode cX1_add 17 = .ok (.return_, 1) := by decide +kernel
theorem dX1_add_18 : decode cX1_add 18 = .ok (.aload_n 0, 1) := by decide +kernel
