theorem dX13_near_134 : decode cX13_near 134 = .ok (.goto 9, 3) := by decide +kernel
theorem dX13_near_137 : decode cX13_near 137 = .ok (.aload_n 0, 1) := by decide +kernel
theorem dX13_near_138 : decode cX13_near 138 = .ok (.iload 4, 2) := by decide +kernel
theorem dX13_near_140 : decode cX13_near 140 = .ok (.invokevirtual 461, 3) := by decide +kernel
theorem dX13_near_143 : decode cX13_near 143 = .ok (.ireturn, 1) := by decide +kernel
theorem dX13_sign_0 : decode cX13_sign 0 = .ok (.aload_n 0, 1) := by decide +kernel
theorem dX13_sign_1 : decode cX13_sign 1 = .ok (.getfield 344, 3) := by decide +kernel
theorem dX13_sign_4 : decode cX13_sign 4 = .ok (.aload_n 0, 1) := by decide +kernel
theorem dX13_sign_5 : decode cX13_sign 5 = .ok (.getfield 464, 3) := by decide +kernel
theorem dX13_sign_8 : decode cX13_sign 8 = .ok (.iload_n 1, 1) := by decide +kernel
theorem dX13_sign_9 : decode cX13_sign 9 = .ok (.iastore, 1) := by decide +kernel
theorem dX13_sign_10 : decode cX13_sign 10 = .ok (.aload_n 0, 1) := by decide +kernel
theorem dX13_sign_11 : decode cX13_sign 11 = .ok (.dup, 1) := by decide +kernel
theorem dX13_sign_12 : decode cX13_sign 12 = .ok (.getfield 464, 3) := by decide +kernel
theorem dX13_sign_15 : decode cX13_sign 15 = .ok (.iconst 1, 1) := by decide +kernel
theorem dX13_sign_16 : decode cX13_sign 16 = .ok (.iadd, 1) := by decide +kernel
theorem dX13_sign_17 : decode cX13_sign 17 = .ok (.putfield 464, 3) := by decide +kernel
theorem dX13_sign_20 : decode cX13_sign 20 = .ok (.return_, 1) := by decide +kernel
theorem dX13_value_0 : decode cX13_value 0 = .ok (.aload_n 0, 1) := by decide +kernel
theorem dX13_value_1 : decode cX13_value 1 = .ok (.dup, 1) := by decide +kernel
theorem dX13_value_2 : decode cX13_value 2 = .ok (.getfield 467, 3) := by decide +kernel
theorem dX13_value_5 : decode cX13_value 5 = .ok (.iconst 1, 1) := by decide +kernel
theorem dX13_value_6 : decode cX13_value 6 = .ok (.isub, 1) := by decide +kernel
theorem dX13_value_7 : decode cX13_value 7 = .ok (.putfield 467, 3) := by decide +kernel
theorem dX13_value_10 : decode cX13_value 10 = .ok (.aload_n 0, 1) := by decide +kernel
theorem dX13_value_11 : decode cX13_value 11 = .ok (.getfield 344, 3) := by decide +kernel
theorem dX13_value_14 : decode cX13_value 14 = .ok (.aload_n 0, 1) := by decide +kernel
theorem dX13_value_15 : decode cX13_value 15 = .ok (.getfield 467, 3) := by decide +kernel
theorem dX13_value_18 : decode cX13_value 18 = .ok (.iload_n 1, 1) := by decide +kernel
theorem dX13_value_19 : decode cX13_value 19 = .ok (.iastore, 1) := by decide +kernel
theorem dX13_value_20 : decode cX13_value 20 = .ok (.return_, 1) := by decide +kernel
theorem dX13_rank_0 : decode cX13_rank 0 = .ok (.iload_n 0, 1) := by decide +kernel
theorem dX13_rank_1 : decode cX13_rank 1 = .ok (.bipush 42, 2) := by decide +kernel
theorem dX13_rank_3 : decode cX13_rank 3 = .ok (.if_icmp .eq 15, 3) := by decide +kernel
theorem dX13_rank_6 : decode cX13_rank 6 = .ok (.iload_n 0, 1) := by decide +kernel
theorem dX13_rank_7 : decode cX13_rank 7 = .ok (.bipush 47, 2) := by decide +kernel
theorem dX13_rank_9 : decode cX13_rank 9 = .ok (.if_icmp .eq 9, 3) := by decide +kernel
theorem dX13_rank_12 : decode cX13_rank 12 = .ok (.iload_n 0, 1) := by decide +kernel
theorem dX13_rank_13 : decode cX13_rank 13 = .ok (.bipush 37, 2) := by decide +kernel
theorem dX13_rank_15 : decode cX13_rank 15 = .ok (.if_icmp .ne 8, 3) := by decide +kernel
theorem dX13_rank_18 : decode cX13_rank 18 = .ok (.bipush 6, 2) := by decide +kernel
theorem dX13_rank_20 : decode cX13_rank 20 = .ok (.goto 66, 3) := by decide +kernel
theorem dX13_rank_23 : decode cX13_rank 23 = .ok (.iload_n 0, 1) := by decide +kernel
theorem dX13_rank_24 : decode cX13_rank 24 = .ok (.bipush 43, 2) := by decide +kernel
theorem dX13_rank_26 : decode cX13_rank 26 = .ok (.if_icmp .eq 9, 3) := by decide +kernel
theorem dX13_rank_29 : decode cX13_rank 29 = .ok (.iload_n 0, 1) := by decide +kernel
theorem dX13_rank_30 : decode cX13_rank 30 = .ok (.bipush 45, 2) := by decide +kernel
theorem dX13_rank_32 : decode cX13_rank 32 = .ok (.if_icmp .ne 7, 3) := by decide +kernel
theorem dX13_rank_35 : decode cX13_rank 35 = .ok (.iconst 5, 1) := by decide +kernel
theorem dX13_rank_36 : decode cX13_rank 36 = .ok (.goto 50, 3) := by decide +kernel
theorem dX13_rank_39 : decode cX13_rank 39 = .ok (.iload_n 0, 1) := by decide +kernel
theorem dX13_rank_40 : decode cX13_rank 40 = .ok (.bipush 6, 2) := by decide +kernel
theorem dX13_rank_42 : decode cX13_rank 42 = .ok (.if_icmp .eq 9, 3) := by decide +kernel
theorem dX13_rank_45 : decode cX13_rank 45 = .ok (.iload_n 0, 1) := by decide +kernel
theorem dX13_rank_46 : decode cX13_rank 46 = .ok (.bipush 7, 2) := by decide +kernel
theorem dX13_rank_48 : decode cX13_rank 48 = .ok (.if_icmp .ne 7, 3) := by decide +kernel
theorem dX13_rank_51 : decode cX13_rank 51 = .ok (.iconst 4, 1) := by decide +kernel
theorem dX13_rank_52 : decode cX13_rank 52 = .ok (.goto 34, 3) := by decide +kernel
theorem dX13_rank_55 : decode cX13_rank 55 = .ok (.iload_n 0, 1) := by decide +kernel
theorem dX13_rank_56 : decode cX13_rank 56 = .ok (.bipush 38, 2) := by decide +kernel
theorem dX13_rank_58 : decode cX13_rank 58 = .ok (.if_icmp .ne 7, 3) := by decide +kernel
theorem dX13_rank_61 : decode cX13_rank 61 = .ok (.iconst 3, 1) := by decide +kernel
theorem dX13_rank_62 : decode cX13_rank 62 = .ok (.goto 24, 3) := by decide +kernel
theorem dX13_rank_65 : decode cX13_rank 65 = .ok (.iload_n 0, 1) := by decide +kernel
theorem dX13_rank_66 : decode cX13_rank 66 = .ok (.bipush 94, 2) := by decide +kernel
theorem dX13_rank_68 : decode cX13_rank 68 = .ok (.if_icmp .ne 7, 3) := by decide +kernel
theorem dX13_rank_71 : decode cX13_rank 71 = .ok (.iconst 2, 1) := by decide +kernel
theorem dX13_rank_72 : decode cX13_rank 72 = .ok (.goto 14, 3) := by decide +kernel
theorem dX13_rank_75 : decode cX13_rank 75 = .ok (.iload_n 0, 1) := by decide +kernel
theorem dX13_rank_76 : decode cX13_rank 76 = .ok (.bipush 124, 2) := by decide +kernel
theorem dX13_rank_78 : decode cX13_rank 78 = .ok (.if_icmp .ne 7, 3) := by decide +kernel
theorem dX13_rank_81 : decode cX13_rank 81 = .ok (.iconst 1, 1) := by decide +kernel
theorem dX13_rank_82 : decode cX13_rank 82 = .ok (.goto 4, 3) := by decide +kernel
theorem dX13_rank_85 : decode cX13_rank 85 = .ok (.iconst 0, 1) := by decide +kernel
theorem dX13_rank_86 : decode cX13_rank 86 = .ok (.ireturn, 1) := by decide +kernel
theorem dX13_worked_0 : decode cX13_worked 0 = .ok (.iload_n 1, 1) := by decide +kernel
theorem dX13_worked_1 : decode cX13_worked 1 = .ok (.lookupswitch 113 #[(6, 87), (7, 94), (38, 101), (42, 75), (43, 79), (45, 83), (94, 105), (124, 109)], 75) := by decide +kernel
theorem dX13_worked_76 : decode cX13_worked 76 = .ok (.iload_n 2, 1) := by decide +kernel
theorem dX13_worked_77 : decode cX13_worked 77 = .ok (.iload_n 3, 1) := by decide +kernel
theorem dX13_worked_78 : decode cX13_worked 78 = .ok (.imul, 1) := by decide +kernel
theorem dX13_worked_79 : decode cX13_worked 79 = .ok (.ireturn, 1) := by decide +kernel
theorem dX13_worked_80 : decode cX13_worked 80 = .ok (.iload_n 2, 1) := by decide +kernel
theorem dX13_worked_81 : decode cX13_worked 81 = .ok (.iload_n 3, 1) := by decide +kernel
theorem dX13_worked_82 : decode cX13_worked 82 = .ok (.iadd, 1) := by decide +kernel
theorem dX13_worked_83 : decode cX13_worked 83 = .ok (.ireturn, 1) := by decide +kernel
theorem dX13_worked_84 : decode cX13_worked 84 = .ok (.iload_n 2, 1) := by decide +kernel
theorem dX13_worked_85 : decode cX13_worked 85 = .ok (.iload_n 3, 1) := by decide +kernel
theorem dX13_worked_86 : decode cX13_worked 86 = .ok (.isub, 1) := by decide +kernel
theorem dX13_worked_87 : decode cX13_worked 87 = .ok (.ireturn, 1) := by decide +kernel
theorem dX13_worked_88 : decode cX13_worked 88 = .ok (.iload_n 2, 1) := by decide +kernel
theorem dX13_worked_89 : decode cX13_worked 89 = .ok (.iload_n 3, 1) := by decide +kernel
theorem dX13_worked_90 : decode cX13_worked 90 = .ok (.bipush 31, 2) := by decide +kernel
theorem dX13_worked_92 : decode cX13_worked 92 = .ok (.iand, 1) := by decide +kernel
theorem dX13_worked_93 : decode cX13_worked 93 = .ok (.ishl, 1) := by decide +kernel
theorem dX13_worked_94 : decode cX13_worked 94 = .ok (.ireturn, 1) := by decide +kernel
theorem dX13_worked_95 : decode cX13_worked 95 = .ok (.iload_n 2, 1) := by decide +kernel
theorem dX13_worked_96 : decode cX13_worked 96 = .ok (.iload_n 3, 1) := by decide +kernel
theorem dX13_worked_97 : decode cX13_worked 97 = .ok (.bipush 31, 2) := by decide +kernel
theorem dX13_worked_99 : decode cX13_worked 99 = .ok (.iand, 1) := by decide +kernel
theorem dX13_worked_100 : decode cX13_worked 100 = .ok (.ishr, 1) := by decide +kernel
theorem dX13_worked_101 : decode cX13_worked 101 = .ok (.ireturn, 1) := by decide +kernel
theorem dX13_worked_102 : decode cX13_worked 102 = .ok (.iload_n 2, 1) := by decide +kernel
theorem dX13_worked_103 : decode cX13_worked 103 = .ok (.iload_n 3, 1) := by decide +kernel
theorem dX13_worked_104 : decode cX13_worked 104 = .ok (.iand, 1) := by decide +kernel
theorem dX13_worked_105 : decode cX13_worked 105 = .ok (.ireturn, 1) := by decide +kernel
theorem dX13_worked_106 : decode cX13_worked 106 = .ok (.iload_n 2, 1) := by decide +kernel
theorem dX13_worked_107 : decode cX13_worked 107 = .ok (.iload_n 3, 1) := by decide +kernel
theorem dX13_worked_108 : decode cX13_worked 108 = .ok (.ixor, 1) := by decide +kernel
theorem dX13_worked_109 : decode cX13_worked 109 = .ok (.ireturn, 1) := by decide +kernel
theorem dX13_worked_110 : decode cX13_worked 110 = .ok (.iload_n 2, 1) := by decide +kernel
theorem dX13_worked_111 : decode cX13_worked 111 = .ok (.iload_n 3, 1) := by decide +kernel
theorem dX13_worked_112 : decode cX13_worked 112 = .ok (.ior, 1) := by decide +kernel
theorem dX13_worked_113 : decode cX13_worked 113 = .ok (.ireturn, 1) := by decide +kernel
theorem dX13_worked_114 : decode cX13_worked 114 = .ok (.aload_n 0, 1) := by decide +kernel
theorem dX13_worked_115 : decode cX13_worked 115 = .ok (.aload_n 0, 1) := by decide +kernel
theorem dX13_worked_116 : decode cX13_worked 116 = .ok (.getfield 470, 3) := by decide +kernel
theorem dX13_worked_119 : decode cX13_worked 119 = .ok (.ifCond .ne 7, 3) := by decide +kernel
theorem dX13_worked_122 : decode cX13_worked 122 = .ok (.iload_n 3, 1) := by decide +kernel
theorem dX13_worked_123 : decode cX13_worked 123 = .ok (.ifCond .ne 7, 3) := by decide +kernel
theorem dX13_worked_126 : decode cX13_worked 126 = .ok (.iconst 1, 1) := by decide +kernel
theorem dX13_worked_127 : decode cX13_worked 127 = .ok (.goto 4, 3) := by decide +kernel
theorem dX13_worked_130 : decode cX13_worked 130 = .ok (.iconst 0, 1) := by decide +kernel
theorem dX13_worked_131 : decode cX13_worked 131 = .ok (.putfield 470, 3) := by decide +kernel
theorem dX13_worked_134 : decode cX13_worked 134 = .ok (.iload_n 3, 1) := by decide +kernel
theorem dX13_worked_135 : decode cX13_worked 135 = .ok (.ifCond .ne 7, 3) := by decide +kernel
theorem dX13_worked_138 : decode cX13_worked 138 = .ok (.iconst 0, 1) := by decide +kernel
theorem dX13_worked_139 : decode cX13_worked 139 = .ok (.goto 18, 3) := by decide +kernel
theorem dX13_worked_142 : decode cX13_worked 142 = .ok (.iload_n 1, 1) := by decide +kernel
theorem dX13_worked_143 : decode cX13_worked 143 = .ok (.bipush 47, 2) := by decide +kernel
theorem dX13_worked_145 : decode cX13_worked 145 = .ok (.if_icmp .ne 9, 3) := by decide +kernel
theorem dX13_worked_148 : decode cX13_worked 148 = .ok (.iload_n 2, 1) := by decide +kernel
theorem dX13_worked_149 : decode cX13_worked 149 = .ok (.iload_n 3, 1) := by decide +kernel
theorem dX13_worked_150 : decode cX13_worked 150 = .ok (.idiv, 1) := by decide +kernel
theorem dX13_worked_151 : decode cX13_worked 151 = .ok (.goto 6, 3) := by decide +kernel
theorem dX13_worked_154 : decode cX13_worked 154 = .ok (.iload_n 2, 1) := by decide +kernel
theorem dX13_worked_155 : decode cX13_worked 155 = .ok (.iload_n 3, 1) := by decide +kernel
theorem dX13_worked_156 : decode cX13_worked 156 = .ok (.irem, 1) := by decide +kernel
theorem dX13_worked_157 : decode cX13_worked 157 = .ok (.ireturn, 1) := by decide +kernel
theorem dX13_join_0 : decode cX13_join 0 = .ok (.aload_n 0, 1) := by decide +kernel
theorem dX13_join_1 : decode cX13_join 1 = .ok (.dup, 1) := by decide +kernel
theorem dX13_join_2 : decode cX13_join 2 = .ok (.getfield 464, 3) := by decide +kernel
theorem dX13_join_5 : decode cX13_join 5 = .ok (.iconst 1, 1) := by decide +kernel
theorem dX13_join_6 : decode cX13_join 6 = .ok (.isub, 1) := by decide +kernel
theorem dX13_join_7 : decode cX13_join 7 = .ok (.putfield 464, 3) := by decide +kernel
theorem dX13_join_10 : decode cX13_join 10 = .ok (.aload_n 0, 1) := by decide +kernel
theorem dX13_join_11 : decode cX13_join 11 = .ok (.getfield 344, 3) := by decide +kernel
theorem dX13_join_14 : decode cX13_join 14 = .ok (.aload_n 0, 1) := by decide +kernel
theorem dX13_join_15 : decode cX13_join 15 = .ok (.getfield 467, 3) := by decide +kernel
theorem dX13_join_18 : decode cX13_join 18 = .ok (.iaload, 1) := by decide +kernel
theorem dX13_join_19 : decode cX13_join 19 = .ok (.istore_n 1, 1) := by decide +kernel
theorem dX13_join_20 : decode cX13_join 20 = .ok (.aload_n 0, 1) := by decide +kernel
theorem dX13_join_21 : decode cX13_join 21 = .ok (.dup, 1) := by decide +kernel
theorem dX13_join_22 : decode cX13_join 22 = .ok (.getfield 467, 3) := by decide +kernel
theorem dX13_join_25 : decode cX13_join 25 = .ok (.iconst 1, 1) := by decide +kernel
theorem dX13_join_26 : decode cX13_join 26 = .ok (.iadd, 1) := by decide +kernel
theorem dX13_join_27 : decode cX13_join 27 = .ok (.putfield 467, 3) := by decide +kernel
theorem dX13_join_30 : decode cX13_join 30 = .ok (.aload_n 0, 1) := by decide +kernel
theorem dX13_join_31 : decode cX13_join 31 = .ok (.getfield 344, 3) := by decide +kernel
theorem dX13_join_34 : decode cX13_join 34 = .ok (.aload_n 0, 1) := by decide +kernel
theorem dX13_join_35 : decode cX13_join 35 = .ok (.getfield 467, 3) := by decide +kernel
theorem dX13_join_38 : decode cX13_join 38 = .ok (.aload_n 0, 1) := by decide +kernel
theorem dX13_join_39 : decode cX13_join 39 = .ok (.aload_n 0, 1) := by decide +kernel
theorem dX13_join_40 : decode cX13_join 40 = .ok (.getfield 344, 3) := by decide +kernel
theorem dX13_join_43 : decode cX13_join 43 = .ok (.aload_n 0, 1) := by decide +kernel
theorem dX13_join_44 : decode cX13_join 44 = .ok (.getfield 464, 3) := by decide +kernel
theorem dX13_join_47 : decode cX13_join 47 = .ok (.iaload, 1) := by decide +kernel
theorem dX13_join_48 : decode cX13_join 48 = .ok (.aload_n 0, 1) := by decide +kernel
theorem dX13_join_49 : decode cX13_join 49 = .ok (.getfield 344, 3) := by decide +kernel
theorem dX13_join_52 : decode cX13_join 52 = .ok (.aload_n 0, 1) := by decide +kernel
theorem dX13_join_53 : decode cX13_join 53 = .ok (.getfield 467, 3) := by decide +kernel
theorem dX13_join_56 : decode cX13_join 56 = .ok (.iaload, 1) := by decide +kernel
theorem dX13_join_57 : decode cX13_join 57 = .ok (.iload_n 1, 1) := by decide +kernel
theorem dX13_join_58 : decode cX13_join 58 = .ok (.invokevirtual 473, 3) := by decide +kernel
theorem dX13_join_61 : decode cX13_join 61 = .ok (.iastore, 1) := by decide +kernel
theorem dX13_join_62 : decode cX13_join 62 = .ok (.return_, 1) := by decide +kernel
theorem dX13_bind_0 : decode cX13_bind 0 = .ok (.iconst 1, 1) := by decide +kernel
theorem dX13_bind_1 : decode cX13_bind 1 = .ok (.istore_n 1, 1) := by decide +kernel
theorem dX13_bind_2 : decode cX13_bind 2 = .ok (.iload_n 1, 1) := by decide +kernel
theorem dX13_bind_3 : decode cX13_bind 3 = .ok (.ifCond .eq 121, 3) := by decide +kernel
theorem dX13_bind_6 : decode cX13_bind 6 = .ok (.aload_n 0, 1) := by decide +kernel
theorem dX13_bind_7 : decode cX13_bind 7 = .ok (.getfield 464, 3) := by decide +kernel
theorem dX13_bind_10 : decode cX13_bind 10 = .ok (.ifCond .le 114, 3) := by decide +kernel
theorem dX13_bind_13 : decode cX13_bind 13 = .ok (.aload_n 0, 1) := by decide +kernel
theorem dX13_bind_14 : decode cX13_bind 14 = .ok (.getfield 344, 3) := by decide +kernel
theorem dX13_bind_17 : decode cX13_bind 17 = .ok (.aload_n 0, 1) := by decide +kernel
theorem dX13_bind_18 : decode cX13_bind 18 = .ok (.getfield 464, 3) := by decide +kernel
theorem dX13_bind_21 : decode cX13_bind 21 = .ok (.iconst 1, 1) := by decide +kernel
theorem dX13_bind_22 : decode cX13_bind 22 = .ok (.isub, 1) := by decide +kernel
theorem dX13_bind_23 : decode cX13_bind 23 = .ok (.iaload, 1) := by decide +kernel
theorem dX13_bind_24 : decode cX13_bind 24 = .ok (.istore_n 2, 1) := by decide +kernel
theorem dX13_bind_25 : decode cX13_bind 25 = .ok (.aload_n 0, 1) := by decide +kernel
theorem dX13_bind_26 : decode cX13_bind 26 = .ok (.getfield 344, 3) := by decide +kernel
theorem dX13_bind_29 : decode cX13_bind 29 = .ok (.aload_n 0, 1) := by decide +kernel
theorem dX13_bind_30 : decode cX13_bind 30 = .ok (.getfield 467, 3) := by decide +kernel
theorem dX13_bind_33 : decode cX13_bind 33 = .ok (.iaload, 1) := by decide +kernel
theorem dX13_bind_34 : decode cX13_bind 34 = .ok (.istore_n 3, 1) := by decide +kernel
theorem dX13_bind_35 : decode cX13_bind 35 = .ok (.iload_n 2, 1) := by decide +kernel
theorem dX13_bind_36 : decode cX13_bind 36 = .ok (.iconst 1, 1) := by decide +kernel
theorem dX13_bind_37 : decode cX13_bind 37 = .ok (.if_icmp .le 12, 3) := by decide +kernel
theorem dX13_bind_40 : decode cX13_bind 40 = .ok (.iload_n 2, 1) := by decide +kernel
theorem dX13_bind_41 : decode cX13_bind 41 = .ok (.iconst 5, 1) := by decide +kernel
theorem dX13_bind_42 : decode cX13_bind 42 = .ok (.if_icmp .gt 7, 3) := by decide +kernel
theorem dX13_bind_45 : decode cX13_bind 45 = .ok (.iconst 1, 1) := by decide +kernel
theorem dX13_bind_46 : decode cX13_bind 46 = .ok (.goto 4, 3) := by decide +kernel
theorem dX13_bind_49 : decode cX13_bind 49 = .ok (.iconst 0, 1) := by decide +kernel
theorem dX13_bind_50 : decode cX13_bind 50 = .ok (.istore_n 1, 1) := by decide +kernel
theorem dX13_bind_51 : decode cX13_bind 51 = .ok (.iload_n 1, 1) := by decide +kernel
theorem dX13_bind_52 : decode cX13_bind 52 = .ok (.ifCond .ne 6, 3) := by decide +kernel
theorem dX13_bind_55 : decode cX13_bind 55 = .ok (.goto (-53), 3) := by decide +kernel
theorem dX13_bind_58 : decode cX13_bind 58 = .ok (.aload_n 0, 1) := by decide +kernel
theorem dX13_bind_59 : decode cX13_bind 59 = .ok (.getfield 344, 3) := by decide +kernel
theorem dX13_bind_62 : decode cX13_bind 62 = .ok (.aload_n 0, 1) := by decide +kernel
theorem dX13_bind_63 : decode cX13_bind 63 = .ok (.getfield 467, 3) := by decide +kernel
theorem dX13_bind_66 : decode cX13_bind 66 = .ok (.iload_n 2, 1) := by decide +kernel
theorem dX13_bind_67 : decode cX13_bind 67 = .ok (.iconst 2, 1) := by decide +kernel
theorem dX13_bind_68 : decode cX13_bind 68 = .ok (.if_icmp .ne 8, 3) := by decide +kernel
theorem dX13_bind_71 : decode cX13_bind 71 = .ok (.iload_n 3, 1) := by decide +kernel
theorem dX13_bind_72 : decode cX13_bind 72 = .ok (.ineg, 1) := by decide +kernel
theorem dX13_bind_73 : decode cX13_bind 73 = .ok (.goto 37, 3) := by decide +kernel
theorem dX13_bind_76 : decode cX13_bind 76 = .ok (.iload_n 2, 1) := by decide +kernel
theorem dX13_bind_77 : decode cX13_bind 77 = .ok (.iconst 3, 1) := by decide +kernel
theorem dX13_bind_78 : decode cX13_bind 78 = .ok (.if_icmp .ne 9, 3) := by decide +kernel
theorem dX13_bind_81 : decode cX13_bind 81 = .ok (.iload_n 3, 1) := by decide +kernel
theorem dX13_bind_82 : decode cX13_bind 82 = .ok (.iconst (-1), 1) := by decide +kernel
theorem dX13_bind_83 : decode cX13_bind 83 = .ok (.ixor, 1) := by decide +kernel
theorem dX13_bind_84 : decode cX13_bind 84 = .ok (.goto 26, 3) := by decide +kernel
theorem dX13_bind_87 : decode cX13_bind 87 = .ok (.iload_n 2, 1) := by decide +kernel
theorem dX13_bind_88 : decode cX13_bind 88 = .ok (.iconst 4, 1) := by decide +kernel
theorem dX13_bind_89 : decode cX13_bind 89 = .ok (.if_icmp .ne 14, 3) := by decide +kernel
theorem dX13_bind_92 : decode cX13_bind 92 = .ok (.iload_n 3, 1) := by decide +kernel
theorem dX13_bind_93 : decode cX13_bind 93 = .ok (.sipush 2048, 3) := by decide +kernel
theorem dX13_bind_96 : decode cX13_bind 96 = .ok (.iadd, 1) := by decide +kernel
theorem dX13_bind_97 : decode cX13_bind 97 = .ok (.bipush 12, 2) := by decide +kernel
theorem dX13_bind_99 : decode cX13_bind 99 = .ok (.iushr, 1) := by decide +kernel
theorem dX13_bind_100 : decode cX13_bind 100 = .ok (.goto 10, 3) := by decide +kernel
theorem dX13_bind_103 : decode cX13_bind 103 = .ok (.iload_n 3, 1) := by decide +kernel
theorem dX13_bind_104 : decode cX13_bind 104 = .ok (.bipush 20, 2) := by decide +kernel
theorem dX13_bind_106 : decode cX13_bind 106 = .ok (.ishl, 1) := by decide +kernel
theorem dX13_bind_107 : decode cX13_bind 107 = .ok (.bipush 20, 2) := by decide +kernel
theorem dX13_bind_109 : decode cX13_bind 109 = .ok (.ishr, 1) := by decide +kernel
theorem dX13_bind_110 : decode cX13_bind 110 = .ok (.iastore, 1) := by decide +kernel
theorem dX13_bind_111 : decode cX13_bind 111 = .ok (.aload_n 0, 1) := by decide +kernel
theorem dX13_bind_112 : decode cX13_bind 112 = .ok (.dup, 1) := by decide +kernel
theorem dX13_bind_113 : decode cX13_bind 113 = .ok (.getfield 464, 3) := by decide +kernel
theorem dX13_bind_116 : decode cX13_bind 116 = .ok (.iconst 1, 1) := by decide +kernel
theorem dX13_bind_117 : decode cX13_bind 117 = .ok (.isub, 1) := by decide +kernel
theorem dX13_bind_118 : decode cX13_bind 118 = .ok (.putfield 464, 3) := by decide +kernel
theorem dX13_bind_121 : decode cX13_bind 121 = .ok (.goto (-119), 3) := by decide +kernel
theorem dX13_bind_124 : decode cX13_bind 124 = .ok (.return_, 1) := by decide +kernel
theorem dX13_name_0 : decode cX13_name 0 = .ok (.aload_n 0, 1) := by decide +kernel
theorem dX13_name_1 : decode cX13_name 1 = .ok (.getfield 371, 3) := by decide +kernel
theorem dX13_name_4 : decode cX13_name 4 = .ok (.aload_n 0, 1) := by decide +kernel
theorem dX13_name_5 : decode cX13_name 5 = .ok (.getfield 368, 3) := by decide +kernel
theorem dX13_name_8 : decode cX13_name 8 = .ok (.isub, 1) := by decide +kernel
theorem dX13_name_9 : decode cX13_name 9 = .ok (.iconst 1, 1) := by decide +kernel
theorem dX13_name_10 : decode cX13_name 10 = .ok (.if_icmp .ne 21, 3) := by decide +kernel
theorem dX13_name_13 : decode cX13_name 13 = .ok (.aload_n 0, 1) := by decide +kernel
theorem dX13_name_14 : decode cX13_name 14 = .ok (.getfield 324, 3) := by decide +kernel
theorem dX13_name_17 : decode cX13_name 17 = .ok (.aload_n 0, 1) := by decide +kernel
theorem dX13_name_18 : decode cX13_name 18 = .ok (.getfield 368, 3) := by decide +kernel
theorem dX13_name_21 : decode cX13_name 21 = .ok (.caload, 1) := by decide +kernel
theorem dX13_name_22 : decode cX13_name 22 = .ok (.bipush 46, 2) := by decide +kernel
theorem dX13_name_24 : decode cX13_name 24 = .ok (.if_icmp .ne 7, 3) := by decide +kernel
theorem dX13_name_27 : decode cX13_name 27 = .ok (.iconst 1, 1) := by decide +kernel
theorem dX13_name_28 : decode cX13_name 28 = .ok (.goto 4, 3) := by decide +kernel
theorem dX13_name_31 : decode cX13_name 31 = .ok (.iconst 0, 1) := by decide +kernel
theorem dX13_name_32 : decode cX13_name 32 = .ok (.istore_n 1, 1) := by decide +kernel
theorem dX13_name_33 : decode cX13_name 33 = .ok (.iload_n 1, 1) := by decide +kernel
theorem dX13_name_34 : decode cX13_name 34 = .ok (.ifCond .ne 18, 3) := by decide +kernel
theorem dX13_name_37 : decode cX13_name 37 = .ok (.aload_n 0, 1) := by decide +kernel
theorem dX13_name_38 : decode cX13_name 38 = .ok (.aload_n 0, 1) := by decide +kernel
theorem dX13_name_39 : decode cX13_name 39 = .ok (.getfield 368, 3) := by decide +kernel
theorem dX13_name_42 : decode cX13_name 42 = .ok (.aload_n 0, 1) := by decide +kernel
theorem dX13_name_43 : decode cX13_name 43 = .ok (.getfield 371, 3) := by decide +kernel
theorem dX13_name_46 : decode cX13_name 46 = .ok (.invokevirtual 477, 3) := by decide +kernel
theorem dX13_name_49 : decode cX13_name 49 = .ok (.ifCond .lt 7, 3) := by decide +kernel
theorem dX13_name_52 : decode cX13_name 52 = .ok (.iconst (-1), 1) := by decide +kernel
theorem dX13_name_53 : decode cX13_name 53 = .ok (.goto 15, 3) := by decide +kernel
theorem dX13_name_56 : decode cX13_name 56 = .ok (.aload_n 0, 1) := by decide +kernel
theorem dX13_name_57 : decode cX13_name 57 = .ok (.aload_n 0, 1) := by decide +kernel
theorem dX13_name_58 : decode cX13_name 58 = .ok (.getfield 368, 3) := by decide +kernel
theorem dX13_name_61 : decode cX13_name 61 = .ok (.aload_n 0, 1) := by decide +kernel
theorem dX13_name_62 : decode cX13_name 62 = .ok (.getfield 371, 3) := by decide +kernel
theorem dX13_name_65 : decode cX13_name 65 = .ok (.invokevirtual 480, 3) := by decide +kernel
theorem dX13_name_68 : decode cX13_name 68 = .ok (.istore_n 2, 1) := by decide +kernel
theorem dX13_name_69 : decode cX13_name 69 = .ok (.iload_n 2, 1) := by decide +kernel
theorem dX13_name_70 : decode cX13_name 70 = .ok (.ifCond .lt 20, 3) := by decide +kernel
theorem dX13_name_73 : decode cX13_name 73 = .ok (.aload_n 0, 1) := by decide +kernel
theorem dX13_name_74 : decode cX13_name 74 = .ok (.getfield 337, 3) := by decide +kernel
theorem dX13_name_77 : decode cX13_name 77 = .ok (.iload_n 2, 1) := by decide +kernel
theorem dX13_name_78 : decode cX13_name 78 = .ok (.iaload, 1) := by decide +kernel
theorem dX13_name_79 : decode cX13_name 79 = .ok (.bipush 17, 2) := by decide +kernel
theorem dX13_name_81 : decode cX13_name 81 = .ok (.ishr, 1) := by decide +kernel
theorem dX13_name_82 : decode cX13_name 82 = .ok (.iconst 2, 1) := by decide +kernel
theorem dX13_name_83 : decode cX13_name 83 = .ok (.if_icmp .ne 7, 3) := by decide +kernel
theorem dX13_name_86 : decode cX13_name 86 = .ok (.iconst 1, 1) := by decide +kernel
theorem dX13_name_87 : decode cX13_name 87 = .ok (.goto 4, 3) := by decide +kernel
theorem dX13_name_90 : decode cX13_name 90 = .ok (.iconst 0, 1) := by decide +kernel
theorem dX13_name_91 : decode cX13_name 91 = .ok (.istore_n 3, 1) := by decide +kernel
theorem dX13_name_92 : decode cX13_name 92 = .ok (.aload_n 0, 1) := by decide +kernel
theorem dX13_name_93 : decode cX13_name 93 = .ok (.aload_n 0, 1) := by decide +kernel
theorem dX13_name_94 : decode cX13_name 94 = .ok (.getfield 483, 3) := by decide +kernel
theorem dX13_name_97 : decode cX13_name 97 = .ok (.ifCond .ne 7, 3) := by decide +kernel
theorem dX13_name_100 : decode cX13_name 100 = .ok (.iload_n 3, 1) := by decide +kernel
theorem dX13_name_101 : decode cX13_name 101 = .ok (.ifCond .ne 7, 3) := by decide +kernel
theorem dX13_name_104 : decode cX13_name 104 = .ok (.iconst 1, 1) := by decide +kernel
theorem dX13_name_105 : decode cX13_name 105 = .ok (.goto 4, 3) := by decide +kernel
theorem dX13_name_108 : decode cX13_name 108 = .ok (.iconst 0, 1) := by decide +kernel
theorem dX13_name_109 : decode cX13_name 109 = .ok (.putfield 483, 3) := by decide +kernel
theorem dX13_name_112 : decode cX13_name 112 = .ok (.aload_n 0, 1) := by decide +kernel
theorem dX13_name_113 : decode cX13_name 113 = .ok (.aload_n 0, 1) := by decide +kernel
theorem dX13_name_114 : decode cX13_name 114 = .ok (.getfield 457, 3) := by decide +kernel
theorem dX13_name_117 : decode cX13_name 117 = .ok (.ifCond .ne 11, 3) := by decide +kernel
theorem dX13_name_120 : decode cX13_name 120 = .ok (.iload_n 1, 1) := by decide +kernel
theorem dX13_name_121 : decode cX13_name 121 = .ok (.ifCond .ne 11, 3) := by decide +kernel
theorem dX13_name_124 : decode cX13_name 124 = .ok (.iload_n 2, 1) := by decide +kernel
theorem dX13_name_125 : decode cX13_name 125 = .ok (.ifCond .ge 7, 3) := by decide +kernel
theorem dX13_name_128 : decode cX13_name 128 = .ok (.iconst 1, 1) := by decide +kernel
theorem dX13_name_129 : decode cX13_name 129 = .ok (.goto 4, 3) := by decide +kernel
theorem dX13_name_132 : decode cX13_name 132 = .ok (.iconst 0, 1) := by decide +kernel
theorem dX13_name_133 : decode cX13_name 133 = .ok (.putfield 457, 3) := by decide +kernel
theorem dX13_name_136 : decode cX13_name 136 = .ok (.aload_n 0, 1) := by decide +kernel
theorem dX13_name_137 : decode cX13_name 137 = .ok (.iload_n 1, 1) := by decide +kernel
theorem dX13_name_138 : decode cX13_name 138 = .ok (.ifCond .eq 10, 3) := by decide +kernel
theorem dX13_name_141 : decode cX13_name 141 = .ok (.aload_n 0, 1) := by decide +kernel
theorem dX13_name_142 : decode cX13_name 142 = .ok (.getfield 486, 3) := by decide +kernel
theorem dX13_name_145 : decode cX13_name 145 = .ok (.goto 16, 3) := by decide +kernel
theorem dX13_name_148 : decode cX13_name 148 = .ok (.iload_n 2, 1) := by decide +kernel
theorem dX13_name_149 : decode cX13_name 149 = .ok (.ifCond .ge 7, 3) := by decide +kernel
theorem dX13_name_152 : decode cX13_name 152 = .ok (.iconst 0, 1) := by decide +kernel
theorem dX13_name_153 : decode cX13_name 153 = .ok (.goto 8, 3) := by decide +kernel
theorem dX13_name_156 : decode cX13_name 156 = .ok (.aload_n 0, 1) := by decide +kernel
theorem dX13_name_157 : decode cX13_name 157 = .ok (.iload_n 2, 1) := by decide +kernel
theorem dX13_name_158 : decode cX13_name 158 = .ok (.invokevirtual 461, 3) := by decide +kernel
theorem dX13_name_161 : decode cX13_name 161 = .ok (.invokevirtual 489, 3) := by decide +kernel
theorem dX13_name_164 : decode cX13_name 164 = .ok (.return_, 1) := by decide +kernel
theorem dX13_operand_0 : decode cX13_operand 0 = .ok (.aload_n 0, 1) := by decide +kernel
theorem dX13_operand_1 : decode cX13_operand 1 = .ok (.getfield 365, 3) := by decide +kernel
theorem dX13_operand_4 : decode cX13_operand 4 = .ok (.lookupswitch 231 #[(1, 68), (2, 75), (3, 86), (37, 148), (40, 127), (45, 134), (126, 141)], 68) := by decide +kernel
theorem dX13_operand_72 : decode cX13_operand 72 = .ok (.aload_n 0, 1) := by decide +kernel
theorem dX13_operand_73 : decode cX13_operand 73 = .ok (.invokevirtual 492, 3) := by decide +kernel
theorem dX13_operand_76 : decode cX13_operand 76 = .ok (.goto 166, 3) := by decide +kernel
theorem dX13_operand_79 : decode cX13_operand 79 = .ok (.aload_n 0, 1) := by decide +kernel
theorem dX13_operand_80 : decode cX13_operand 80 = .ok (.aload_n 0, 1) := by decide +kernel
theorem dX13_operand_81 : decode cX13_operand 81 = .ok (.getfield 399, 3) := by decide +kernel
theorem dX13_operand_84 : decode cX13_operand 84 = .ok (.invokevirtual 489, 3) := by decide +kernel
theorem dX13_operand_87 : decode cX13_operand 87 = .ok (.goto 155, 3) := by decide +kernel
theorem dX13_operand_90 : decode cX13_operand 90 = .ok (.aload_n 0, 1) := by decide +kernel
theorem dX13_operand_91 : decode cX13_operand 91 = .ok (.iconst 1, 1) := by decide +kernel
theorem dX13_operand_92 : decode cX13_operand 92 = .ok (.putfield 483, 3) := by decide +kernel
