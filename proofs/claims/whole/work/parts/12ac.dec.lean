theorem dX13_find_25 : decode cX13_find 25 = .ok (.iload_n 2, 1) := by decide +kernel
theorem dX13_find_26 : decode cX13_find 26 = .ok (.aload_n 0, 1) := by decide +kernel
theorem dX13_find_27 : decode cX13_find 27 = .ok (.getfield 337, 3) := by decide +kernel
theorem dX13_find_30 : decode cX13_find 30 = .ok (.iload_n 3, 1) := by decide +kernel
theorem dX13_find_31 : decode cX13_find 31 = .ok (.iaload, 1) := by decide +kernel
theorem dX13_find_32 : decode cX13_find 32 = .ok (.ldc_w 442, 3) := by decide +kernel
theorem dX13_find_35 : decode cX13_find 35 = .ok (.iand, 1) := by decide +kernel
theorem dX13_find_36 : decode cX13_find 36 = .ok (.invokevirtual 443, 3) := by decide +kernel
theorem dX13_find_39 : decode cX13_find 39 = .ok (.ifCond .eq 5, 3) := by decide +kernel
theorem dX13_find_42 : decode cX13_find 42 = .ok (.iload_n 3, 1) := by decide +kernel
theorem dX13_find_43 : decode cX13_find 43 = .ok (.ireturn, 1) := by decide +kernel
theorem dX13_find_44 : decode cX13_find 44 = .ok (.iinc 3 1, 3) := by decide +kernel
theorem dX13_find_47 : decode cX13_find 47 = .ok (.goto (-45), 3) := by decide +kernel
theorem dX13_find_50 : decode cX13_find 50 = .ok (.iconst (-1), 1) := by decide +kernel
theorem dX13_find_51 : decode cX13_find 51 = .ok (.ireturn, 1) := by decide +kernel
theorem dX13_define_0 : decode cX13_define 0 = .ok (.aload_n 0, 1) := by decide +kernel
theorem dX13_define_1 : decode cX13_define 1 = .ok (.getfield 337, 3) := by decide +kernel
theorem dX13_define_4 : decode cX13_define 4 = .ok (.aload_n 0, 1) := by decide +kernel
theorem dX13_define_5 : decode cX13_define 5 = .ok (.getfield 439, 3) := by decide +kernel
theorem dX13_define_8 : decode cX13_define 8 = .ok (.iload_n 1, 1) := by decide +kernel
theorem dX13_define_9 : decode cX13_define 9 = .ok (.iload_n 3, 1) := by decide +kernel
theorem dX13_define_10 : decode cX13_define 10 = .ok (.bipush 17, 2) := by decide +kernel
theorem dX13_define_12 : decode cX13_define 12 = .ok (.ishl, 1) := by decide +kernel
theorem dX13_define_13 : decode cX13_define 13 = .ok (.ior, 1) := by decide +kernel
theorem dX13_define_14 : decode cX13_define 14 = .ok (.iastore, 1) := by decide +kernel
theorem dX13_define_15 : decode cX13_define 15 = .ok (.aload_n 0, 1) := by decide +kernel
theorem dX13_define_16 : decode cX13_define 16 = .ok (.getfield 340, 3) := by decide +kernel
theorem dX13_define_19 : decode cX13_define 19 = .ok (.aload_n 0, 1) := by decide +kernel
theorem dX13_define_20 : decode cX13_define 20 = .ok (.getfield 439, 3) := by decide +kernel
theorem dX13_define_23 : decode cX13_define 23 = .ok (.iload 4, 2) := by decide +kernel
theorem dX13_define_25 : decode cX13_define 25 = .ok (.iastore, 1) := by decide +kernel
theorem dX13_define_26 : decode cX13_define 26 = .ok (.aload_n 0, 1) := by decide +kernel
theorem dX13_define_27 : decode cX13_define 27 = .ok (.dup, 1) := by decide +kernel
theorem dX13_define_28 : decode cX13_define 28 = .ok (.getfield 439, 3) := by decide +kernel
theorem dX13_define_31 : decode cX13_define 31 = .ok (.iconst 1, 1) := by decide +kernel
theorem dX13_define_32 : decode cX13_define 32 = .ok (.iadd, 1) := by decide +kernel
theorem dX13_define_33 : decode cX13_define 33 = .ok (.putfield 439, 3) := by decide +kernel
theorem dX13_define_36 : decode cX13_define 36 = .ok (.return_, 1) := by decide +kernel
theorem dX13_base_0 : decode cX13_base 0 = .ok (.aload_n 0, 1) := by decide +kernel
theorem dX13_base_1 : decode cX13_base 1 = .ok (.getfield 447, 3) := by decide +kernel
theorem dX13_base_4 : decode cX13_base 4 = .ok (.sipush 1023, 3) := by decide +kernel
theorem dX13_base_7 : decode cX13_base 7 = .ok (.iadd, 1) := by decide +kernel
theorem dX13_base_8 : decode cX13_base 8 = .ok (.sipush 1024, 3) := by decide +kernel
theorem dX13_base_11 : decode cX13_base 11 = .ok (.idiv, 1) := by decide +kernel
theorem dX13_base_12 : decode cX13_base 12 = .ok (.sipush 1024, 3) := by decide +kernel
theorem dX13_base_15 : decode cX13_base 15 = .ok (.imul, 1) := by decide +kernel
theorem dX13_base_16 : decode cX13_base 16 = .ok (.ireturn, 1) := by decide +kernel
theorem dX13_valueOf_0 : decode cX13_valueOf 0 = .ok (.aload_n 0, 1) := by decide +kernel
theorem dX13_valueOf_1 : decode cX13_valueOf 1 = .ok (.getfield 337, 3) := by decide +kernel
theorem dX13_valueOf_4 : decode cX13_valueOf 4 = .ok (.iload_n 1, 1) := by decide +kernel
theorem dX13_valueOf_5 : decode cX13_valueOf 5 = .ok (.iaload, 1) := by decide +kernel
theorem dX13_valueOf_6 : decode cX13_valueOf 6 = .ok (.bipush 17, 2) := by decide +kernel
theorem dX13_valueOf_8 : decode cX13_valueOf 8 = .ok (.ishr, 1) := by decide +kernel
theorem dX13_valueOf_9 : decode cX13_valueOf 9 = .ok (.istore_n 2, 1) := by decide +kernel
theorem dX13_valueOf_10 : decode cX13_valueOf 10 = .ok (.iload_n 2, 1) := by decide +kernel
theorem dX13_valueOf_11 : decode cX13_valueOf 11 = .ok (.iconst 2, 1) := by decide +kernel
theorem dX13_valueOf_12 : decode cX13_valueOf 12 = .ok (.if_icmp .ne 12, 3) := by decide +kernel
theorem dX13_valueOf_15 : decode cX13_valueOf 15 = .ok (.aload_n 0, 1) := by decide +kernel
theorem dX13_valueOf_16 : decode cX13_valueOf 16 = .ok (.getfield 340, 3) := by decide +kernel
theorem dX13_valueOf_19 : decode cX13_valueOf 19 = .ok (.iload_n 1, 1) := by decide +kernel
theorem dX13_valueOf_20 : decode cX13_valueOf 20 = .ok (.iaload, 1) := by decide +kernel
theorem dX13_valueOf_21 : decode cX13_valueOf 21 = .ok (.goto 33, 3) := by decide +kernel
theorem dX13_valueOf_24 : decode cX13_valueOf 24 = .ok (.iload_n 2, 1) := by decide +kernel
theorem dX13_valueOf_25 : decode cX13_valueOf 25 = .ok (.iconst 1, 1) := by decide +kernel
theorem dX13_valueOf_26 : decode cX13_valueOf 26 = .ok (.if_icmp .eq 8, 3) := by decide +kernel
theorem dX13_valueOf_29 : decode cX13_valueOf 29 = .ok (.iload_n 2, 1) := by decide +kernel
theorem dX13_valueOf_30 : decode cX13_valueOf 30 = .ok (.iconst 4, 1) := by decide +kernel
theorem dX13_valueOf_31 : decode cX13_valueOf 31 = .ok (.if_icmp .ne 17, 3) := by decide +kernel
theorem dX13_valueOf_34 : decode cX13_valueOf 34 = .ok (.aload_n 0, 1) := by decide +kernel
theorem dX13_valueOf_35 : decode cX13_valueOf 35 = .ok (.invokevirtual 450, 3) := by decide +kernel
theorem dX13_valueOf_38 : decode cX13_valueOf 38 = .ok (.aload_n 0, 1) := by decide +kernel
theorem dX13_valueOf_39 : decode cX13_valueOf 39 = .ok (.getfield 340, 3) := by decide +kernel
theorem dX13_valueOf_42 : decode cX13_valueOf 42 = .ok (.iload_n 1, 1) := by decide +kernel
theorem dX13_valueOf_43 : decode cX13_valueOf 43 = .ok (.iaload, 1) := by decide +kernel
theorem dX13_valueOf_44 : decode cX13_valueOf 44 = .ok (.iadd, 1) := by decide +kernel
theorem dX13_valueOf_45 : decode cX13_valueOf 45 = .ok (.goto 9, 3) := by decide +kernel
theorem dX13_valueOf_48 : decode cX13_valueOf 48 = .ok (.aload_n 0, 1) := by decide +kernel
theorem dX13_valueOf_49 : decode cX13_valueOf 49 = .ok (.getfield 340, 3) := by decide +kernel
theorem dX13_valueOf_52 : decode cX13_valueOf 52 = .ok (.iload_n 1, 1) := by decide +kernel
theorem dX13_valueOf_53 : decode cX13_valueOf 53 = .ok (.iaload, 1) := by decide +kernel
theorem dX13_valueOf_54 : decode cX13_valueOf 54 = .ok (.ireturn, 1) := by decide +kernel
theorem dX13_near_0 : decode cX13_near 0 = .ok (.aload_n 0, 1) := by decide +kernel
theorem dX13_near_1 : decode cX13_near 1 = .ok (.getfield 328, 3) := by decide +kernel
theorem dX13_near_4 : decode cX13_near 4 = .ok (.aload_n 0, 1) := by decide +kernel
theorem dX13_near_5 : decode cX13_near 5 = .ok (.getfield 454, 3) := by decide +kernel
theorem dX13_near_8 : decode cX13_near 8 = .ok (.iaload, 1) := by decide +kernel
theorem dX13_near_9 : decode cX13_near 9 = .ok (.ldc_w 442, 3) := by decide +kernel
theorem dX13_near_12 : decode cX13_near 12 = .ok (.iand, 1) := by decide +kernel
theorem dX13_near_13 : decode cX13_near 13 = .ok (.istore_n 3, 1) := by decide +kernel
theorem dX13_near_14 : decode cX13_near 14 = .ok (.iconst (-1), 1) := by decide +kernel
theorem dX13_near_15 : decode cX13_near 15 = .ok (.istore 4, 2) := by decide +kernel
theorem dX13_near_17 : decode cX13_near 17 = .ok (.iconst 0, 1) := by decide +kernel
theorem dX13_near_18 : decode cX13_near 18 = .ok (.istore 5, 2) := by decide +kernel
theorem dX13_near_20 : decode cX13_near 20 = .ok (.iload 5, 2) := by decide +kernel
theorem dX13_near_22 : decode cX13_near 22 = .ok (.aload_n 0, 1) := by decide +kernel
theorem dX13_near_23 : decode cX13_near 23 = .ok (.getfield 439, 3) := by decide +kernel
theorem dX13_near_26 : decode cX13_near 26 = .ok (.if_icmp .ge 81, 3) := by decide +kernel
theorem dX13_near_29 : decode cX13_near 29 = .ok (.aload_n 0, 1) := by decide +kernel
theorem dX13_near_30 : decode cX13_near 30 = .ok (.getfield 337, 3) := by decide +kernel
theorem dX13_near_33 : decode cX13_near 33 = .ok (.iload 5, 2) := by decide +kernel
theorem dX13_near_35 : decode cX13_near 35 = .ok (.iaload, 1) := by decide +kernel
theorem dX13_near_36 : decode cX13_near 36 = .ok (.ldc_w 442, 3) := by decide +kernel
theorem dX13_near_39 : decode cX13_near 39 = .ok (.iand, 1) := by decide +kernel
theorem dX13_near_40 : decode cX13_near 40 = .ok (.istore 6, 2) := by decide +kernel
theorem dX13_near_42 : decode cX13_near 42 = .ok (.aload_n 0, 1) := by decide +kernel
theorem dX13_near_43 : decode cX13_near 43 = .ok (.getfield 337, 3) := by decide +kernel
theorem dX13_near_46 : decode cX13_near 46 = .ok (.iload 5, 2) := by decide +kernel
theorem dX13_near_48 : decode cX13_near 48 = .ok (.iaload, 1) := by decide +kernel
theorem dX13_near_49 : decode cX13_near 49 = .ok (.bipush 17, 2) := by decide +kernel
theorem dX13_near_51 : decode cX13_near 51 = .ok (.ishr, 1) := by decide +kernel
theorem dX13_near_52 : decode cX13_near 52 = .ok (.iconst 3, 1) := by decide +kernel
theorem dX13_near_53 : decode cX13_near 53 = .ok (.if_icmp .lt 48, 3) := by decide +kernel
theorem dX13_near_56 : decode cX13_near 56 = .ok (.aload_n 0, 1) := by decide +kernel
theorem dX13_near_57 : decode cX13_near 57 = .ok (.getfield 324, 3) := by decide +kernel
theorem dX13_near_60 : decode cX13_near 60 = .ok (.iload 6, 2) := by decide +kernel
theorem dX13_near_62 : decode cX13_near 62 = .ok (.caload, 1) := by decide +kernel
theorem dX13_near_63 : decode cX13_near 63 = .ok (.bipush 48, 2) := by decide +kernel
theorem dX13_near_65 : decode cX13_near 65 = .ok (.isub, 1) := by decide +kernel
theorem dX13_near_66 : decode cX13_near 66 = .ok (.iload_n 1, 1) := by decide +kernel
theorem dX13_near_67 : decode cX13_near 67 = .ok (.if_icmp .ne 34, 3) := by decide +kernel
theorem dX13_near_70 : decode cX13_near 70 = .ok (.iload_n 2, 1) := by decide +kernel
theorem dX13_near_71 : decode cX13_near 71 = .ok (.iload 6, 2) := by decide +kernel
theorem dX13_near_73 : decode cX13_near 73 = .ok (.iload_n 3, 1) := by decide +kernel
theorem dX13_near_74 : decode cX13_near 74 = .ok (.if_icmp .le 7, 3) := by decide +kernel
theorem dX13_near_77 : decode cX13_near 77 = .ok (.iconst 1, 1) := by decide +kernel
theorem dX13_near_78 : decode cX13_near 78 = .ok (.goto 4, 3) := by decide +kernel
theorem dX13_near_81 : decode cX13_near 81 = .ok (.iconst 0, 1) := by decide +kernel
theorem dX13_near_82 : decode cX13_near 82 = .ok (.if_icmp .ne 19, 3) := by decide +kernel
theorem dX13_near_85 : decode cX13_near 85 = .ok (.iload_n 2, 1) := by decide +kernel
theorem dX13_near_86 : decode cX13_near 86 = .ok (.ifCond .eq 11, 3) := by decide +kernel
theorem dX13_near_89 : decode cX13_near 89 = .ok (.iload 4, 2) := by decide +kernel
theorem dX13_near_91 : decode cX13_near 91 = .ok (.ifCond .lt 6, 3) := by decide +kernel
theorem dX13_near_94 : decode cX13_near 94 = .ok (.goto 7, 3) := by decide +kernel
theorem dX13_near_97 : decode cX13_near 97 = .ok (.iload 5, 2) := by decide +kernel
theorem dX13_near_99 : decode cX13_near 99 = .ok (.istore 4, 2) := by decide +kernel
theorem dX13_near_101 : decode cX13_near 101 = .ok (.iinc 5 1, 3) := by decide +kernel
theorem dX13_near_104 : decode cX13_near 104 = .ok (.goto (-84), 3) := by decide +kernel
theorem dX13_near_107 : decode cX13_near 107 = .ok (.aload_n 0, 1) := by decide +kernel
theorem dX13_near_108 : decode cX13_near 108 = .ok (.aload_n 0, 1) := by decide +kernel
theorem dX13_near_109 : decode cX13_near 109 = .ok (.getfield 457, 3) := by decide +kernel
theorem dX13_near_112 : decode cX13_near 112 = .ok (.ifCond .ne 8, 3) := by decide +kernel
theorem dX13_near_115 : decode cX13_near 115 = .ok (.iload 4, 2) := by decide +kernel
theorem dX13_near_117 : decode cX13_near 117 = .ok (.ifCond .ge 7, 3) := by decide +kernel
theorem dX13_near_120 : decode cX13_near 120 = .ok (.iconst 1, 1) := by decide +kernel
theorem dX13_near_121 : decode cX13_near 121 = .ok (.goto 4, 3) := by decide +kernel
theorem dX13_near_124 : decode cX13_near 124 = .ok (.iconst 0, 1) := by decide +kernel
theorem dX13_near_125 : decode cX13_near 125 = .ok (.putfield 457, 3) := by decide +kernel
theorem dX13_near_128 : decode cX13_near 128 = .ok (.iload 4, 2) := by decide +kernel
theorem dX13_near_130 : decode cX13_near 130 = .ok (.ifCond .ge 7, 3) := by decide +kernel
theorem dX13_near_133 : decode cX13_near 133 = .ok (.iconst 0, 1) := by decide +kernel
theorem dX13_near_134 : decode cX13_near 134 = .ok (.goto 9, 3) := by decide +kernel
theorem dX13_near_137 : decode cX13_near 137 = .ok (.aload_n 0, 1) := by decide +kernel
theorem dX13_near_138 : decode cX13_near 138 = .ok (.iload 4, 2) := by decide +kernel
theorem dX13_near_140 : decode cX13_near 140 = .ok (.invokevirtual 461, 3) := by decide +kernel
theorem dX13_near_143 : decode cX13_near 143 = .ok (.ireturn, 1) := by decide +kernel
theorem dX13_sign_0 : decode cX13_sign 0 = .ok (.aload_n 0, 1) := by decide +kernel
theorem dX13_sign_1 : decode cX13_sign 1 = .ok (.getfield 344, 3) := by decide +kernel
theorem dX13_sign_4 : decode cX13_sign 4 = .ok (.aload_n 0, 1) := by decide +kernel
theorem dX13_sign_5 : decode cX13_sign 5 = .ok (.getfield 464, 3) := by decide +kernel
theorem dX13_sign_8 : decode cX13_sign 8 = .ok (.iload_n 1, 1) := by decide +kernel
theorem dX13_sign_9 : decode cX13_sign 9 = .ok (.iastore, 1) := by decide +kernel
theorem dX13_sign_10 : decode cX13_sign 10 = .ok (.aload_n 0, 1) := by decide +kernel
theorem dX13_sign_11 : decode cX13_sign 11 = .ok (.dup, 1) := by decide +kernel
theorem dX13_sign_12 : decode cX13_sign 12 = .ok (.getfield 464, 3) := by decide +kernel
theorem dX13_sign_15 : decode cX13_sign 15 = .ok (.iconst 1, 1) := by decide +kernel
theorem dX13_sign_16 : decode cX13_sign 16 = .ok (.iadd, 1) := by decide +kernel
theorem dX13_sign_17 : decode cX13_sign 17 = .ok (.putfield 464, 3) := by decide +kernel
theorem dX13_sign_20 : decode cX13_sign 20 = .ok (.return_, 1) := by decide +kernel
theorem dX13_value_0 : decode cX13_value 0 = .ok (.aload_n 0, 1) := by decide +kernel
theorem dX13_value_1 : decode cX13_value 1 = .ok (.dup, 1) := by decide +kernel
theorem dX13_value_2 : decode cX13_value 2 = .ok (.getfield 467, 3) := by decide +kernel
theorem dX13_value_5 : decode cX13_value 5 = .ok (.iconst 1, 1) := by decide +kernel
theorem dX13_value_6 : decode cX13_value 6 = .ok (.isub, 1) := by decide +kernel
theorem dX13_value_7 : decode cX13_value 7 = .ok (.putfield 467, 3) := by decide +kernel
theorem dX13_value_10 : decode cX13_value 10 = .ok (.aload_n 0, 1) := by decide +kernel
theorem dX13_value_11 : decode cX13_value 11 = .ok (.getfield 344, 3) := by decide +kernel
theorem dX13_value_14 : decode cX13_value 14 = .ok (.aload_n 0, 1) := by decide +kernel
theorem dX13_value_15 : decode cX13_value 15 = .ok (.getfield 467, 3) := by decide +kernel
theorem dX13_value_18 : decode cX13_value 18 = .ok (.iload_n 1, 1) := by decide +kernel
theorem dX13_value_19 : decode cX13_value 19 = .ok (.iastore, 1) := by decide +kernel
theorem dX13_value_20 : decode cX13_value 20 = .ok (.return_, 1) := by decide +kernel
theorem dX13_rank_0 : decode cX13_rank 0 = .ok (.iload_n 0, 1) := by decide +kernel
theorem dX13_rank_1 : decode cX13_rank 1 = .ok (.bipush 42, 2) := by decide +kernel
theorem dX13_rank_3 : decode cX13_rank 3 = .ok (.if_icmp .eq 15, 3) := by decide +kernel
theorem dX13_rank_6 : decode cX13_rank 6 = .ok (.iload_n 0, 1) := by decide +kernel
theorem dX13_rank_7 : decode cX13_rank 7 = .ok (.bipush 47, 2) := by decide +kernel
theorem dX13_rank_9 : decode cX13_rank 9 = .ok (.if_icmp .eq 9, 3) := by decide +kernel
theorem dX13_rank_12 : decode cX13_rank 12 = .ok (.iload_n 0, 1) := by decide +kernel
theorem dX13_rank_13 : decode cX13_rank 13 = .ok (.bipush 37, 2) := by decide +kernel
theorem dX13_rank_15 : decode cX13_rank 15 = .ok (.if_icmp .ne 8, 3) := by decide +kernel
theorem dX13_rank_18 : decode cX13_rank 18 = .ok (.bipush 6, 2) := by decide +kernel
theorem dX13_rank_20 : decode cX13_rank 20 = .ok (.goto 66, 3) := by decide +kernel
theorem dX13_rank_23 : decode cX13_rank 23 = .ok (.iload_n 0, 1) := by decide +kernel
theorem dX13_rank_24 : decode cX13_rank 24 = .ok (.bipush 43, 2) := by decide +kernel
theorem dX13_rank_26 : decode cX13_rank 26 = .ok (.if_icmp .eq 9, 3) := by decide +kernel
theorem dX13_rank_29 : decode cX13_rank 29 = .ok (.iload_n 0, 1) := by decide +kernel
theorem dX13_rank_30 : decode cX13_rank 30 = .ok (.bipush 45, 2) := by decide +kernel
theorem dX13_rank_32 : decode cX13_rank 32 = .ok (.if_icmp .ne 7, 3) := by decide +kernel
theorem dX13_rank_35 : decode cX13_rank 35 = .ok (.iconst 5, 1) := by decide +kernel
theorem dX13_rank_36 : decode cX13_rank 36 = .ok (.goto 50, 3) := by decide +kernel
theorem dX13_rank_39 : decode cX13_rank 39 = .ok (.iload_n 0, 1) := by decide +kernel
theorem dX13_rank_40 : decode cX13_rank 40 = .ok (.bipush 6, 2) := by decide +kernel
theorem dX13_rank_42 : decode cX13_rank 42 = .ok (.if_icmp .eq 9, 3) := by decide +kernel
theorem dX13_rank_45 : decode cX13_rank 45 = .ok (.iload_n 0, 1) := by decide +kernel
theorem dX13_rank_46 : decode cX13_rank 46 = .ok (.bipush 7, 2) := by decide +kernel
theorem dX13_rank_48 : decode cX13_rank 48 = .ok (.if_icmp .ne 7, 3) := by decide +kernel
theorem dX13_rank_51 : decode cX13_rank 51 = .ok (.iconst 4, 1) := by decide +kernel
theorem dX13_rank_52 : decode cX13_rank 52 = .ok (.goto 34, 3) := by decide +kernel
theorem dX13_rank_55 : decode cX13_rank 55 = .ok (.iload_n 0, 1) := by decide +kernel
theorem dX13_rank_56 : decode cX13_rank 56 = .ok (.bipush 38, 2) := by decide +kernel
theorem dX13_rank_58 : decode cX13_rank 58 = .ok (.if_icmp .ne 7, 3) := by decide +kernel
theorem dX13_rank_61 : decode cX13_rank 61 = .ok (.iconst 3, 1) := by decide +kernel
theorem dX13_rank_62 : decode cX13_rank 62 = .ok (.goto 24, 3) := by decide +kernel
theorem dX13_rank_65 : decode cX13_rank 65 = .ok (.iload_n 0, 1) := by decide +kernel
theorem dX13_rank_66 : decode cX13_rank 66 = .ok (.bipush 94, 2) := by decide +kernel
theorem dX13_rank_68 : decode cX13_rank 68 = .ok (.if_icmp .ne 7, 3) := by decide +kernel
theorem dX13_rank_71 : decode cX13_rank 71 = .ok (.iconst 2, 1) := by decide +kernel
theorem dX13_rank_72 : decode cX13_rank 72 = .ok (.goto 14, 3) := by decide +kernel
theorem dX13_rank_75 : decode cX13_rank 75 = .ok (.iload_n 0, 1) := by decide +kernel
theorem dX13_rank_76 : decode cX13_rank 76 = .ok (.bipush 124, 2) := by decide +kernel
theorem dX13_rank_78 : decode cX13_rank 78 = .ok (.if_icmp .ne 7, 3) := by decide +kernel
theorem dX13_rank_81 : decode cX13_rank 81 = .ok (.iconst 1, 1) := by decide +kernel
theorem dX13_rank_82 : decode cX13_rank 82 = .ok (.goto 4, 3) := by decide +kernel
theorem dX13_rank_85 : decode cX13_rank 85 = .ok (.iconst 0, 1) := by decide +kernel
theorem dX13_rank_86 : decode cX13_rank 86 = .ok (.ireturn, 1) := by decide +kernel
theorem dX13_worked_0 : decode cX13_worked 0 = .ok (.iload_n 1, 1) := by decide +kernel
theorem dX13_worked_1 : decode cX13_worked 1 = .ok (.lookupswitch 113 #[(6, 87), (7, 94), (38, 101), (42, 75), (43, 79), (45, 83), (94, 105), (124, 109)], 75) := by decide +kernel
theorem dX13_worked_76 : decode cX13_worked 76 = .ok (.iload_n 2, 1) := by decide +kernel
theorem dX13_worked_77 : decode cX13_worked 77 = .ok (.iload_n 3, 1) := by decide +kernel
theorem dX13_worked_78 : decode cX13_worked 78 = .ok (.imul, 1) := by decide +kernel
theorem dX13_worked_79 : decode cX13_worked 79 = .ok (.ireturn, 1) := by decide +kernel
theorem dX13_worked_80 : decode cX13_worked 80 = .ok (.iload_n 2, 1) := by decide +kernel
theorem dX13_worked_81 : decode cX13_worked 81 = .ok (.iload_n 3, 1) := by decide +kernel
theorem dX13_worked_82 : decode cX13_worked 82 = .ok (.iadd, 1) := by decide +kernel
theorem dX13_worked_83 : decode cX13_worked 83 = .ok (.ireturn, 1) := by decide +kernel
theorem dX13_worked_84 : decode cX13_worked 84 = .ok (.iload_n 2, 1) := by decide +kernel
theorem dX13_worked_85 : decode cX13_worked 85 = .ok (.iload_n 3, 1) := by decide +kernel
theorem dX13_worked_86 : decode cX13_worked 86 = .ok (.isub, 1) := by decide +kernel
theorem dX13_worked_87 : decode cX13_worked 87 = .ok (.ireturn, 1) := by decide +kernel
theorem dX13_worked_88 : decode cX13_worked 88 = .ok (.iload_n 2, 1) := by decide +kernel
theorem dX13_worked_89 : decode cX13_worked 89 = .ok (.iload_n 3, 1) := by decide +kernel
theorem dX13_worked_90 : decode cX13_worked 90 = .ok (.bipush 31, 2) := by decide +kernel
theorem dX13_worked_92 : decode cX13_worked 92 = .ok (.iand, 1) := by decide +kernel
theorem dX13_worked_93 : decode cX13_worked 93 = .ok (.ishl, 1) := by decide +kernel
theorem dX13_worked_94 : decode cX13_worked 94 = .ok (.ireturn, 1) := by decide +kernel
theorem dX13_worked_95 : decode cX13_worked 95 = .ok (.iload_n 2, 1) := by decide +kernel
theorem dX13_worked_96 : decode cX13_worked 96 = .ok (.iload_n 3, 1) := by decide +kernel
theorem dX13_worked_97 : decode cX13_worked 97 = .ok (.bipush 31, 2) := by decide +kernel
theorem dX13_worked_99 : decode cX13_worked 99 = .ok (.iand, 1) := by decide +kernel
theorem dX13_worked_100 : decode cX13_worked 100 = .ok (.ishr, 1) := by decide +kernel
theorem dX13_worked_101 : decode cX13_worked 101 = .ok (.ireturn, 1) := by decide +kernel
theorem dX13_worked_102 : decode cX13_worked 102 = .ok (.iload_n 2, 1) := by decide +kernel
theorem dX13_worked_103 : decode cX13_worked 103 = .ok (.iload_n 3, 1) := by decide +kernel
theorem dX13_worked_104 : decode cX13_worked 104 = .ok (.iand, 1) := by decide +kernel
theorem dX13_worked_105 : decode cX13_worked 105 = .ok (.ireturn, 1) := by decide +kernel
theorem dX13_worked_106 : decode cX13_worked 106 = .ok (.iload_n 2, 1) := by decide +kernel
theorem dX13_worked_107 : decode cX13_worked 107 = .ok (.iload_n 3, 1) := by decide +kernel
theorem dX13_worked_108 : decode cX13_worked 108 = .ok (.ixor, 1) := by decide +kernel
theorem dX13_worked_109 : decode cX13_worked 109 = .ok (.ireturn, 1) := by decide +kernel
theorem dX13_worked_110 : decode cX13_worked 110 = .ok (.iload_n 2, 1) := by decide +kernel
theorem dX13_worked_111 : decode cX13_worked 111 = .ok (.iload_n 3, 1) := by decide +kernel
theorem dX13_worked_112 : decode cX13_worked 112 = .ok (.ior, 1) := by decide +kernel
theorem dX13_worked_113 : decode cX13_worked 113 = .ok (.ireturn, 1) := by decide +kernel
theorem dX13_worked_114 : decode cX13_worked 114 = .ok (.aload_n 0, 1) := by decide +kernel
theorem dX13_worked_115 : decode cX13_worked 115 = .ok (.aload_n 0, 1) := by decide +kernel
theorem dX13_worked_116 : decode cX13_worked 116 = .ok (.getfield 470, 3) := by decide +kernel
theorem dX13_worked_119 : decode cX13_worked 119 = .ok (.ifCond .ne 7, 3) := by decide +kernel
theorem dX13_worked_122 : decode cX13_worked 122 = .ok (.iload_n 3, 1) := by decide +kernel
theorem dX13_worked_123 : decode cX13_worked 123 = .ok (.ifCond .ne 7, 3) := by decide +kernel
theorem dX13_worked_126 : decode cX13_worked 126 = .ok (.iconst 1, 1) := by decide +kernel
theorem dX13_worked_127 : decode cX13_worked 127 = .ok (.goto 4, 3) := by decide +kernel
theorem dX13_worked_130 : decode cX13_worked 130 = .ok (.iconst 0, 1) := by decide +kernel
theorem dX13_worked_131 : decode cX13_worked 131 = .ok (.putfield 470, 3) := by decide +kernel
theorem dX13_worked_134 : decode cX13_worked 134 = .ok (.iload_n 3, 1) := by decide +kernel
theorem dX13_worked_135 : decode cX13_worked 135 = .ok (.ifCond .ne 7, 3) := by decide +kernel
theorem dX13_worked_138 : decode cX13_worked 138 = .ok (.iconst 0, 1) := by decide +kernel
theorem dX13_worked_139 : decode cX13_worked 139 = .ok (.goto 18, 3) := by decide +kernel
theorem dX13_worked_142 : decode cX13_worked 142 = .ok (.iload_n 1, 1) := by decide +kernel
theorem dX13_worked_143 : decode cX13_worked 143 = .ok (.bipush 47, 2) := by decide +kernel
theorem dX13_worked_145 : decode cX13_worked 145 = .ok (.if_icmp .ne 9, 3) := by decide +kernel
theorem dX13_worked_148 : decode cX13_worked 148 = .ok (.iload_n 2, 1) := by decide +kernel
theorem dX13_worked_149 : decode cX13_worked 149 = .ok (.iload_n 3, 1) := by decide +kernel
theorem dX13_worked_150 : decode cX13_worked 150 = .ok (.idiv, 1) := by decide +kernel
theorem dX13_worked_151 : decode cX13_worked 151 = .ok (.goto 6, 3) := by decide +kernel
theorem dX13_worked_154 : decode cX13_worked 154 = .ok (.iload_n 2, 1) := by decide +kernel
theorem dX13_worked_155 : decode cX13_worked 155 = .ok (.iload_n 3, 1) := by decide +kernel
theorem dX13_worked_156 : decode cX13_worked 156 = .ok (.irem, 1) := by decide +kernel
theorem dX13_worked_157 : decode cX13_worked 157 = .ok (.ireturn, 1) := by decide +kernel
theorem dX13_join_0 : decode cX13_join 0 = .ok (.aload_n 0, 1) := by decide +kernel
theorem dX13_join_1 : decode cX13_join 1 = .ok (.dup, 1) := by decide +kernel
theorem dX13_join_2 : decode cX13_join 2 = .ok (.getfield 464, 3) := by decide +kernel
theorem dX13_join_5 : decode cX13_join 5 = .ok (.iconst 1, 1) := by decide +kernel
theorem dX13_join_6 : decode cX13_join 6 = .ok (.isub, 1) := by decide +kernel
theorem dX13_join_7 : decode cX13_join 7 = .ok (.putfield 464, 3) := by decide +kernel
theorem dX13_join_10 : decode cX13_join 10 = .ok (.aload_n 0, 1) := by decide +kernel
theorem dX13_join_11 : decode cX13_join 11 = .ok (.getfield 344, 3) := by decide +kernel
theorem dX13_join_14 : decode cX13_join 14 = .ok (.aload_n 0, 1) := by decide +kernel
theorem dX13_join_15 : decode cX13_join 15 = .ok (.getfield 467, 3) := by decide +kernel
theorem dX13_join_18 : decode cX13_join 18 = .ok (.iaload, 1) := by decide +kernel
theorem dX13_join_19 : decode cX13_join 19 = .ok (.istore_n 1, 1) := by decide +kernel
theorem dX13_join_20 : decode cX13_join 20 = .ok (.aload_n 0, 1) := by decide +kernel
theorem dX13_join_21 : decode cX13_join 21 = .ok (.dup, 1) := by decide +kernel
theorem dX13_join_22 : decode cX13_join 22 = .ok (.getfield 467, 3) := by decide +kernel
theorem dX13_join_25 : decode cX13_join 25 = .ok (.iconst 1, 1) := by decide +kernel
theorem dX13_join_26 : decode cX13_join 26 = .ok (.iadd, 1) := by decide +kernel
theorem dX13_join_27 : decode cX13_join 27 = .ok (.putfield 467, 3) := by decide +kernel
theorem dX13_join_30 : decode cX13_join 30 = .ok (.aload_n 0, 1) := by decide +kernel
theorem dX13_join_31 : decode cX13_join 31 = .ok (.getfield 344, 3) := by decide +kernel
theorem dX13_join_34 : decode cX13_join 34 = .ok (.aload_n 0, 1) := by decide +kernel
theorem dX13_join_35 : decode cX13_join 35 = .ok (.getfield 467, 3) := by decide +kernel
theorem dX13_join_38 : decode cX13_join 38 = .ok (.aload_n 0, 1) := by decide +kernel
theorem dX13_join_39 : decode cX13_join 39 = .ok (.aload_n 0, 1) := by decide +kernel
theorem dX13_join_40 : decode cX13_join 40 = .ok (.getfield 344, 3) := by decide +kernel
theorem dX13_join_43 : decode cX13_join 43 = .ok (.aload_n 0, 1) := by decide +kernel
theorem dX13_join_44 : decode cX13_join 44 = .ok (.getfield 464, 3) := by decide +kernel
theorem dX13_join_47 : decode cX13_join 47 = .ok (.iaload, 1) := by decide +kernel
theorem dX13_join_48 : decode cX13_join 48 = .ok (.aload_n 0, 1) := by decide +kernel
theorem dX13_join_49 : decode cX13_join 49 = .ok (.getfield 344, 3) := by decide +kernel
theorem dX13_join_52 : decode cX13_join 52 = .ok (.aload_n 0, 1) := by decide +kernel
theorem dX13_join_53 : decode cX13_join 53 = .ok (.getfield 467, 3) := by decide +kernel
theorem dX13_join_56 : decode cX13_join 56 = .ok (.iaload, 1) := by decide +kernel
theorem dX13_join_57 : decode cX13_join 57 = .ok (.iload_n 1, 1) := by decide +kernel
theorem dX13_join_58 : decode cX13_join 58 = .ok (.invokevirtual 473, 3) := by decide +kernel
theorem dX13_join_61 : decode cX13_join 61 = .ok (.iastore, 1) := by decide +kernel
theorem dX13_join_62 : decode cX13_join 62 = .ok (.return_, 1) := by decide +kernel
theorem dX13_bind_0 : decode cX13_bind 0 = .ok (.iconst 1, 1) := by decide +kernel
theorem dX13_bind_1 : decode cX13_bind 1 = .ok (.istore_n 1, 1) := by decide +kernel
theorem dX13_bind_2 : decode cX13_bind 2 = .ok (.iload_n 1, 1) := by decide +kernel
theorem dX13_bind_3 : decode cX13_bind 3 = .ok (.ifCond .eq 121, 3) := by decide +kernel
theorem dX13_bind_6 : decode cX13_bind 6 = .ok (.aload_n 0, 1) := by decide +kernel
theorem dX13_bind_7 : decode cX13_bind 7 = .ok (.getfield 464, 3) := by decide +kernel
theorem dX13_bind_10 : decode cX13_bind 10 = .ok (.ifCond .le 114, 3) := by decide +kernel
theorem dX13_bind_13 : decode cX13_bind 13 = .ok (.aload_n 0, 1) := by decide +kernel
theorem dX13_bind_14 : decode cX13_bind 14 = .ok (.getfield 344, 3) := by decide +kernel
theorem dX13_bind_17 : decode cX13_bind 17 = .ok (.aload_n 0, 1) := by decide +kernel
theorem dX13_bind_18 : decode cX13_bind 18 = .ok (.getfield 464, 3) := by decide +kernel
theorem dX13_bind_21 : decode cX13_bind 21 = .ok (.iconst 1, 1) := by decide +kernel
theorem dX13_bind_22 : decode cX13_bind 22 = .ok (.isub, 1) := by decide +kernel
theorem dX13_bind_23 : decode cX13_bind 23 = .ok (.iaload, 1) := by decide +kernel
theorem dX13_bind_24 : decode cX13_bind 24 = .ok (.istore_n 2, 1) := by decide +kernel
theorem dX13_bind_25 : decode cX13_bind 25 = .ok (.aload_n 0, 1) := by decide +kernel
theorem dX13_bind_26 : decode cX13_bind 26 = .ok (.getfield 344, 3) := by decide +kernel
theorem dX13_bind_29 : decode cX13_bind 29 = .ok (.aload_n 0, 1) := by decide +kernel
theorem dX13_bind_30 : decode cX13_bind 30 = .ok (.getfield 467, 3) := by decide +kernel
theorem dX13_bind_33 : decode cX13_bind 33 = .ok (.iaload, 1) := by decide +kernel
theorem dX13_bind_34 : decode cX13_bind 34 = .ok (.istore_n 3, 1) := by decide +kernel
theorem dX13_bind_35 : decode cX13_bind 35 = .ok (.iload_n 2, 1) := by decide +kernel
theorem dX13_bind_36 : decode cX13_bind 36 = .ok (.iconst 1, 1) := by decide +kernel
theorem dX13_bind_37 : decode cX13_bind 37 = .ok (.if_icmp .le 12, 3) := by decide +kernel
theorem dX13_bind_40 : decode cX13_bind 40 = .ok (.iload_n 2, 1) := by decide +kernel
theorem dX13_bind_41 : decode cX13_bind 41 = .ok (.iconst 5, 1) := by decide +kernel
theorem dX13_bind_42 : decode cX13_bind 42 = .ok (.if_icmp .gt 7, 3) := by decide +kernel
theorem dX13_bind_45 : decode cX13_bind 45 = .ok (.iconst 1, 1) := by decide +kernel
theorem dX13_bind_46 : decode cX13_bind 46 = .ok (.goto 4, 3) := by decide +kernel
theorem dX13_bind_49 : decode cX13_bind 49 = .ok (.iconst 0, 1) := by decide +kernel
theorem dX13_bind_50 : decode cX13_bind 50 = .ok (.istore_n 1, 1) := by decide +kernel
theorem dX13_bind_51 : decode cX13_bind 51 = .ok (.iload_n 1, 1) := by decide +kernel
theorem dX13_bind_52 : decode cX13_bind 52 = .ok (.ifCond .ne 6, 3) := by decide +kernel
theorem dX13_bind_55 : decode cX13_bind 55 = .ok (.goto (-53), 3) := by decide +kernel
theorem dX13_bind_58 : decode cX13_bind 58 = .ok (.aload_n 0, 1) := by decide +kernel
theorem dX13_bind_59 : decode cX13_bind 59 = .ok (.getfield 344, 3) := by decide +kernel
theorem dX13_bind_62 : decode cX13_bind 62 = .ok (.aload_n 0, 1) := by decide +kernel
theorem dX13_bind_63 : decode cX13_bind 63 = .ok (.getfield 467, 3) := by decide +kernel
theorem dX13_bind_66 : decode cX13_bind 66 = .ok (.iload_n 2, 1) := by decide +kernel
theorem dX13_bind_67 : decode cX13_bind 67 = .ok (.iconst 2, 1) := by decide +kernel
theorem dX13_bind_68 : decode cX13_bind 68 = .ok (.if_icmp .ne 8, 3) := by decide +kernel
theorem dX13_bind_71 : decode cX13_bind 71 = .ok (.iload_n 3, 1) := by decide +kernel
theorem dX13_bind_72 : decode cX13_bind 72 = .ok (.ineg, 1) := by decide +kernel
theorem dX13_bind_73 : decode cX13_bind 73 = .ok (.goto 37, 3) := by decide +kernel
theorem dX13_bind_76 : decode cX13_bind 76 = .ok (.iload_n 2, 1) := by decide +kernel
theorem dX13_bind_77 : decode cX13_bind 77 = .ok (.iconst 3, 1) := by decide +kernel
theorem dX13_bind_78 : decode cX13_bind 78 = .ok (.if_icmp .ne 9, 3) := by decide +kernel
theorem dX13_bind_81 : decode cX13_bind 81 = .ok (.iload_n 3, 1) := by decide +kernel
theorem dX13_bind_82 : decode cX13_bind 82 = .ok (.iconst (-1), 1) := by decide +kernel
theorem dX13_bind_83 : decode cX13_bind 83 = .ok (.ixor, 1) := by decide +kernel
theorem dX13_bind_84 : decode cX13_bind 84 = .ok (.goto 26, 3) := by decide +kernel
theorem dX13_bind_87 : decode cX13_bind 87 = .ok (.iload_n 2, 1) := by decide +kernel
theorem dX13_bind_88 : decode cX13_bind 88 = .ok (.iconst 4, 1) := by decide +kernel
theorem dX13_bind_89 : decode cX13_bind 89 = .ok (.if_icmp .ne 14, 3) := by decide +kernel
theorem dX13_bind_92 : decode cX13_bind 92 = .ok (.iload_n 3, 1) := by decide +kernel
theorem dX13_bind_93 : decode cX13_bind 93 = .ok (.sipush 2048, 3) := by decide +kernel
theorem dX13_bind_96 : decode cX13_bind 96 = .ok (.iadd, 1) := by decide +kernel
theorem dX13_bind_97 : decode cX13_bind 97 = .ok (.bipush 12, 2) := by decide +kernel
theorem dX13_bind_99 : decode cX13_bind 99 = .ok (.iushr, 1) := by decide +kernel
theorem dX13_bind_100 : decode cX13_bind 100 = .ok (.goto 10, 3) := by decide +kernel
theorem dX13_bind_103 : decode cX13_bind 103 = .ok (.iload_n 3, 1) := by decide +kernel
theorem dX13_bind_104 : decode cX13_bind 104 = .ok (.bipush 20, 2) := by decide +kernel
theorem dX13_bind_106 : decode cX13_bind 106 = .ok (.ishl, 1) := by decide +kernel
theorem dX13_bind_107 : decode cX13_bind 107 = .ok (.bipush 20, 2) := by decide +kernel
theorem dX13_bind_109 : decode cX13_bind 109 = .ok (.ishr, 1) := by decide +kernel
theorem dX13_bind_110 : decode cX13_bind 110 = .ok (.iastore, 1) := by decide +kernel
theorem dX13_bind_111 : decode cX13_bind 111 = .ok (.aload_n 0, 1) := by decide +kernel
theorem dX13_bind_112 : decode cX13_bind 112 = .ok (.dup, 1) := by decide +kernel
theorem dX13_bind_113 : decode cX13_bind 113 = .ok (.getfield 464, 3) := by decide +kernel
theorem dX13_bind_116 : decode cX13_bind 116 = .ok (.iconst 1, 1) := by decide +kernel
theorem dX13_bind_117 : decode cX13_bind 117 = .ok (.isub, 1) := by decide +kernel
theorem dX13_bind_118 : decode cX13_bind 118 = .ok (.putfield 464, 3) := by decide +kernel
theorem dX13_bind_121 : decode cX13_bind 121 = .ok (.goto (-119), 3) := by decide +kernel
theorem dX13_bind_124 : decode cX13_bind 124 = .ok (.return_, 1) := by decide +kernel
theorem dX13_name_0 : decode cX13_name 0 = .ok (.aload_n 0, 1) := by decide +kernel
theorem dX13_name_1 : decode cX13_name 1 = .ok (.getfield 371, 3) := by decide +kernel
theorem dX13_name_4 : decode cX13_name 4 = .ok (.aload_n 0, 1) := by decide +kernel
theorem dX13_name_5 : decode cX13_name 5 = .ok (.getfield 368, 3) := by decide +kernel
theorem dX13_name_8 : decode cX13_name 8 = .ok (.isub, 1) := by decide +kernel
theorem dX13_name_9 : decode cX13_name 9 = .ok (.iconst 1, 1) := by decide +kernel
theorem dX13_name_10 : decode cX13_name 10 = .ok (.if_icmp .ne 21, 3) := by decide +kernel
theorem dX13_name_13 : decode cX13_name 13 = .ok (.aload_n 0, 1) := by decide +kernel
theorem dX13_name_14 : decode cX13_name 14 = .ok (.getfield 324, 3) := by decide +kernel
theorem dX13_name_17 : decode cX13_name 17 = .ok (.aload_n 0, 1) := by decide +kernel
theorem dX13_name_18 : decode cX13_name 18 = .ok (.getfield 368, 3) := by decide +kernel
theorem dX13_name_21 : decode cX13_name 21 = .ok (.caload, 1) := by decide +kernel
theorem dX13_name_22 : decode cX13_name 22 = .ok (.bipush 46, 2) := by decide +kernel
theorem dX13_name_24 : decode cX13_name 24 = .ok (.if_icmp .ne 7, 3) := by decide +kernel
theorem dX13_name_27 : decode cX13_name 27 = .ok (.iconst 1, 1) := by decide +kernel
theorem dX13_name_28 : decode cX13_name 28 = .ok (.goto 4, 3) := by decide +kernel
theorem dX13_name_31 : decode cX13_name 31 = .ok (.iconst 0, 1) := by decide +kernel
theorem dX13_name_32 : decode cX13_name 32 = .ok (.istore_n 1, 1) := by decide +kernel
theorem dX13_name_33 : decode cX13_name 33 = .ok (.iload_n 1, 1) := by decide +kernel
theorem dX13_name_34 : decode cX13_name 34 = .ok (.ifCond .ne 18, 3) := by decide +kernel
theorem dX13_name_37 : decode cX13_name 37 = .ok (.aload_n 0, 1) := by decide +kernel
theorem dX13_name_38 : decode cX13_name 38 = .ok (.aload_n 0, 1) := by decide +kernel
theorem dX13_name_39 : decode cX13_name 39 = .ok (.getfield 368, 3) := by decide +kernel
theorem dX13_name_42 : decode cX13_name 42 = .ok (.aload_n 0, 1) := by decide +kernel
theorem dX13_name_43 : decode cX13_name 43 = .ok (.getfield 371, 3) := by decide +kernel
theorem dX13_name_46 : decode cX13_name 46 = .ok (.invokevirtual 477, 3) := by decide +kernel
theorem dX13_name_49 : decode cX13_name 49 = .ok (.ifCond .lt 7, 3) := by decide +kernel
theorem dX13_name_52 : decode cX13_name 52 = .ok (.iconst (-1), 1) := by decide +kernel
theorem dX13_name_53 : decode cX13_name 53 = .ok (.goto 15, 3) := by decide +kernel
theorem dX13_name_56 : decode cX13_name 56 = .ok (.aload_n 0, 1) := by decide +kernel
theorem dX13_name_57 : decode cX13_name 57 = .ok (.aload_n 0, 1) := by decide +kernel
theorem dX13_name_58 : decode cX13_name 58 = .ok (.getfield 368, 3) := by decide +kernel
theorem dX13_name_61 : decode cX13_name 61 = .ok (.aload_n 0, 1) := by decide +kernel
theorem dX13_name_62 : decode cX13_name 62 = .ok (.getfield 371, 3) := by decide +kernel
theorem dX13_name_65 : decode cX13_name 65 = .ok (.invokevirtual 480, 3) := by decide +kernel
theorem dX13_name_68 : decode cX13_name 68 = .ok (.istore_n 2, 1) := by decide +kernel
theorem dX13_name_69 : decode cX13_name 69 = .ok (.iload_n 2, 1) := by decide +kernel
theorem dX13_name_70 : decode cX13_name 70 = .ok (.ifCond .lt 20, 3) := by decide +kernel
theorem dX13_name_73 : decode cX13_name 73 = .ok (.aload_n 0, 1) := by decide +kernel
theorem dX13_name_74 : decode cX13_name 74 = .ok (.getfield 337, 3) := by decide +kernel
theorem dX13_name_77 : decode cX13_name 77 = .ok (.iload_n 2, 1) := by decide +kernel
theorem dX13_name_78 : decode cX13_name 78 = .ok (.iaload, 1) := by decide +kernel
theorem dX13_name_79 : decode cX13_name 79 = .ok (.bipush 17, 2) := by decide +kernel
theorem dX13_name_81 : decode cX13_name 81 = .ok (.ishr, 1) := by decide +kernel
theorem dX13_name_82 : decode cX13_name 82 = .ok (.iconst 2, 1) := by decide +kernel
theorem dX13_name_83 : decode cX13_name 83 = .ok (.if_icmp .ne 7, 3) := by decide +kernel
theorem dX13_name_86 : decode cX13_name 86 = .ok (.iconst 1, 1) := by decide +kernel
theorem dX13_name_87 : decode cX13_name 87 = .ok (.goto 4, 3) := by decide +kernel
theorem dX13_name_90 : decode cX13_name 90 = .ok (.iconst 0, 1) := by decide +kernel
theorem dX13_name_91 : decode cX13_name 91 = .ok (.istore_n 3, 1) := by decide +kernel
theorem dX13_name_92 : decode cX13_name 92 = .ok (.aload_n 0, 1) := by decide +kernel
theorem dX13_name_93 : decode cX13_name 93 = .ok (.aload_n 0, 1) := by decide +kernel
theorem dX13_name_94 : decode cX13_name 94 = .ok (.getfield 483, 3) := by decide +kernel
theorem dX13_name_97 : decode cX13_name 97 = .ok (.ifCond .ne 7, 3) := by decide +kernel
theorem dX13_name_100 : decode cX13_name 100 = .ok (.iload_n 3, 1) := by decide +kernel
theorem dX13_name_101 : decode cX13_name 101 = .ok (.ifCond .ne 7, 3) := by decide +kernel
theorem dX13_name_104 : decode cX13_name 104 = .ok (.iconst 1, 1) := by decide +kernel
theorem dX13_name_105 : decode cX13_name 105 = .ok (.goto 4, 3) := by decide +kernel
theorem dX13_name_108 : decode cX13_name 108 = .ok (.iconst 0, 1) := by decide +kernel
theorem dX13_name_109 : decode cX13_name 109 = .ok (.putfield 483, 3) := by decide +kernel
theorem dX13_name_112 : decode cX13_name 112 = .ok (.aload_n 0, 1) := by decide +kernel
theorem dX13_name_113 : decode cX13_name 113 = .ok (.aload_n 0, 1) := by decide +kernel
theorem dX13_name_114 : decode cX13_name 114 = .ok (.getfield 457, 3) := by decide +kernel
theorem dX13_name_117 : decode cX13_name 117 = .ok (.ifCond .ne 11, 3) := by decide +kernel
theorem dX13_name_120 : decode cX13_name 120 = .ok (.iload_n 1, 1) := by decide +kernel
theorem dX13_name_121 : decode cX13_name 121 = .ok (.ifCond .ne 11, 3) := by decide +kernel
theorem dX13_name_124 : decode cX13_name 124 = .ok (.iload_n 2, 1) := by decide +kernel
theorem dX13_name_125 : decode cX13_name 125 = .ok (.ifCond .ge 7, 3) := by decide +kernel
theorem dX13_name_128 : decode cX13_name 128 = .ok (.iconst 1, 1) := by decide +kernel
theorem dX13_name_129 : decode cX13_name 129 = .ok (.goto 4, 3) := by decide +kernel
theorem dX13_name_132 : decode cX13_name 132 = .ok (.iconst 0, 1) := by decide +kernel
theorem dX13_name_133 : decode cX13_name 133 = .ok (.putfield 457, 3) := by decide +kernel
theorem dX13_name_136 : decode cX13_name 136 = .ok (.aload_n 0, 1) := by decide +kernel
theorem dX13_name_137 : decode cX13_name 137 = .ok (.iload_n 1, 1) := by decide +kernel
theorem dX13_name_138 : decode cX13_name 138 = .ok (.ifCond .eq 10, 3) := by decide +kernel
theorem dX13_name_141 : decode cX13_name 141 = .ok (.aload_n 0, 1) := by decide +kernel
theorem dX13_name_142 : decode cX13_name 142 = .ok (.getfield 486, 3) := by decide +kernel
theorem dX13_name_145 : decode cX13_name 145 = .ok (.goto 16, 3) := by decide +kernel
theorem dX13_name_148 : decode cX13_name 148 = .ok (.iload_n 2, 1) := by decide +kernel
theorem dX13_name_149 : decode cX13_name 149 = .ok (.ifCond .ge 7, 3) := by decide +kernel
theorem dX13_name_152 : decode cX13_name 152 = .ok (.iconst 0, 1) := by decide +kernel
theorem dX13_name_153 : decode cX13_name 153 = .ok (.goto 8, 3) := by decide +kernel
theorem dX13_name_156 : decode cX13_name 156 = .ok (.aload_n 0, 1) := by decide +kernel
theorem dX13_name_157 : decode cX13_name 157 = .ok (.iload_n 2, 1) := by decide +kernel
theorem dX13_name_158 : decode cX13_name 158 = .ok (.invokevirtual 461, 3) := by decide +kernel
theorem dX13_name_161 : decode cX13_name 161 = .ok (.invokevirtual 489, 3) := by decide +kernel
theorem dX13_name_164 : decode cX13_name 164 = .ok (.return_, 1) := by decide +kernel
theorem dX13_operand_0 : decode cX13_operand 0 = .ok (.aload_n 0, 1) := by decide +kernel
theorem dX13_operand_1 : decode cX13_operand 1 = .ok (.getfield 365, 3) := by decide +kernel
theorem dX13_operand_4 : decode cX13_operand 4 = .ok (.lookupswitch 231 #[(1, 68), (2, 75), (3, 86), (37, 148), (40, 127), (45, 134), (126, 141)], 68) := by decide +kernel
theorem dX13_operand_72 : decode cX13_operand 72 = .ok (.aload_n 0, 1) := by decide +kernel
theorem dX13_operand_73 : decode cX13_operand 73 = .ok (.invokevirtual 492, 3) := by decide +kernel
theorem dX13_operand_76 : decode cX13_operand 76 = .ok (.goto 166, 3) := by decide +kernel
theorem dX13_operand_79 : decode cX13_operand 79 = .ok (.aload_n 0, 1) := by decide +kernel
theorem dX13_operand_80 : decode cX13_operand 80 = .ok (.aload_n 0, 1) := by decide +kernel
theorem dX13_operand_81 : decode cX13_operand 81 = .ok (.getfield 399, 3) := by decide +kernel
theorem dX13_operand_84 : decode cX13_operand 84 = .ok (.invokevirtual 489, 3) := by decide +kernel
theorem dX13_operand_87 : decode cX13_operand 87 = .ok (.goto 155, 3) := by decide +kernel
theorem dX13_operand_90 : decode cX13_operand 90 = .ok (.aload_n 0, 1) := by decide +kernel
theorem dX13_operand_91 : decode cX13_operand 91 = .ok (.iconst 1, 1) := by decide +kernel
theorem dX13_operand_92 : decode cX13_operand 92 = .ok (.putfield 483, 3) := by decide +kernel
theorem dX13_operand_95 : decode cX13_operand 95 = .ok (.aload_n 0, 1) := by decide +kernel
theorem dX13_operand_96 : decode cX13_operand 96 = .ok (.aload_n 0, 1) := by decide +kernel
theorem dX13_operand_97 : decode cX13_operand 97 = .ok (.aload_n 0, 1) := by decide +kernel
theorem dX13_operand_98 : decode cX13_operand 98 = .ok (.getfield 399, 3) := by decide +kernel
theorem dX13_operand_101 : decode cX13_operand 101 = .ok (.aload_n 0, 1) := by decide +kernel
theorem dX13_operand_102 : decode cX13_operand 102 = .ok (.getfield 324, 3) := by decide +kernel
theorem dX13_operand_105 : decode cX13_operand 105 = .ok (.aload_n 0, 1) := by decide +kernel
theorem dX13_operand_106 : decode cX13_operand 106 = .ok (.getfield 371, 3) := by decide +kernel
theorem dX13_operand_109 : decode cX13_operand 109 = .ok (.iconst 1, 1) := by decide +kernel
theorem dX13_operand_110 : decode cX13_operand 110 = .ok (.isub, 1) := by decide +kernel
theorem dX13_operand_111 : decode cX13_operand 111 = .ok (.caload, 1) := by decide +kernel
theorem dX13_operand_112 : decode cX13_operand 112 = .ok (.bipush 102, 2) := by decide +kernel
theorem dX13_operand_114 : decode cX13_operand 114 = .ok (.if_icmp .ne 7, 3) := by decide +kernel
theorem dX13_operand_117 : decode cX13_operand 117 = .ok (.iconst 1, 1) := by decide +kernel
theorem dX13_operand_118 : decode cX13_operand 118 = .ok (.goto 4, 3) := by decide +kernel
theorem dX13_operand_121 : decode cX13_operand 121 = .ok (.iconst 0, 1) := by decide +kernel
theorem dX13_operand_122 : decode cX13_operand 122 = .ok (.invokevirtual 495, 3) := by decide +kernel
theorem dX13_operand_125 : decode cX13_operand 125 = .ok (.invokevirtual 489, 3) := by decide +kernel
theorem dX13_operand_128 : decode cX13_operand 128 = .ok (.goto 114, 3) := by decide +kernel
theorem dX13_operand_131 : decode cX13_operand 131 = .ok (.aload_n 0, 1) := by decide +kernel
theorem dX13_operand_132 : decode cX13_operand 132 = .ok (.iconst 1, 1) := by decide +kernel
theorem dX13_operand_133 : decode cX13_operand 133 = .ok (.invokevirtual 499, 3) := by decide +kernel
theorem dX13_operand_136 : decode cX13_operand 136 = .ok (.iconst 0, 1) := by decide +kernel
theorem dX13_operand_137 : decode cX13_operand 137 = .ok (.ireturn, 1) := by decide +kernel
theorem dX13_operand_138 : decode cX13_operand 138 = .ok (.aload_n 0, 1) := by decide +kernel
theorem dX13_operand_139 : decode cX13_operand 139 = .ok (.iconst 2, 1) := by decide +kernel
theorem dX13_operand_140 : decode cX13_operand 140 = .ok (.invokevirtual 499, 3) := by decide +kernel
theorem dX13_operand_143 : decode cX13_operand 143 = .ok (.iconst 0, 1) := by decide +kernel
theorem dX13_operand_144 : decode cX13_operand 144 = .ok (.ireturn, 1) := by decide +kernel
theorem dX13_operand_145 : decode cX13_operand 145 = .ok (.aload_n 0, 1) := by decide +kernel
theorem dX13_operand_146 : decode cX13_operand 146 = .ok (.iconst 3, 1) := by decide +kernel
theorem dX13_operand_147 : decode cX13_operand 147 = .ok (.invokevirtual 499, 3) := by decide +kernel
theorem dX13_operand_150 : decode cX13_operand 150 = .ok (.iconst 0, 1) := by decide +kernel
theorem dX13_operand_151 : decode cX13_operand 151 = .ok (.ireturn, 1) := by decide +kernel
theorem dX13_operand_152 : decode cX13_operand 152 = .ok (.aload_n 0, 1) := by decide +kernel
theorem dX13_operand_153 : decode cX13_operand 153 = .ok (.invokevirtual 416, 3) := by decide +kernel
theorem dX13_operand_156 : decode cX13_operand 156 = .ok (.aload_n 0, 1) := by decide +kernel
theorem dX13_operand_157 : decode cX13_operand 157 = .ok (.getfield 365, 3) := by decide +kernel
theorem dX13_operand_160 : decode cX13_operand 160 = .ok (.iconst 1, 1) := by decide +kernel
theorem dX13_operand_161 : decode cX13_operand 161 = .ok (.if_icmp .ne 18, 3) := by decide +kernel
theorem dX13_operand_164 : decode cX13_operand 164 = .ok (.aload_n 0, 1) := by decide +kernel
theorem dX13_operand_165 : decode cX13_operand 165 = .ok (.aload_n 0, 1) := by decide +kernel
theorem dX13_operand_166 : decode cX13_operand 166 = .ok (.getfield 368, 3) := by decide +kernel
theorem dX13_operand_169 : decode cX13_operand 169 = .ok (.aload_n 0, 1) := by decide +kernel
theorem dX13_operand_170 : decode cX13_operand 170 = .ok (.getfield 371, 3) := by decide +kernel
theorem dX13_operand_173 : decode cX13_operand 173 = .ok (.invokevirtual 423, 3) := by decide +kernel
theorem dX13_operand_176 : decode cX13_operand 176 = .ok (.goto 4, 3) := by decide +kernel
theorem dX13_operand_179 : decode cX13_operand 179 = .ok (.lconst 0, 1) := by decide +kernel
theorem dX13_operand_180 : decode cX13_operand 180 = .ok (.lstore_n 1, 1) := by decide +kernel
theorem dX13_operand_181 : decode cX13_operand 181 = .ok (.lload_n 1, 1) := by decide +kernel
theorem dX13_operand_182 : decode cX13_operand 182 = .ok (.ldc2_w 502, 3) := by decide +kernel
theorem dX13_operand_185 : decode cX13_operand 185 = .ok (.lcmp, 1) := by decide +kernel
theorem dX13_operand_186 : decode cX13_operand 186 = .ok (.ifCond .eq 16, 3) := by decide +kernel
theorem dX13_operand_189 : decode cX13_operand 189 = .ok (.lload_n 1, 1) := by decide +kernel
theorem dX13_operand_190 : decode cX13_operand 190 = .ok (.ldc2_w 504, 3) := by decide +kernel
theorem dX13_operand_193 : decode cX13_operand 193 = .ok (.lcmp, 1) := by decide +kernel
theorem dX13_operand_194 : decode cX13_operand 194 = .ok (.ifCond .eq 8, 3) := by decide +kernel
theorem dX13_operand_197 : decode cX13_operand 197 = .ok (.aload_n 0, 1) := by decide +kernel
theorem dX13_operand_198 : decode cX13_operand 198 = .ok (.iconst 1, 1) := by decide +kernel
theorem dX13_operand_199 : decode cX13_operand 199 = .ok (.invokevirtual 419, 3) := by decide +kernel
theorem dX13_operand_202 : decode cX13_operand 202 = .ok (.aload_n 0, 1) := by decide +kernel
theorem dX13_operand_203 : decode cX13_operand 203 = .ok (.lload_n 1, 1) := by decide +kernel
theorem dX13_operand_204 : decode cX13_operand 204 = .ok (.ldc2_w 502, 3) := by decide +kernel
theorem dX13_operand_207 : decode cX13_operand 207 = .ok (.lcmp, 1) := by decide +kernel
theorem dX13_operand_208 : decode cX13_operand 208 = .ok (.ifCond .ne 7, 3) := by decide +kernel
theorem dX13_operand_211 : decode cX13_operand 211 = .ok (.iconst 4, 1) := by decide +kernel
theorem dX13_operand_212 : decode cX13_operand 212 = .ok (.goto 4, 3) := by decide +kernel
theorem dX13_operand_215 : decode cX13_operand 215 = .ok (.iconst 5, 1) := by decide +kernel
theorem dX13_operand_216 : decode cX13_operand 216 = .ok (.invokevirtual 499, 3) := by decide +kernel
theorem dX13_operand_219 : decode cX13_operand 219 = .ok (.aload_n 0, 1) := by decide +kernel
theorem dX13_operand_220 : decode cX13_operand 220 = .ok (.bipush 40, 2) := by decide +kernel
theorem dX13_operand_222 : decode cX13_operand 222 = .ok (.invokevirtual 506, 3) := by decide +kernel
theorem dX13_operand_225 : decode cX13_operand 225 = .ok (.ifCond .eq 8, 3) := by decide +kernel
theorem dX13_operand_228 : decode cX13_operand 228 = .ok (.aload_n 0, 1) := by decide +kernel
theorem dX13_operand_229 : decode cX13_operand 229 = .ok (.iconst 1, 1) := by decide +kernel
theorem dX13_operand_230 : decode cX13_operand 230 = .ok (.invokevirtual 499, 3) := by decide +kernel
theorem dX13_operand_233 : decode cX13_operand 233 = .ok (.iconst 0, 1) := by decide +kernel
theorem dX13_operand_234 : decode cX13_operand 234 = .ok (.ireturn, 1) := by decide +kernel
theorem dX13_operand_235 : decode cX13_operand 235 = .ok (.aload_n 0, 1) := by decide +kernel
theorem dX13_operand_236 : decode cX13_operand 236 = .ok (.iconst 1, 1) := by decide +kernel
theorem dX13_operand_237 : decode cX13_operand 237 = .ok (.invokevirtual 419, 3) := by decide +kernel
theorem dX13_operand_240 : decode cX13_operand 240 = .ok (.iconst 0, 1) := by decide +kernel
theorem dX13_operand_241 : decode cX13_operand 241 = .ok (.ireturn, 1) := by decide +kernel
theorem dX13_operand_242 : decode cX13_operand 242 = .ok (.aload_n 0, 1) := by decide +kernel
theorem dX13_operand_243 : decode cX13_operand 243 = .ok (.invokevirtual 509, 3) := by decide +kernel
theorem dX13_operand_246 : decode cX13_operand 246 = .ok (.iconst 1, 1) := by decide +kernel
theorem dX13_operand_247 : decode cX13_operand 247 = .ok (.ireturn, 1) := by decide +kernel
theorem dX13_expression_0 : decode cX13_expression 0 = .ok (.aload_n 0, 1) := by decide +kernel
theorem dX13_expression_1 : decode cX13_expression 1 = .ok (.iconst 0, 1) := by decide +kernel
theorem dX13_expression_2 : decode cX13_expression 2 = .ok (.putfield 464, 3) := by decide +kernel
theorem dX13_expression_5 : decode cX13_expression 5 = .ok (.aload_n 0, 1) := by decide +kernel
theorem dX13_expression_6 : decode cX13_expression 6 = .ok (.ldc_w 343, 3) := by decide +kernel
theorem dX13_expression_9 : decode cX13_expression 9 = .ok (.putfield 467, 3) := by decide +kernel
theorem dX13_expression_12 : decode cX13_expression 12 = .ok (.aload_n 0, 1) := by decide +kernel
theorem dX13_expression_13 : decode cX13_expression 13 = .ok (.iconst 0, 1) := by decide +kernel
theorem dX13_expression_14 : decode cX13_expression 14 = .ok (.putfield 457, 3) := by decide +kernel
theorem dX13_expression_17 : decode cX13_expression 17 = .ok (.aload_n 0, 1) := by decide +kernel
theorem dX13_expression_18 : decode cX13_expression 18 = .ok (.iconst 0, 1) := by decide +kernel
theorem dX13_expression_19 : decode cX13_expression 19 = .ok (.putfield 470, 3) := by decide +kernel
theorem dX13_expression_22 : decode cX13_expression 22 = .ok (.aload_n 0, 1) := by decide +kernel
theorem dX13_expression_23 : decode cX13_expression 23 = .ok (.iconst 0, 1) := by decide +kernel
theorem dX13_expression_24 : decode cX13_expression 24 = .ok (.putfield 483, 3) := by decide +kernel
theorem dX13_expression_27 : decode cX13_expression 27 = .ok (.iconst 0, 1) := by decide +kernel
theorem dX13_expression_28 : decode cX13_expression 28 = .ok (.istore_n 1, 1) := by decide +kernel
theorem dX13_expression_29 : decode cX13_expression 29 = .ok (.iconst 1, 1) := by decide +kernel
theorem dX13_expression_30 : decode cX13_expression 30 = .ok (.istore_n 2, 1) := by decide +kernel
theorem dX13_expression_31 : decode cX13_expression 31 = .ok (.iconst 1, 1) := by decide +kernel
theorem dX13_expression_32 : decode cX13_expression 32 = .ok (.istore_n 3, 1) := by decide +kernel
theorem dX13_expression_33 : decode cX13_expression 33 = .ok (.iload_n 3, 1) := by decide +kernel
theorem dX13_expression_34 : decode cX13_expression 34 = .ok (.ifCond .eq 221, 3) := by decide +kernel
theorem dX13_expression_37 : decode cX13_expression 37 = .ok (.aload_n 0, 1) := by decide +kernel
theorem dX13_expression_38 : decode cX13_expression 38 = .ok (.getfield 410, 3) := by decide +kernel
theorem dX13_expression_41 : decode cX13_expression 41 = .ok (.ifCond .ne 214, 3) := by decide +kernel
theorem dX13_expression_44 : decode cX13_expression 44 = .ok (.aload_n 0, 1) := by decide +kernel
theorem dX13_expression_45 : decode cX13_expression 45 = .ok (.getfield 374, 3) := by decide +kernel
theorem dX13_expression_48 : decode cX13_expression 48 = .ok (.istore 4, 2) := by decide +kernel
theorem dX13_expression_50 : decode cX13_expression 50 = .ok (.aload_n 0, 1) := by decide +kernel
theorem dX13_expression_51 : decode cX13_expression 51 = .ok (.invokevirtual 416, 3) := by decide +kernel
theorem dX13_expression_54 : decode cX13_expression 54 = .ok (.iload_n 2, 1) := by decide +kernel
theorem dX13_expression_55 : decode cX13_expression 55 = .ok (.ifCond .eq 57, 3) := by decide +kernel
theorem dX13_expression_58 : decode cX13_expression 58 = .ok (.aload_n 0, 1) := by decide +kernel
theorem dX13_expression_59 : decode cX13_expression 59 = .ok (.getfield 365, 3) := by decide +kernel
theorem dX13_expression_62 : decode cX13_expression 62 = .ok (.bipush 40, 2) := by decide +kernel
theorem dX13_expression_64 : decode cX13_expression 64 = .ok (.if_icmp .eq 12, 3) := by decide +kernel
theorem dX13_expression_67 : decode cX13_expression 67 = .ok (.aload_n 0, 1) := by decide +kernel
theorem dX13_expression_68 : decode cX13_expression 68 = .ok (.getfield 365, 3) := by decide +kernel
theorem dX13_expression_71 : decode cX13_expression 71 = .ok (.bipush 37, 2) := by decide +kernel
theorem dX13_expression_73 : decode cX13_expression 73 = .ok (.if_icmp .ne 7, 3) := by decide +kernel
theorem dX13_expression_76 : decode cX13_expression 76 = .ok (.iconst 1, 1) := by decide +kernel
theorem dX13_expression_77 : decode cX13_expression 77 = .ok (.goto 4, 3) := by decide +kernel
theorem dX13_expression_80 : decode cX13_expression 80 = .ok (.iconst 0, 1) := by decide +kernel
theorem dX13_expression_81 : decode cX13_expression 81 = .ok (.istore 5, 2) := by decide +kernel
theorem dX13_expression_83 : decode cX13_expression 83 = .ok (.aload_n 0, 1) := by decide +kernel
theorem dX13_expression_84 : decode cX13_expression 84 = .ok (.invokevirtual 512, 3) := by decide +kernel
theorem dX13_expression_87 : decode cX13_expression 87 = .ok (.ifCond .ne 7, 3) := by decide +kernel
theorem dX13_expression_90 : decode cX13_expression 90 = .ok (.iconst 1, 1) := by decide +kernel
theorem dX13_expression_91 : decode cX13_expression 91 = .ok (.goto 4, 3) := by decide +kernel
theorem dX13_expression_94 : decode cX13_expression 94 = .ok (.iconst 0, 1) := by decide +kernel
theorem dX13_expression_95 : decode cX13_expression 95 = .ok (.istore_n 2, 1) := by decide +kernel
theorem dX13_expression_96 : decode cX13_expression 96 = .ok (.iload 5, 2) := by decide +kernel
theorem dX13_expression_98 : decode cX13_expression 98 = .ok (.ifCond .eq 9, 3) := by decide +kernel
theorem dX13_expression_101 : decode cX13_expression 101 = .ok (.iload_n 1, 1) := by decide +kernel
theorem dX13_expression_102 : decode cX13_expression 102 = .ok (.iconst 1, 1) := by decide +kernel
theorem dX13_expression_103 : decode cX13_expression 103 = .ok (.iadd, 1) := by decide +kernel
theorem dX13_expression_104 : decode cX13_expression 104 = .ok (.goto 4, 3) := by decide +kernel
theorem dX13_expression_107 : decode cX13_expression 107 = .ok (.iload_n 1, 1) := by decide +kernel
theorem dX13_expression_108 : decode cX13_expression 108 = .ok (.istore_n 1, 1) := by decide +kernel
theorem dX13_expression_109 : decode cX13_expression 109 = .ok (.goto 143, 3) := by decide +kernel
theorem dX13_expression_112 : decode cX13_expression 112 = .ok (.aload_n 0, 1) := by decide +kernel
theorem dX13_expression_113 : decode cX13_expression 113 = .ok (.getfield 365, 3) := by decide +kernel
theorem dX13_expression_116 : decode cX13_expression 116 = .ok (.invokestatic 516, 3) := by decide +kernel
theorem dX13_expression_119 : decode cX13_expression 119 = .ok (.ifCond .le 61, 3) := by decide +kernel
theorem dX13_expression_122 : decode cX13_expression 122 = .ok (.aload_n 0, 1) := by decide +kernel
theorem dX13_expression_123 : decode cX13_expression 123 = .ok (.getfield 365, 3) := by decide +kernel
theorem dX13_expression_126 : decode cX13_expression 126 = .ok (.ifCond .eq 54, 3) := by decide +kernel
theorem dX13_expression_129 : decode cX13_expression 129 = .ok (.aload_n 0, 1) := by decide +kernel
theorem dX13_expression_130 : decode cX13_expression 130 = .ok (.getfield 464, 3) := by decide +kernel
theorem dX13_expression_133 : decode cX13_expression 133 = .ok (.ifCond .le 34, 3) := by decide +kernel
theorem dX13_expression_136 : decode cX13_expression 136 = .ok (.aload_n 0, 1) := by decide +kernel
theorem dX13_expression_137 : decode cX13_expression 137 = .ok (.getfield 344, 3) := by decide +kernel
theorem dX13_expression_140 : decode cX13_expression 140 = .ok (.aload_n 0, 1) := by decide +kernel
theorem dX13_expression_141 : decode cX13_expression 141 = .ok (.getfield 464, 3) := by decide +kernel
theorem dX13_expression_144 : decode cX13_expression 144 = .ok (.iconst 1, 1) := by decide +kernel
theorem dX13_expression_145 : decode cX13_expression 145 = .ok (.isub, 1) := by decide +kernel
theorem dX13_expression_146 : decode cX13_expression 146 = .ok (.iaload, 1) := by decide +kernel
theorem dX13_expression_147 : decode cX13_expression 147 = .ok (.invokestatic 516, 3) := by decide +kernel
theorem dX13_expression_150 : decode cX13_expression 150 = .ok (.aload_n 0, 1) := by decide +kernel
theorem dX13_expression_151 : decode cX13_expression 151 = .ok (.getfield 365, 3) := by decide +kernel
theorem dX13_expression_154 : decode cX13_expression 154 = .ok (.invokestatic 516, 3) := by decide +kernel
theorem dX13_expression_157 : decode cX13_expression 157 = .ok (.if_icmp .lt 10, 3) := by decide +kernel
theorem dX13_expression_160 : decode cX13_expression 160 = .ok (.aload_n 0, 1) := by decide +kernel
theorem dX13_expression_161 : decode cX13_expression 161 = .ok (.invokevirtual 519, 3) := by decide +kernel
theorem dX13_expression_164 : decode cX13_expression 164 = .ok (.goto (-35), 3) := by decide +kernel
theorem dX13_expression_167 : decode cX13_expression 167 = .ok (.aload_n 0, 1) := by decide +kernel
theorem dX13_expression_168 : decode cX13_expression 168 = .ok (.aload_n 0, 1) := by decide +kernel
theorem dX13_expression_169 : decode cX13_expression 169 = .ok (.getfield 365, 3) := by decide +kernel
theorem dX13_expression_172 : decode cX13_expression 172 = .ok (.invokevirtual 499, 3) := by decide +kernel
theorem dX13_expression_175 : decode cX13_expression 175 = .ok (.iconst 1, 1) := by decide +kernel
theorem dX13_expression_176 : decode cX13_expression 176 = .ok (.istore_n 2, 1) := by decide +kernel
theorem dX13_expression_177 : decode cX13_expression 177 = .ok (.goto 75, 3) := by decide +kernel
theorem dX13_expression_180 : decode cX13_expression 180 = .ok (.aload_n 0, 1) := by decide +kernel
theorem dX13_expression_181 : decode cX13_expression 181 = .ok (.getfield 365, 3) := by decide +kernel
theorem dX13_expression_184 : decode cX13_expression 184 = .ok (.bipush 41, 2) := by decide +kernel
theorem dX13_expression_186 : decode cX13_expression 186 = .ok (.if_icmp .ne 49, 3) := by decide +kernel
theorem dX13_expression_189 : decode cX13_expression 189 = .ok (.iload_n 1, 1) := by decide +kernel
theorem dX13_expression_190 : decode cX13_expression 190 = .ok (.ifCond .le 45, 3) := by decide +kernel
theorem dX13_expression_193 : decode cX13_expression 193 = .ok (.aload_n 0, 1) := by decide +kernel
theorem dX13_expression_194 : decode cX13_expression 194 = .ok (.getfield 344, 3) := by decide +kernel
theorem dX13_expression_197 : decode cX13_expression 197 = .ok (.aload_n 0, 1) := by decide +kernel
theorem dX13_expression_198 : decode cX13_expression 198 = .ok (.getfield 464, 3) := by decide +kernel
theorem dX13_expression_201 : decode cX13_expression 201 = .ok (.iconst 1, 1) := by decide +kernel
theorem dX13_expression_202 : decode cX13_expression 202 = .ok (.isub, 1) := by decide +kernel
theorem dX13_expression_203 : decode cX13_expression 203 = .ok (.iaload, 1) := by decide +kernel
theorem dX13_expression_204 : decode cX13_expression 204 = .ok (.iconst 1, 1) := by decide +kernel
theorem dX13_expression_205 : decode cX13_expression 205 = .ok (.if_icmp .eq 10, 3) := by decide +kernel
theorem dX13_expression_208 : decode cX13_expression 208 = .ok (.aload_n 0, 1) := by decide +kernel
theorem dX13_expression_209 : decode cX13_expression 209 = .ok (.invokevirtual 519, 3) := by decide +kernel
theorem dX13_expression_212 : decode cX13_expression 212 = .ok (.goto (-19), 3) := by decide +kernel
theorem dX13_expression_215 : decode cX13_expression 215 = .ok (.aload_n 0, 1) := by decide +kernel
theorem dX13_expression_216 : decode cX13_expression 216 = .ok (.dup, 1) := by decide +kernel
theorem dX13_expression_217 : decode cX13_expression 217 = .ok (.getfield 464, 3) := by decide +kernel
theorem dX13_expression_220 : decode cX13_expression 220 = .ok (.iconst 1, 1) := by decide +kernel
theorem dX13_expression_221 : decode cX13_expression 221 = .ok (.isub, 1) := by decide +kernel
theorem dX13_expression_222 : decode cX13_expression 222 = .ok (.putfield 464, 3) := by decide +kernel
theorem dX13_expression_225 : decode cX13_expression 225 = .ok (.iinc 1 (-1), 3) := by decide +kernel
theorem dX13_expression_228 : decode cX13_expression 228 = .ok (.aload_n 0, 1) := by decide +kernel
theorem dX13_expression_229 : decode cX13_expression 229 = .ok (.invokevirtual 509, 3) := by decide +kernel
theorem dX13_expression_232 : decode cX13_expression 232 = .ok (.goto 20, 3) := by decide +kernel
theorem dX13_expression_235 : decode cX13_expression 235 = .ok (.iconst 0, 1) := by decide +kernel
theorem dX13_expression_236 : decode cX13_expression 236 = .ok (.istore_n 3, 1) := by decide +kernel
theorem dX13_expression_237 : decode cX13_expression 237 = .ok (.iload_n 1, 1) := by decide +kernel
theorem dX13_expression_238 : decode cX13_expression 238 = .ok (.ifCond .le 8, 3) := by decide +kernel
theorem dX13_expression_241 : decode cX13_expression 241 = .ok (.aload_n 0, 1) := by decide +kernel
theorem dX13_expression_242 : decode cX13_expression 242 = .ok (.iconst 1, 1) := by decide +kernel
theorem dX13_expression_243 : decode cX13_expression 243 = .ok (.invokevirtual 419, 3) := by decide +kernel
theorem dX13_expression_246 : decode cX13_expression 246 = .ok (.aload_n 0, 1) := by decide +kernel
theorem dX13_expression_247 : decode cX13_expression 247 = .ok (.iload 4, 2) := by decide +kernel
theorem dX13_expression_249 : decode cX13_expression 249 = .ok (.putfield 374, 3) := by decide +kernel
theorem dX13_expression_252 : decode cX13_expression 252 = .ok (.goto (-219), 3) := by decide +kernel
theorem dX13_expression_255 : decode cX13_expression 255 = .ok (.aload_n 0, 1) := by decide +kernel
theorem dX13_expression_256 : decode cX13_expression 256 = .ok (.getfield 464, 3) := by decide +kernel
theorem dX13_expression_259 : decode cX13_expression 259 = .ok (.ifCond .le 17, 3) := by decide +kernel
theorem dX13_expression_262 : decode cX13_expression 262 = .ok (.aload_n 0, 1) := by decide +kernel
theorem dX13_expression_263 : decode cX13_expression 263 = .ok (.getfield 410, 3) := by decide +kernel
theorem dX13_expression_266 : decode cX13_expression 266 = .ok (.ifCond .ne 10, 3) := by decide +kernel
theorem dX13_expression_269 : decode cX13_expression 269 = .ok (.aload_n 0, 1) := by decide +kernel
theorem dX13_expression_270 : decode cX13_expression 270 = .ok (.invokevirtual 519, 3) := by decide +kernel
theorem dX13_expression_273 : decode cX13_expression 273 = .ok (.goto (-18), 3) := by decide +kernel
theorem dX13_expression_276 : decode cX13_expression 276 = .ok (.aload_n 0, 1) := by decide +kernel
theorem dX13_expression_277 : decode cX13_expression 277 = .ok (.getfield 410, 3) := by decide +kernel
theorem dX13_expression_280 : decode cX13_expression 280 = .ok (.ifCond .ne 15, 3) := by decide +kernel
theorem dX13_expression_283 : decode cX13_expression 283 = .ok (.aload_n 0, 1) := by decide +kernel
theorem dX13_expression_284 : decode cX13_expression 284 = .ok (.getfield 344, 3) := by decide +kernel
theorem dX13_expression_287 : decode cX13_expression 287 = .ok (.aload_n 0, 1) := by decide +kernel
theorem dX13_expression_288 : decode cX13_expression 288 = .ok (.getfield 467, 3) := by decide +kernel
theorem dX13_expression_291 : decode cX13_expression 291 = .ok (.iaload, 1) := by decide +kernel
theorem dX13_expression_292 : decode cX13_expression 292 = .ok (.goto 4, 3) := by decide +kernel
theorem dX13_expression_295 : decode cX13_expression 295 = .ok (.iconst 0, 1) := by decide +kernel
theorem dX13_expression_296 : decode cX13_expression 296 = .ok (.istore 4, 2) := by decide +kernel
theorem dX13_expression_298 : decode cX13_expression 298 = .ok (.aload_n 0, 1) := by decide +kernel
theorem dX13_expression_299 : decode cX13_expression 299 = .ok (.getfield 522, 3) := by decide +kernel
theorem dX13_expression_302 : decode cX13_expression 302 = .ok (.iconst 2, 1) := by decide +kernel
theorem dX13_expression_303 : decode cX13_expression 303 = .ok (.if_icmp .ne 35, 3) := by decide +kernel
theorem dX13_expression_306 : decode cX13_expression 306 = .ok (.aload_n 0, 1) := by decide +kernel
theorem dX13_expression_307 : decode cX13_expression 307 = .ok (.getfield 457, 3) := by decide +kernel
theorem dX13_expression_310 : decode cX13_expression 310 = .ok (.ifCond .ne 10, 3) := by decide +kernel
theorem dX13_expression_313 : decode cX13_expression 313 = .ok (.aload_n 0, 1) := by decide +kernel
theorem dX13_expression_314 : decode cX13_expression 314 = .ok (.getfield 470, 3) := by decide +kernel
theorem dX13_expression_317 : decode cX13_expression 317 = .ok (.ifCond .eq 21, 3) := by decide +kernel
theorem dX13_expression_320 : decode cX13_expression 320 = .ok (.aload_n 0, 1) := by decide +kernel
theorem dX13_expression_321 : decode cX13_expression 321 = .ok (.aload_n 0, 1) := by decide +kernel
theorem dX13_expression_322 : decode cX13_expression 322 = .ok (.getfield 457, 3) := by decide +kernel
theorem dX13_expression_325 : decode cX13_expression 325 = .ok (.ifCond .eq 8, 3) := by decide +kernel
theorem dX13_expression_328 : decode cX13_expression 328 = .ok (.bipush 8, 2) := by decide +kernel
theorem dX13_expression_330 : decode cX13_expression 330 = .ok (.goto 5, 3) := by decide +kernel
theorem dX13_expression_333 : decode cX13_expression 333 = .ok (.bipush 9, 2) := by decide +kernel
theorem dX13_expression_335 : decode cX13_expression 335 = .ok (.invokevirtual 419, 3) := by decide +kernel
theorem dX13_expression_338 : decode cX13_expression 338 = .ok (.iload 4, 2) := by decide +kernel
theorem dX13_expression_340 : decode cX13_expression 340 = .ok (.ireturn, 1) := by decide +kernel
theorem dX13_within_0 : decode cX13_within 0 = .ok (.aload_n 0, 1) := by decide +kernel
theorem dX13_within_1 : decode cX13_within 1 = .ok (.invokevirtual 525, 3) := by decide +kernel
theorem dX13_within_4 : decode cX13_within 4 = .ok (.istore 4, 2) := by decide +kernel
theorem dX13_within_6 : decode cX13_within 6 = .ok (.aload_n 0, 1) := by decide +kernel
theorem dX13_within_7 : decode cX13_within 7 = .ok (.iload 4, 2) := by decide +kernel
theorem dX13_within_9 : decode cX13_within 9 = .ok (.iload_n 1, 1) := by decide +kernel
theorem dX13_within_10 : decode cX13_within 10 = .ok (.iload_n 2, 1) := by decide +kernel
theorem dX13_within_11 : decode cX13_within 11 = .ok (.iload_n 3, 1) := by decide +kernel
theorem dX13_within_12 : decode cX13_within 12 = .ok (.invokevirtual 528, 3) := by decide +kernel
theorem dX13_within_15 : decode cX13_within 15 = .ok (.iload 4, 2) := by decide +kernel
theorem dX13_within_17 : decode cX13_within 17 = .ok (.ireturn, 1) := by decide +kernel
theorem dX13_fits_0 : decode cX13_fits 0 = .ok (.aload_n 0, 1) := by decide +kernel
theorem dX13_fits_1 : decode cX13_fits 1 = .ok (.getfield 522, 3) := by decide +kernel
theorem dX13_fits_4 : decode cX13_fits 4 = .ok (.iconst 2, 1) := by decide +kernel
theorem dX13_fits_5 : decode cX13_fits 5 = .ok (.if_icmp .ne 26, 3) := by decide +kernel
theorem dX13_fits_8 : decode cX13_fits 8 = .ok (.iload_n 1, 1) := by decide +kernel
theorem dX13_fits_9 : decode cX13_fits 9 = .ok (.iload_n 2, 1) := by decide +kernel
theorem dX13_fits_10 : decode cX13_fits 10 = .ok (.if_icmp .lt 15, 3) := by decide +kernel
theorem dX13_fits_13 : decode cX13_fits 13 = .ok (.iload_n 1, 1) := by decide +kernel
theorem dX13_fits_14 : decode cX13_fits 14 = .ok (.iload_n 3, 1) := by decide +kernel
theorem dX13_fits_15 : decode cX13_fits 15 = .ok (.if_icmp .gt 10, 3) := by decide +kernel
theorem dX13_fits_18 : decode cX13_fits 18 = .ok (.iload_n 1, 1) := by decide +kernel
theorem dX13_fits_19 : decode cX13_fits 19 = .ok (.iload 4, 2) := by decide +kernel
theorem dX13_fits_21 : decode cX13_fits 21 = .ok (.irem, 1) := by decide +kernel
theorem dX13_fits_22 : decode cX13_fits 22 = .ok (.ifCond .eq 9, 3) := by decide +kernel
theorem dX13_fits_25 : decode cX13_fits 25 = .ok (.aload_n 0, 1) := by decide +kernel
theorem dX13_fits_26 : decode cX13_fits 26 = .ok (.bipush 10, 2) := by decide +kernel
theorem dX13_fits_28 : decode cX13_fits 28 = .ok (.invokevirtual 419, 3) := by decide +kernel
theorem dX13_fits_31 : decode cX13_fits 31 = .ok (.return_, 1) := by decide +kernel
theorem dX13_fixed_0 : decode cX13_fixed 0 = .ok (.aload_n 0, 1) := by decide +kernel
theorem dX13_fixed_1 : decode cX13_fixed 1 = .ok (.invokevirtual 525, 3) := by decide +kernel
theorem dX13_fixed_4 : decode cX13_fixed 4 = .ok (.istore_n 3, 1) := by decide +kernel
theorem dX13_fixed_5 : decode cX13_fixed 5 = .ok (.aload_n 0, 1) := by decide +kernel
theorem dX13_fixed_6 : decode cX13_fixed 6 = .ok (.getfield 522, 3) := by decide +kernel
theorem dX13_fixed_9 : decode cX13_fixed 9 = .ok (.ifCond .ne 57, 3) := by decide +kernel
theorem dX13_fixed_12 : decode cX13_fixed 12 = .ok (.aload_n 0, 1) := by decide +kernel
theorem dX13_fixed_13 : decode cX13_fixed 13 = .ok (.getfield 410, 3) := by decide +kernel
theorem dX13_fixed_16 : decode cX13_fixed 16 = .ok (.ifCond .ne 50, 3) := by decide +kernel
theorem dX13_fixed_19 : decode cX13_fixed 19 = .ok (.aload_n 0, 1) := by decide +kernel
theorem dX13_fixed_20 : decode cX13_fixed 20 = .ok (.getfield 483, 3) := by decide +kernel
theorem dX13_fixed_23 : decode cX13_fixed 23 = .ok (.ifCond .eq 11, 3) := by decide +kernel
theorem dX13_fixed_26 : decode cX13_fixed 26 = .ok (.aload_n 0, 1) := by decide +kernel
theorem dX13_fixed_27 : decode cX13_fixed 27 = .ok (.iconst 5, 1) := by decide +kernel
theorem dX13_fixed_28 : decode cX13_fixed 28 = .ok (.invokevirtual 419, 3) := by decide +kernel
theorem dX13_fixed_31 : decode cX13_fixed 31 = .ok (.goto 35, 3) := by decide +kernel
theorem dX13_fixed_34 : decode cX13_fixed 34 = .ok (.aload_n 0, 1) := by decide +kernel
theorem dX13_fixed_35 : decode cX13_fixed 35 = .ok (.getfield 470, 3) := by decide +kernel
theorem dX13_fixed_38 : decode cX13_fixed 38 = .ok (.ifCond .eq 12, 3) := by decide +kernel
theorem dX13_fixed_41 : decode cX13_fixed 41 = .ok (.aload_n 0, 1) := by decide +kernel
theorem dX13_fixed_42 : decode cX13_fixed 42 = .ok (.bipush 9, 2) := by decide +kernel
theorem dX13_fixed_44 : decode cX13_fixed 44 = .ok (.invokevirtual 419, 3) := by decide +kernel
theorem dX13_fixed_47 : decode cX13_fixed 47 = .ok (.goto 19, 3) := by decide +kernel
theorem dX13_fixed_50 : decode cX13_fixed 50 = .ok (.iload_n 3, 1) := by decide +kernel
theorem dX13_fixed_51 : decode cX13_fixed 51 = .ok (.iload_n 1, 1) := by decide +kernel
theorem dX13_fixed_52 : decode cX13_fixed 52 = .ok (.if_icmp .lt 8, 3) := by decide +kernel
theorem dX13_fixed_55 : decode cX13_fixed 55 = .ok (.iload_n 3, 1) := by decide +kernel
theorem dX13_fixed_56 : decode cX13_fixed 56 = .ok (.iload_n 2, 1) := by decide +kernel
theorem dX13_fixed_57 : decode cX13_fixed 57 = .ok (.if_icmp .le 9, 3) := by decide +kernel
theorem dX13_fixed_60 : decode cX13_fixed 60 = .ok (.aload_n 0, 1) := by decide +kernel
theorem dX13_fixed_61 : decode cX13_fixed 61 = .ok (.bipush 6, 2) := by decide +kernel
theorem dX13_fixed_63 : decode cX13_fixed 63 = .ok (.invokevirtual 419, 3) := by decide +kernel
theorem dX13_fixed_66 : decode cX13_fixed 66 = .ok (.iload_n 3, 1) := by decide +kernel
theorem dX13_fixed_67 : decode cX13_fixed 67 = .ok (.ireturn, 1) := by decide +kernel
theorem dX13_taken_0 : decode cX13_taken 0 = .ok (.aload_n 0, 1) := by decide +kernel
theorem dX13_taken_1 : decode cX13_taken 1 = .ok (.invokevirtual 416, 3) := by decide +kernel
theorem dX13_taken_4 : decode cX13_taken 4 = .ok (.aload_n 0, 1) := by decide +kernel
theorem dX13_taken_5 : decode cX13_taken 5 = .ok (.getfield 365, 3) := by decide +kernel
theorem dX13_taken_8 : decode cX13_taken 8 = .ok (.iconst 1, 1) := by decide +kernel
theorem dX13_taken_9 : decode cX13_taken 9 = .ok (.if_icmp .ne 18, 3) := by decide +kernel
theorem dX13_taken_12 : decode cX13_taken 12 = .ok (.aload_n 0, 1) := by decide +kernel
theorem dX13_taken_13 : decode cX13_taken 13 = .ok (.aload_n 0, 1) := by decide +kernel
theorem dX13_taken_14 : decode cX13_taken 14 = .ok (.getfield 368, 3) := by decide +kernel
theorem dX13_taken_17 : decode cX13_taken 17 = .ok (.aload_n 0, 1) := by decide +kernel
theorem dX13_taken_18 : decode cX13_taken 18 = .ok (.getfield 371, 3) := by decide +kernel
theorem dX13_taken_21 : decode cX13_taken 21 = .ok (.invokevirtual 477, 3) := by decide +kernel
theorem dX13_taken_24 : decode cX13_taken 24 = .ok (.goto 4, 3) := by decide +kernel
theorem dX13_taken_27 : decode cX13_taken 27 = .ok (.iconst (-1), 1) := by decide +kernel
theorem dX13_taken_28 : decode cX13_taken 28 = .ok (.istore_n 1, 1) := by decide +kernel
theorem dX13_taken_29 : decode cX13_taken 29 = .ok (.aload_n 0, 1) := by decide +kernel
theorem dX13_taken_30 : decode cX13_taken 30 = .ok (.getfield 365, 3) := by decide +kernel
theorem dX13_taken_33 : decode cX13_taken 33 = .ok (.ifCond .eq 11, 3) := by decide +kernel
theorem dX13_taken_36 : decode cX13_taken 36 = .ok (.aload_n 0, 1) := by decide +kernel
theorem dX13_taken_37 : decode cX13_taken 37 = .ok (.getfield 365, 3) := by decide +kernel
theorem dX13_taken_40 : decode cX13_taken 40 = .ok (.iconst 5, 1) := by decide +kernel
theorem dX13_taken_41 : decode cX13_taken 41 = .ok (.if_icmp .ne 11, 3) := by decide +kernel
theorem dX13_taken_44 : decode cX13_taken 44 = .ok (.aload_n 0, 1) := by decide +kernel
theorem dX13_taken_45 : decode cX13_taken 45 = .ok (.iconst 1, 1) := by decide +kernel
theorem dX13_taken_46 : decode cX13_taken 46 = .ok (.invokevirtual 419, 3) := by decide +kernel
theorem dX13_taken_49 : decode cX13_taken 49 = .ok (.goto 12, 3) := by decide +kernel
theorem dX13_taken_52 : decode cX13_taken 52 = .ok (.iload_n 1, 1) := by decide +kernel
theorem dX13_taken_53 : decode cX13_taken 53 = .ok (.ifCond .ge 8, 3) := by decide +kernel
theorem dX13_taken_56 : decode cX13_taken 56 = .ok (.aload_n 0, 1) := by decide +kernel
theorem dX13_taken_57 : decode cX13_taken 57 = .ok (.iconst 3, 1) := by decide +kernel
theorem dX13_taken_58 : decode cX13_taken 58 = .ok (.invokevirtual 419, 3) := by decide +kernel
theorem dX13_taken_61 : decode cX13_taken 61 = .ok (.iload_n 1, 1) := by decide +kernel
theorem dX13_taken_62 : decode cX13_taken 62 = .ok (.ifCond .ge 7, 3) := by decide +kernel
theorem dX13_taken_65 : decode cX13_taken 65 = .ok (.iconst 0, 1) := by decide +kernel
theorem dX13_taken_66 : decode cX13_taken 66 = .ok (.goto 4, 3) := by decide +kernel
theorem dX13_taken_69 : decode cX13_taken 69 = .ok (.iload_n 1, 1) := by decide +kernel
theorem dX13_taken_70 : decode cX13_taken 70 = .ok (.ireturn, 1) := by decide +kernel
theorem dX13_near8_0 : decode cX13_near8 0 = .ok (.aload_n 0, 1) := by decide +kernel
theorem dX13_near8_1 : decode cX13_near8 1 = .ok (.invokevirtual 532, 3) := by decide +kernel
theorem dX13_near8_4 : decode cX13_near8 4 = .ok (.istore_n 1, 1) := by decide +kernel
theorem dX13_near8_5 : decode cX13_near8 5 = .ok (.iload_n 1, 1) := by decide +kernel
theorem dX13_near8_6 : decode cX13_near8 6 = .ok (.bipush 8, 2) := by decide +kernel
theorem dX13_near8_8 : decode cX13_near8 8 = .ok (.if_icmp .lt 9, 3) := by decide +kernel
theorem dX13_near8_11 : decode cX13_near8 11 = .ok (.iload_n 1, 1) := by decide +kernel
theorem dX13_near8_12 : decode cX13_near8 12 = .ok (.bipush 15, 2) := by decide +kernel
theorem dX13_near8_14 : decode cX13_near8 14 = .ok (.if_icmp .le 8, 3) := by decide +kernel
theorem dX13_near8_17 : decode cX13_near8 17 = .ok (.aload_n 0, 1) := by decide +kernel
theorem dX13_near8_18 : decode cX13_near8 18 = .ok (.iconst 3, 1) := by decide +kernel
theorem dX13_near8_19 : decode cX13_near8 19 = .ok (.invokevirtual 419, 3) := by decide +kernel
theorem dX13_near8_22 : decode cX13_near8 22 = .ok (.iload_n 1, 1) := by decide +kernel
theorem dX13_near8_23 : decode cX13_near8 23 = .ok (.bipush 8, 2) := by decide +kernel
theorem dX13_near8_25 : decode cX13_near8 25 = .ok (.isub, 1) := by decide +kernel
theorem dX13_near8_26 : decode cX13_near8 26 = .ok (.bipush 7, 2) := by decide +kernel
theorem dX13_near8_28 : decode cX13_near8 28 = .ok (.iand, 1) := by decide +kernel
theorem dX13_near8_29 : decode cX13_near8 29 = .ok (.ireturn, 1) := by decide +kernel
theorem dX13_behind_0 : decode cX13_behind 0 = .ok (.aload_n 0, 1) := by decide +kernel
theorem dX13_behind_1 : decode cX13_behind 1 = .ok (.bipush 44, 2) := by decide +kernel
theorem dX13_behind_3 : decode cX13_behind 3 = .ok (.invokevirtual 506, 3) := by decide +kernel
theorem dX13_behind_6 : decode cX13_behind 6 = .ok (.ifCond .eq 10, 3) := by decide +kernel
theorem dX13_behind_9 : decode cX13_behind 9 = .ok (.aload_n 0, 1) := by decide +kernel
theorem dX13_behind_10 : decode cX13_behind 10 = .ok (.invokevirtual 532, 3) := by decide +kernel
theorem dX13_behind_13 : decode cX13_behind 13 = .ok (.goto 4, 3) := by decide +kernel
theorem dX13_behind_16 : decode cX13_behind 16 = .ok (.iconst 0, 1) := by decide +kernel
theorem dX13_behind_17 : decode cX13_behind 17 = .ok (.ireturn, 1) := by decide +kernel
theorem dX13_not_0 : decode cX13_not 0 = .ok (.iload_n 1, 1) := by decide +kernel
theorem dX13_not_1 : decode cX13_not 1 = .ok (.iload_n 2, 1) := by decide +kernel
theorem dX13_not_2 : decode cX13_not 2 = .ok (.if_icmp .ne 8, 3) := by decide +kernel
theorem dX13_not_5 : decode cX13_not 5 = .ok (.aload_n 0, 1) := by decide +kernel
theorem dX13_not_6 : decode cX13_not 6 = .ok (.iconst 3, 1) := by decide +kernel
theorem dX13_not_7 : decode cX13_not 7 = .ok (.invokevirtual 419, 3) := by decide +kernel
theorem dX13_not_10 : decode cX13_not 10 = .ok (.iload_n 1, 1) := by decide +kernel
theorem dX13_not_11 : decode cX13_not 11 = .ok (.ireturn, 1) := by decide +kernel
theorem dX13_bracketed_0 : decode cX13_bracketed 0 = .ok (.aload_n 0, 1) := by decide +kernel
theorem dX13_bracketed_1 : decode cX13_bracketed 1 = .ok (.bipush 40, 2) := by decide +kernel
theorem dX13_bracketed_3 : decode cX13_bracketed 3 = .ok (.invokevirtual 506, 3) := by decide +kernel
theorem dX13_bracketed_6 : decode cX13_bracketed 6 = .ok (.ifCond .eq 10, 3) := by decide +kernel
theorem dX13_bracketed_9 : decode cX13_bracketed 9 = .ok (.aload_n 0, 1) := by decide +kernel
theorem dX13_bracketed_10 : decode cX13_bracketed 10 = .ok (.invokevirtual 532, 3) := by decide +kernel
