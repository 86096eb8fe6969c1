theorem dX16_dup_65 : decode cX16_dup 65 = .ok (.iload_n 2, 1) := by decide +kernel
theorem dX16_dup_66 : decode cX16_dup 66 = .ok (.iadd, 1) := by decide +kernel
theorem dX16_dup_67 : decode cX16_dup 67 = .ok (.iload_n 3, 1) := by decide +kernel
theorem dX16_dup_68 : decode cX16_dup 68 = .ok (.iastore, 1) := by decide +kernel
theorem dX16_dup_69 : decode cX16_dup 69 = .ok (.aload_n 0, 1) := by decide +kernel
theorem dX16_dup_70 : decode cX16_dup 70 = .ok (.invokevirtual 252, 3) := by decide +kernel
theorem dX16_dup_73 : decode cX16_dup 73 = .ok (.iload_n 2, 1) := by decide +kernel
theorem dX16_dup_74 : decode cX16_dup 74 = .ok (.ireturn, 1) := by decide +kernel
theorem dX16_nameAt_0 : decode cX16_nameAt 0 = .ok (.iconst 0, 1) := by decide +kernel
theorem dX16_nameAt_1 : decode cX16_nameAt 1 = .ok (.istore_n 2, 1) := by decide +kernel
theorem dX16_nameAt_2 : decode cX16_nameAt 2 = .ok (.iload_n 2, 1) := by decide +kernel
theorem dX16_nameAt_3 : decode cX16_nameAt 3 = .ok (.bipush 16, 2) := by decide +kernel
theorem dX16_nameAt_5 : decode cX16_nameAt 5 = .ok (.if_icmp .ge 16, 3) := by decide +kernel
theorem dX16_nameAt_8 : decode cX16_nameAt 8 = .ok (.aload_n 0, 1) := by decide +kernel
theorem dX16_nameAt_9 : decode cX16_nameAt 9 = .ok (.getfield 115, 3) := by decide +kernel
theorem dX16_nameAt_12 : decode cX16_nameAt 12 = .ok (.iload_n 2, 1) := by decide +kernel
theorem dX16_nameAt_13 : decode cX16_nameAt 13 = .ok (.iconst 0, 1) := by decide +kernel
theorem dX16_nameAt_14 : decode cX16_nameAt 14 = .ok (.iastore, 1) := by decide +kernel
theorem dX16_nameAt_15 : decode cX16_nameAt 15 = .ok (.iinc 2 1, 3) := by decide +kernel
theorem dX16_nameAt_18 : decode cX16_nameAt 18 = .ok (.goto (-16), 3) := by decide +kernel
theorem dX16_nameAt_21 : decode cX16_nameAt 21 = .ok (.iconst 0, 1) := by decide +kernel
theorem dX16_nameAt_22 : decode cX16_nameAt 22 = .ok (.istore_n 2, 1) := by decide +kernel
theorem dX16_nameAt_23 : decode cX16_nameAt 23 = .ok (.iconst 1, 1) := by decide +kernel
theorem dX16_nameAt_24 : decode cX16_nameAt 24 = .ok (.istore_n 3, 1) := by decide +kernel
theorem dX16_nameAt_25 : decode cX16_nameAt 25 = .ok (.iconst 0, 1) := by decide +kernel
theorem dX16_nameAt_26 : decode cX16_nameAt 26 = .ok (.istore 4, 2) := by decide +kernel
theorem dX16_nameAt_28 : decode cX16_nameAt 28 = .ok (.iload 4, 2) := by decide +kernel
theorem dX16_nameAt_30 : decode cX16_nameAt 30 = .ok (.bipush 16, 2) := by decide +kernel
theorem dX16_nameAt_32 : decode cX16_nameAt 32 = .ok (.if_icmp .ge 94, 3) := by decide +kernel
theorem dX16_nameAt_35 : decode cX16_nameAt 35 = .ok (.aload_n 0, 1) := by decide +kernel
theorem dX16_nameAt_36 : decode cX16_nameAt 36 = .ok (.aload_n 0, 1) := by decide +kernel
theorem dX16_nameAt_37 : decode cX16_nameAt 37 = .ok (.getfield 232, 3) := by decide +kernel
theorem dX16_nameAt_40 : decode cX16_nameAt 40 = .ok (.iload_n 1, 1) := by decide +kernel
theorem dX16_nameAt_41 : decode cX16_nameAt 41 = .ok (.iload 4, 2) := by decide +kernel
theorem dX16_nameAt_43 : decode cX16_nameAt 43 = .ok (.iadd, 1) := by decide +kernel
theorem dX16_nameAt_44 : decode cX16_nameAt 44 = .ok (.iconst 1, 1) := by decide +kernel
theorem dX16_nameAt_45 : decode cX16_nameAt 45 = .ok (.invokevirtual 218, 3) := by decide +kernel
theorem dX16_nameAt_48 : decode cX16_nameAt 48 = .ok (.ifCond .ne 6, 3) := by decide +kernel
theorem dX16_nameAt_51 : decode cX16_nameAt 51 = .ok (.bipush (-14), 2) := by decide +kernel
theorem dX16_nameAt_53 : decode cX16_nameAt 53 = .ok (.ireturn, 1) := by decide +kernel
theorem dX16_nameAt_54 : decode cX16_nameAt 54 = .ok (.aload_n 0, 1) := by decide +kernel
theorem dX16_nameAt_55 : decode cX16_nameAt 55 = .ok (.iload_n 1, 1) := by decide +kernel
theorem dX16_nameAt_56 : decode cX16_nameAt 56 = .ok (.iload 4, 2) := by decide +kernel
theorem dX16_nameAt_58 : decode cX16_nameAt 58 = .ok (.iadd, 1) := by decide +kernel
theorem dX16_nameAt_59 : decode cX16_nameAt 59 = .ok (.invokevirtual 235, 3) := by decide +kernel
theorem dX16_nameAt_62 : decode cX16_nameAt 62 = .ok (.istore 5, 2) := by decide +kernel
theorem dX16_nameAt_64 : decode cX16_nameAt 64 = .ok (.iload 5, 2) := by decide +kernel
theorem dX16_nameAt_66 : decode cX16_nameAt 66 = .ok (.ifCond .ne 18, 3) := by decide +kernel
theorem dX16_nameAt_69 : decode cX16_nameAt 69 = .ok (.iload_n 2, 1) := by decide +kernel
theorem dX16_nameAt_70 : decode cX16_nameAt 70 = .ok (.ifCond .le 11, 3) := by decide +kernel
theorem dX16_nameAt_73 : decode cX16_nameAt 73 = .ok (.iload_n 3, 1) := by decide +kernel
theorem dX16_nameAt_74 : decode cX16_nameAt 74 = .ok (.ifCond .eq 7, 3) := by decide +kernel
theorem dX16_nameAt_77 : decode cX16_nameAt 77 = .ok (.iconst 0, 1) := by decide +kernel
theorem dX16_nameAt_78 : decode cX16_nameAt 78 = .ok (.goto 5, 3) := by decide +kernel
theorem dX16_nameAt_81 : decode cX16_nameAt 81 = .ok (.bipush (-22), 2) := by decide +kernel
theorem dX16_nameAt_83 : decode cX16_nameAt 83 = .ok (.ireturn, 1) := by decide +kernel
theorem dX16_nameAt_84 : decode cX16_nameAt 84 = .ok (.iload_n 3, 1) := by decide +kernel
theorem dX16_nameAt_85 : decode cX16_nameAt 85 = .ok (.ifCond .eq 21, 3) := by decide +kernel
theorem dX16_nameAt_88 : decode cX16_nameAt 88 = .ok (.iload 5, 2) := by decide +kernel
theorem dX16_nameAt_90 : decode cX16_nameAt 90 = .ok (.bipush 32, 2) := by decide +kernel
theorem dX16_nameAt_92 : decode cX16_nameAt 92 = .ok (.if_icmp .le 14, 3) := by decide +kernel
theorem dX16_nameAt_95 : decode cX16_nameAt 95 = .ok (.iload 5, 2) := by decide +kernel
theorem dX16_nameAt_97 : decode cX16_nameAt 97 = .ok (.bipush 127, 2) := by decide +kernel
theorem dX16_nameAt_99 : decode cX16_nameAt 99 = .ok (.if_icmp .ge 7, 3) := by decide +kernel
theorem dX16_nameAt_102 : decode cX16_nameAt 102 = .ok (.iconst 1, 1) := by decide +kernel
theorem dX16_nameAt_103 : decode cX16_nameAt 103 = .ok (.goto 4, 3) := by decide +kernel
theorem dX16_nameAt_106 : decode cX16_nameAt 106 = .ok (.iconst 0, 1) := by decide +kernel
theorem dX16_nameAt_107 : decode cX16_nameAt 107 = .ok (.istore_n 3, 1) := by decide +kernel
theorem dX16_nameAt_108 : decode cX16_nameAt 108 = .ok (.aload_n 0, 1) := by decide +kernel
theorem dX16_nameAt_109 : decode cX16_nameAt 109 = .ok (.getfield 115, 3) := by decide +kernel
theorem dX16_nameAt_112 : decode cX16_nameAt 112 = .ok (.iload 4, 2) := by decide +kernel
theorem dX16_nameAt_114 : decode cX16_nameAt 114 = .ok (.iload 5, 2) := by decide +kernel
theorem dX16_nameAt_116 : decode cX16_nameAt 116 = .ok (.iastore, 1) := by decide +kernel
theorem dX16_nameAt_117 : decode cX16_nameAt 117 = .ok (.iinc 2 1, 3) := by decide +kernel
theorem dX16_nameAt_120 : decode cX16_nameAt 120 = .ok (.iinc 4 1, 3) := by decide +kernel
theorem dX16_nameAt_123 : decode cX16_nameAt 123 = .ok (.goto (-95), 3) := by decide +kernel
theorem dX16_nameAt_126 : decode cX16_nameAt 126 = .ok (.bipush (-22), 2) := by decide +kernel
theorem dX16_nameAt_128 : decode cX16_nameAt 128 = .ok (.ireturn, 1) := by decide +kernel
theorem dX16_named_0 : decode cX16_named 0 = .ok (.iconst 0, 1) := by decide +kernel
theorem dX16_named_1 : decode cX16_named 1 = .ok (.istore_n 1, 1) := by decide +kernel
theorem dX16_named_2 : decode cX16_named 2 = .ok (.iload_n 1, 1) := by decide +kernel
theorem dX16_named_3 : decode cX16_named 3 = .ok (.bipush 16, 2) := by decide +kernel
theorem dX16_named_5 : decode cX16_named 5 = .ok (.if_icmp .ge 83, 3) := by decide +kernel
theorem dX16_named_8 : decode cX16_named 8 = .ok (.aload_n 0, 1) := by decide +kernel
theorem dX16_named_9 : decode cX16_named 9 = .ok (.getfield 88, 3) := by decide +kernel
theorem dX16_named_12 : decode cX16_named 12 = .ok (.iload_n 1, 1) := by decide +kernel
theorem dX16_named_13 : decode cX16_named 13 = .ok (.baload, 1) := by decide +kernel
theorem dX16_named_14 : decode cX16_named 14 = .ok (.ifCond .eq 16, 3) := by decide +kernel
theorem dX16_named_17 : decode cX16_named 17 = .ok (.aload_n 0, 1) := by decide +kernel
theorem dX16_named_18 : decode cX16_named 18 = .ok (.getfield 91, 3) := by decide +kernel
theorem dX16_named_21 : decode cX16_named 21 = .ok (.iload_n 1, 1) := by decide +kernel
theorem dX16_named_22 : decode cX16_named 22 = .ok (.baload, 1) := by decide +kernel
theorem dX16_named_23 : decode cX16_named 23 = .ok (.ifCond .eq 7, 3) := by decide +kernel
theorem dX16_named_26 : decode cX16_named 26 = .ok (.iconst 1, 1) := by decide +kernel
theorem dX16_named_27 : decode cX16_named 27 = .ok (.goto 4, 3) := by decide +kernel
theorem dX16_named_30 : decode cX16_named 30 = .ok (.iconst 0, 1) := by decide +kernel
theorem dX16_named_31 : decode cX16_named 31 = .ok (.istore_n 2, 1) := by decide +kernel
theorem dX16_named_32 : decode cX16_named 32 = .ok (.iconst 0, 1) := by decide +kernel
theorem dX16_named_33 : decode cX16_named 33 = .ok (.istore_n 3, 1) := by decide +kernel
theorem dX16_named_34 : decode cX16_named 34 = .ok (.iload_n 3, 1) := by decide +kernel
theorem dX16_named_35 : decode cX16_named 35 = .ok (.bipush 16, 2) := by decide +kernel
theorem dX16_named_37 : decode cX16_named 37 = .ok (.if_icmp .ge 39, 3) := by decide +kernel
theorem dX16_named_40 : decode cX16_named 40 = .ok (.iload_n 2, 1) := by decide +kernel
theorem dX16_named_41 : decode cX16_named 41 = .ok (.ifCond .eq 35, 3) := by decide +kernel
theorem dX16_named_44 : decode cX16_named 44 = .ok (.aload_n 0, 1) := by decide +kernel
theorem dX16_named_45 : decode cX16_named 45 = .ok (.getfield 106, 3) := by decide +kernel
theorem dX16_named_48 : decode cX16_named 48 = .ok (.bipush 16, 2) := by decide +kernel
theorem dX16_named_50 : decode cX16_named 50 = .ok (.iload_n 1, 1) := by decide +kernel
theorem dX16_named_51 : decode cX16_named 51 = .ok (.imul, 1) := by decide +kernel
theorem dX16_named_52 : decode cX16_named 52 = .ok (.iload_n 3, 1) := by decide +kernel
theorem dX16_named_53 : decode cX16_named 53 = .ok (.iadd, 1) := by decide +kernel
theorem dX16_named_54 : decode cX16_named 54 = .ok (.iaload, 1) := by decide +kernel
theorem dX16_named_55 : decode cX16_named 55 = .ok (.aload_n 0, 1) := by decide +kernel
theorem dX16_named_56 : decode cX16_named 56 = .ok (.getfield 115, 3) := by decide +kernel
theorem dX16_named_59 : decode cX16_named 59 = .ok (.iload_n 3, 1) := by decide +kernel
theorem dX16_named_60 : decode cX16_named 60 = .ok (.iaload, 1) := by decide +kernel
theorem dX16_named_61 : decode cX16_named 61 = .ok (.if_icmp .ne 7, 3) := by decide +kernel
theorem dX16_named_64 : decode cX16_named 64 = .ok (.iconst 1, 1) := by decide +kernel
theorem dX16_named_65 : decode cX16_named 65 = .ok (.goto 4, 3) := by decide +kernel
theorem dX16_named_68 : decode cX16_named 68 = .ok (.iconst 0, 1) := by decide +kernel
theorem dX16_named_69 : decode cX16_named 69 = .ok (.istore_n 2, 1) := by decide +kernel
theorem dX16_named_70 : decode cX16_named 70 = .ok (.iinc 3 1, 3) := by decide +kernel
theorem dX16_named_73 : decode cX16_named 73 = .ok (.goto (-39), 3) := by decide +kernel
theorem dX16_named_76 : decode cX16_named 76 = .ok (.iload_n 2, 1) := by decide +kernel
theorem dX16_named_77 : decode cX16_named 77 = .ok (.ifCond .eq 5, 3) := by decide +kernel
theorem dX16_named_80 : decode cX16_named 80 = .ok (.iload_n 1, 1) := by decide +kernel
theorem dX16_named_81 : decode cX16_named 81 = .ok (.ireturn, 1) := by decide +kernel
theorem dX16_named_82 : decode cX16_named 82 = .ok (.iinc 1 1, 3) := by decide +kernel
theorem dX16_named_85 : decode cX16_named 85 = .ok (.goto (-83), 3) := by decide +kernel
theorem dX16_named_88 : decode cX16_named 88 = .ok (.iconst (-1), 1) := by decide +kernel
theorem dX16_named_89 : decode cX16_named 89 = .ok (.ireturn, 1) := by decide +kernel
theorem dX16_entitle_0 : decode cX16_entitle 0 = .ok (.aload_n 0, 1) := by decide +kernel
theorem dX16_entitle_1 : decode cX16_entitle 1 = .ok (.getfield 91, 3) := by decide +kernel
theorem dX16_entitle_4 : decode cX16_entitle 4 = .ok (.iload_n 1, 1) := by decide +kernel
theorem dX16_entitle_5 : decode cX16_entitle 5 = .ok (.iconst 1, 1) := by decide +kernel
theorem dX16_entitle_6 : decode cX16_entitle 6 = .ok (.bastore, 1) := by decide +kernel
theorem dX16_entitle_7 : decode cX16_entitle 7 = .ok (.iconst 0, 1) := by decide +kernel
theorem dX16_entitle_8 : decode cX16_entitle 8 = .ok (.istore_n 2, 1) := by decide +kernel
theorem dX16_entitle_9 : decode cX16_entitle 9 = .ok (.iload_n 2, 1) := by decide +kernel
theorem dX16_entitle_10 : decode cX16_entitle 10 = .ok (.bipush 16, 2) := by decide +kernel
theorem dX16_entitle_12 : decode cX16_entitle 12 = .ok (.if_icmp .ge 26, 3) := by decide +kernel
theorem dX16_entitle_15 : decode cX16_entitle 15 = .ok (.aload_n 0, 1) := by decide +kernel
theorem dX16_entitle_16 : decode cX16_entitle 16 = .ok (.getfield 106, 3) := by decide +kernel
theorem dX16_entitle_19 : decode cX16_entitle 19 = .ok (.bipush 16, 2) := by decide +kernel
theorem dX16_entitle_21 : decode cX16_entitle 21 = .ok (.iload_n 1, 1) := by decide +kernel
theorem dX16_entitle_22 : decode cX16_entitle 22 = .ok (.imul, 1) := by decide +kernel
theorem dX16_entitle_23 : decode cX16_entitle 23 = .ok (.iload_n 2, 1) := by decide +kernel
theorem dX16_entitle_24 : decode cX16_entitle 24 = .ok (.iadd, 1) := by decide +kernel
theorem dX16_entitle_25 : decode cX16_entitle 25 = .ok (.aload_n 0, 1) := by decide +kernel
theorem dX16_entitle_26 : decode cX16_entitle 26 = .ok (.getfield 115, 3) := by decide +kernel
theorem dX16_entitle_29 : decode cX16_entitle 29 = .ok (.iload_n 2, 1) := by decide +kernel
theorem dX16_entitle_30 : decode cX16_entitle 30 = .ok (.iaload, 1) := by decide +kernel
theorem dX16_entitle_31 : decode cX16_entitle 31 = .ok (.iastore, 1) := by decide +kernel
theorem dX16_entitle_32 : decode cX16_entitle 32 = .ok (.iinc 2 1, 3) := by decide +kernel
theorem dX16_entitle_35 : decode cX16_entitle 35 = .ok (.goto (-26), 3) := by decide +kernel
theorem dX16_entitle_38 : decode cX16_entitle 38 = .ok (.return_, 1) := by decide +kernel
theorem dX16_open_0 : decode cX16_open 0 = .ok (.iload_n 2, 1) := by decide +kernel
theorem dX16_open_1 : decode cX16_open 1 = .ok (.ifCond .le 58, 3) := by decide +kernel
theorem dX16_open_4 : decode cX16_open 4 = .ok (.iload_n 2, 1) := by decide +kernel
theorem dX16_open_5 : decode cX16_open 5 = .ok (.bipush 64, 2) := by decide +kernel
theorem dX16_open_7 : decode cX16_open 7 = .ok (.if_icmp .ge 52, 3) := by decide +kernel
theorem dX16_open_10 : decode cX16_open 10 = .ok (.iload_n 2, 1) := by decide +kernel
theorem dX16_open_11 : decode cX16_open 11 = .ok (.iconst 3, 1) := by decide +kernel
theorem dX16_open_12 : decode cX16_open 12 = .ok (.iand, 1) := by decide +kernel
theorem dX16_open_13 : decode cX16_open 13 = .ok (.ifCond .le 46, 3) := by decide +kernel
theorem dX16_open_16 : decode cX16_open 16 = .ok (.iload_n 2, 1) := by decide +kernel
theorem dX16_open_17 : decode cX16_open 17 = .ok (.iconst 4, 1) := by decide +kernel
theorem dX16_open_18 : decode cX16_open 18 = .ok (.iand, 1) := by decide +kernel
theorem dX16_open_19 : decode cX16_open 19 = .ok (.ifCond .eq 9, 3) := by decide +kernel
theorem dX16_open_22 : decode cX16_open 22 = .ok (.iload_n 2, 1) := by decide +kernel
theorem dX16_open_23 : decode cX16_open 23 = .ok (.iconst 2, 1) := by decide +kernel
theorem dX16_open_24 : decode cX16_open 24 = .ok (.iand, 1) := by decide +kernel
theorem dX16_open_25 : decode cX16_open 25 = .ok (.ifCond .le 34, 3) := by decide +kernel
theorem dX16_open_28 : decode cX16_open 28 = .ok (.iload_n 2, 1) := by decide +kernel
theorem dX16_open_29 : decode cX16_open 29 = .ok (.bipush 16, 2) := by decide +kernel
theorem dX16_open_31 : decode cX16_open 31 = .ok (.iand, 1) := by decide +kernel
theorem dX16_open_32 : decode cX16_open 32 = .ok (.ifCond .eq 10, 3) := by decide +kernel
theorem dX16_open_35 : decode cX16_open 35 = .ok (.iload_n 2, 1) := by decide +kernel
theorem dX16_open_36 : decode cX16_open 36 = .ok (.bipush 8, 2) := by decide +kernel
theorem dX16_open_38 : decode cX16_open 38 = .ok (.iand, 1) := by decide +kernel
theorem dX16_open_39 : decode cX16_open 39 = .ok (.ifCond .le 20, 3) := by decide +kernel
theorem dX16_open_42 : decode cX16_open 42 = .ok (.iload_n 2, 1) := by decide +kernel
theorem dX16_open_43 : decode cX16_open 43 = .ok (.bipush 32, 2) := by decide +kernel
theorem dX16_open_45 : decode cX16_open 45 = .ok (.iand, 1) := by decide +kernel
theorem dX16_open_46 : decode cX16_open 46 = .ok (.ifCond .eq 9, 3) := by decide +kernel
theorem dX16_open_49 : decode cX16_open 49 = .ok (.iload_n 2, 1) := by decide +kernel
theorem dX16_open_50 : decode cX16_open 50 = .ok (.iconst 2, 1) := by decide +kernel
theorem dX16_open_51 : decode cX16_open 51 = .ok (.iand, 1) := by decide +kernel
theorem dX16_open_52 : decode cX16_open 52 = .ok (.ifCond .le 7, 3) := by decide +kernel
theorem dX16_open_55 : decode cX16_open 55 = .ok (.iconst 1, 1) := by decide +kernel
theorem dX16_open_56 : decode cX16_open 56 = .ok (.goto 4, 3) := by decide +kernel
theorem dX16_open_59 : decode cX16_open 59 = .ok (.iconst 0, 1) := by decide +kernel
theorem dX16_open_60 : decode cX16_open 60 = .ok (.istore_n 3, 1) := by decide +kernel
theorem dX16_open_61 : decode cX16_open 61 = .ok (.iload_n 3, 1) := by decide +kernel
theorem dX16_open_62 : decode cX16_open 62 = .ok (.ifCond .ne 6, 3) := by decide +kernel
theorem dX16_open_65 : decode cX16_open 65 = .ok (.bipush (-22), 2) := by decide +kernel
theorem dX16_open_67 : decode cX16_open 67 = .ok (.ireturn, 1) := by decide +kernel
theorem dX16_open_68 : decode cX16_open 68 = .ok (.aload_n 0, 1) := by decide +kernel
theorem dX16_open_69 : decode cX16_open 69 = .ok (.iload_n 1, 1) := by decide +kernel
theorem dX16_open_70 : decode cX16_open 70 = .ok (.invokevirtual 505, 3) := by decide +kernel
theorem dX16_open_73 : decode cX16_open 73 = .ok (.istore 4, 2) := by decide +kernel
theorem dX16_open_75 : decode cX16_open 75 = .ok (.iload 4, 2) := by decide +kernel
theorem dX16_open_77 : decode cX16_open 77 = .ok (.ifCond .ge 6, 3) := by decide +kernel
theorem dX16_open_80 : decode cX16_open 80 = .ok (.iload 4, 2) := by decide +kernel
theorem dX16_open_82 : decode cX16_open 82 = .ok (.ireturn, 1) := by decide +kernel
theorem dX16_open_83 : decode cX16_open 83 = .ok (.aload_n 0, 1) := by decide +kernel
theorem dX16_open_84 : decode cX16_open 84 = .ok (.invokevirtual 508, 3) := by decide +kernel
theorem dX16_open_87 : decode cX16_open 87 = .ok (.istore 5, 2) := by decide +kernel
theorem dX16_open_89 : decode cX16_open 89 = .ok (.iload 5, 2) := by decide +kernel
theorem dX16_open_91 : decode cX16_open 91 = .ok (.iconst (-1), 1) := by decide +kernel
theorem dX16_open_92 : decode cX16_open 92 = .ok (.if_icmp .ne 13, 3) := by decide +kernel
theorem dX16_open_95 : decode cX16_open 95 = .ok (.iload_n 2, 1) := by decide +kernel
theorem dX16_open_96 : decode cX16_open 96 = .ok (.bipush 8, 2) := by decide +kernel
theorem dX16_open_98 : decode cX16_open 98 = .ok (.iand, 1) := by decide +kernel
theorem dX16_open_99 : decode cX16_open 99 = .ok (.ifCond .ne 6, 3) := by decide +kernel
theorem dX16_open_102 : decode cX16_open 102 = .ok (.bipush (-2), 2) := by decide +kernel
theorem dX16_open_104 : decode cX16_open 104 = .ok (.ireturn, 1) := by decide +kernel
theorem dX16_open_105 : decode cX16_open 105 = .ok (.iload 5, 2) := by decide +kernel
theorem dX16_open_107 : decode cX16_open 107 = .ok (.iconst (-1), 1) := by decide +kernel
theorem dX16_open_108 : decode cX16_open 108 = .ok (.if_icmp .eq 13, 3) := by decide +kernel
theorem dX16_open_111 : decode cX16_open 111 = .ok (.iload_n 2, 1) := by decide +kernel
theorem dX16_open_112 : decode cX16_open 112 = .ok (.bipush 16, 2) := by decide +kernel
theorem dX16_open_114 : decode cX16_open 114 = .ok (.iand, 1) := by decide +kernel
theorem dX16_open_115 : decode cX16_open 115 = .ok (.ifCond .le 6, 3) := by decide +kernel
theorem dX16_open_118 : decode cX16_open 118 = .ok (.bipush (-3), 2) := by decide +kernel
theorem dX16_open_120 : decode cX16_open 120 = .ok (.ireturn, 1) := by decide +kernel
theorem dX16_open_121 : decode cX16_open 121 = .ok (.iconst 0, 1) := by decide +kernel
theorem dX16_open_122 : decode cX16_open 122 = .ok (.istore 6, 2) := by decide +kernel
theorem dX16_open_124 : decode cX16_open 124 = .ok (.iload 6, 2) := by decide +kernel
theorem dX16_open_126 : decode cX16_open 126 = .ok (.bipush 16, 2) := by decide +kernel
theorem dX16_open_128 : decode cX16_open 128 = .ok (.if_icmp .ge 19, 3) := by decide +kernel
theorem dX16_open_131 : decode cX16_open 131 = .ok (.aload_n 0, 1) := by decide +kernel
theorem dX16_open_132 : decode cX16_open 132 = .ok (.getfield 88, 3) := by decide +kernel
theorem dX16_open_135 : decode cX16_open 135 = .ok (.iload 6, 2) := by decide +kernel
theorem dX16_open_137 : decode cX16_open 137 = .ok (.baload, 1) := by decide +kernel
theorem dX16_open_138 : decode cX16_open 138 = .ok (.ifCond .eq 9, 3) := by decide +kernel
theorem dX16_open_141 : decode cX16_open 141 = .ok (.iinc 6 1, 3) := by decide +kernel
theorem dX16_open_144 : decode cX16_open 144 = .ok (.goto (-20), 3) := by decide +kernel
theorem dX16_open_147 : decode cX16_open 147 = .ok (.aload_n 0, 1) := by decide +kernel
theorem dX16_open_148 : decode cX16_open 148 = .ok (.invokevirtual 249, 3) := by decide +kernel
theorem dX16_open_151 : decode cX16_open 151 = .ok (.iconst (-1), 1) := by decide +kernel
theorem dX16_open_152 : decode cX16_open 152 = .ok (.if_icmp .eq 24, 3) := by decide +kernel
theorem dX16_open_155 : decode cX16_open 155 = .ok (.aload_n 0, 1) := by decide +kernel
theorem dX16_open_156 : decode cX16_open 156 = .ok (.invokevirtual 246, 3) := by decide +kernel
theorem dX16_open_159 : decode cX16_open 159 = .ok (.iconst (-1), 1) := by decide +kernel
theorem dX16_open_160 : decode cX16_open 160 = .ok (.if_icmp .eq 16, 3) := by decide +kernel
theorem dX16_open_163 : decode cX16_open 163 = .ok (.iload 5, 2) := by decide +kernel
theorem dX16_open_165 : decode cX16_open 165 = .ok (.iconst (-1), 1) := by decide +kernel
theorem dX16_open_166 : decode cX16_open 166 = .ok (.if_icmp .ne 13, 3) := by decide +kernel
theorem dX16_open_169 : decode cX16_open 169 = .ok (.iload 6, 2) := by decide +kernel
theorem dX16_open_171 : decode cX16_open 171 = .ok (.bipush 16, 2) := by decide +kernel
theorem dX16_open_173 : decode cX16_open 173 = .ok (.if_icmp .ne 6, 3) := by decide +kernel
theorem dX16_open_176 : decode cX16_open 176 = .ok (.bipush (-4), 2) := by decide +kernel
theorem dX16_open_178 : decode cX16_open 178 = .ok (.ireturn, 1) := by decide +kernel
theorem dX16_open_179 : decode cX16_open 179 = .ok (.iload 5, 2) := by decide +kernel
theorem dX16_open_181 : decode cX16_open 181 = .ok (.iconst (-1), 1) := by decide +kernel
theorem dX16_open_182 : decode cX16_open 182 = .ok (.if_icmp .ne 29, 3) := by decide +kernel
theorem dX16_open_185 : decode cX16_open 185 = .ok (.iload 6, 2) := by decide +kernel
theorem dX16_open_187 : decode cX16_open 187 = .ok (.istore 5, 2) := by decide +kernel
theorem dX16_open_189 : decode cX16_open 189 = .ok (.aload_n 0, 1) := by decide +kernel
theorem dX16_open_190 : decode cX16_open 190 = .ok (.getfield 88, 3) := by decide +kernel
theorem dX16_open_193 : decode cX16_open 193 = .ok (.iload 5, 2) := by decide +kernel
theorem dX16_open_195 : decode cX16_open 195 = .ok (.iconst 1, 1) := by decide +kernel
theorem dX16_open_196 : decode cX16_open 196 = .ok (.bastore, 1) := by decide +kernel
theorem dX16_open_197 : decode cX16_open 197 = .ok (.aload_n 0, 1) := by decide +kernel
theorem dX16_open_198 : decode cX16_open 198 = .ok (.getfield 100, 3) := by decide +kernel
theorem dX16_open_201 : decode cX16_open 201 = .ok (.iload 5, 2) := by decide +kernel
theorem dX16_open_203 : decode cX16_open 203 = .ok (.iconst 0, 1) := by decide +kernel
theorem dX16_open_204 : decode cX16_open 204 = .ok (.iastore, 1) := by decide +kernel
theorem dX16_open_205 : decode cX16_open 205 = .ok (.aload_n 0, 1) := by decide +kernel
theorem dX16_open_206 : decode cX16_open 206 = .ok (.iload 5, 2) := by decide +kernel
theorem dX16_open_208 : decode cX16_open 208 = .ok (.invokevirtual 511, 3) := by decide +kernel
theorem dX16_open_211 : decode cX16_open 211 = .ok (.iload_n 2, 1) := by decide +kernel
theorem dX16_open_212 : decode cX16_open 212 = .ok (.bipush 32, 2) := by decide +kernel
theorem dX16_open_214 : decode cX16_open 214 = .ok (.iand, 1) := by decide +kernel
theorem dX16_open_215 : decode cX16_open 215 = .ok (.ifCond .le 11, 3) := by decide +kernel
theorem dX16_open_218 : decode cX16_open 218 = .ok (.aload_n 0, 1) := by decide +kernel
theorem dX16_open_219 : decode cX16_open 219 = .ok (.getfield 100, 3) := by decide +kernel
theorem dX16_open_222 : decode cX16_open 222 = .ok (.iload 5, 2) := by decide +kernel
theorem dX16_open_224 : decode cX16_open 224 = .ok (.iconst 0, 1) := by decide +kernel
theorem dX16_open_225 : decode cX16_open 225 = .ok (.iastore, 1) := by decide +kernel
theorem dX16_open_226 : decode cX16_open 226 = .ok (.aload_n 0, 1) := by decide +kernel
theorem dX16_open_227 : decode cX16_open 227 = .ok (.aload_n 0, 1) := by decide +kernel
theorem dX16_open_228 : decode cX16_open 228 = .ok (.iconst 3, 1) := by decide +kernel
theorem dX16_open_229 : decode cX16_open 229 = .ok (.iload 5, 2) := by decide +kernel
theorem dX16_open_231 : decode cX16_open 231 = .ok (.iload_n 2, 1) := by decide +kernel
theorem dX16_open_232 : decode cX16_open 232 = .ok (.bipush 7, 2) := by decide +kernel
theorem dX16_open_234 : decode cX16_open 234 = .ok (.iand, 1) := by decide +kernel
theorem dX16_open_235 : decode cX16_open 235 = .ok (.invokevirtual 168, 3) := by decide +kernel
theorem dX16_open_238 : decode cX16_open 238 = .ok (.invokevirtual 488, 3) := by decide +kernel
theorem dX16_open_241 : decode cX16_open 241 = .ok (.ireturn, 1) := by decide +kernel
theorem dX16_unlink_0 : decode cX16_unlink 0 = .ok (.aload_n 0, 1) := by decide +kernel
theorem dX16_unlink_1 : decode cX16_unlink 1 = .ok (.iload_n 1, 1) := by decide +kernel
theorem dX16_unlink_2 : decode cX16_unlink 2 = .ok (.invokevirtual 505, 3) := by decide +kernel
theorem dX16_unlink_5 : decode cX16_unlink 5 = .ok (.istore_n 2, 1) := by decide +kernel
theorem dX16_unlink_6 : decode cX16_unlink 6 = .ok (.iload_n 2, 1) := by decide +kernel
theorem dX16_unlink_7 : decode cX16_unlink 7 = .ok (.ifCond .ge 5, 3) := by decide +kernel
theorem dX16_unlink_10 : decode cX16_unlink 10 = .ok (.iload_n 2, 1) := by decide +kernel
theorem dX16_unlink_11 : decode cX16_unlink 11 = .ok (.ireturn, 1) := by decide +kernel
theorem dX16_unlink_12 : decode cX16_unlink 12 = .ok (.aload_n 0, 1) := by decide +kernel
theorem dX16_unlink_13 : decode cX16_unlink 13 = .ok (.invokevirtual 508, 3) := by decide +kernel
theorem dX16_unlink_16 : decode cX16_unlink 16 = .ok (.istore_n 3, 1) := by decide +kernel
theorem dX16_unlink_17 : decode cX16_unlink 17 = .ok (.iload_n 3, 1) := by decide +kernel
theorem dX16_unlink_18 : decode cX16_unlink 18 = .ok (.iconst (-1), 1) := by decide +kernel
theorem dX16_unlink_19 : decode cX16_unlink 19 = .ok (.if_icmp .ne 6, 3) := by decide +kernel
theorem dX16_unlink_22 : decode cX16_unlink 22 = .ok (.bipush (-2), 2) := by decide +kernel
theorem dX16_unlink_24 : decode cX16_unlink 24 = .ok (.ireturn, 1) := by decide +kernel
theorem dX16_unlink_25 : decode cX16_unlink 25 = .ok (.aload_n 0, 1) := by decide +kernel
theorem dX16_unlink_26 : decode cX16_unlink 26 = .ok (.getfield 91, 3) := by decide +kernel
theorem dX16_unlink_29 : decode cX16_unlink 29 = .ok (.iload_n 3, 1) := by decide +kernel
theorem dX16_unlink_30 : decode cX16_unlink 30 = .ok (.iconst 0, 1) := by decide +kernel
theorem dX16_unlink_31 : decode cX16_unlink 31 = .ok (.bastore, 1) := by decide +kernel
theorem dX16_unlink_32 : decode cX16_unlink 32 = .ok (.aload_n 0, 1) := by decide +kernel
theorem dX16_unlink_33 : decode cX16_unlink 33 = .ok (.invokevirtual 252, 3) := by decide +kernel
theorem dX16_unlink_36 : decode cX16_unlink 36 = .ok (.iconst 0, 1) := by decide +kernel
theorem dX16_unlink_37 : decode cX16_unlink 37 = .ok (.ireturn, 1) := by decide +kernel
theorem dX16_rename_0 : decode cX16_rename 0 = .ok (.aload_n 0, 1) := by decide +kernel
theorem dX16_rename_1 : decode cX16_rename 1 = .ok (.iload_n 1, 1) := by decide +kernel
theorem dX16_rename_2 : decode cX16_rename 2 = .ok (.invokevirtual 505, 3) := by decide +kernel
theorem dX16_rename_5 : decode cX16_rename 5 = .ok (.istore_n 3, 1) := by decide +kernel
theorem dX16_rename_6 : decode cX16_rename 6 = .ok (.iload_n 3, 1) := by decide +kernel
theorem dX16_rename_7 : decode cX16_rename 7 = .ok (.ifCond .ge 5, 3) := by decide +kernel
theorem dX16_rename_10 : decode cX16_rename 10 = .ok (.iload_n 3, 1) := by decide +kernel
theorem dX16_rename_11 : decode cX16_rename 11 = .ok (.ireturn, 1) := by decide +kernel
theorem dX16_rename_12 : decode cX16_rename 12 = .ok (.aload_n 0, 1) := by decide +kernel
theorem dX16_rename_13 : decode cX16_rename 13 = .ok (.invokevirtual 508, 3) := by decide +kernel
theorem dX16_rename_16 : decode cX16_rename 16 = .ok (.istore 4, 2) := by decide +kernel
theorem dX16_rename_18 : decode cX16_rename 18 = .ok (.aload_n 0, 1) := by decide +kernel
theorem dX16_rename_19 : decode cX16_rename 19 = .ok (.iload_n 2, 1) := by decide +kernel
theorem dX16_rename_20 : decode cX16_rename 20 = .ok (.invokevirtual 505, 3) := by decide +kernel
theorem dX16_rename_23 : decode cX16_rename 23 = .ok (.istore_n 3, 1) := by decide +kernel
theorem dX16_rename_24 : decode cX16_rename 24 = .ok (.iload_n 3, 1) := by decide +kernel
theorem dX16_rename_25 : decode cX16_rename 25 = .ok (.ifCond .ge 5, 3) := by decide +kernel
theorem dX16_rename_28 : decode cX16_rename 28 = .ok (.iload_n 3, 1) := by decide +kernel
theorem dX16_rename_29 : decode cX16_rename 29 = .ok (.ireturn, 1) := by decide +kernel
theorem dX16_rename_30 : decode cX16_rename 30 = .ok (.iload 4, 2) := by decide +kernel
theorem dX16_rename_32 : decode cX16_rename 32 = .ok (.iconst (-1), 1) := by decide +kernel
theorem dX16_rename_33 : decode cX16_rename 33 = .ok (.if_icmp .ne 6, 3) := by decide +kernel
theorem dX16_rename_36 : decode cX16_rename 36 = .ok (.bipush (-2), 2) := by decide +kernel
theorem dX16_rename_38 : decode cX16_rename 38 = .ok (.ireturn, 1) := by decide +kernel
theorem dX16_rename_39 : decode cX16_rename 39 = .ok (.aload_n 0, 1) := by decide +kernel
theorem dX16_rename_40 : decode cX16_rename 40 = .ok (.invokevirtual 508, 3) := by decide +kernel
theorem dX16_rename_43 : decode cX16_rename 43 = .ok (.istore 5, 2) := by decide +kernel
theorem dX16_rename_45 : decode cX16_rename 45 = .ok (.iload 5, 2) := by decide +kernel
theorem dX16_rename_47 : decode cX16_rename 47 = .ok (.iconst (-1), 1) := by decide +kernel
theorem dX16_rename_48 : decode cX16_rename 48 = .ok (.if_icmp .eq 18, 3) := by decide +kernel
theorem dX16_rename_51 : decode cX16_rename 51 = .ok (.iload 5, 2) := by decide +kernel
theorem dX16_rename_53 : decode cX16_rename 53 = .ok (.iload 4, 2) := by decide +kernel
theorem dX16_rename_55 : decode cX16_rename 55 = .ok (.if_icmp .eq 11, 3) := by decide +kernel
theorem dX16_rename_58 : decode cX16_rename 58 = .ok (.aload_n 0, 1) := by decide +kernel
