theorem dX3_readLog_29 : decode cX3_readLog 29 = .ok (.aload_n 0, 1) := by decide +kernel
theorem dX3_readLog_30 : decode cX3_readLog 30 = .ok (.invokevirtual 101, 3) := by decide +kernel
theorem dX3_readLog_33 : decode cX3_readLog 33 = .ok (.lstore_n 3, 1) := by decide +kernel
theorem dX3_readLog_34 : decode cX3_readLog 34 = .ok (.lload_n 3, 1) := by decide +kernel
theorem dX3_readLog_35 : decode cX3_readLog 35 = .ok (.ldc2_w 105, 3) := by decide +kernel
theorem dX3_readLog_38 : decode cX3_readLog 38 = .ok (.lcmp, 1) := by decide +kernel
theorem dX3_readLog_39 : decode cX3_readLog 39 = .ok (.ifCond .le 10, 3) := by decide +kernel
theorem dX3_readLog_42 : decode cX3_readLog 42 = .ok (.aload_n 0, 1) := by decide +kernel
theorem dX3_readLog_43 : decode cX3_readLog 43 = .ok (.bipush 6, 2) := by decide +kernel
theorem dX3_readLog_45 : decode cX3_readLog 45 = .ok (.iconst 0, 1) := by decide +kernel
theorem dX3_readLog_46 : decode cX3_readLog 46 = .ok (.invokevirtual 107, 3) := by decide +kernel
theorem dX3_readLog_49 : decode cX3_readLog 49 = .ok (.sipush 2048, 3) := by decide +kernel
theorem dX3_readLog_52 : decode cX3_readLog 52 = .ok (.istore 5, 2) := by decide +kernel
theorem dX3_readLog_54 : decode cX3_readLog 54 = .ok (.iload 5, 2) := by decide +kernel
theorem dX3_readLog_56 : decode cX3_readLog 56 = .ok (.ifCond .le 31, 3) := by decide +kernel
theorem dX3_readLog_59 : decode cX3_readLog 59 = .ok (.aload_n 0, 1) := by decide +kernel
theorem dX3_readLog_60 : decode cX3_readLog 60 = .ok (.getfield 95, 3) := by decide +kernel
theorem dX3_readLog_63 : decode cX3_readLog 63 = .ok (.ifCond .ne 24, 3) := by decide +kernel
theorem dX3_readLog_66 : decode cX3_readLog 66 = .ok (.aload_n 0, 1) := by decide +kernel
theorem dX3_readLog_67 : decode cX3_readLog 67 = .ok (.getfield 39, 3) := by decide +kernel
theorem dX3_readLog_70 : decode cX3_readLog 70 = .ok (.i2l, 1) := by decide +kernel
theorem dX3_readLog_71 : decode cX3_readLog 71 = .ok (.lload_n 3, 1) := by decide +kernel
theorem dX3_readLog_72 : decode cX3_readLog 72 = .ok (.lcmp, 1) := by decide +kernel
theorem dX3_readLog_73 : decode cX3_readLog 73 = .ok (.ifCond .ge 14, 3) := by decide +kernel
theorem dX3_readLog_76 : decode cX3_readLog 76 = .ok (.aload_n 0, 1) := by decide +kernel
theorem dX3_readLog_77 : decode cX3_readLog 77 = .ok (.lload_n 3, 1) := by decide +kernel
theorem dX3_readLog_78 : decode cX3_readLog 78 = .ok (.invokevirtual 111, 3) := by decide +kernel
theorem dX3_readLog_81 : decode cX3_readLog 81 = .ok (.iinc 5 (-1), 3) := by decide +kernel
theorem dX3_readLog_84 : decode cX3_readLog 84 = .ok (.goto (-30), 3) := by decide +kernel
theorem dX3_readLog_87 : decode cX3_readLog 87 = .ok (.aload_n 0, 1) := by decide +kernel
theorem dX3_readLog_88 : decode cX3_readLog 88 = .ok (.getfield 44, 3) := by decide +kernel
theorem dX3_readLog_91 : decode cX3_readLog 91 = .ok (.aload_n 0, 1) := by decide +kernel
theorem dX3_readLog_92 : decode cX3_readLog 92 = .ok (.getfield 92, 3) := by decide +kernel
theorem dX3_readLog_95 : decode cX3_readLog 95 = .ok (.if_icmp .ge 13, 3) := by decide +kernel
theorem dX3_readLog_98 : decode cX3_readLog 98 = .ok (.aload_n 0, 1) := by decide +kernel
theorem dX3_readLog_99 : decode cX3_readLog 99 = .ok (.bipush 7, 2) := by decide +kernel
theorem dX3_readLog_101 : decode cX3_readLog 101 = .ok (.aload_n 0, 1) := by decide +kernel
theorem dX3_readLog_102 : decode cX3_readLog 102 = .ok (.getfield 44, 3) := by decide +kernel
theorem dX3_readLog_105 : decode cX3_readLog 105 = .ok (.invokevirtual 107, 3) := by decide +kernel
theorem dX3_readLog_108 : decode cX3_readLog 108 = .ok (.aload_n 0, 1) := by decide +kernel
theorem dX3_readLog_109 : decode cX3_readLog 109 = .ok (.getfield 95, 3) := by decide +kernel
theorem dX3_readLog_112 : decode cX3_readLog 112 = .ok (.ifCond .ne 10, 3) := by decide +kernel
theorem dX3_readLog_115 : decode cX3_readLog 115 = .ok (.aload_n 0, 1) := by decide +kernel
theorem dX3_readLog_116 : decode cX3_readLog 116 = .ok (.getfield 39, 3) := by decide +kernel
theorem dX3_readLog_119 : decode cX3_readLog 119 = .ok (.goto 17, 3) := by decide +kernel
theorem dX3_readLog_122 : decode cX3_readLog 122 = .ok (.iconst (-1), 1) := by decide +kernel
theorem dX3_readLog_123 : decode cX3_readLog 123 = .ok (.aload_n 0, 1) := by decide +kernel
theorem dX3_readLog_124 : decode cX3_readLog 124 = .ok (.getfield 95, 3) := by decide +kernel
theorem dX3_readLog_127 : decode cX3_readLog 127 = .ok (.bipush 8, 2) := by decide +kernel
theorem dX3_readLog_129 : decode cX3_readLog 129 = .ok (.aload_n 0, 1) := by decide +kernel
theorem dX3_readLog_130 : decode cX3_readLog 130 = .ok (.getfield 114, 3) := by decide +kernel
theorem dX3_readLog_133 : decode cX3_readLog 133 = .ok (.imul, 1) := by decide +kernel
theorem dX3_readLog_134 : decode cX3_readLog 134 = .ok (.iadd, 1) := by decide +kernel
theorem dX3_readLog_135 : decode cX3_readLog 135 = .ok (.isub, 1) := by decide +kernel
theorem dX3_readLog_136 : decode cX3_readLog 136 = .ok (.ireturn, 1) := by decide +kernel
theorem dX3_blame_0 : decode cX3_blame 0 = .ok (.aload_n 0, 1) := by decide +kernel
theorem dX3_blame_1 : decode cX3_blame 1 = .ok (.getfield 95, 3) := by decide +kernel
theorem dX3_blame_4 : decode cX3_blame 4 = .ok (.ifCond .ne 13, 3) := by decide +kernel
theorem dX3_blame_7 : decode cX3_blame 7 = .ok (.aload_n 0, 1) := by decide +kernel
theorem dX3_blame_8 : decode cX3_blame 8 = .ok (.iload_n 1, 1) := by decide +kernel
theorem dX3_blame_9 : decode cX3_blame 9 = .ok (.putfield 95, 3) := by decide +kernel
theorem dX3_blame_12 : decode cX3_blame 12 = .ok (.aload_n 0, 1) := by decide +kernel
theorem dX3_blame_13 : decode cX3_blame 13 = .ok (.iload_n 2, 1) := by decide +kernel
theorem dX3_blame_14 : decode cX3_blame 14 = .ok (.putfield 114, 3) := by decide +kernel
theorem dX3_blame_17 : decode cX3_blame 17 = .ok (.return_, 1) := by decide +kernel
theorem dX3_readByte_0 : decode cX3_readByte 0 = .ok (.aload_n 0, 1) := by decide +kernel
theorem dX3_readByte_1 : decode cX3_readByte 1 = .ok (.getfield 44, 3) := by decide +kernel
theorem dX3_readByte_4 : decode cX3_readByte 4 = .ok (.aload_n 0, 1) := by decide +kernel
theorem dX3_readByte_5 : decode cX3_readByte 5 = .ok (.getfield 92, 3) := by decide +kernel
theorem dX3_readByte_8 : decode cX3_readByte 8 = .ok (.if_icmp .lt 14, 3) := by decide +kernel
theorem dX3_readByte_11 : decode cX3_readByte 11 = .ok (.aload_n 0, 1) := by decide +kernel
theorem dX3_readByte_12 : decode cX3_readByte 12 = .ok (.iconst 2, 1) := by decide +kernel
theorem dX3_readByte_13 : decode cX3_readByte 13 = .ok (.aload_n 0, 1) := by decide +kernel
theorem dX3_readByte_14 : decode cX3_readByte 14 = .ok (.getfield 92, 3) := by decide +kernel
theorem dX3_readByte_17 : decode cX3_readByte 17 = .ok (.invokevirtual 107, 3) := by decide +kernel
theorem dX3_readByte_20 : decode cX3_readByte 20 = .ok (.iconst 0, 1) := by decide +kernel
theorem dX3_readByte_21 : decode cX3_readByte 21 = .ok (.ireturn, 1) := by decide +kernel
theorem dX3_readByte_22 : decode cX3_readByte 22 = .ok (.aload_n 0, 1) := by decide +kernel
theorem dX3_readByte_23 : decode cX3_readByte 23 = .ok (.dup, 1) := by decide +kernel
theorem dX3_readByte_24 : decode cX3_readByte 24 = .ok (.getfield 44, 3) := by decide +kernel
theorem dX3_readByte_27 : decode cX3_readByte 27 = .ok (.iconst 1, 1) := by decide +kernel
theorem dX3_readByte_28 : decode cX3_readByte 28 = .ok (.iadd, 1) := by decide +kernel
theorem dX3_readByte_29 : decode cX3_readByte 29 = .ok (.putfield 44, 3) := by decide +kernel
theorem dX3_readByte_32 : decode cX3_readByte 32 = .ok (.aload_n 0, 1) := by decide +kernel
theorem dX3_readByte_33 : decode cX3_readByte 33 = .ok (.getfield 23, 3) := by decide +kernel
theorem dX3_readByte_36 : decode cX3_readByte 36 = .ok (.aload_n 0, 1) := by decide +kernel
theorem dX3_readByte_37 : decode cX3_readByte 37 = .ok (.getfield 44, 3) := by decide +kernel
theorem dX3_readByte_40 : decode cX3_readByte 40 = .ok (.iconst 1, 1) := by decide +kernel
theorem dX3_readByte_41 : decode cX3_readByte 41 = .ok (.isub, 1) := by decide +kernel
theorem dX3_readByte_42 : decode cX3_readByte 42 = .ok (.baload, 1) := by decide +kernel
theorem dX3_readByte_43 : decode cX3_readByte 43 = .ok (.sipush 255, 3) := by decide +kernel
theorem dX3_readByte_46 : decode cX3_readByte 46 = .ok (.iand, 1) := by decide +kernel
theorem dX3_readByte_47 : decode cX3_readByte 47 = .ok (.ireturn, 1) := by decide +kernel
theorem dX3_readVarint_0 : decode cX3_readVarint 0 = .ok (.lconst 0, 1) := by decide +kernel
theorem dX3_readVarint_1 : decode cX3_readVarint 1 = .ok (.lstore_n 1, 1) := by decide +kernel
theorem dX3_readVarint_2 : decode cX3_readVarint 2 = .ok (.iconst 0, 1) := by decide +kernel
theorem dX3_readVarint_3 : decode cX3_readVarint 3 = .ok (.istore_n 3, 1) := by decide +kernel
theorem dX3_readVarint_4 : decode cX3_readVarint 4 = .ok (.iload_n 3, 1) := by decide +kernel
theorem dX3_readVarint_5 : decode cX3_readVarint 5 = .ok (.bipush 7, 2) := by decide +kernel
theorem dX3_readVarint_7 : decode cX3_readVarint 7 = .ok (.if_icmp .ge 74, 3) := by decide +kernel
theorem dX3_readVarint_10 : decode cX3_readVarint 10 = .ok (.aload_n 0, 1) := by decide +kernel
theorem dX3_readVarint_11 : decode cX3_readVarint 11 = .ok (.getfield 95, 3) := by decide +kernel
theorem dX3_readVarint_14 : decode cX3_readVarint 14 = .ok (.ifCond .ne 67, 3) := by decide +kernel
theorem dX3_readVarint_17 : decode cX3_readVarint 17 = .ok (.aload_n 0, 1) := by decide +kernel
theorem dX3_readVarint_18 : decode cX3_readVarint 18 = .ok (.invokevirtual 117, 3) := by decide +kernel
theorem dX3_readVarint_21 : decode cX3_readVarint 21 = .ok (.istore 4, 2) := by decide +kernel
theorem dX3_readVarint_23 : decode cX3_readVarint 23 = .ok (.lload_n 1, 1) := by decide +kernel
theorem dX3_readVarint_24 : decode cX3_readVarint 24 = .ok (.iload 4, 2) := by decide +kernel
theorem dX3_readVarint_26 : decode cX3_readVarint 26 = .ok (.bipush 127, 2) := by decide +kernel
theorem dX3_readVarint_28 : decode cX3_readVarint 28 = .ok (.iand, 1) := by decide +kernel
theorem dX3_readVarint_29 : decode cX3_readVarint 29 = .ok (.i2l, 1) := by decide +kernel
theorem dX3_readVarint_30 : decode cX3_readVarint 30 = .ok (.bipush 7, 2) := by decide +kernel
theorem dX3_readVarint_32 : decode cX3_readVarint 32 = .ok (.iload_n 3, 1) := by decide +kernel
theorem dX3_readVarint_33 : decode cX3_readVarint 33 = .ok (.imul, 1) := by decide +kernel
theorem dX3_readVarint_34 : decode cX3_readVarint 34 = .ok (.lshl, 1) := by decide +kernel
theorem dX3_readVarint_35 : decode cX3_readVarint 35 = .ok (.lor, 1) := by decide +kernel
theorem dX3_readVarint_36 : decode cX3_readVarint 36 = .ok (.lstore_n 1, 1) := by decide +kernel
theorem dX3_readVarint_37 : decode cX3_readVarint 37 = .ok (.iload 4, 2) := by decide +kernel
theorem dX3_readVarint_39 : decode cX3_readVarint 39 = .ok (.sipush 128, 3) := by decide +kernel
theorem dX3_readVarint_42 : decode cX3_readVarint 42 = .ok (.if_icmp .ge 33, 3) := by decide +kernel
theorem dX3_readVarint_45 : decode cX3_readVarint 45 = .ok (.iload_n 3, 1) := by decide +kernel
theorem dX3_readVarint_46 : decode cX3_readVarint 46 = .ok (.ifCond .le 8, 3) := by decide +kernel
theorem dX3_readVarint_49 : decode cX3_readVarint 49 = .ok (.iload 4, 2) := by decide +kernel
theorem dX3_readVarint_51 : decode cX3_readVarint 51 = .ok (.ifCond .eq 11, 3) := by decide +kernel
theorem dX3_readVarint_54 : decode cX3_readVarint 54 = .ok (.lload_n 1, 1) := by decide +kernel
theorem dX3_readVarint_55 : decode cX3_readVarint 55 = .ok (.ldc2_w 31, 3) := by decide +kernel
theorem dX3_readVarint_58 : decode cX3_readVarint 58 = .ok (.lcmp, 1) := by decide +kernel
theorem dX3_readVarint_59 : decode cX3_readVarint 59 = .ok (.ifCond .le 14, 3) := by decide +kernel
theorem dX3_readVarint_62 : decode cX3_readVarint 62 = .ok (.aload_n 0, 1) := by decide +kernel
theorem dX3_readVarint_63 : decode cX3_readVarint 63 = .ok (.iconst 3, 1) := by decide +kernel
theorem dX3_readVarint_64 : decode cX3_readVarint 64 = .ok (.aload_n 0, 1) := by decide +kernel
theorem dX3_readVarint_65 : decode cX3_readVarint 65 = .ok (.getfield 44, 3) := by decide +kernel
theorem dX3_readVarint_68 : decode cX3_readVarint 68 = .ok (.iconst 1, 1) := by decide +kernel
theorem dX3_readVarint_69 : decode cX3_readVarint 69 = .ok (.isub, 1) := by decide +kernel
theorem dX3_readVarint_70 : decode cX3_readVarint 70 = .ok (.invokevirtual 107, 3) := by decide +kernel
theorem dX3_readVarint_73 : decode cX3_readVarint 73 = .ok (.lload_n 1, 1) := by decide +kernel
theorem dX3_readVarint_74 : decode cX3_readVarint 74 = .ok (.lreturn, 1) := by decide +kernel
theorem dX3_readVarint_75 : decode cX3_readVarint 75 = .ok (.iinc 3 1, 3) := by decide +kernel
theorem dX3_readVarint_78 : decode cX3_readVarint 78 = .ok (.goto (-74), 3) := by decide +kernel
theorem dX3_readVarint_81 : decode cX3_readVarint 81 = .ok (.aload_n 0, 1) := by decide +kernel
theorem dX3_readVarint_82 : decode cX3_readVarint 82 = .ok (.iconst 3, 1) := by decide +kernel
theorem dX3_readVarint_83 : decode cX3_readVarint 83 = .ok (.aload_n 0, 1) := by decide +kernel
theorem dX3_readVarint_84 : decode cX3_readVarint 84 = .ok (.getfield 44, 3) := by decide +kernel
theorem dX3_readVarint_87 : decode cX3_readVarint 87 = .ok (.iconst 1, 1) := by decide +kernel
theorem dX3_readVarint_88 : decode cX3_readVarint 88 = .ok (.isub, 1) := by decide +kernel
theorem dX3_readVarint_89 : decode cX3_readVarint 89 = .ok (.invokevirtual 107, 3) := by decide +kernel
theorem dX3_readVarint_92 : decode cX3_readVarint 92 = .ok (.lconst 0, 1) := by decide +kernel
theorem dX3_readVarint_93 : decode cX3_readVarint 93 = .ok (.lreturn, 1) := by decide +kernel
theorem dX3_isHead_0 : decode cX3_isHead 0 = .ok (.iload_n 0, 1) := by decide +kernel
theorem dX3_isHead_1 : decode cX3_isHead 1 = .ok (.tableswitch 84 0 5 #[39, 41, 39, 53, 64, 74], 39) := by decide +kernel
theorem dX3_isHead_40 : decode cX3_isHead 40 = .ok (.iconst 1, 1) := by decide +kernel
theorem dX3_isHead_41 : decode cX3_isHead 41 = .ok (.ireturn, 1) := by decide +kernel
theorem dX3_isHead_42 : decode cX3_isHead 42 = .ok (.iload_n 1, 1) := by decide +kernel
theorem dX3_isHead_43 : decode cX3_isHead 43 = .ok (.bipush 8, 2) := by decide +kernel
theorem dX3_isHead_45 : decode cX3_isHead 45 = .ok (.if_icmp .gt 7, 3) := by decide +kernel
theorem dX3_isHead_48 : decode cX3_isHead 48 = .ok (.iconst 1, 1) := by decide +kernel
theorem dX3_isHead_49 : decode cX3_isHead 49 = .ok (.goto 4, 3) := by decide +kernel
theorem dX3_isHead_52 : decode cX3_isHead 52 = .ok (.iconst 0, 1) := by decide +kernel
theorem dX3_isHead_53 : decode cX3_isHead 53 = .ok (.ireturn, 1) := by decide +kernel
theorem dX3_isHead_54 : decode cX3_isHead 54 = .ok (.iload_n 1, 1) := by decide +kernel
theorem dX3_isHead_55 : decode cX3_isHead 55 = .ok (.iconst 1, 1) := by decide +kernel
theorem dX3_isHead_56 : decode cX3_isHead 56 = .ok (.if_icmp .gt 7, 3) := by decide +kernel
theorem dX3_isHead_59 : decode cX3_isHead 59 = .ok (.iconst 1, 1) := by decide +kernel
theorem dX3_isHead_60 : decode cX3_isHead 60 = .ok (.goto 4, 3) := by decide +kernel
theorem dX3_isHead_63 : decode cX3_isHead 63 = .ok (.iconst 0, 1) := by decide +kernel
theorem dX3_isHead_64 : decode cX3_isHead 64 = .ok (.ireturn, 1) := by decide +kernel
theorem dX3_isHead_65 : decode cX3_isHead 65 = .ok (.iload_n 1, 1) := by decide +kernel
theorem dX3_isHead_66 : decode cX3_isHead 66 = .ok (.ifCond .ne 7, 3) := by decide +kernel
theorem dX3_isHead_69 : decode cX3_isHead 69 = .ok (.iconst 1, 1) := by decide +kernel
theorem dX3_isHead_70 : decode cX3_isHead 70 = .ok (.goto 4, 3) := by decide +kernel
theorem dX3_isHead_73 : decode cX3_isHead 73 = .ok (.iconst 0, 1) := by decide +kernel
theorem dX3_isHead_74 : decode cX3_isHead 74 = .ok (.ireturn, 1) := by decide +kernel
theorem dX3_isHead_75 : decode cX3_isHead 75 = .ok (.iload_n 2, 1) := by decide +kernel
theorem dX3_isHead_76 : decode cX3_isHead 76 = .ok (.ifCond .ne 7, 3) := by decide +kernel
theorem dX3_isHead_79 : decode cX3_isHead 79 = .ok (.iconst 1, 1) := by decide +kernel
theorem dX3_isHead_80 : decode cX3_isHead 80 = .ok (.goto 4, 3) := by decide +kernel
theorem dX3_isHead_83 : decode cX3_isHead 83 = .ok (.iconst 0, 1) := by decide +kernel
theorem dX3_isHead_84 : decode cX3_isHead 84 = .ok (.ireturn, 1) := by decide +kernel
theorem dX3_isHead_85 : decode cX3_isHead 85 = .ok (.iconst 0, 1) := by decide +kernel
theorem dX3_isHead_86 : decode cX3_isHead 86 = .ok (.ireturn, 1) := by decide +kernel
theorem dX3_readEntry_0 : decode cX3_readEntry 0 = .ok (.aload_n 0, 1) := by decide +kernel
theorem dX3_readEntry_1 : decode cX3_readEntry 1 = .ok (.getfield 44, 3) := by decide +kernel
theorem dX3_readEntry_4 : decode cX3_readEntry 4 = .ok (.istore_n 3, 1) := by decide +kernel
theorem dX3_readEntry_5 : decode cX3_readEntry 5 = .ok (.aload_n 0, 1) := by decide +kernel
theorem dX3_readEntry_6 : decode cX3_readEntry 6 = .ok (.invokevirtual 117, 3) := by decide +kernel
theorem dX3_readEntry_9 : decode cX3_readEntry 9 = .ok (.istore 4, 2) := by decide +kernel
theorem dX3_readEntry_11 : decode cX3_readEntry 11 = .ok (.iload 4, 2) := by decide +kernel
theorem dX3_readEntry_13 : decode cX3_readEntry 13 = .ok (.bipush 7, 2) := by decide +kernel
theorem dX3_readEntry_15 : decode cX3_readEntry 15 = .ok (.iand, 1) := by decide +kernel
theorem dX3_readEntry_16 : decode cX3_readEntry 16 = .ok (.istore 5, 2) := by decide +kernel
theorem dX3_readEntry_18 : decode cX3_readEntry 18 = .ok (.iload 4, 2) := by decide +kernel
theorem dX3_readEntry_20 : decode cX3_readEntry 20 = .ok (.iconst 4, 1) := by decide +kernel
theorem dX3_readEntry_21 : decode cX3_readEntry 21 = .ok (.ishr, 1) := by decide +kernel
theorem dX3_readEntry_22 : decode cX3_readEntry 22 = .ok (.istore 6, 2) := by decide +kernel
theorem dX3_readEntry_24 : decode cX3_readEntry 24 = .ok (.iload 4, 2) := by decide +kernel
theorem dX3_readEntry_26 : decode cX3_readEntry 26 = .ok (.bipush 8, 2) := by decide +kernel
theorem dX3_readEntry_28 : decode cX3_readEntry 28 = .ok (.iand, 1) := by decide +kernel
theorem dX3_readEntry_29 : decode cX3_readEntry 29 = .ok (.ifCond .eq 7, 3) := by decide +kernel
theorem dX3_readEntry_32 : decode cX3_readEntry 32 = .ok (.iconst 1, 1) := by decide +kernel
theorem dX3_readEntry_33 : decode cX3_readEntry 33 = .ok (.goto 4, 3) := by decide +kernel
theorem dX3_readEntry_36 : decode cX3_readEntry 36 = .ok (.iconst 0, 1) := by decide +kernel
theorem dX3_readEntry_37 : decode cX3_readEntry 37 = .ok (.istore 7, 2) := by decide +kernel
theorem dX3_readEntry_39 : decode cX3_readEntry 39 = .ok (.iload 5, 2) := by decide +kernel
theorem dX3_readEntry_41 : decode cX3_readEntry 41 = .ok (.iload 6, 2) := by decide +kernel
theorem dX3_readEntry_43 : decode cX3_readEntry 43 = .ok (.iload 7, 2) := by decide +kernel
theorem dX3_readEntry_45 : decode cX3_readEntry 45 = .ok (.invokestatic 121, 3) := by decide +kernel
theorem dX3_readEntry_48 : decode cX3_readEntry 48 = .ok (.ifCond .ne 9, 3) := by decide +kernel
theorem dX3_readEntry_51 : decode cX3_readEntry 51 = .ok (.aload_n 0, 1) := by decide +kernel
theorem dX3_readEntry_52 : decode cX3_readEntry 52 = .ok (.iconst 1, 1) := by decide +kernel
theorem dX3_readEntry_53 : decode cX3_readEntry 53 = .ok (.iload_n 3, 1) := by decide +kernel
theorem dX3_readEntry_54 : decode cX3_readEntry 54 = .ok (.invokevirtual 107, 3) := by decide +kernel
theorem dX3_readEntry_57 : decode cX3_readEntry 57 = .ok (.aload_n 0, 1) := by decide +kernel
theorem dX3_readEntry_58 : decode cX3_readEntry 58 = .ok (.getfield 95, 3) := by decide +kernel
theorem dX3_readEntry_61 : decode cX3_readEntry 61 = .ok (.ifCond .eq 4, 3) := by decide +kernel
theorem dX3_readEntry_64 : decode cX3_readEntry 64 = .ok (.return_, 1) := by decide +kernel
theorem dX3_readEntry_65 : decode cX3_readEntry 65 = .ok (.iload 5, 2) := by decide +kernel
theorem dX3_readEntry_67 : decode cX3_readEntry 67 = .ok (.iconst 5, 1) := by decide +kernel
theorem dX3_readEntry_68 : decode cX3_readEntry 68 = .ok (.if_icmp .ne 12, 3) := by decide +kernel
theorem dX3_readEntry_71 : decode cX3_readEntry 71 = .ok (.aload_n 0, 1) := by decide +kernel
theorem dX3_readEntry_72 : decode cX3_readEntry 72 = .ok (.iload_n 3, 1) := by decide +kernel
theorem dX3_readEntry_73 : decode cX3_readEntry 73 = .ok (.iload 6, 2) := by decide +kernel
theorem dX3_readEntry_75 : decode cX3_readEntry 75 = .ok (.lload_n 1, 1) := by decide +kernel
theorem dX3_readEntry_76 : decode cX3_readEntry 76 = .ok (.invokevirtual 125, 3) := by decide +kernel
theorem dX3_readEntry_79 : decode cX3_readEntry 79 = .ok (.return_, 1) := by decide +kernel
theorem dX3_readEntry_80 : decode cX3_readEntry 80 = .ok (.iload 7, 2) := by decide +kernel
theorem dX3_readEntry_82 : decode cX3_readEntry 82 = .ok (.ifCond .eq 27, 3) := by decide +kernel
theorem dX3_readEntry_85 : decode cX3_readEntry 85 = .ok (.aload_n 0, 1) := by decide +kernel
theorem dX3_readEntry_86 : decode cX3_readEntry 86 = .ok (.getfield 39, 3) := by decide +kernel
theorem dX3_readEntry_89 : decode cX3_readEntry 89 = .ok (.ifCond .ne 7, 3) := by decide +kernel
theorem dX3_readEntry_92 : decode cX3_readEntry 92 = .ok (.lconst 0, 1) := by decide +kernel
theorem dX3_readEntry_93 : decode cX3_readEntry 93 = .ok (.goto 20, 3) := by decide +kernel
theorem dX3_readEntry_96 : decode cX3_readEntry 96 = .ok (.aload_n 0, 1) := by decide +kernel
theorem dX3_readEntry_97 : decode cX3_readEntry 97 = .ok (.aload_n 0, 1) := by decide +kernel
theorem dX3_readEntry_98 : decode cX3_readEntry 98 = .ok (.getfield 39, 3) := by decide +kernel
theorem dX3_readEntry_101 : decode cX3_readEntry 101 = .ok (.iconst 1, 1) := by decide +kernel
theorem dX3_readEntry_102 : decode cX3_readEntry 102 = .ok (.isub, 1) := by decide +kernel
theorem dX3_readEntry_103 : decode cX3_readEntry 103 = .ok (.invokevirtual 66, 3) := by decide +kernel
theorem dX3_readEntry_106 : decode cX3_readEntry 106 = .ok (.goto 7, 3) := by decide +kernel
theorem dX3_readEntry_109 : decode cX3_readEntry 109 = .ok (.aload_n 0, 1) := by decide +kernel
theorem dX3_readEntry_110 : decode cX3_readEntry 110 = .ok (.invokevirtual 101, 3) := by decide +kernel
theorem dX3_readEntry_113 : decode cX3_readEntry 113 = .ok (.lstore 8, 2) := by decide +kernel
theorem dX3_readEntry_115 : decode cX3_readEntry 115 = .ok (.aload_n 0, 1) := by decide +kernel
theorem dX3_readEntry_116 : decode cX3_readEntry 116 = .ok (.getfield 95, 3) := by decide +kernel
theorem dX3_readEntry_119 : decode cX3_readEntry 119 = .ok (.ifCond .ne 37, 3) := by decide +kernel
theorem dX3_readEntry_122 : decode cX3_readEntry 122 = .ok (.aload_n 0, 1) := by decide +kernel
theorem dX3_readEntry_123 : decode cX3_readEntry 123 = .ok (.iload_n 3, 1) := by decide +kernel
theorem dX3_readEntry_124 : decode cX3_readEntry 124 = .ok (.iload 5, 2) := by decide +kernel
theorem dX3_readEntry_126 : decode cX3_readEntry 126 = .ok (.iload 6, 2) := by decide +kernel
theorem dX3_readEntry_128 : decode cX3_readEntry 128 = .ok (.lload 8, 2) := by decide +kernel
theorem dX3_readEntry_130 : decode cX3_readEntry 130 = .ok (.aload_n 0, 1) := by decide +kernel
theorem dX3_readEntry_131 : decode cX3_readEntry 131 = .ok (.getfield 39, 3) := by decide +kernel
theorem dX3_readEntry_134 : decode cX3_readEntry 134 = .ok (.ifCond .ne 7, 3) := by decide +kernel
theorem dX3_readEntry_137 : decode cX3_readEntry 137 = .ok (.lconst 0, 1) := by decide +kernel
theorem dX3_readEntry_138 : decode cX3_readEntry 138 = .ok (.goto 14, 3) := by decide +kernel
theorem dX3_readEntry_141 : decode cX3_readEntry 141 = .ok (.aload_n 0, 1) := by decide +kernel
theorem dX3_readEntry_142 : decode cX3_readEntry 142 = .ok (.getfield 13, 3) := by decide +kernel
theorem dX3_readEntry_145 : decode cX3_readEntry 145 = .ok (.aload_n 0, 1) := by decide +kernel
theorem dX3_readEntry_146 : decode cX3_readEntry 146 = .ok (.getfield 39, 3) := by decide +kernel
theorem dX3_readEntry_149 : decode cX3_readEntry 149 = .ok (.iconst 1, 1) := by decide +kernel
theorem dX3_readEntry_150 : decode cX3_readEntry 150 = .ok (.isub, 1) := by decide +kernel
theorem dX3_readEntry_151 : decode cX3_readEntry 151 = .ok (.laload, 1) := by decide +kernel
theorem dX3_readEntry_152 : decode cX3_readEntry 152 = .ok (.ladd, 1) := by decide +kernel
theorem dX3_readEntry_153 : decode cX3_readEntry 153 = .ok (.invokevirtual 129, 3) := by decide +kernel
theorem dX3_readEntry_156 : decode cX3_readEntry 156 = .ok (.return_, 1) := by decide +kernel
theorem dX3_readRepeat_0 : decode cX3_readRepeat 0 = .ok (.aload_n 0, 1) := by decide +kernel
theorem dX3_readRepeat_1 : decode cX3_readRepeat 1 = .ok (.getfield 39, 3) := by decide +kernel
theorem dX3_readRepeat_4 : decode cX3_readRepeat 4 = .ok (.ifCond .ne 10, 3) := by decide +kernel
theorem dX3_readRepeat_7 : decode cX3_readRepeat 7 = .ok (.aload_n 0, 1) := by decide +kernel
theorem dX3_readRepeat_8 : decode cX3_readRepeat 8 = .ok (.iconst 4, 1) := by decide +kernel
theorem dX3_readRepeat_9 : decode cX3_readRepeat 9 = .ok (.iload_n 1, 1) := by decide +kernel
theorem dX3_readRepeat_10 : decode cX3_readRepeat 10 = .ok (.invokevirtual 107, 3) := by decide +kernel
theorem dX3_readRepeat_13 : decode cX3_readRepeat 13 = .ok (.return_, 1) := by decide +kernel
theorem dX3_readRepeat_14 : decode cX3_readRepeat 14 = .ok (.aload_n 0, 1) := by decide +kernel
theorem dX3_readRepeat_15 : decode cX3_readRepeat 15 = .ok (.getfield 44, 3) := by decide +kernel
theorem dX3_readRepeat_18 : decode cX3_readRepeat 18 = .ok (.istore 5, 2) := by decide +kernel
theorem dX3_readRepeat_20 : decode cX3_readRepeat 20 = .ok (.iload_n 2, 1) := by decide +kernel
theorem dX3_readRepeat_21 : decode cX3_readRepeat 21 = .ok (.ifCond .ne 10, 3) := by decide +kernel
theorem dX3_readRepeat_24 : decode cX3_readRepeat 24 = .ok (.aload_n 0, 1) := by decide +kernel
theorem dX3_readRepeat_25 : decode cX3_readRepeat 25 = .ok (.invokevirtual 101, 3) := by decide +kernel
theorem dX3_readRepeat_28 : decode cX3_readRepeat 28 = .ok (.goto 5, 3) := by decide +kernel
theorem dX3_readRepeat_31 : decode cX3_readRepeat 31 = .ok (.iload_n 2, 1) := by decide +kernel
theorem dX3_readRepeat_32 : decode cX3_readRepeat 32 = .ok (.i2l, 1) := by decide +kernel
theorem dX3_readRepeat_33 : decode cX3_readRepeat 33 = .ok (.lstore 6, 2) := by decide +kernel
theorem dX3_readRepeat_35 : decode cX3_readRepeat 35 = .ok (.lload 6, 2) := by decide +kernel
theorem dX3_readRepeat_37 : decode cX3_readRepeat 37 = .ok (.lconst 0, 1) := by decide +kernel
theorem dX3_readRepeat_38 : decode cX3_readRepeat 38 = .ok (.lcmp, 1) := by decide +kernel
theorem dX3_readRepeat_39 : decode cX3_readRepeat 39 = .ok (.ifCond .ne 10, 3) := by decide +kernel
theorem dX3_readRepeat_42 : decode cX3_readRepeat 42 = .ok (.aload_n 0, 1) := by decide +kernel
theorem dX3_readRepeat_43 : decode cX3_readRepeat 43 = .ok (.iconst 5, 1) := by decide +kernel
theorem dX3_readRepeat_44 : decode cX3_readRepeat 44 = .ok (.iload 5, 2) := by decide +kernel
theorem dX3_readRepeat_46 : decode cX3_readRepeat 46 = .ok (.invokevirtual 107, 3) := by decide +kernel
theorem dX3_readRepeat_49 : decode cX3_readRepeat 49 = .ok (.aload_n 0, 1) := by decide +kernel
theorem dX3_readRepeat_50 : decode cX3_readRepeat 50 = .ok (.getfield 39, 3) := by decide +kernel
theorem dX3_readRepeat_53 : decode cX3_readRepeat 53 = .ok (.i2l, 1) := by decide +kernel
theorem dX3_readRepeat_54 : decode cX3_readRepeat 54 = .ok (.lload 6, 2) := by decide +kernel
theorem dX3_readRepeat_56 : decode cX3_readRepeat 56 = .ok (.ladd, 1) := by decide +kernel
theorem dX3_readRepeat_57 : decode cX3_readRepeat 57 = .ok (.lload_n 3, 1) := by decide +kernel
theorem dX3_readRepeat_58 : decode cX3_readRepeat 58 = .ok (.lcmp, 1) := by decide +kernel
theorem dX3_readRepeat_59 : decode cX3_readRepeat 59 = .ok (.ifCond .le 10, 3) := by decide +kernel
theorem dX3_readRepeat_62 : decode cX3_readRepeat 62 = .ok (.aload_n 0, 1) := by decide +kernel
theorem dX3_readRepeat_63 : decode cX3_readRepeat 63 = .ok (.bipush 6, 2) := by decide +kernel
theorem dX3_readRepeat_65 : decode cX3_readRepeat 65 = .ok (.iload_n 1, 1) := by decide +kernel
theorem dX3_readRepeat_66 : decode cX3_readRepeat 66 = .ok (.invokevirtual 107, 3) := by decide +kernel
theorem dX3_readRepeat_69 : decode cX3_readRepeat 69 = .ok (.aload_n 0, 1) := by decide +kernel
theorem dX3_readRepeat_70 : decode cX3_readRepeat 70 = .ok (.aload_n 0, 1) := by decide +kernel
theorem dX3_readRepeat_71 : decode cX3_readRepeat 71 = .ok (.getfield 39, 3) := by decide +kernel
theorem dX3_readRepeat_74 : decode cX3_readRepeat 74 = .ok (.iconst 1, 1) := by decide +kernel
theorem dX3_readRepeat_75 : decode cX3_readRepeat 75 = .ok (.isub, 1) := by decide +kernel
theorem dX3_readRepeat_76 : decode cX3_readRepeat 76 = .ok (.invokevirtual 66, 3) := by decide +kernel
theorem dX3_readRepeat_79 : decode cX3_readRepeat 79 = .ok (.lstore 8, 2) := by decide +kernel
theorem dX3_readRepeat_81 : decode cX3_readRepeat 81 = .ok (.lload 6, 2) := by decide +kernel
theorem dX3_readRepeat_83 : decode cX3_readRepeat 83 = .ok (.lstore 10, 2) := by decide +kernel
theorem dX3_readRepeat_85 : decode cX3_readRepeat 85 = .ok (.lload 10, 2) := by decide +kernel
theorem dX3_readRepeat_87 : decode cX3_readRepeat 87 = .ok (.lconst 0, 1) := by decide +kernel
theorem dX3_readRepeat_88 : decode cX3_readRepeat 88 = .ok (.lcmp, 1) := by decide +kernel
theorem dX3_readRepeat_89 : decode cX3_readRepeat 89 = .ok (.ifCond .le 71, 3) := by decide +kernel
theorem dX3_readRepeat_92 : decode cX3_readRepeat 92 = .ok (.aload_n 0, 1) := by decide +kernel
theorem dX3_readRepeat_93 : decode cX3_readRepeat 93 = .ok (.getfield 95, 3) := by decide +kernel
theorem dX3_readRepeat_96 : decode cX3_readRepeat 96 = .ok (.ifCond .ne 64, 3) := by decide +kernel
theorem dX3_readRepeat_99 : decode cX3_readRepeat 99 = .ok (.aload_n 0, 1) := by decide +kernel
theorem dX3_readRepeat_100 : decode cX3_readRepeat 100 = .ok (.aload_n 0, 1) := by decide +kernel
theorem dX3_readRepeat_101 : decode cX3_readRepeat 101 = .ok (.getfield 9, 3) := by decide +kernel
theorem dX3_readRepeat_104 : decode cX3_readRepeat 104 = .ok (.aload_n 0, 1) := by decide +kernel
theorem dX3_readRepeat_105 : decode cX3_readRepeat 105 = .ok (.getfield 39, 3) := by decide +kernel
theorem dX3_readRepeat_108 : decode cX3_readRepeat 108 = .ok (.iconst 1, 1) := by decide +kernel
theorem dX3_readRepeat_109 : decode cX3_readRepeat 109 = .ok (.isub, 1) := by decide +kernel
theorem dX3_readRepeat_110 : decode cX3_readRepeat 110 = .ok (.iaload, 1) := by decide +kernel
theorem dX3_readRepeat_111 : decode cX3_readRepeat 111 = .ok (.aload_n 0, 1) := by decide +kernel
theorem dX3_readRepeat_112 : decode cX3_readRepeat 112 = .ok (.getfield 13, 3) := by decide +kernel
theorem dX3_readRepeat_115 : decode cX3_readRepeat 115 = .ok (.aload_n 0, 1) := by decide +kernel
theorem dX3_readRepeat_116 : decode cX3_readRepeat 116 = .ok (.getfield 39, 3) := by decide +kernel
theorem dX3_readRepeat_119 : decode cX3_readRepeat 119 = .ok (.iconst 1, 1) := by decide +kernel
theorem dX3_readRepeat_120 : decode cX3_readRepeat 120 = .ok (.isub, 1) := by decide +kernel
theorem dX3_readRepeat_121 : decode cX3_readRepeat 121 = .ok (.laload, 1) := by decide +kernel
theorem dX3_readRepeat_122 : decode cX3_readRepeat 122 = .ok (.lload 8, 2) := by decide +kernel
theorem dX3_readRepeat_124 : decode cX3_readRepeat 124 = .ok (.ladd, 1) := by decide +kernel
theorem dX3_readRepeat_125 : decode cX3_readRepeat 125 = .ok (.aload_n 0, 1) := by decide +kernel
theorem dX3_readRepeat_126 : decode cX3_readRepeat 126 = .ok (.getfield 17, 3) := by decide +kernel
theorem dX3_readRepeat_129 : decode cX3_readRepeat 129 = .ok (.aload_n 0, 1) := by decide +kernel
theorem dX3_readRepeat_130 : decode cX3_readRepeat 130 = .ok (.getfield 39, 3) := by decide +kernel
theorem dX3_readRepeat_133 : decode cX3_readRepeat 133 = .ok (.iconst 1, 1) := by decide +kernel
theorem dX3_readRepeat_134 : decode cX3_readRepeat 134 = .ok (.isub, 1) := by decide +kernel
theorem dX3_readRepeat_135 : decode cX3_readRepeat 135 = .ok (.laload, 1) := by decide +kernel
theorem dX3_readRepeat_136 : decode cX3_readRepeat 136 = .ok (.aload_n 0, 1) := by decide +kernel
theorem dX3_readRepeat_137 : decode cX3_readRepeat 137 = .ok (.getfield 20, 3) := by decide +kernel
theorem dX3_readRepeat_140 : decode cX3_readRepeat 140 = .ok (.aload_n 0, 1) := by decide +kernel
theorem dX3_readRepeat_141 : decode cX3_readRepeat 141 = .ok (.getfield 39, 3) := by decide +kernel
theorem dX3_readRepeat_144 : decode cX3_readRepeat 144 = .ok (.iconst 1, 1) := by decide +kernel
theorem dX3_readRepeat_145 : decode cX3_readRepeat 145 = .ok (.isub, 1) := by decide +kernel
theorem dX3_readRepeat_146 : decode cX3_readRepeat 146 = .ok (.iaload, 1) := by decide +kernel
