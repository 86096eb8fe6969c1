theorem dX1_put_25 : decode cX1_put 25 = .ok (.if_icmp .ge 21, 3) := by decide +kernel
theorem dX1_put_28 : decode cX1_put 28 = .ok (.aload_n 1, 1) := by decide +kernel
theorem dX1_put_29 : decode cX1_put 29 = .ok (.getfield 300, 3) := by decide +kernel
theorem dX1_put_32 : decode cX1_put 32 = .ok (.iload_n 2, 1) := by decide +kernel
theorem dX1_put_33 : decode cX1_put 33 = .ok (.iload 5, 2) := by decide +kernel
theorem dX1_put_35 : decode cX1_put 35 = .ok (.iadd, 1) := by decide +kernel
theorem dX1_put_36 : decode cX1_put 36 = .ok (.iload 4, 2) := by decide +kernel
theorem dX1_put_38 : decode cX1_put 38 = .ok (.bipush 8, 2) := by decide +kernel
theorem dX1_put_40 : decode cX1_put 40 = .ok (.iload 5, 2) := by decide +kernel
theorem dX1_put_42 : decode cX1_put 42 = .ok (.imul, 1) := by decide +kernel
theorem dX1_put_43 : decode cX1_put 43 = .ok (.ishr, 1) := by decide +kernel
theorem dX1_put_44 : decode cX1_put 44 = .ok (.i2b, 1) := by decide +kernel
theorem dX1_put_45 : decode cX1_put 45 = .ok (.bastore, 1) := by decide +kernel
theorem dX1_put_46 : decode cX1_put 46 = .ok (.iinc 5 1, 3) := by decide +kernel
theorem dX1_put_49 : decode cX1_put 49 = .ok (.goto (-46), 3) := by decide +kernel
theorem dX1_put_52 : decode cX1_put 52 = .ok (.return_, 1) := by decide +kernel
theorem dX1_worked_0 : decode cX1_worked 0 = .ok (.aload_n 0, 1) := by decide +kernel
theorem dX1_worked_1 : decode cX1_worked 1 = .ok (.getfield 12, 3) := by decide +kernel
theorem dX1_worked_4 : decode cX1_worked 4 = .ok (.iload_n 1, 1) := by decide +kernel
theorem dX1_worked_5 : decode cX1_worked 5 = .ok (.iload_n 2, 1) := by decide +kernel
theorem dX1_worked_6 : decode cX1_worked 6 = .ok (.invokevirtual 220, 3) := by decide +kernel
theorem dX1_worked_9 : decode cX1_worked 9 = .ok (.istore_n 3, 1) := by decide +kernel
theorem dX1_worked_10 : decode cX1_worked 10 = .ok (.aload_n 0, 1) := by decide +kernel
theorem dX1_worked_11 : decode cX1_worked 11 = .ok (.getfield 12, 3) := by decide +kernel
theorem dX1_worked_14 : decode cX1_worked 14 = .ok (.getfield 223, 3) := by decide +kernel
theorem dX1_worked_17 : decode cX1_worked 17 = .ok (.ifCond .eq 14, 3) := by decide +kernel
theorem dX1_worked_20 : decode cX1_worked 20 = .ok (.aload_n 0, 1) := by decide +kernel
theorem dX1_worked_21 : decode cX1_worked 21 = .ok (.aload_n 0, 1) := by decide +kernel
theorem dX1_worked_22 : decode cX1_worked 22 = .ok (.getfield 12, 3) := by decide +kernel
theorem dX1_worked_25 : decode cX1_worked 25 = .ok (.getfield 223, 3) := by decide +kernel
theorem dX1_worked_28 : decode cX1_worked 28 = .ok (.invokevirtual 77, 3) := by decide +kernel
theorem dX1_worked_31 : decode cX1_worked 31 = .ok (.iload_n 3, 1) := by decide +kernel
theorem dX1_worked_32 : decode cX1_worked 32 = .ok (.ireturn, 1) := by decide +kernel
theorem dX1_checked_0 : decode cX1_checked 0 = .ok (.iload_n 1, 1) := by decide +kernel
theorem dX1_checked_1 : decode cX1_checked 1 = .ok (.iload_n 2, 1) := by decide +kernel
theorem dX1_checked_2 : decode cX1_checked 2 = .ok (.invokestatic 257, 3) := by decide +kernel
theorem dX1_checked_5 : decode cX1_checked 5 = .ok (.ifCond .ne 9, 3) := by decide +kernel
theorem dX1_checked_8 : decode cX1_checked 8 = .ok (.aload_n 0, 1) := by decide +kernel
theorem dX1_checked_9 : decode cX1_checked 9 = .ok (.bipush 10, 2) := by decide +kernel
theorem dX1_checked_11 : decode cX1_checked 11 = .ok (.invokevirtual 77, 3) := by decide +kernel
theorem dX1_checked_14 : decode cX1_checked 14 = .ok (.iload_n 1, 1) := by decide +kernel
theorem dX1_checked_15 : decode cX1_checked 15 = .ok (.iload_n 2, 1) := by decide +kernel
theorem dX1_checked_16 : decode cX1_checked 16 = .ok (.invokestatic 261, 3) := by decide +kernel
theorem dX1_checked_19 : decode cX1_checked 19 = .ok (.ireturn, 1) := by decide +kernel
theorem dX1_putPlain_0 : decode cX1_putPlain 0 = .ok (.aload_n 0, 1) := by decide +kernel
theorem dX1_putPlain_1 : decode cX1_putPlain 1 = .ok (.getfield 19, 3) := by decide +kernel
theorem dX1_putPlain_4 : decode cX1_putPlain 4 = .ok (.iload_n 2, 1) := by decide +kernel
theorem dX1_putPlain_5 : decode cX1_putPlain 5 = .ok (.iconst 5, 1) := by decide +kernel
theorem dX1_putPlain_6 : decode cX1_putPlain 6 = .ok (.iadd, 1) := by decide +kernel
theorem dX1_putPlain_7 : decode cX1_putPlain 7 = .ok (.iaload, 1) := by decide +kernel
theorem dX1_putPlain_8 : decode cX1_putPlain 8 = .ok (.istore_n 3, 1) := by decide +kernel
theorem dX1_putPlain_9 : decode cX1_putPlain 9 = .ok (.aload_n 0, 1) := by decide +kernel
theorem dX1_putPlain_10 : decode cX1_putPlain 10 = .ok (.getfield 19, 3) := by decide +kernel
theorem dX1_putPlain_13 : decode cX1_putPlain 13 = .ok (.iload_n 2, 1) := by decide +kernel
theorem dX1_putPlain_14 : decode cX1_putPlain 14 = .ok (.iconst 2, 1) := by decide +kernel
theorem dX1_putPlain_15 : decode cX1_putPlain 15 = .ok (.iadd, 1) := by decide +kernel
theorem dX1_putPlain_16 : decode cX1_putPlain 16 = .ok (.iaload, 1) := by decide +kernel
theorem dX1_putPlain_17 : decode cX1_putPlain 17 = .ok (.istore 4, 2) := by decide +kernel
theorem dX1_putPlain_19 : decode cX1_putPlain 19 = .ok (.aload_n 0, 1) := by decide +kernel
theorem dX1_putPlain_20 : decode cX1_putPlain 20 = .ok (.getfield 19, 3) := by decide +kernel
theorem dX1_putPlain_23 : decode cX1_putPlain 23 = .ok (.iload_n 2, 1) := by decide +kernel
theorem dX1_putPlain_24 : decode cX1_putPlain 24 = .ok (.bipush 7, 2) := by decide +kernel
theorem dX1_putPlain_26 : decode cX1_putPlain 26 = .ok (.iadd, 1) := by decide +kernel
theorem dX1_putPlain_27 : decode cX1_putPlain 27 = .ok (.iaload, 1) := by decide +kernel
theorem dX1_putPlain_28 : decode cX1_putPlain 28 = .ok (.i2c, 1) := by decide +kernel
theorem dX1_putPlain_29 : decode cX1_putPlain 29 = .ok (.istore 5, 2) := by decide +kernel
theorem dX1_putPlain_31 : decode cX1_putPlain 31 = .ok (.iload 5, 2) := by decide +kernel
theorem dX1_putPlain_33 : decode cX1_putPlain 33 = .ok (.ifCond .eq 47, 3) := by decide +kernel
theorem dX1_putPlain_36 : decode cX1_putPlain 36 = .ok (.aload_n 0, 1) := by decide +kernel
theorem dX1_putPlain_37 : decode cX1_putPlain 37 = .ok (.aload_n 0, 1) := by decide +kernel
theorem dX1_putPlain_38 : decode cX1_putPlain 38 = .ok (.getfield 19, 3) := by decide +kernel
theorem dX1_putPlain_41 : decode cX1_putPlain 41 = .ok (.iload_n 2, 1) := by decide +kernel
theorem dX1_putPlain_42 : decode cX1_putPlain 42 = .ok (.bipush 6, 2) := by decide +kernel
theorem dX1_putPlain_44 : decode cX1_putPlain 44 = .ok (.iadd, 1) := by decide +kernel
theorem dX1_putPlain_45 : decode cX1_putPlain 45 = .ok (.iaload, 1) := by decide +kernel
theorem dX1_putPlain_46 : decode cX1_putPlain 46 = .ok (.iload 4, 2) := by decide +kernel
theorem dX1_putPlain_48 : decode cX1_putPlain 48 = .ok (.invokevirtual 330, 3) := by decide +kernel
theorem dX1_putPlain_51 : decode cX1_putPlain 51 = .ok (.istore 6, 2) := by decide +kernel
theorem dX1_putPlain_53 : decode cX1_putPlain 53 = .ok (.iload_n 3, 1) := by decide +kernel
theorem dX1_putPlain_54 : decode cX1_putPlain 54 = .ok (.aload_n 0, 1) := by decide +kernel
theorem dX1_putPlain_55 : decode cX1_putPlain 55 = .ok (.iload 5, 2) := by decide +kernel
theorem dX1_putPlain_57 : decode cX1_putPlain 57 = .ok (.iload 5, 2) := by decide +kernel
theorem dX1_putPlain_59 : decode cX1_putPlain 59 = .ok (.invokestatic 333, 3) := by decide +kernel
theorem dX1_putPlain_62 : decode cX1_putPlain 62 = .ok (.ifCond .eq 11, 3) := by decide +kernel
theorem dX1_putPlain_65 : decode cX1_putPlain 65 = .ok (.iload 6, 2) := by decide +kernel
theorem dX1_putPlain_67 : decode cX1_putPlain 67 = .ok (.iload 4, 2) := by decide +kernel
theorem dX1_putPlain_69 : decode cX1_putPlain 69 = .ok (.isub, 1) := by decide +kernel
theorem dX1_putPlain_70 : decode cX1_putPlain 70 = .ok (.goto 5, 3) := by decide +kernel
theorem dX1_putPlain_73 : decode cX1_putPlain 73 = .ok (.iload 6, 2) := by decide +kernel
theorem dX1_putPlain_75 : decode cX1_putPlain 75 = .ok (.invokevirtual 337, 3) := by decide +kernel
theorem dX1_putPlain_78 : decode cX1_putPlain 78 = .ok (.ior, 1) := by decide +kernel
theorem dX1_putPlain_79 : decode cX1_putPlain 79 = .ok (.istore_n 3, 1) := by decide +kernel
theorem dX1_putPlain_80 : decode cX1_putPlain 80 = .ok (.aload_n 0, 1) := by decide +kernel
theorem dX1_putPlain_81 : decode cX1_putPlain 81 = .ok (.aload_n 1, 1) := by decide +kernel
theorem dX1_putPlain_82 : decode cX1_putPlain 82 = .ok (.iload 4, 2) := by decide +kernel
theorem dX1_putPlain_84 : decode cX1_putPlain 84 = .ok (.aload_n 0, 1) := by decide +kernel
theorem dX1_putPlain_85 : decode cX1_putPlain 85 = .ok (.getfield 19, 3) := by decide +kernel
theorem dX1_putPlain_88 : decode cX1_putPlain 88 = .ok (.iload_n 2, 1) := by decide +kernel
theorem dX1_putPlain_89 : decode cX1_putPlain 89 = .ok (.iconst 3, 1) := by decide +kernel
theorem dX1_putPlain_90 : decode cX1_putPlain 90 = .ok (.iadd, 1) := by decide +kernel
theorem dX1_putPlain_91 : decode cX1_putPlain 91 = .ok (.iaload, 1) := by decide +kernel
theorem dX1_putPlain_92 : decode cX1_putPlain 92 = .ok (.iload_n 3, 1) := by decide +kernel
theorem dX1_putPlain_93 : decode cX1_putPlain 93 = .ok (.invokevirtual 340, 3) := by decide +kernel
theorem dX1_putPlain_96 : decode cX1_putPlain 96 = .ok (.return_, 1) := by decide +kernel
theorem dX1_putGrown_0 : decode cX1_putGrown 0 = .ok (.aload_n 0, 1) := by decide +kernel
theorem dX1_putGrown_1 : decode cX1_putGrown 1 = .ok (.getfield 19, 3) := by decide +kernel
theorem dX1_putGrown_4 : decode cX1_putGrown 4 = .ok (.iload_n 2, 1) := by decide +kernel
theorem dX1_putGrown_5 : decode cX1_putGrown 5 = .ok (.iconst 5, 1) := by decide +kernel
theorem dX1_putGrown_6 : decode cX1_putGrown 6 = .ok (.iadd, 1) := by decide +kernel
theorem dX1_putGrown_7 : decode cX1_putGrown 7 = .ok (.iaload, 1) := by decide +kernel
theorem dX1_putGrown_8 : decode cX1_putGrown 8 = .ok (.istore_n 3, 1) := by decide +kernel
theorem dX1_putGrown_9 : decode cX1_putGrown 9 = .ok (.aload_n 0, 1) := by decide +kernel
theorem dX1_putGrown_10 : decode cX1_putGrown 10 = .ok (.getfield 19, 3) := by decide +kernel
theorem dX1_putGrown_13 : decode cX1_putGrown 13 = .ok (.iload_n 2, 1) := by decide +kernel
theorem dX1_putGrown_14 : decode cX1_putGrown 14 = .ok (.iconst 2, 1) := by decide +kernel
theorem dX1_putGrown_15 : decode cX1_putGrown 15 = .ok (.iadd, 1) := by decide +kernel
theorem dX1_putGrown_16 : decode cX1_putGrown 16 = .ok (.iaload, 1) := by decide +kernel
theorem dX1_putGrown_17 : decode cX1_putGrown 17 = .ok (.istore 4, 2) := by decide +kernel
theorem dX1_putGrown_19 : decode cX1_putGrown 19 = .ok (.aload_n 0, 1) := by decide +kernel
theorem dX1_putGrown_20 : decode cX1_putGrown 20 = .ok (.getfield 19, 3) := by decide +kernel
theorem dX1_putGrown_23 : decode cX1_putGrown 23 = .ok (.iload_n 2, 1) := by decide +kernel
theorem dX1_putGrown_24 : decode cX1_putGrown 24 = .ok (.iconst 3, 1) := by decide +kernel
theorem dX1_putGrown_25 : decode cX1_putGrown 25 = .ok (.iadd, 1) := by decide +kernel
theorem dX1_putGrown_26 : decode cX1_putGrown 26 = .ok (.iaload, 1) := by decide +kernel
theorem dX1_putGrown_27 : decode cX1_putGrown 27 = .ok (.istore 5, 2) := by decide +kernel
theorem dX1_putGrown_29 : decode cX1_putGrown 29 = .ok (.aload_n 0, 1) := by decide +kernel
theorem dX1_putGrown_30 : decode cX1_putGrown 30 = .ok (.getfield 19, 3) := by decide +kernel
theorem dX1_putGrown_33 : decode cX1_putGrown 33 = .ok (.iload_n 2, 1) := by decide +kernel
theorem dX1_putGrown_34 : decode cX1_putGrown 34 = .ok (.iconst 4, 1) := by decide +kernel
theorem dX1_putGrown_35 : decode cX1_putGrown 35 = .ok (.iadd, 1) := by decide +kernel
theorem dX1_putGrown_36 : decode cX1_putGrown 36 = .ok (.iaload, 1) := by decide +kernel
theorem dX1_putGrown_37 : decode cX1_putGrown 37 = .ok (.istore 6, 2) := by decide +kernel
theorem dX1_putGrown_39 : decode cX1_putGrown 39 = .ok (.aload_n 0, 1) := by decide +kernel
theorem dX1_putGrown_40 : decode cX1_putGrown 40 = .ok (.aload_n 0, 1) := by decide +kernel
theorem dX1_putGrown_41 : decode cX1_putGrown 41 = .ok (.getfield 19, 3) := by decide +kernel
theorem dX1_putGrown_44 : decode cX1_putGrown 44 = .ok (.iload_n 2, 1) := by decide +kernel
theorem dX1_putGrown_45 : decode cX1_putGrown 45 = .ok (.bipush 6, 2) := by decide +kernel
theorem dX1_putGrown_47 : decode cX1_putGrown 47 = .ok (.iadd, 1) := by decide +kernel
theorem dX1_putGrown_48 : decode cX1_putGrown 48 = .ok (.iaload, 1) := by decide +kernel
theorem dX1_putGrown_49 : decode cX1_putGrown 49 = .ok (.iload 4, 2) := by decide +kernel
theorem dX1_putGrown_51 : decode cX1_putGrown 51 = .ok (.invokevirtual 330, 3) := by decide +kernel
theorem dX1_putGrown_54 : decode cX1_putGrown 54 = .ok (.iload 4, 2) := by decide +kernel
theorem dX1_putGrown_56 : decode cX1_putGrown 56 = .ok (.isub, 1) := by decide +kernel
theorem dX1_putGrown_57 : decode cX1_putGrown 57 = .ok (.istore 7, 2) := by decide +kernel
theorem dX1_putGrown_59 : decode cX1_putGrown 59 = .ok (.iload 5, 2) := by decide +kernel
theorem dX1_putGrown_61 : decode cX1_putGrown 61 = .ok (.bipush 8, 2) := by decide +kernel
theorem dX1_putGrown_63 : decode cX1_putGrown 63 = .ok (.if_icmp .ne 48, 3) := by decide +kernel
theorem dX1_putGrown_66 : decode cX1_putGrown 66 = .ok (.aload_n 0, 1) := by decide +kernel
theorem dX1_putGrown_67 : decode cX1_putGrown 67 = .ok (.aload_n 1, 1) := by decide +kernel
theorem dX1_putGrown_68 : decode cX1_putGrown 68 = .ok (.iload 4, 2) := by decide +kernel
theorem dX1_putGrown_70 : decode cX1_putGrown 70 = .ok (.iconst 4, 1) := by decide +kernel
theorem dX1_putGrown_71 : decode cX1_putGrown 71 = .ok (.iload_n 3, 1) := by decide +kernel
theorem dX1_putGrown_72 : decode cX1_putGrown 72 = .ok (.sipush 4096, 3) := by decide +kernel
theorem dX1_putGrown_75 : decode cX1_putGrown 75 = .ok (.ixor, 1) := by decide +kernel
theorem dX1_putGrown_76 : decode cX1_putGrown 76 = .ok (.bipush 84, 2) := by decide +kernel
theorem dX1_putGrown_78 : decode cX1_putGrown 78 = .ok (.bipush 8, 2) := by decide +kernel
theorem dX1_putGrown_80 : decode cX1_putGrown 80 = .ok (.invokestatic 261, 3) := by decide +kernel
theorem dX1_putGrown_83 : decode cX1_putGrown 83 = .ok (.ior, 1) := by decide +kernel
theorem dX1_putGrown_84 : decode cX1_putGrown 84 = .ok (.invokevirtual 340, 3) := by decide +kernel
theorem dX1_putGrown_87 : decode cX1_putGrown 87 = .ok (.aload_n 0, 1) := by decide +kernel
theorem dX1_putGrown_88 : decode cX1_putGrown 88 = .ok (.aload_n 1, 1) := by decide +kernel
theorem dX1_putGrown_89 : decode cX1_putGrown 89 = .ok (.iload 4, 2) := by decide +kernel
theorem dX1_putGrown_91 : decode cX1_putGrown 91 = .ok (.iconst 4, 1) := by decide +kernel
theorem dX1_putGrown_92 : decode cX1_putGrown 92 = .ok (.iadd, 1) := by decide +kernel
theorem dX1_putGrown_93 : decode cX1_putGrown 93 = .ok (.iconst 4, 1) := by decide +kernel
theorem dX1_putGrown_94 : decode cX1_putGrown 94 = .ok (.bipush 111, 2) := by decide +kernel
theorem dX1_putGrown_96 : decode cX1_putGrown 96 = .ok (.aload_n 0, 1) := by decide +kernel
theorem dX1_putGrown_97 : decode cX1_putGrown 97 = .ok (.bipush 74, 2) := by decide +kernel
theorem dX1_putGrown_99 : decode cX1_putGrown 99 = .ok (.iload 7, 2) := by decide +kernel
theorem dX1_putGrown_101 : decode cX1_putGrown 101 = .ok (.iconst 4, 1) := by decide +kernel
theorem dX1_putGrown_102 : decode cX1_putGrown 102 = .ok (.isub, 1) := by decide +kernel
theorem dX1_putGrown_103 : decode cX1_putGrown 103 = .ok (.invokevirtual 337, 3) := by decide +kernel
theorem dX1_putGrown_106 : decode cX1_putGrown 106 = .ok (.ior, 1) := by decide +kernel
theorem dX1_putGrown_107 : decode cX1_putGrown 107 = .ok (.invokevirtual 340, 3) := by decide +kernel
theorem dX1_putGrown_110 : decode cX1_putGrown 110 = .ok (.return_, 1) := by decide +kernel
theorem dX1_putGrown_111 : decode cX1_putGrown 111 = .ok (.iload 5, 2) := by decide +kernel
theorem dX1_putGrown_113 : decode cX1_putGrown 113 = .ok (.iconst 2, 1) := by decide +kernel
theorem dX1_putGrown_114 : decode cX1_putGrown 114 = .ok (.if_icmp .ne 57, 3) := by decide +kernel
theorem dX1_putGrown_117 : decode cX1_putGrown 117 = .ok (.iload 6, 2) := by decide +kernel
theorem dX1_putGrown_119 : decode cX1_putGrown 119 = .ok (.iconst 1, 1) := by decide +kernel
theorem dX1_putGrown_120 : decode cX1_putGrown 120 = .ok (.if_icmp .ne 26, 3) := by decide +kernel
theorem dX1_putGrown_123 : decode cX1_putGrown 123 = .ok (.iload_n 3, 1) := by decide +kernel
theorem dX1_putGrown_124 : decode cX1_putGrown 124 = .ok (.bipush 7, 2) := by decide +kernel
theorem dX1_putGrown_126 : decode cX1_putGrown 126 = .ok (.ishr, 1) := by decide +kernel
theorem dX1_putGrown_127 : decode cX1_putGrown 127 = .ok (.bipush 31, 2) := by decide +kernel
theorem dX1_putGrown_129 : decode cX1_putGrown 129 = .ok (.iand, 1) := by decide +kernel
theorem dX1_putGrown_130 : decode cX1_putGrown 130 = .ok (.ifCond .ne 9, 3) := by decide +kernel
theorem dX1_putGrown_133 : decode cX1_putGrown 133 = .ok (.ldc_w 344, 3) := by decide +kernel
theorem dX1_putGrown_136 : decode cX1_putGrown 136 = .ok (.goto 6, 3) := by decide +kernel
theorem dX1_putGrown_139 : decode cX1_putGrown 139 = .ok (.sipush 8193, 3) := by decide +kernel
theorem dX1_putGrown_142 : decode cX1_putGrown 142 = .ok (.istore_n 3, 1) := by decide +kernel
theorem dX1_putGrown_143 : decode cX1_putGrown 143 = .ok (.goto 28, 3) := by decide +kernel
theorem dX1_putGrown_146 : decode cX1_putGrown 146 = .ok (.ldc_w 345, 3) := by decide +kernel
theorem dX1_putGrown_149 : decode cX1_putGrown 149 = .ok (.iload_n 3, 1) := by decide +kernel
theorem dX1_putGrown_150 : decode cX1_putGrown 150 = .ok (.sipush 4096, 3) := by decide +kernel
theorem dX1_putGrown_153 : decode cX1_putGrown 153 = .ok (.iand, 1) := by decide +kernel
theorem dX1_putGrown_154 : decode cX1_putGrown 154 = .ok (.iconst 1, 1) := by decide +kernel
theorem dX1_putGrown_155 : decode cX1_putGrown 155 = .ok (.ishl, 1) := by decide +kernel
theorem dX1_putGrown_156 : decode cX1_putGrown 156 = .ok (.ior, 1) := by decide +kernel
theorem dX1_putGrown_157 : decode cX1_putGrown 157 = .ok (.bipush 113, 2) := by decide +kernel
theorem dX1_putGrown_159 : decode cX1_putGrown 159 = .ok (.iload_n 3, 1) := by decide +kernel
theorem dX1_putGrown_160 : decode cX1_putGrown 160 = .ok (.bipush 15, 2) := by decide +kernel
theorem dX1_putGrown_162 : decode cX1_putGrown 162 = .ok (.ishr, 1) := by decide +kernel
theorem dX1_putGrown_163 : decode cX1_putGrown 163 = .ok (.bipush 31, 2) := by decide +kernel
theorem dX1_putGrown_165 : decode cX1_putGrown 165 = .ok (.iand, 1) := by decide +kernel
theorem dX1_putGrown_166 : decode cX1_putGrown 166 = .ok (.invokestatic 261, 3) := by decide +kernel
theorem dX1_putGrown_169 : decode cX1_putGrown 169 = .ok (.ior, 1) := by decide +kernel
theorem dX1_putGrown_170 : decode cX1_putGrown 170 = .ok (.istore_n 3, 1) := by decide +kernel
theorem dX1_putGrown_171 : decode cX1_putGrown 171 = .ok (.aload_n 0, 1) := by decide +kernel
theorem dX1_putGrown_172 : decode cX1_putGrown 172 = .ok (.aload_n 1, 1) := by decide +kernel
theorem dX1_putGrown_173 : decode cX1_putGrown 173 = .ok (.iload 4, 2) := by decide +kernel
theorem dX1_putGrown_175 : decode cX1_putGrown 175 = .ok (.iload 5, 2) := by decide +kernel
theorem dX1_putGrown_177 : decode cX1_putGrown 177 = .ok (.iload_n 3, 1) := by decide +kernel
theorem dX1_putGrown_178 : decode cX1_putGrown 178 = .ok (.aload_n 0, 1) := by decide +kernel
theorem dX1_putGrown_179 : decode cX1_putGrown 179 = .ok (.iload 6, 2) := by decide +kernel
theorem dX1_putGrown_181 : decode cX1_putGrown 181 = .ok (.iload 5, 2) := by decide +kernel
theorem dX1_putGrown_183 : decode cX1_putGrown 183 = .ok (.invokestatic 296, 3) := by decide +kernel
theorem dX1_putGrown_186 : decode cX1_putGrown 186 = .ok (.iload 7, 2) := by decide +kernel
theorem dX1_putGrown_188 : decode cX1_putGrown 188 = .ok (.invokevirtual 337, 3) := by decide +kernel
theorem dX1_putGrown_191 : decode cX1_putGrown 191 = .ok (.ior, 1) := by decide +kernel
theorem dX1_putGrown_192 : decode cX1_putGrown 192 = .ok (.invokevirtual 340, 3) := by decide +kernel
theorem dX1_putGrown_195 : decode cX1_putGrown 195 = .ok (.return_, 1) := by decide +kernel
theorem dX1_putAddress_0 : decode cX1_putAddress 0 = .ok (.aload_n 0, 1) := by decide +kernel
theorem dX1_putAddress_1 : decode cX1_putAddress 1 = .ok (.getfield 19, 3) := by decide +kernel
theorem dX1_putAddress_4 : decode cX1_putAddress 4 = .ok (.iload_n 2, 1) := by decide +kernel
theorem dX1_putAddress_5 : decode cX1_putAddress 5 = .ok (.iconst 2, 1) := by decide +kernel
theorem dX1_putAddress_6 : decode cX1_putAddress 6 = .ok (.iadd, 1) := by decide +kernel
theorem dX1_putAddress_7 : decode cX1_putAddress 7 = .ok (.iaload, 1) := by decide +kernel
theorem dX1_putAddress_8 : decode cX1_putAddress 8 = .ok (.istore_n 3, 1) := by decide +kernel
theorem dX1_putAddress_9 : decode cX1_putAddress 9 = .ok (.aload_n 0, 1) := by decide +kernel
theorem dX1_putAddress_10 : decode cX1_putAddress 10 = .ok (.getfield 19, 3) := by decide +kernel
theorem dX1_putAddress_13 : decode cX1_putAddress 13 = .ok (.iload_n 2, 1) := by decide +kernel
theorem dX1_putAddress_14 : decode cX1_putAddress 14 = .ok (.iconst 5, 1) := by decide +kernel
theorem dX1_putAddress_15 : decode cX1_putAddress 15 = .ok (.iadd, 1) := by decide +kernel
theorem dX1_putAddress_16 : decode cX1_putAddress 16 = .ok (.iaload, 1) := by decide +kernel
theorem dX1_putAddress_17 : decode cX1_putAddress 17 = .ok (.bipush 7, 2) := by decide +kernel
theorem dX1_putAddress_19 : decode cX1_putAddress 19 = .ok (.ishr, 1) := by decide +kernel
theorem dX1_putAddress_20 : decode cX1_putAddress 20 = .ok (.bipush 31, 2) := by decide +kernel
theorem dX1_putAddress_22 : decode cX1_putAddress 22 = .ok (.iand, 1) := by decide +kernel
theorem dX1_putAddress_23 : decode cX1_putAddress 23 = .ok (.istore 4, 2) := by decide +kernel
theorem dX1_putAddress_25 : decode cX1_putAddress 25 = .ok (.aload_n 0, 1) := by decide +kernel
theorem dX1_putAddress_26 : decode cX1_putAddress 26 = .ok (.aload_n 0, 1) := by decide +kernel
theorem dX1_putAddress_27 : decode cX1_putAddress 27 = .ok (.getfield 19, 3) := by decide +kernel
theorem dX1_putAddress_30 : decode cX1_putAddress 30 = .ok (.iload_n 2, 1) := by decide +kernel
theorem dX1_putAddress_31 : decode cX1_putAddress 31 = .ok (.bipush 6, 2) := by decide +kernel
theorem dX1_putAddress_33 : decode cX1_putAddress 33 = .ok (.iadd, 1) := by decide +kernel
theorem dX1_putAddress_34 : decode cX1_putAddress 34 = .ok (.iaload, 1) := by decide +kernel
theorem dX1_putAddress_35 : decode cX1_putAddress 35 = .ok (.iload_n 3, 1) := by decide +kernel
theorem dX1_putAddress_36 : decode cX1_putAddress 36 = .ok (.invokevirtual 330, 3) := by decide +kernel
theorem dX1_putAddress_39 : decode cX1_putAddress 39 = .ok (.iload_n 3, 1) := by decide +kernel
theorem dX1_putAddress_40 : decode cX1_putAddress 40 = .ok (.isub, 1) := by decide +kernel
theorem dX1_putAddress_41 : decode cX1_putAddress 41 = .ok (.istore 5, 2) := by decide +kernel
theorem dX1_putAddress_43 : decode cX1_putAddress 43 = .ok (.aload_n 0, 1) := by decide +kernel
theorem dX1_putAddress_44 : decode cX1_putAddress 44 = .ok (.aload_n 1, 1) := by decide +kernel
theorem dX1_putAddress_45 : decode cX1_putAddress 45 = .ok (.iload_n 3, 1) := by decide +kernel
theorem dX1_putAddress_46 : decode cX1_putAddress 46 = .ok (.iconst 4, 1) := by decide +kernel
theorem dX1_putAddress_47 : decode cX1_putAddress 47 = .ok (.aload_n 0, 1) := by decide +kernel
theorem dX1_putAddress_48 : decode cX1_putAddress 48 = .ok (.getfield 19, 3) := by decide +kernel
theorem dX1_putAddress_51 : decode cX1_putAddress 51 = .ok (.iload_n 2, 1) := by decide +kernel
theorem dX1_putAddress_52 : decode cX1_putAddress 52 = .ok (.iconst 5, 1) := by decide +kernel
theorem dX1_putAddress_53 : decode cX1_putAddress 53 = .ok (.iadd, 1) := by decide +kernel
theorem dX1_putAddress_54 : decode cX1_putAddress 54 = .ok (.iaload, 1) := by decide +kernel
theorem dX1_putAddress_55 : decode cX1_putAddress 55 = .ok (.bipush 85, 2) := by decide +kernel
theorem dX1_putAddress_57 : decode cX1_putAddress 57 = .ok (.iload 5, 2) := by decide +kernel
theorem dX1_putAddress_59 : decode cX1_putAddress 59 = .ok (.invokestatic 346, 3) := by decide +kernel
theorem dX1_putAddress_62 : decode cX1_putAddress 62 = .ok (.invokestatic 261, 3) := by decide +kernel
theorem dX1_putAddress_65 : decode cX1_putAddress 65 = .ok (.ior, 1) := by decide +kernel
theorem dX1_putAddress_66 : decode cX1_putAddress 66 = .ok (.invokevirtual 340, 3) := by decide +kernel
theorem dX1_putAddress_69 : decode cX1_putAddress 69 = .ok (.aload_n 0, 1) := by decide +kernel
theorem dX1_putAddress_70 : decode cX1_putAddress 70 = .ok (.aload_n 1, 1) := by decide +kernel
theorem dX1_putAddress_71 : decode cX1_putAddress 71 = .ok (.iload_n 3, 1) := by decide +kernel
theorem dX1_putAddress_72 : decode cX1_putAddress 72 = .ok (.iconst 4, 1) := by decide +kernel
theorem dX1_putAddress_73 : decode cX1_putAddress 73 = .ok (.iadd, 1) := by decide +kernel
theorem dX1_putAddress_74 : decode cX1_putAddress 74 = .ok (.iconst 4, 1) := by decide +kernel
theorem dX1_putAddress_75 : decode cX1_putAddress 75 = .ok (.bipush 19, 2) := by decide +kernel
theorem dX1_putAddress_77 : decode cX1_putAddress 77 = .ok (.iload 4, 2) := by decide +kernel
theorem dX1_putAddress_79 : decode cX1_putAddress 79 = .ok (.bipush 7, 2) := by decide +kernel
theorem dX1_putAddress_81 : decode cX1_putAddress 81 = .ok (.ishl, 1) := by decide +kernel
theorem dX1_putAddress_82 : decode cX1_putAddress 82 = .ok (.ior, 1) := by decide +kernel
theorem dX1_putAddress_83 : decode cX1_putAddress 83 = .ok (.iload 4, 2) := by decide +kernel
theorem dX1_putAddress_85 : decode cX1_putAddress 85 = .ok (.bipush 15, 2) := by decide +kernel
theorem dX1_putAddress_87 : decode cX1_putAddress 87 = .ok (.ishl, 1) := by decide +kernel
theorem dX1_putAddress_88 : decode cX1_putAddress 88 = .ok (.ior, 1) := by decide +kernel
theorem dX1_putAddress_89 : decode cX1_putAddress 89 = .ok (.bipush 73, 2) := by decide +kernel
theorem dX1_putAddress_91 : decode cX1_putAddress 91 = .ok (.iload 5, 2) := by decide +kernel
theorem dX1_putAddress_93 : decode cX1_putAddress 93 = .ok (.invokestatic 265, 3) := by decide +kernel
theorem dX1_putAddress_96 : decode cX1_putAddress 96 = .ok (.invokestatic 261, 3) := by decide +kernel
theorem dX1_putAddress_99 : decode cX1_putAddress 99 = .ok (.ior, 1) := by decide +kernel
theorem dX1_putAddress_100 : decode cX1_putAddress 100 = .ok (.invokevirtual 340, 3) := by decide +kernel
theorem dX1_putAddress_103 : decode cX1_putAddress 103 = .ok (.return_, 1) := by decide +kernel
theorem dX1_putNumber_0 : decode cX1_putNumber 0 = .ok (.aload_n 0, 1) := by decide +kernel
theorem dX1_putNumber_1 : decode cX1_putNumber 1 = .ok (.getfield 19, 3) := by decide +kernel
theorem dX1_putNumber_4 : decode cX1_putNumber 4 = .ok (.iload_n 2, 1) := by decide +kernel
theorem dX1_putNumber_5 : decode cX1_putNumber 5 = .ok (.iconst 2, 1) := by decide +kernel
theorem dX1_putNumber_6 : decode cX1_putNumber 6 = .ok (.iadd, 1) := by decide +kernel
theorem dX1_putNumber_7 : decode cX1_putNumber 7 = .ok (.iaload, 1) := by decide +kernel
theorem dX1_putNumber_8 : decode cX1_putNumber 8 = .ok (.istore_n 3, 1) := by decide +kernel
theorem dX1_putNumber_9 : decode cX1_putNumber 9 = .ok (.aload_n 0, 1) := by decide +kernel
theorem dX1_putNumber_10 : decode cX1_putNumber 10 = .ok (.getfield 19, 3) := by decide +kernel
theorem dX1_putNumber_13 : decode cX1_putNumber 13 = .ok (.iload_n 2, 1) := by decide +kernel
theorem dX1_putNumber_14 : decode cX1_putNumber 14 = .ok (.iconst 3, 1) := by decide +kernel
theorem dX1_putNumber_15 : decode cX1_putNumber 15 = .ok (.iadd, 1) := by decide +kernel
theorem dX1_putNumber_16 : decode cX1_putNumber 16 = .ok (.iaload, 1) := by decide +kernel
theorem dX1_putNumber_17 : decode cX1_putNumber 17 = .ok (.istore 4, 2) := by decide +kernel
theorem dX1_putNumber_19 : decode cX1_putNumber 19 = .ok (.aload_n 0, 1) := by decide +kernel
theorem dX1_putNumber_20 : decode cX1_putNumber 20 = .ok (.getfield 19, 3) := by decide +kernel
theorem dX1_putNumber_23 : decode cX1_putNumber 23 = .ok (.iload_n 2, 1) := by decide +kernel
theorem dX1_putNumber_24 : decode cX1_putNumber 24 = .ok (.iconst 5, 1) := by decide +kernel
theorem dX1_putNumber_25 : decode cX1_putNumber 25 = .ok (.iadd, 1) := by decide +kernel
theorem dX1_putNumber_26 : decode cX1_putNumber 26 = .ok (.iaload, 1) := by decide +kernel
theorem dX1_putNumber_27 : decode cX1_putNumber 27 = .ok (.istore 5, 2) := by decide +kernel
theorem dX1_putNumber_29 : decode cX1_putNumber 29 = .ok (.aload_n 0, 1) := by decide +kernel
theorem dX1_putNumber_30 : decode cX1_putNumber 30 = .ok (.getfield 19, 3) := by decide +kernel
theorem dX1_putNumber_33 : decode cX1_putNumber 33 = .ok (.iload_n 2, 1) := by decide +kernel
theorem dX1_putNumber_34 : decode cX1_putNumber 34 = .ok (.bipush 6, 2) := by decide +kernel
theorem dX1_putNumber_36 : decode cX1_putNumber 36 = .ok (.iadd, 1) := by decide +kernel
theorem dX1_putNumber_37 : decode cX1_putNumber 37 = .ok (.iaload, 1) := by decide +kernel
theorem dX1_putNumber_38 : decode cX1_putNumber 38 = .ok (.istore 6, 2) := by decide +kernel
theorem dX1_putNumber_40 : decode cX1_putNumber 40 = .ok (.iload 4, 2) := by decide +kernel
theorem dX1_putNumber_42 : decode cX1_putNumber 42 = .ok (.iconst 2, 1) := by decide +kernel
theorem dX1_putNumber_43 : decode cX1_putNumber 43 = .ok (.if_icmp .ne 30, 3) := by decide +kernel
theorem dX1_putNumber_46 : decode cX1_putNumber 46 = .ok (.aload_n 0, 1) := by decide +kernel
theorem dX1_putNumber_47 : decode cX1_putNumber 47 = .ok (.aload_n 1, 1) := by decide +kernel
theorem dX1_putNumber_48 : decode cX1_putNumber 48 = .ok (.iload_n 3, 1) := by decide +kernel
theorem dX1_putNumber_49 : decode cX1_putNumber 49 = .ok (.iconst 2, 1) := by decide +kernel
theorem dX1_putNumber_50 : decode cX1_putNumber 50 = .ok (.sipush 16385, 3) := by decide +kernel
theorem dX1_putNumber_53 : decode cX1_putNumber 53 = .ok (.iload 5, 2) := by decide +kernel
theorem dX1_putNumber_55 : decode cX1_putNumber 55 = .ok (.bipush 7, 2) := by decide +kernel
theorem dX1_putNumber_57 : decode cX1_putNumber 57 = .ok (.ishl, 1) := by decide +kernel
theorem dX1_putNumber_58 : decode cX1_putNumber 58 = .ok (.ior, 1) := by decide +kernel
theorem dX1_putNumber_59 : decode cX1_putNumber 59 = .ok (.bipush 78, 2) := by decide +kernel
theorem dX1_putNumber_61 : decode cX1_putNumber 61 = .ok (.iload 6, 2) := by decide +kernel
theorem dX1_putNumber_63 : decode cX1_putNumber 63 = .ok (.invokestatic 261, 3) := by decide +kernel
theorem dX1_putNumber_66 : decode cX1_putNumber 66 = .ok (.ior, 1) := by decide +kernel
theorem dX1_putNumber_67 : decode cX1_putNumber 67 = .ok (.invokevirtual 340, 3) := by decide +kernel
theorem dX1_putNumber_70 : decode cX1_putNumber 70 = .ok (.goto 106, 3) := by decide +kernel
theorem dX1_putNumber_73 : decode cX1_putNumber 73 = .ok (.bipush 73, 2) := by decide +kernel
theorem dX1_putNumber_75 : decode cX1_putNumber 75 = .ok (.iload 6, 2) := by decide +kernel
theorem dX1_putNumber_77 : decode cX1_putNumber 77 = .ok (.invokestatic 257, 3) := by decide +kernel
theorem dX1_putNumber_80 : decode cX1_putNumber 80 = .ok (.ifCond .eq 29, 3) := by decide +kernel
theorem dX1_putNumber_83 : decode cX1_putNumber 83 = .ok (.aload_n 0, 1) := by decide +kernel
theorem dX1_putNumber_84 : decode cX1_putNumber 84 = .ok (.aload_n 1, 1) := by decide +kernel
theorem dX1_putNumber_85 : decode cX1_putNumber 85 = .ok (.iload_n 3, 1) := by decide +kernel
theorem dX1_putNumber_86 : decode cX1_putNumber 86 = .ok (.iconst 4, 1) := by decide +kernel
theorem dX1_putNumber_87 : decode cX1_putNumber 87 = .ok (.bipush 19, 2) := by decide +kernel
theorem dX1_putNumber_89 : decode cX1_putNumber 89 = .ok (.iload 5, 2) := by decide +kernel
theorem dX1_putNumber_91 : decode cX1_putNumber 91 = .ok (.bipush 7, 2) := by decide +kernel
theorem dX1_putNumber_93 : decode cX1_putNumber 93 = .ok (.ishl, 1) := by decide +kernel
theorem dX1_putNumber_94 : decode cX1_putNumber 94 = .ok (.ior, 1) := by decide +kernel
theorem dX1_putNumber_95 : decode cX1_putNumber 95 = .ok (.bipush 73, 2) := by decide +kernel
