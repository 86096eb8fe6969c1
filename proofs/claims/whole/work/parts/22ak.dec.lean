theorem dX10_show_14 : decode cX10_show 14 = .ok (.i2b, 1) := by decide +kernel
theorem dX10_show_15 : decode cX10_show 15 = .ok (.bastore, 1) := by decide +kernel
theorem dX10_show_16 : decode cX10_show 16 = .ok (.aload_n 0, 1) := by decide +kernel
theorem dX10_show_17 : decode cX10_show 17 = .ok (.dup, 1) := by decide +kernel
theorem dX10_show_18 : decode cX10_show 18 = .ok (.getfield 50, 3) := by decide +kernel
theorem dX10_show_21 : decode cX10_show 21 = .ok (.lconst 1, 1) := by decide +kernel
theorem dX10_show_22 : decode cX10_show 22 = .ok (.ladd, 1) := by decide +kernel
theorem dX10_show_23 : decode cX10_show 23 = .ok (.putfield 50, 3) := by decide +kernel
theorem dX10_show_26 : decode cX10_show 26 = .ok (.return_, 1) := by decide +kernel
theorem dX10_shownByte_0 : decode cX10_shownByte 0 = .ok (.aload_n 0, 1) := by decide +kernel
theorem dX10_shownByte_1 : decode cX10_shownByte 1 = .ok (.getfield 50, 3) := by decide +kernel
theorem dX10_shownByte_4 : decode cX10_shownByte 4 = .ok (.ldc2_w 95, 3) := by decide +kernel
theorem dX10_shownByte_7 : decode cX10_shownByte 7 = .ok (.invokestatic 97, 3) := by decide +kernel
theorem dX10_shownByte_10 : decode cX10_shownByte 10 = .ok (.lstore_n 2, 1) := by decide +kernel
theorem dX10_shownByte_11 : decode cX10_shownByte 11 = .ok (.iload_n 1, 1) := by decide +kernel
theorem dX10_shownByte_12 : decode cX10_shownByte 12 = .ok (.ifCond .lt 10, 3) := by decide +kernel
theorem dX10_shownByte_15 : decode cX10_shownByte 15 = .ok (.iload_n 1, 1) := by decide +kernel
theorem dX10_shownByte_16 : decode cX10_shownByte 16 = .ok (.i2l, 1) := by decide +kernel
theorem dX10_shownByte_17 : decode cX10_shownByte 17 = .ok (.lload_n 2, 1) := by decide +kernel
theorem dX10_shownByte_18 : decode cX10_shownByte 18 = .ok (.lcmp, 1) := by decide +kernel
theorem dX10_shownByte_19 : decode cX10_shownByte 19 = .ok (.ifCond .lt 5, 3) := by decide +kernel
theorem dX10_shownByte_22 : decode cX10_shownByte 22 = .ok (.iconst (-1), 1) := by decide +kernel
theorem dX10_shownByte_23 : decode cX10_shownByte 23 = .ok (.ireturn, 1) := by decide +kernel
theorem dX10_shownByte_24 : decode cX10_shownByte 24 = .ok (.aload_n 0, 1) := by decide +kernel
theorem dX10_shownByte_25 : decode cX10_shownByte 25 = .ok (.getfield 37, 3) := by decide +kernel
theorem dX10_shownByte_28 : decode cX10_shownByte 28 = .ok (.aload_n 0, 1) := by decide +kernel
theorem dX10_shownByte_29 : decode cX10_shownByte 29 = .ok (.getfield 50, 3) := by decide +kernel
theorem dX10_shownByte_32 : decode cX10_shownByte 32 = .ok (.lload_n 2, 1) := by decide +kernel
theorem dX10_shownByte_33 : decode cX10_shownByte 33 = .ok (.lsub, 1) := by decide +kernel
theorem dX10_shownByte_34 : decode cX10_shownByte 34 = .ok (.iload_n 1, 1) := by decide +kernel
theorem dX10_shownByte_35 : decode cX10_shownByte 35 = .ok (.i2l, 1) := by decide +kernel
theorem dX10_shownByte_36 : decode cX10_shownByte 36 = .ok (.ladd, 1) := by decide +kernel
theorem dX10_shownByte_37 : decode cX10_shownByte 37 = .ok (.ldc2_w 93, 3) := by decide +kernel
theorem dX10_shownByte_40 : decode cX10_shownByte 40 = .ok (.land, 1) := by decide +kernel
theorem dX10_shownByte_41 : decode cX10_shownByte 41 = .ok (.l2i, 1) := by decide +kernel
theorem dX10_shownByte_42 : decode cX10_shownByte 42 = .ok (.baload, 1) := by decide +kernel
theorem dX10_shownByte_43 : decode cX10_shownByte 43 = .ok (.sipush 255, 3) := by decide +kernel
theorem dX10_shownByte_46 : decode cX10_shownByte 46 = .ok (.iand, 1) := by decide +kernel
theorem dX10_shownByte_47 : decode cX10_shownByte 47 = .ok (.ireturn, 1) := by decide +kernel
theorem dX10_type_0 : decode cX10_type 0 = .ok (.aload_n 0, 1) := by decide +kernel
theorem dX10_type_1 : decode cX10_type 1 = .ok (.getfield 46, 3) := by decide +kernel
theorem dX10_type_4 : decode cX10_type 4 = .ok (.iload_n 3, 1) := by decide +kernel
theorem dX10_type_5 : decode cX10_type 5 = .ok (.iadd, 1) := by decide +kernel
theorem dX10_type_6 : decode cX10_type 6 = .ok (.sipush 512, 3) := by decide +kernel
theorem dX10_type_9 : decode cX10_type 9 = .ok (.if_icmp .le 5, 3) := by decide +kernel
theorem dX10_type_12 : decode cX10_type 12 = .ok (.iconst 0, 1) := by decide +kernel
theorem dX10_type_13 : decode cX10_type 13 = .ok (.ireturn, 1) := by decide +kernel
theorem dX10_type_14 : decode cX10_type 14 = .ok (.iload_n 3, 1) := by decide +kernel
theorem dX10_type_15 : decode cX10_type 15 = .ok (.iconst 1, 1) := by decide +kernel
theorem dX10_type_16 : decode cX10_type 16 = .ok (.isub, 1) := by decide +kernel
theorem dX10_type_17 : decode cX10_type 17 = .ok (.istore 4, 2) := by decide +kernel
theorem dX10_type_19 : decode cX10_type 19 = .ok (.iload 4, 2) := by decide +kernel
theorem dX10_type_21 : decode cX10_type 21 = .ok (.ifCond .lt 37, 3) := by decide +kernel
theorem dX10_type_24 : decode cX10_type 24 = .ok (.aload_n 0, 1) := by decide +kernel
theorem dX10_type_25 : decode cX10_type 25 = .ok (.getfield 34, 3) := by decide +kernel
theorem dX10_type_28 : decode cX10_type 28 = .ok (.aload_n 0, 1) := by decide +kernel
theorem dX10_type_29 : decode cX10_type 29 = .ok (.getfield 46, 3) := by decide +kernel
theorem dX10_type_32 : decode cX10_type 32 = .ok (.lload_n 1, 1) := by decide +kernel
theorem dX10_type_33 : decode cX10_type 33 = .ok (.bipush 8, 2) := by decide +kernel
theorem dX10_type_35 : decode cX10_type 35 = .ok (.iload 4, 2) := by decide +kernel
theorem dX10_type_37 : decode cX10_type 37 = .ok (.imul, 1) := by decide +kernel
theorem dX10_type_38 : decode cX10_type 38 = .ok (.lshr, 1) := by decide +kernel
theorem dX10_type_39 : decode cX10_type 39 = .ok (.l2i, 1) := by decide +kernel
theorem dX10_type_40 : decode cX10_type 40 = .ok (.i2b, 1) := by decide +kernel
theorem dX10_type_41 : decode cX10_type 41 = .ok (.bastore, 1) := by decide +kernel
theorem dX10_type_42 : decode cX10_type 42 = .ok (.aload_n 0, 1) := by decide +kernel
theorem dX10_type_43 : decode cX10_type 43 = .ok (.dup, 1) := by decide +kernel
theorem dX10_type_44 : decode cX10_type 44 = .ok (.getfield 46, 3) := by decide +kernel
theorem dX10_type_47 : decode cX10_type 47 = .ok (.iconst 1, 1) := by decide +kernel
theorem dX10_type_48 : decode cX10_type 48 = .ok (.iadd, 1) := by decide +kernel
theorem dX10_type_49 : decode cX10_type 49 = .ok (.putfield 46, 3) := by decide +kernel
theorem dX10_type_52 : decode cX10_type 52 = .ok (.iinc 4 (-1), 3) := by decide +kernel
theorem dX10_type_55 : decode cX10_type 55 = .ok (.goto (-36), 3) := by decide +kernel
theorem dX10_type_58 : decode cX10_type 58 = .ok (.iconst 1, 1) := by decide +kernel
theorem dX10_type_59 : decode cX10_type 59 = .ok (.ireturn, 1) := by decide +kernel
theorem dX10_seek_0 : decode cX10_seek 0 = .ok (.aload_n 0, 1) := by decide +kernel
theorem dX10_seek_1 : decode cX10_seek 1 = .ok (.getfield 15, 3) := by decide +kernel
theorem dX10_seek_4 : decode cX10_seek 4 = .ok (.iload_n 1, 1) := by decide +kernel
theorem dX10_seek_5 : decode cX10_seek 5 = .ok (.iconst 5, 1) := by decide +kernel
theorem dX10_seek_6 : decode cX10_seek 6 = .ok (.imul, 1) := by decide +kernel
theorem dX10_seek_7 : decode cX10_seek 7 = .ok (.iconst 3, 1) := by decide +kernel
theorem dX10_seek_8 : decode cX10_seek 8 = .ok (.iadd, 1) := by decide +kernel
theorem dX10_seek_9 : decode cX10_seek 9 = .ok (.iload_n 2, 1) := by decide +kernel
theorem dX10_seek_10 : decode cX10_seek 10 = .ok (.iastore, 1) := by decide +kernel
theorem dX10_seek_11 : decode cX10_seek 11 = .ok (.return_, 1) := by decide +kernel
theorem dX13_assemble_0 : decode cX13_assemble 0 = .ok (.aload_n 0, 1) := by decide +kernel
theorem dX13_assemble_1 : decode cX13_assemble 1 = .ok (.iload_n 2, 1) := by decide +kernel
theorem dX13_assemble_2 : decode cX13_assemble 2 = .ok (.putfield 347, 3) := by decide +kernel
theorem dX13_assemble_5 : decode cX13_assemble 5 = .ok (.iconst 0, 1) := by decide +kernel
theorem dX13_assemble_6 : decode cX13_assemble 6 = .ok (.istore_n 3, 1) := by decide +kernel
theorem dX13_assemble_7 : decode cX13_assemble 7 = .ok (.iload_n 3, 1) := by decide +kernel
theorem dX13_assemble_8 : decode cX13_assemble 8 = .ok (.aload_n 0, 1) := by decide +kernel
theorem dX13_assemble_9 : decode cX13_assemble 9 = .ok (.getfield 347, 3) := by decide +kernel
theorem dX13_assemble_12 : decode cX13_assemble 12 = .ok (.if_icmp .ge 19, 3) := by decide +kernel
theorem dX13_assemble_15 : decode cX13_assemble 15 = .ok (.aload_n 0, 1) := by decide +kernel
theorem dX13_assemble_16 : decode cX13_assemble 16 = .ok (.getfield 324, 3) := by decide +kernel
theorem dX13_assemble_19 : decode cX13_assemble 19 = .ok (.iload_n 3, 1) := by decide +kernel
theorem dX13_assemble_20 : decode cX13_assemble 20 = .ok (.aload_n 1, 1) := by decide +kernel
theorem dX13_assemble_21 : decode cX13_assemble 21 = .ok (.iload_n 3, 1) := by decide +kernel
theorem dX13_assemble_22 : decode cX13_assemble 22 = .ok (.iaload, 1) := by decide +kernel
theorem dX13_assemble_23 : decode cX13_assemble 23 = .ok (.i2c, 1) := by decide +kernel
theorem dX13_assemble_24 : decode cX13_assemble 24 = .ok (.castore, 1) := by decide +kernel
theorem dX13_assemble_25 : decode cX13_assemble 25 = .ok (.iinc 3 1, 3) := by decide +kernel
theorem dX13_assemble_28 : decode cX13_assemble 28 = .ok (.goto (-21), 3) := by decide +kernel
theorem dX13_assemble_31 : decode cX13_assemble 31 = .ok (.aload_n 0, 1) := by decide +kernel
theorem dX13_assemble_32 : decode cX13_assemble 32 = .ok (.iconst 0, 1) := by decide +kernel
theorem dX13_assemble_33 : decode cX13_assemble 33 = .ok (.putfield 410, 3) := by decide +kernel
theorem dX13_assemble_36 : decode cX13_assemble 36 = .ok (.aload_n 0, 1) := by decide +kernel
theorem dX13_assemble_37 : decode cX13_assemble 37 = .ok (.iconst 0, 1) := by decide +kernel
theorem dX13_assemble_38 : decode cX13_assemble 38 = .ok (.putfield 704, 3) := by decide +kernel
theorem dX13_assemble_41 : decode cX13_assemble 41 = .ok (.aload_n 0, 1) := by decide +kernel
theorem dX13_assemble_42 : decode cX13_assemble 42 = .ok (.invokevirtual 707, 3) := by decide +kernel
theorem dX13_assemble_45 : decode cX13_assemble 45 = .ok (.aload_n 0, 1) := by decide +kernel
theorem dX13_assemble_46 : decode cX13_assemble 46 = .ok (.getfield 410, 3) := by decide +kernel
theorem dX13_assemble_49 : decode cX13_assemble 49 = .ok (.ifCond .le 8, 3) := by decide +kernel
theorem dX13_assemble_52 : decode cX13_assemble 52 = .ok (.aload_n 0, 1) := by decide +kernel
theorem dX13_assemble_53 : decode cX13_assemble 53 = .ok (.getfield 410, 3) := by decide +kernel
theorem dX13_assemble_56 : decode cX13_assemble 56 = .ok (.ireturn, 1) := by decide +kernel
theorem dX13_assemble_57 : decode cX13_assemble 57 = .ok (.aload_n 0, 1) := by decide +kernel
theorem dX13_assemble_58 : decode cX13_assemble 58 = .ok (.invokevirtual 710, 3) := by decide +kernel
theorem dX13_assemble_61 : decode cX13_assemble 61 = .ok (.aload_n 0, 1) := by decide +kernel
theorem dX13_assemble_62 : decode cX13_assemble 62 = .ok (.iconst 1, 1) := by decide +kernel
theorem dX13_assemble_63 : decode cX13_assemble 63 = .ok (.putfield 704, 3) := by decide +kernel
theorem dX13_assemble_66 : decode cX13_assemble 66 = .ok (.aload_n 0, 1) := by decide +kernel
theorem dX13_assemble_67 : decode cX13_assemble 67 = .ok (.invokevirtual 713, 3) := by decide +kernel
theorem dX13_assemble_70 : decode cX13_assemble 70 = .ok (.ldc_w 640, 3) := by decide +kernel
theorem dX13_assemble_73 : decode cX13_assemble 73 = .ok (.if_icmp .le 9, 3) := by decide +kernel
theorem dX13_assemble_76 : decode cX13_assemble 76 = .ok (.aload_n 0, 1) := by decide +kernel
theorem dX13_assemble_77 : decode cX13_assemble 77 = .ok (.bipush 7, 2) := by decide +kernel
theorem dX13_assemble_79 : decode cX13_assemble 79 = .ok (.putfield 410, 3) := by decide +kernel
theorem dX13_assemble_82 : decode cX13_assemble 82 = .ok (.iconst 0, 1) := by decide +kernel
theorem dX13_assemble_83 : decode cX13_assemble 83 = .ok (.istore_n 3, 1) := by decide +kernel
theorem dX13_assemble_84 : decode cX13_assemble 84 = .ok (.iload_n 3, 1) := by decide +kernel
theorem dX13_assemble_85 : decode cX13_assemble 85 = .ok (.aload_n 0, 1) := by decide +kernel
theorem dX13_assemble_86 : decode cX13_assemble 86 = .ok (.getfield 673, 3) := by decide +kernel
theorem dX13_assemble_89 : decode cX13_assemble 89 = .ok (.if_icmp .ge 40, 3) := by decide +kernel
theorem dX13_assemble_92 : decode cX13_assemble 92 = .ok (.aload_n 0, 1) := by decide +kernel
theorem dX13_assemble_93 : decode cX13_assemble 93 = .ok (.getfield 410, 3) := by decide +kernel
theorem dX13_assemble_96 : decode cX13_assemble 96 = .ok (.ifCond .ne 33, 3) := by decide +kernel
theorem dX13_assemble_99 : decode cX13_assemble 99 = .ok (.aload_n 0, 1) := by decide +kernel
theorem dX13_assemble_100 : decode cX13_assemble 100 = .ok (.aload_n 0, 1) := by decide +kernel
theorem dX13_assemble_101 : decode cX13_assemble 101 = .ok (.aload_n 0, 1) := by decide +kernel
theorem dX13_assemble_102 : decode cX13_assemble 102 = .ok (.getfield 328, 3) := by decide +kernel
theorem dX13_assemble_105 : decode cX13_assemble 105 = .ok (.iload_n 3, 1) := by decide +kernel
theorem dX13_assemble_106 : decode cX13_assemble 106 = .ok (.iaload, 1) := by decide +kernel
theorem dX13_assemble_107 : decode cX13_assemble 107 = .ok (.ldc_w 442, 3) := by decide +kernel
theorem dX13_assemble_110 : decode cX13_assemble 110 = .ok (.iand, 1) := by decide +kernel
theorem dX13_assemble_111 : decode cX13_assemble 111 = .ok (.invokevirtual 716, 3) := by decide +kernel
theorem dX13_assemble_114 : decode cX13_assemble 114 = .ok (.putfield 413, 3) := by decide +kernel
theorem dX13_assemble_117 : decode cX13_assemble 117 = .ok (.aload_n 0, 1) := by decide +kernel
theorem dX13_assemble_118 : decode cX13_assemble 118 = .ok (.iload_n 3, 1) := by decide +kernel
theorem dX13_assemble_119 : decode cX13_assemble 119 = .ok (.iconst 2, 1) := by decide +kernel
theorem dX13_assemble_120 : decode cX13_assemble 120 = .ok (.invokevirtual 700, 3) := by decide +kernel
theorem dX13_assemble_123 : decode cX13_assemble 123 = .ok (.iinc 3 1, 3) := by decide +kernel
theorem dX13_assemble_126 : decode cX13_assemble 126 = .ok (.goto (-42), 3) := by decide +kernel
theorem dX13_assemble_129 : decode cX13_assemble 129 = .ok (.aload_n 0, 1) := by decide +kernel
theorem dX13_assemble_130 : decode cX13_assemble 130 = .ok (.aload_n 0, 1) := by decide +kernel
theorem dX13_assemble_131 : decode cX13_assemble 131 = .ok (.getfield 410, 3) := by decide +kernel
theorem dX13_assemble_134 : decode cX13_assemble 134 = .ok (.ifCond .ne 7, 3) := by decide +kernel
theorem dX13_assemble_137 : decode cX13_assemble 137 = .ok (.iconst 1, 1) := by decide +kernel
theorem dX13_assemble_138 : decode cX13_assemble 138 = .ok (.goto 4, 3) := by decide +kernel
theorem dX13_assemble_141 : decode cX13_assemble 141 = .ok (.iconst 0, 1) := by decide +kernel
theorem dX13_assemble_142 : decode cX13_assemble 142 = .ok (.putfield 704, 3) := by decide +kernel
theorem dX13_assemble_145 : decode cX13_assemble 145 = .ok (.aload_n 0, 1) := by decide +kernel
theorem dX13_assemble_146 : decode cX13_assemble 146 = .ok (.getfield 410, 3) := by decide +kernel
theorem dX13_assemble_149 : decode cX13_assemble 149 = .ok (.ireturn, 1) := by decide +kernel
theorem dX15_compile_0 : decode cX15_compile 0 = .ok (.iconst 0, 1) := by decide +kernel
theorem dX15_compile_1 : decode cX15_compile 1 = .ok (.istore 4, 2) := by decide +kernel
theorem dX15_compile_3 : decode cX15_compile 3 = .ok (.iload 4, 2) := by decide +kernel
theorem dX15_compile_5 : decode cX15_compile 5 = .ok (.iload_n 3, 1) := by decide +kernel
theorem dX15_compile_6 : decode cX15_compile 6 = .ok (.if_icmp .ge 54, 3) := by decide +kernel
theorem dX15_compile_9 : decode cX15_compile 9 = .ok (.iload 4, 2) := by decide +kernel
theorem dX15_compile_11 : decode cX15_compile 11 = .ok (.bipush 120, 2) := by decide +kernel
theorem dX15_compile_13 : decode cX15_compile 13 = .ok (.if_icmp .eq 21, 3) := by decide +kernel
theorem dX15_compile_16 : decode cX15_compile 16 = .ok (.aload_n 2, 1) := by decide +kernel
theorem dX15_compile_17 : decode cX15_compile 17 = .ok (.iload 4, 2) := by decide +kernel
theorem dX15_compile_19 : decode cX15_compile 19 = .ok (.iaload, 1) := by decide +kernel
theorem dX15_compile_20 : decode cX15_compile 20 = .ok (.bipush 32, 2) := by decide +kernel
theorem dX15_compile_22 : decode cX15_compile 22 = .ok (.if_icmp .lt 12, 3) := by decide +kernel
theorem dX15_compile_25 : decode cX15_compile 25 = .ok (.aload_n 2, 1) := by decide +kernel
theorem dX15_compile_26 : decode cX15_compile 26 = .ok (.iload 4, 2) := by decide +kernel
theorem dX15_compile_28 : decode cX15_compile 28 = .ok (.iaload, 1) := by decide +kernel
theorem dX15_compile_29 : decode cX15_compile 29 = .ok (.bipush 126, 2) := by decide +kernel
theorem dX15_compile_31 : decode cX15_compile 31 = .ok (.if_icmp .le 11, 3) := by decide +kernel
theorem dX15_compile_34 : decode cX15_compile 34 = .ok (.iconst 1, 1) := by decide +kernel
theorem dX15_compile_35 : decode cX15_compile 35 = .ok (.bipush 8, 2) := by decide +kernel
theorem dX15_compile_37 : decode cX15_compile 37 = .ok (.iload 4, 2) := by decide +kernel
theorem dX15_compile_39 : decode cX15_compile 39 = .ok (.imul, 1) := by decide +kernel
theorem dX15_compile_40 : decode cX15_compile 40 = .ok (.iadd, 1) := by decide +kernel
theorem dX15_compile_41 : decode cX15_compile 41 = .ok (.ireturn, 1) := by decide +kernel
theorem dX15_compile_42 : decode cX15_compile 42 = .ok (.aload_n 0, 1) := by decide +kernel
theorem dX15_compile_43 : decode cX15_compile 43 = .ok (.getfield 7, 3) := by decide +kernel
theorem dX15_compile_46 : decode cX15_compile 46 = .ok (.iload 4, 2) := by decide +kernel
theorem dX15_compile_48 : decode cX15_compile 48 = .ok (.aload_n 2, 1) := by decide +kernel
theorem dX15_compile_49 : decode cX15_compile 49 = .ok (.iload 4, 2) := by decide +kernel
theorem dX15_compile_51 : decode cX15_compile 51 = .ok (.iaload, 1) := by decide +kernel
theorem dX15_compile_52 : decode cX15_compile 52 = .ok (.i2c, 1) := by decide +kernel
theorem dX15_compile_53 : decode cX15_compile 53 = .ok (.castore, 1) := by decide +kernel
theorem dX15_compile_54 : decode cX15_compile 54 = .ok (.iinc 4 1, 3) := by decide +kernel
theorem dX15_compile_57 : decode cX15_compile 57 = .ok (.goto (-54), 3) := by decide +kernel
theorem dX15_compile_60 : decode cX15_compile 60 = .ok (.aload_n 0, 1) := by decide +kernel
theorem dX15_compile_61 : decode cX15_compile 61 = .ok (.iload_n 3, 1) := by decide +kernel
theorem dX15_compile_62 : decode cX15_compile 62 = .ok (.putfield 65, 3) := by decide +kernel
theorem dX15_compile_65 : decode cX15_compile 65 = .ok (.aload_n 0, 1) := by decide +kernel
theorem dX15_compile_66 : decode cX15_compile 66 = .ok (.invokevirtual 157, 3) := by decide +kernel
theorem dX15_compile_69 : decode cX15_compile 69 = .ok (.pop, 1) := by decide +kernel
theorem dX15_compile_70 : decode cX15_compile 70 = .ok (.aload_n 0, 1) := by decide +kernel
theorem dX15_compile_71 : decode cX15_compile 71 = .ok (.getfield 125, 3) := by decide +kernel
theorem dX15_compile_74 : decode cX15_compile 74 = .ok (.ifCond .le 8, 3) := by decide +kernel
theorem dX15_compile_77 : decode cX15_compile 77 = .ok (.aload_n 0, 1) := by decide +kernel
theorem dX15_compile_78 : decode cX15_compile 78 = .ok (.getfield 125, 3) := by decide +kernel
theorem dX15_compile_81 : decode cX15_compile 81 = .ok (.ireturn, 1) := by decide +kernel
theorem dX15_compile_82 : decode cX15_compile 82 = .ok (.aload_n 0, 1) := by decide +kernel
theorem dX15_compile_83 : decode cX15_compile 83 = .ok (.getfield 13, 3) := by decide +kernel
theorem dX15_compile_86 : decode cX15_compile 86 = .ok (.iload_n 1, 1) := by decide +kernel
theorem dX15_compile_87 : decode cX15_compile 87 = .ok (.iconst 1, 1) := by decide +kernel
theorem dX15_compile_88 : decode cX15_compile 88 = .ok (.bastore, 1) := by decide +kernel
theorem dX15_compile_89 : decode cX15_compile 89 = .ok (.aload_n 0, 1) := by decide +kernel
theorem dX15_compile_90 : decode cX15_compile 90 = .ok (.getfield 17, 3) := by decide +kernel
theorem dX15_compile_93 : decode cX15_compile 93 = .ok (.iload_n 1, 1) := by decide +kernel
theorem dX15_compile_94 : decode cX15_compile 94 = .ok (.aload_n 0, 1) := by decide +kernel
theorem dX15_compile_95 : decode cX15_compile 95 = .ok (.getfield 131, 3) := by decide +kernel
theorem dX15_compile_98 : decode cX15_compile 98 = .ok (.iastore, 1) := by decide +kernel
theorem dX15_compile_99 : decode cX15_compile 99 = .ok (.iconst 0, 1) := by decide +kernel
theorem dX15_compile_100 : decode cX15_compile 100 = .ok (.istore 4, 2) := by decide +kernel
theorem dX15_compile_102 : decode cX15_compile 102 = .ok (.iload 4, 2) := by decide +kernel
theorem dX15_compile_104 : decode cX15_compile 104 = .ok (.aload_n 0, 1) := by decide +kernel
theorem dX15_compile_105 : decode cX15_compile 105 = .ok (.getfield 131, 3) := by decide +kernel
theorem dX15_compile_108 : decode cX15_compile 108 = .ok (.if_icmp .ge 71, 3) := by decide +kernel
theorem dX15_compile_111 : decode cX15_compile 111 = .ok (.aload_n 0, 1) := by decide +kernel
theorem dX15_compile_112 : decode cX15_compile 112 = .ok (.getfield 21, 3) := by decide +kernel
theorem dX15_compile_115 : decode cX15_compile 115 = .ok (.bipush 120, 2) := by decide +kernel
theorem dX15_compile_117 : decode cX15_compile 117 = .ok (.iload_n 1, 1) := by decide +kernel
theorem dX15_compile_118 : decode cX15_compile 118 = .ok (.imul, 1) := by decide +kernel
theorem dX15_compile_119 : decode cX15_compile 119 = .ok (.iload 4, 2) := by decide +kernel
theorem dX15_compile_121 : decode cX15_compile 121 = .ok (.iadd, 1) := by decide +kernel
theorem dX15_compile_122 : decode cX15_compile 122 = .ok (.aload_n 0, 1) := by decide +kernel
theorem dX15_compile_123 : decode cX15_compile 123 = .ok (.getfield 34, 3) := by decide +kernel
theorem dX15_compile_126 : decode cX15_compile 126 = .ok (.iload 4, 2) := by decide +kernel
theorem dX15_compile_128 : decode cX15_compile 128 = .ok (.iaload, 1) := by decide +kernel
theorem dX15_compile_129 : decode cX15_compile 129 = .ok (.iastore, 1) := by decide +kernel
theorem dX15_compile_130 : decode cX15_compile 130 = .ok (.aload_n 0, 1) := by decide +kernel
theorem dX15_compile_131 : decode cX15_compile 131 = .ok (.getfield 27, 3) := by decide +kernel
theorem dX15_compile_134 : decode cX15_compile 134 = .ok (.bipush 120, 2) := by decide +kernel
theorem dX15_compile_136 : decode cX15_compile 136 = .ok (.iload_n 1, 1) := by decide +kernel
theorem dX15_compile_137 : decode cX15_compile 137 = .ok (.imul, 1) := by decide +kernel
theorem dX15_compile_138 : decode cX15_compile 138 = .ok (.iload 4, 2) := by decide +kernel
theorem dX15_compile_140 : decode cX15_compile 140 = .ok (.iadd, 1) := by decide +kernel
theorem dX15_compile_141 : decode cX15_compile 141 = .ok (.aload_n 0, 1) := by decide +kernel
theorem dX15_compile_142 : decode cX15_compile 142 = .ok (.getfield 43, 3) := by decide +kernel
theorem dX15_compile_145 : decode cX15_compile 145 = .ok (.iload 4, 2) := by decide +kernel
theorem dX15_compile_147 : decode cX15_compile 147 = .ok (.laload, 1) := by decide +kernel
theorem dX15_compile_148 : decode cX15_compile 148 = .ok (.lastore, 1) := by decide +kernel
theorem dX15_compile_149 : decode cX15_compile 149 = .ok (.aload_n 0, 1) := by decide +kernel
theorem dX15_compile_150 : decode cX15_compile 150 = .ok (.getfield 24, 3) := by decide +kernel
theorem dX15_compile_153 : decode cX15_compile 153 = .ok (.bipush 120, 2) := by decide +kernel
theorem dX15_compile_155 : decode cX15_compile 155 = .ok (.iload_n 1, 1) := by decide +kernel
theorem dX15_compile_156 : decode cX15_compile 156 = .ok (.imul, 1) := by decide +kernel
theorem dX15_compile_157 : decode cX15_compile 157 = .ok (.iload 4, 2) := by decide +kernel
theorem dX15_compile_159 : decode cX15_compile 159 = .ok (.iadd, 1) := by decide +kernel
theorem dX15_compile_160 : decode cX15_compile 160 = .ok (.bipush 120, 2) := by decide +kernel
theorem dX15_compile_162 : decode cX15_compile 162 = .ok (.iload_n 1, 1) := by decide +kernel
theorem dX15_compile_163 : decode cX15_compile 163 = .ok (.imul, 1) := by decide +kernel
theorem dX15_compile_164 : decode cX15_compile 164 = .ok (.aload_n 0, 1) := by decide +kernel
theorem dX15_compile_165 : decode cX15_compile 165 = .ok (.getfield 37, 3) := by decide +kernel
theorem dX15_compile_168 : decode cX15_compile 168 = .ok (.iload 4, 2) := by decide +kernel
theorem dX15_compile_170 : decode cX15_compile 170 = .ok (.iaload, 1) := by decide +kernel
theorem dX15_compile_171 : decode cX15_compile 171 = .ok (.iadd, 1) := by decide +kernel
theorem dX15_compile_172 : decode cX15_compile 172 = .ok (.iastore, 1) := by decide +kernel
theorem dX15_compile_173 : decode cX15_compile 173 = .ok (.iinc 4 1, 3) := by decide +kernel
theorem dX15_compile_176 : decode cX15_compile 176 = .ok (.goto (-74), 3) := by decide +kernel
theorem dX15_compile_179 : decode cX15_compile 179 = .ok (.iconst 0, 1) := by decide +kernel
theorem dX15_compile_180 : decode cX15_compile 180 = .ok (.ireturn, 1) := by decide +kernel
theorem dJ6_compare_7cf53_0 : decode cJ6_compare_7cf53 0 = .ok (.iload_n 0, 1) := by decide +kernel
theorem dJ6_compare_7cf53_1 : decode cJ6_compare_7cf53 1 = .ok (.iload_n 1, 1) := by decide +kernel
theorem dJ6_compare_7cf53_2 : decode cJ6_compare_7cf53 2 = .ok (.if_icmp .ge 7, 3) := by decide +kernel
theorem dJ6_compare_7cf53_5 : decode cJ6_compare_7cf53 5 = .ok (.iconst (-1), 1) := by decide +kernel
theorem dJ6_compare_7cf53_6 : decode cJ6_compare_7cf53 6 = .ok (.goto 13, 3) := by decide +kernel
theorem dJ6_compare_7cf53_9 : decode cJ6_compare_7cf53 9 = .ok (.iload_n 0, 1) := by decide +kernel
theorem dJ6_compare_7cf53_10 : decode cJ6_compare_7cf53 10 = .ok (.iload_n 1, 1) := by decide +kernel
theorem dJ6_compare_7cf53_11 : decode cJ6_compare_7cf53 11 = .ok (.if_icmp .ne 7, 3) := by decide +kernel
theorem dJ6_compare_7cf53_14 : decode cJ6_compare_7cf53 14 = .ok (.iconst 0, 1) := by decide +kernel
theorem dJ6_compare_7cf53_15 : decode cJ6_compare_7cf53 15 = .ok (.goto 4, 3) := by decide +kernel
theorem dJ6_compare_7cf53_18 : decode cJ6_compare_7cf53 18 = .ok (.iconst 1, 1) := by decide +kernel
theorem dJ6_compare_7cf53_19 : decode cJ6_compare_7cf53 19 = .ok (.ireturn, 1) := by decide +kernel
theorem dJ6_compareUnsigned_7cf53_0 : decode cJ6_compareUnsigned_7cf53 0 = .ok (.iload_n 0, 1) := by decide +kernel
theorem dJ6_compareUnsigned_7cf53_1 : decode cJ6_compareUnsigned_7cf53 1 = .ok (.ldc 127, 2) := by decide +kernel
theorem dJ6_compareUnsigned_7cf53_3 : decode cJ6_compareUnsigned_7cf53 3 = .ok (.iadd, 1) := by decide +kernel
theorem dJ6_compareUnsigned_7cf53_4 : decode cJ6_compareUnsigned_7cf53 4 = .ok (.iload_n 1, 1) := by decide +kernel
theorem dJ6_compareUnsigned_7cf53_5 : decode cJ6_compareUnsigned_7cf53 5 = .ok (.ldc 127, 2) := by decide +kernel
theorem dJ6_compareUnsigned_7cf53_7 : decode cJ6_compareUnsigned_7cf53 7 = .ok (.iadd, 1) := by decide +kernel
theorem dJ6_compareUnsigned_7cf53_8 : decode cJ6_compareUnsigned_7cf53 8 = .ok (.invokestatic 259, 3) := by decide +kernel
theorem dJ6_compareUnsigned_7cf53_11 : decode cJ6_compareUnsigned_7cf53 11 = .ok (.ireturn, 1) := by decide +kernel
theorem dJ6_numberOfTrailingZeros_0f7a4_0 : decode cJ6_numberOfTrailingZeros_0f7a4 0 = .ok (.iload_n 0, 1) := by decide +kernel
theorem dJ6_numberOfTrailingZeros_0f7a4_1 : decode cJ6_numberOfTrailingZeros_0f7a4 1 = .ok (.iconst (-1), 1) := by decide +kernel
theorem dJ6_numberOfTrailingZeros_0f7a4_2 : decode cJ6_numberOfTrailingZeros_0f7a4 2 = .ok (.ixor, 1) := by decide +kernel
theorem dJ6_numberOfTrailingZeros_0f7a4_3 : decode cJ6_numberOfTrailingZeros_0f7a4 3 = .ok (.iload_n 0, 1) := by decide +kernel
theorem dJ6_numberOfTrailingZeros_0f7a4_4 : decode cJ6_numberOfTrailingZeros_0f7a4 4 = .ok (.iconst 1, 1) := by decide +kernel
theorem dJ6_numberOfTrailingZeros_0f7a4_5 : decode cJ6_numberOfTrailingZeros_0f7a4 5 = .ok (.isub, 1) := by decide +kernel
theorem dJ6_numberOfTrailingZeros_0f7a4_6 : decode cJ6_numberOfTrailingZeros_0f7a4 6 = .ok (.iand, 1) := by decide +kernel
theorem dJ6_numberOfTrailingZeros_0f7a4_7 : decode cJ6_numberOfTrailingZeros_0f7a4 7 = .ok (.istore_n 0, 1) := by decide +kernel
theorem dJ6_numberOfTrailingZeros_0f7a4_8 : decode cJ6_numberOfTrailingZeros_0f7a4 8 = .ok (.iload_n 0, 1) := by decide +kernel
theorem dJ6_numberOfTrailingZeros_0f7a4_9 : decode cJ6_numberOfTrailingZeros_0f7a4 9 = .ok (.ifCond .gt 8, 3) := by decide +kernel
theorem dJ6_numberOfTrailingZeros_0f7a4_12 : decode cJ6_numberOfTrailingZeros_0f7a4 12 = .ok (.iload_n 0, 1) := by decide +kernel
theorem dJ6_numberOfTrailingZeros_0f7a4_13 : decode cJ6_numberOfTrailingZeros_0f7a4 13 = .ok (.bipush 32, 2) := by decide +kernel
theorem dJ6_numberOfTrailingZeros_0f7a4_15 : decode cJ6_numberOfTrailingZeros_0f7a4 15 = .ok (.iand, 1) := by decide +kernel
theorem dJ6_numberOfTrailingZeros_0f7a4_16 : decode cJ6_numberOfTrailingZeros_0f7a4 16 = .ok (.ireturn, 1) := by decide +kernel
theorem dJ6_numberOfTrailingZeros_0f7a4_17 : decode cJ6_numberOfTrailingZeros_0f7a4 17 = .ok (.iconst 1, 1) := by decide +kernel
theorem dJ6_numberOfTrailingZeros_0f7a4_18 : decode cJ6_numberOfTrailingZeros_0f7a4 18 = .ok (.istore_n 1, 1) := by decide +kernel
theorem dJ6_numberOfTrailingZeros_0f7a4_19 : decode cJ6_numberOfTrailingZeros_0f7a4 19 = .ok (.iload_n 0, 1) := by decide +kernel
theorem dJ6_numberOfTrailingZeros_0f7a4_20 : decode cJ6_numberOfTrailingZeros_0f7a4 20 = .ok (.ldc_w 264, 3) := by decide +kernel
theorem dJ6_numberOfTrailingZeros_0f7a4_23 : decode cJ6_numberOfTrailingZeros_0f7a4 23 = .ok (.if_icmp .le 11, 3) := by decide +kernel
theorem dJ6_numberOfTrailingZeros_0f7a4_26 : decode cJ6_numberOfTrailingZeros_0f7a4 26 = .ok (.iinc 1 16, 3) := by decide +kernel
theorem dJ6_numberOfTrailingZeros_0f7a4_29 : decode cJ6_numberOfTrailingZeros_0f7a4 29 = .ok (.iload_n 0, 1) := by decide +kernel
theorem dJ6_numberOfTrailingZeros_0f7a4_30 : decode cJ6_numberOfTrailingZeros_0f7a4 30 = .ok (.bipush 16, 2) := by decide +kernel
theorem dJ6_numberOfTrailingZeros_0f7a4_32 : decode cJ6_numberOfTrailingZeros_0f7a4 32 = .ok (.iushr, 1) := by decide +kernel
theorem dJ6_numberOfTrailingZeros_0f7a4_33 : decode cJ6_numberOfTrailingZeros_0f7a4 33 = .ok (.istore_n 0, 1) := by decide +kernel
theorem dJ6_numberOfTrailingZeros_0f7a4_34 : decode cJ6_numberOfTrailingZeros_0f7a4 34 = .ok (.iload_n 0, 1) := by decide +kernel
theorem dJ6_numberOfTrailingZeros_0f7a4_35 : decode cJ6_numberOfTrailingZeros_0f7a4 35 = .ok (.sipush 256, 3) := by decide +kernel
theorem dJ6_numberOfTrailingZeros_0f7a4_38 : decode cJ6_numberOfTrailingZeros_0f7a4 38 = .ok (.if_icmp .le 11, 3) := by decide +kernel
theorem dJ6_numberOfTrailingZeros_0f7a4_41 : decode cJ6_numberOfTrailingZeros_0f7a4 41 = .ok (.iinc 1 8, 3) := by decide +kernel
theorem dJ6_numberOfTrailingZeros_0f7a4_44 : decode cJ6_numberOfTrailingZeros_0f7a4 44 = .ok (.iload_n 0, 1) := by decide +kernel
theorem dJ6_numberOfTrailingZeros_0f7a4_45 : decode cJ6_numberOfTrailingZeros_0f7a4 45 = .ok (.bipush 8, 2) := by decide +kernel
theorem dJ6_numberOfTrailingZeros_0f7a4_47 : decode cJ6_numberOfTrailingZeros_0f7a4 47 = .ok (.iushr, 1) := by decide +kernel
theorem dJ6_numberOfTrailingZeros_0f7a4_48 : decode cJ6_numberOfTrailingZeros_0f7a4 48 = .ok (.istore_n 0, 1) := by decide +kernel
theorem dJ6_numberOfTrailingZeros_0f7a4_49 : decode cJ6_numberOfTrailingZeros_0f7a4 49 = .ok (.iload_n 0, 1) := by decide +kernel
theorem dJ6_numberOfTrailingZeros_0f7a4_50 : decode cJ6_numberOfTrailingZeros_0f7a4 50 = .ok (.bipush 16, 2) := by decide +kernel
theorem dJ6_numberOfTrailingZeros_0f7a4_52 : decode cJ6_numberOfTrailingZeros_0f7a4 52 = .ok (.if_icmp .le 10, 3) := by decide +kernel
theorem dJ6_numberOfTrailingZeros_0f7a4_55 : decode cJ6_numberOfTrailingZeros_0f7a4 55 = .ok (.iinc 1 4, 3) := by decide +kernel
theorem dJ6_numberOfTrailingZeros_0f7a4_58 : decode cJ6_numberOfTrailingZeros_0f7a4 58 = .ok (.iload_n 0, 1) := by decide +kernel
theorem dJ6_numberOfTrailingZeros_0f7a4_59 : decode cJ6_numberOfTrailingZeros_0f7a4 59 = .ok (.iconst 4, 1) := by decide +kernel
theorem dJ6_numberOfTrailingZeros_0f7a4_60 : decode cJ6_numberOfTrailingZeros_0f7a4 60 = .ok (.iushr, 1) := by decide +kernel
theorem dJ6_numberOfTrailingZeros_0f7a4_61 : decode cJ6_numberOfTrailingZeros_0f7a4 61 = .ok (.istore_n 0, 1) := by decide +kernel
theorem dJ6_numberOfTrailingZeros_0f7a4_62 : decode cJ6_numberOfTrailingZeros_0f7a4 62 = .ok (.iload_n 0, 1) := by decide +kernel
theorem dJ6_numberOfTrailingZeros_0f7a4_63 : decode cJ6_numberOfTrailingZeros_0f7a4 63 = .ok (.iconst 4, 1) := by decide +kernel
theorem dJ6_numberOfTrailingZeros_0f7a4_64 : decode cJ6_numberOfTrailingZeros_0f7a4 64 = .ok (.if_icmp .le 10, 3) := by decide +kernel
theorem dJ6_numberOfTrailingZeros_0f7a4_67 : decode cJ6_numberOfTrailingZeros_0f7a4 67 = .ok (.iinc 1 2, 3) := by decide +kernel
theorem dJ6_numberOfTrailingZeros_0f7a4_70 : decode cJ6_numberOfTrailingZeros_0f7a4 70 = .ok (.iload_n 0, 1) := by decide +kernel
theorem dJ6_numberOfTrailingZeros_0f7a4_71 : decode cJ6_numberOfTrailingZeros_0f7a4 71 = .ok (.iconst 2, 1) := by decide +kernel
theorem dJ6_numberOfTrailingZeros_0f7a4_72 : decode cJ6_numberOfTrailingZeros_0f7a4 72 = .ok (.iushr, 1) := by decide +kernel
theorem dJ6_numberOfTrailingZeros_0f7a4_73 : decode cJ6_numberOfTrailingZeros_0f7a4 73 = .ok (.istore_n 0, 1) := by decide +kernel
theorem dJ6_numberOfTrailingZeros_0f7a4_74 : decode cJ6_numberOfTrailingZeros_0f7a4 74 = .ok (.iload_n 1, 1) := by decide +kernel
theorem dJ6_numberOfTrailingZeros_0f7a4_75 : decode cJ6_numberOfTrailingZeros_0f7a4 75 = .ok (.iload_n 0, 1) := by decide +kernel
theorem dJ6_numberOfTrailingZeros_0f7a4_76 : decode cJ6_numberOfTrailingZeros_0f7a4 76 = .ok (.iconst 1, 1) := by decide +kernel
theorem dJ6_numberOfTrailingZeros_0f7a4_77 : decode cJ6_numberOfTrailingZeros_0f7a4 77 = .ok (.iushr, 1) := by decide +kernel
theorem dJ6_numberOfTrailingZeros_0f7a4_78 : decode cJ6_numberOfTrailingZeros_0f7a4 78 = .ok (.iadd, 1) := by decide +kernel
theorem dJ6_numberOfTrailingZeros_0f7a4_79 : decode cJ6_numberOfTrailingZeros_0f7a4 79 = .ok (.ireturn, 1) := by decide +kernel
theorem dJ7_fill_53178_0 : decode cJ7_fill_53178 0 = .ok (.iconst 0, 1) := by decide +kernel
theorem dJ7_fill_53178_1 : decode cJ7_fill_53178 1 = .ok (.istore_n 2, 1) := by decide +kernel
theorem dJ7_fill_53178_2 : decode cJ7_fill_53178 2 = .ok (.aload_n 0, 1) := by decide +kernel
