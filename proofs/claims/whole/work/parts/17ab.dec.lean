theorem dX2_compile_0 : decode cX2_compile 0 = .ok (.aload_n 0, 1) := by decide +kernel
theorem dX2_compile_1 : decode cX2_compile 1 = .ok (.aload_n 1, 1) := by decide +kernel
theorem dX2_compile_2 : decode cX2_compile 2 = .ok (.putfield 35, 3) := by decide +kernel
theorem dX2_compile_5 : decode cX2_compile 5 = .ok (.aload_n 0, 1) := by decide +kernel
theorem dX2_compile_6 : decode cX2_compile 6 = .ok (.iload_n 2, 1) := by decide +kernel
theorem dX2_compile_7 : decode cX2_compile 7 = .ok (.aload_n 1, 1) := by decide +kernel
theorem dX2_compile_8 : decode cX2_compile 8 = .ok (.arraylength, 1) := by decide +kernel
theorem dX2_compile_9 : decode cX2_compile 9 = .ok (.invokestatic 39, 3) := by decide +kernel
theorem dX2_compile_12 : decode cX2_compile 12 = .ok (.putfield 45, 3) := by decide +kernel
theorem dX2_compile_15 : decode cX2_compile 15 = .ok (.iconst 0, 1) := by decide +kernel
theorem dX2_compile_16 : decode cX2_compile 16 = .ok (.istore_n 3, 1) := by decide +kernel
theorem dX2_compile_17 : decode cX2_compile 17 = .ok (.iload_n 3, 1) := by decide +kernel
theorem dX2_compile_18 : decode cX2_compile 18 = .ok (.aload_n 0, 1) := by decide +kernel
theorem dX2_compile_19 : decode cX2_compile 19 = .ok (.getfield 45, 3) := by decide +kernel
theorem dX2_compile_22 : decode cX2_compile 22 = .ok (.if_icmp .ge 38, 3) := by decide +kernel
theorem dX2_compile_25 : decode cX2_compile 25 = .ok (.iload_n 3, 1) := by decide +kernel
theorem dX2_compile_26 : decode cX2_compile 26 = .ok (.bipush 120, 2) := by decide +kernel
theorem dX2_compile_28 : decode cX2_compile 28 = .ok (.if_icmp .ge 19, 3) := by decide +kernel
theorem dX2_compile_31 : decode cX2_compile 31 = .ok (.aload_n 1, 1) := by decide +kernel
theorem dX2_compile_32 : decode cX2_compile 32 = .ok (.iload_n 3, 1) := by decide +kernel
theorem dX2_compile_33 : decode cX2_compile 33 = .ok (.baload, 1) := by decide +kernel
theorem dX2_compile_34 : decode cX2_compile 34 = .ok (.bipush 32, 2) := by decide +kernel
theorem dX2_compile_36 : decode cX2_compile 36 = .ok (.if_icmp .lt 11, 3) := by decide +kernel
theorem dX2_compile_39 : decode cX2_compile 39 = .ok (.aload_n 1, 1) := by decide +kernel
theorem dX2_compile_40 : decode cX2_compile 40 = .ok (.iload_n 3, 1) := by decide +kernel
theorem dX2_compile_41 : decode cX2_compile 41 = .ok (.baload, 1) := by decide +kernel
theorem dX2_compile_42 : decode cX2_compile 42 = .ok (.bipush 126, 2) := by decide +kernel
theorem dX2_compile_44 : decode cX2_compile 44 = .ok (.if_icmp .le 10, 3) := by decide +kernel
theorem dX2_compile_47 : decode cX2_compile 47 = .ok (.iconst 1, 1) := by decide +kernel
theorem dX2_compile_48 : decode cX2_compile 48 = .ok (.bipush 8, 2) := by decide +kernel
theorem dX2_compile_50 : decode cX2_compile 50 = .ok (.iload_n 3, 1) := by decide +kernel
theorem dX2_compile_51 : decode cX2_compile 51 = .ok (.imul, 1) := by decide +kernel
theorem dX2_compile_52 : decode cX2_compile 52 = .ok (.iadd, 1) := by decide +kernel
theorem dX2_compile_53 : decode cX2_compile 53 = .ok (.ireturn, 1) := by decide +kernel
theorem dX2_compile_54 : decode cX2_compile 54 = .ok (.iinc 3 1, 3) := by decide +kernel
theorem dX2_compile_57 : decode cX2_compile 57 = .ok (.goto (-40), 3) := by decide +kernel
theorem dX2_compile_60 : decode cX2_compile 60 = .ok (.aload_n 0, 1) := by decide +kernel
theorem dX2_compile_61 : decode cX2_compile 61 = .ok (.iconst 0, 1) := by decide +kernel
theorem dX2_compile_62 : decode cX2_compile 62 = .ok (.putfield 49, 3) := by decide +kernel
theorem dX2_compile_65 : decode cX2_compile 65 = .ok (.aload_n 0, 1) := by decide +kernel
theorem dX2_compile_66 : decode cX2_compile 66 = .ok (.iconst 0, 1) := by decide +kernel
theorem dX2_compile_67 : decode cX2_compile 67 = .ok (.putfield 52, 3) := by decide +kernel
theorem dX2_compile_70 : decode cX2_compile 70 = .ok (.aload_n 0, 1) := by decide +kernel
theorem dX2_compile_71 : decode cX2_compile 71 = .ok (.iconst 0, 1) := by decide +kernel
theorem dX2_compile_72 : decode cX2_compile 72 = .ok (.putfield 55, 3) := by decide +kernel
theorem dX2_compile_75 : decode cX2_compile 75 = .ok (.aload_n 0, 1) := by decide +kernel
theorem dX2_compile_76 : decode cX2_compile 76 = .ok (.iconst 0, 1) := by decide +kernel
theorem dX2_compile_77 : decode cX2_compile 77 = .ok (.putfield 58, 3) := by decide +kernel
theorem dX2_compile_80 : decode cX2_compile 80 = .ok (.aload_n 0, 1) := by decide +kernel
theorem dX2_compile_81 : decode cX2_compile 81 = .ok (.iconst 0, 1) := by decide +kernel
theorem dX2_compile_82 : decode cX2_compile 82 = .ok (.putfield 61, 3) := by decide +kernel
theorem dX2_compile_85 : decode cX2_compile 85 = .ok (.aload_n 0, 1) := by decide +kernel
theorem dX2_compile_86 : decode cX2_compile 86 = .ok (.iconst 0, 1) := by decide +kernel
theorem dX2_compile_87 : decode cX2_compile 87 = .ok (.putfield 64, 3) := by decide +kernel
theorem dX2_compile_90 : decode cX2_compile 90 = .ok (.aload_n 0, 1) := by decide +kernel
theorem dX2_compile_91 : decode cX2_compile 91 = .ok (.invokevirtual 67, 3) := by decide +kernel
theorem dX2_compile_94 : decode cX2_compile 94 = .ok (.aload_n 0, 1) := by decide +kernel
theorem dX2_compile_95 : decode cX2_compile 95 = .ok (.getfield 64, 3) := by decide +kernel
theorem dX2_compile_98 : decode cX2_compile 98 = .ok (.ireturn, 1) := by decide +kernel
theorem dX2_read_0 : decode cX2_read 0 = .ok (.iconst 1, 1) := by decide +kernel
theorem dX2_read_1 : decode cX2_read 1 = .ok (.istore_n 1, 1) := by decide +kernel
theorem dX2_read_2 : decode cX2_read 2 = .ok (.iconst 1, 1) := by decide +kernel
theorem dX2_read_3 : decode cX2_read 3 = .ok (.istore_n 2, 1) := by decide +kernel
theorem dX2_read_4 : decode cX2_read 4 = .ok (.aload_n 0, 1) := by decide +kernel
theorem dX2_read_5 : decode cX2_read 5 = .ok (.invokevirtual 70, 3) := by decide +kernel
theorem dX2_read_8 : decode cX2_read 8 = .ok (.bipush 121, 2) := by decide +kernel
theorem dX2_read_10 : decode cX2_read 10 = .ok (.istore_n 3, 1) := by decide +kernel
theorem dX2_read_11 : decode cX2_read 11 = .ok (.iload_n 3, 1) := by decide +kernel
theorem dX2_read_12 : decode cX2_read 12 = .ok (.ifCond .le 66, 3) := by decide +kernel
theorem dX2_read_15 : decode cX2_read 15 = .ok (.iload_n 2, 1) := by decide +kernel
theorem dX2_read_16 : decode cX2_read 16 = .ok (.ifCond .eq 62, 3) := by decide +kernel
theorem dX2_read_19 : decode cX2_read 19 = .ok (.aload_n 0, 1) := by decide +kernel
theorem dX2_read_20 : decode cX2_read 20 = .ok (.getfield 64, 3) := by decide +kernel
theorem dX2_read_23 : decode cX2_read 23 = .ok (.ifCond .ne 55, 3) := by decide +kernel
theorem dX2_read_26 : decode cX2_read 26 = .ok (.iload_n 1, 1) := by decide +kernel
theorem dX2_read_27 : decode cX2_read 27 = .ok (.ifCond .eq 11, 3) := by decide +kernel
theorem dX2_read_30 : decode cX2_read 30 = .ok (.aload_n 0, 1) := by decide +kernel
theorem dX2_read_31 : decode cX2_read 31 = .ok (.invokevirtual 73, 3) := by decide +kernel
theorem dX2_read_34 : decode cX2_read 34 = .ok (.istore_n 1, 1) := by decide +kernel
theorem dX2_read_35 : decode cX2_read 35 = .ok (.goto 37, 3) := by decide +kernel
theorem dX2_read_38 : decode cX2_read 38 = .ok (.aload_n 0, 1) := by decide +kernel
theorem dX2_read_39 : decode cX2_read 39 = .ok (.getfield 77, 3) := by decide +kernel
theorem dX2_read_42 : decode cX2_read 42 = .ok (.ifCond .ne 25, 3) := by decide +kernel
theorem dX2_read_45 : decode cX2_read 45 = .ok (.iconst 0, 1) := by decide +kernel
theorem dX2_read_46 : decode cX2_read 46 = .ok (.istore_n 2, 1) := by decide +kernel
theorem dX2_read_47 : decode cX2_read 47 = .ok (.aload_n 0, 1) := by decide +kernel
theorem dX2_read_48 : decode cX2_read 48 = .ok (.iconst 0, 1) := by decide +kernel
theorem dX2_read_49 : decode cX2_read 49 = .ok (.invokevirtual 80, 3) := by decide +kernel
theorem dX2_read_52 : decode cX2_read 52 = .ok (.aload_n 0, 1) := by decide +kernel
theorem dX2_read_53 : decode cX2_read 53 = .ok (.getfield 55, 3) := by decide +kernel
theorem dX2_read_56 : decode cX2_read 56 = .ok (.ifCond .le 16, 3) := by decide +kernel
theorem dX2_read_59 : decode cX2_read 59 = .ok (.aload_n 0, 1) := by decide +kernel
theorem dX2_read_60 : decode cX2_read 60 = .ok (.iconst 1, 1) := by decide +kernel
theorem dX2_read_61 : decode cX2_read 61 = .ok (.invokevirtual 84, 3) := by decide +kernel
theorem dX2_read_64 : decode cX2_read 64 = .ok (.goto 8, 3) := by decide +kernel
theorem dX2_read_67 : decode cX2_read 67 = .ok (.aload_n 0, 1) := by decide +kernel
theorem dX2_read_68 : decode cX2_read 68 = .ok (.invokevirtual 87, 3) := by decide +kernel
theorem dX2_read_71 : decode cX2_read 71 = .ok (.istore_n 1, 1) := by decide +kernel
theorem dX2_read_72 : decode cX2_read 72 = .ok (.iinc 3 (-1), 3) := by decide +kernel
theorem dX2_read_75 : decode cX2_read 75 = .ok (.goto (-64), 3) := by decide +kernel
theorem dX2_read_78 : decode cX2_read 78 = .ok (.return_, 1) := by decide +kernel
theorem dX2_blame_0 : decode cX2_blame 0 = .ok (.aload_n 0, 1) := by decide +kernel
theorem dX2_blame_1 : decode cX2_blame 1 = .ok (.getfield 64, 3) := by decide +kernel
theorem dX2_blame_4 : decode cX2_blame 4 = .ok (.ifCond .ne 16, 3) := by decide +kernel
theorem dX2_blame_7 : decode cX2_blame 7 = .ok (.aload_n 0, 1) := by decide +kernel
theorem dX2_blame_8 : decode cX2_blame 8 = .ok (.iload_n 1, 1) := by decide +kernel
theorem dX2_blame_9 : decode cX2_blame 9 = .ok (.bipush 8, 2) := by decide +kernel
theorem dX2_blame_11 : decode cX2_blame 11 = .ok (.aload_n 0, 1) := by decide +kernel
theorem dX2_blame_12 : decode cX2_blame 12 = .ok (.getfield 90, 3) := by decide +kernel
theorem dX2_blame_15 : decode cX2_blame 15 = .ok (.imul, 1) := by decide +kernel
theorem dX2_blame_16 : decode cX2_blame 16 = .ok (.iadd, 1) := by decide +kernel
theorem dX2_blame_17 : decode cX2_blame 17 = .ok (.putfield 64, 3) := by decide +kernel
theorem dX2_blame_20 : decode cX2_blame 20 = .ok (.return_, 1) := by decide +kernel
theorem dX2_isLetter_0 : decode cX2_isLetter 0 = .ok (.iload_n 0, 1) := by decide +kernel
theorem dX2_isLetter_1 : decode cX2_isLetter 1 = .ok (.bipush 97, 2) := by decide +kernel
theorem dX2_isLetter_3 : decode cX2_isLetter 3 = .ok (.if_icmp .lt 9, 3) := by decide +kernel
theorem dX2_isLetter_6 : decode cX2_isLetter 6 = .ok (.iload_n 0, 1) := by decide +kernel
theorem dX2_isLetter_7 : decode cX2_isLetter 7 = .ok (.bipush 122, 2) := by decide +kernel
theorem dX2_isLetter_9 : decode cX2_isLetter 9 = .ok (.if_icmp .le 15, 3) := by decide +kernel
theorem dX2_isLetter_12 : decode cX2_isLetter 12 = .ok (.iload_n 0, 1) := by decide +kernel
theorem dX2_isLetter_13 : decode cX2_isLetter 13 = .ok (.bipush 65, 2) := by decide +kernel
theorem dX2_isLetter_15 : decode cX2_isLetter 15 = .ok (.if_icmp .lt 13, 3) := by decide +kernel
theorem dX2_isLetter_18 : decode cX2_isLetter 18 = .ok (.iload_n 0, 1) := by decide +kernel
theorem dX2_isLetter_19 : decode cX2_isLetter 19 = .ok (.bipush 90, 2) := by decide +kernel
theorem dX2_isLetter_21 : decode cX2_isLetter 21 = .ok (.if_icmp .gt 7, 3) := by decide +kernel
theorem dX2_isLetter_24 : decode cX2_isLetter 24 = .ok (.iconst 1, 1) := by decide +kernel
theorem dX2_isLetter_25 : decode cX2_isLetter 25 = .ok (.goto 4, 3) := by decide +kernel
theorem dX2_isLetter_28 : decode cX2_isLetter 28 = .ok (.iconst 0, 1) := by decide +kernel
theorem dX2_isLetter_29 : decode cX2_isLetter 29 = .ok (.ireturn, 1) := by decide +kernel
theorem dX2_isDigit_0 : decode cX2_isDigit 0 = .ok (.iload_n 0, 1) := by decide +kernel
theorem dX2_isDigit_1 : decode cX2_isDigit 1 = .ok (.bipush 48, 2) := by decide +kernel
theorem dX2_isDigit_3 : decode cX2_isDigit 3 = .ok (.if_icmp .lt 13, 3) := by decide +kernel
theorem dX2_isDigit_6 : decode cX2_isDigit 6 = .ok (.iload_n 0, 1) := by decide +kernel
theorem dX2_isDigit_7 : decode cX2_isDigit 7 = .ok (.bipush 57, 2) := by decide +kernel
theorem dX2_isDigit_9 : decode cX2_isDigit 9 = .ok (.if_icmp .gt 7, 3) := by decide +kernel
theorem dX2_isDigit_12 : decode cX2_isDigit 12 = .ok (.iconst 1, 1) := by decide +kernel
theorem dX2_isDigit_13 : decode cX2_isDigit 13 = .ok (.goto 4, 3) := by decide +kernel
theorem dX2_isDigit_16 : decode cX2_isDigit 16 = .ok (.iconst 0, 1) := by decide +kernel
theorem dX2_isDigit_17 : decode cX2_isDigit 17 = .ok (.ireturn, 1) := by decide +kernel
theorem dX2_next_0 : decode cX2_next 0 = .ok (.aload_n 0, 1) := by decide +kernel
theorem dX2_next_1 : decode cX2_next 1 = .ok (.getfield 49, 3) := by decide +kernel
theorem dX2_next_4 : decode cX2_next 4 = .ok (.aload_n 0, 1) := by decide +kernel
theorem dX2_next_5 : decode cX2_next 5 = .ok (.getfield 45, 3) := by decide +kernel
theorem dX2_next_8 : decode cX2_next 8 = .ok (.if_icmp .ge 30, 3) := by decide +kernel
theorem dX2_next_11 : decode cX2_next 11 = .ok (.aload_n 0, 1) := by decide +kernel
theorem dX2_next_12 : decode cX2_next 12 = .ok (.getfield 35, 3) := by decide +kernel
theorem dX2_next_15 : decode cX2_next 15 = .ok (.aload_n 0, 1) := by decide +kernel
theorem dX2_next_16 : decode cX2_next 16 = .ok (.getfield 49, 3) := by decide +kernel
theorem dX2_next_19 : decode cX2_next 19 = .ok (.baload, 1) := by decide +kernel
theorem dX2_next_20 : decode cX2_next 20 = .ok (.bipush 32, 2) := by decide +kernel
theorem dX2_next_22 : decode cX2_next 22 = .ok (.if_icmp .ne 16, 3) := by decide +kernel
theorem dX2_next_25 : decode cX2_next 25 = .ok (.aload_n 0, 1) := by decide +kernel
theorem dX2_next_26 : decode cX2_next 26 = .ok (.dup, 1) := by decide +kernel
theorem dX2_next_27 : decode cX2_next 27 = .ok (.getfield 49, 3) := by decide +kernel
theorem dX2_next_30 : decode cX2_next 30 = .ok (.iconst 1, 1) := by decide +kernel
theorem dX2_next_31 : decode cX2_next 31 = .ok (.iadd, 1) := by decide +kernel
theorem dX2_next_32 : decode cX2_next 32 = .ok (.putfield 49, 3) := by decide +kernel
theorem dX2_next_35 : decode cX2_next 35 = .ok (.goto (-35), 3) := by decide +kernel
theorem dX2_next_38 : decode cX2_next 38 = .ok (.aload_n 0, 1) := by decide +kernel
theorem dX2_next_39 : decode cX2_next 39 = .ok (.aload_n 0, 1) := by decide +kernel
theorem dX2_next_40 : decode cX2_next 40 = .ok (.getfield 49, 3) := by decide +kernel
theorem dX2_next_43 : decode cX2_next 43 = .ok (.putfield 90, 3) := by decide +kernel
theorem dX2_next_46 : decode cX2_next 46 = .ok (.aload_n 0, 1) := by decide +kernel
theorem dX2_next_47 : decode cX2_next 47 = .ok (.getfield 49, 3) := by decide +kernel
theorem dX2_next_50 : decode cX2_next 50 = .ok (.aload_n 0, 1) := by decide +kernel
theorem dX2_next_51 : decode cX2_next 51 = .ok (.getfield 45, 3) := by decide +kernel
theorem dX2_next_54 : decode cX2_next 54 = .ok (.if_icmp .lt 9, 3) := by decide +kernel
theorem dX2_next_57 : decode cX2_next 57 = .ok (.aload_n 0, 1) := by decide +kernel
theorem dX2_next_58 : decode cX2_next 58 = .ok (.iconst 0, 1) := by decide +kernel
theorem dX2_next_59 : decode cX2_next 59 = .ok (.putfield 77, 3) := by decide +kernel
theorem dX2_next_62 : decode cX2_next 62 = .ok (.return_, 1) := by decide +kernel
theorem dX2_next_63 : decode cX2_next 63 = .ok (.aload_n 0, 1) := by decide +kernel
theorem dX2_next_64 : decode cX2_next 64 = .ok (.getfield 35, 3) := by decide +kernel
theorem dX2_next_67 : decode cX2_next 67 = .ok (.aload_n 0, 1) := by decide +kernel
theorem dX2_next_68 : decode cX2_next 68 = .ok (.getfield 49, 3) := by decide +kernel
theorem dX2_next_71 : decode cX2_next 71 = .ok (.baload, 1) := by decide +kernel
theorem dX2_next_72 : decode cX2_next 72 = .ok (.istore_n 1, 1) := by decide +kernel
theorem dX2_next_73 : decode cX2_next 73 = .ok (.iload_n 1, 1) := by decide +kernel
theorem dX2_next_74 : decode cX2_next 74 = .ok (.invokestatic 93, 3) := by decide +kernel
theorem dX2_next_77 : decode cX2_next 77 = .ok (.ifCond .ne 10, 3) := by decide +kernel
theorem dX2_next_80 : decode cX2_next 80 = .ok (.iload_n 1, 1) := by decide +kernel
theorem dX2_next_81 : decode cX2_next 81 = .ok (.invokestatic 97, 3) := by decide +kernel
theorem dX2_next_84 : decode cX2_next 84 = .ok (.ifCond .eq 86, 3) := by decide +kernel
theorem dX2_next_87 : decode cX2_next 87 = .ok (.aload_n 0, 1) := by decide +kernel
theorem dX2_next_88 : decode cX2_next 88 = .ok (.getfield 49, 3) := by decide +kernel
theorem dX2_next_91 : decode cX2_next 91 = .ok (.aload_n 0, 1) := by decide +kernel
theorem dX2_next_92 : decode cX2_next 92 = .ok (.getfield 45, 3) := by decide +kernel
theorem dX2_next_95 : decode cX2_next 95 = .ok (.if_icmp .ge 46, 3) := by decide +kernel
theorem dX2_next_98 : decode cX2_next 98 = .ok (.aload_n 0, 1) := by decide +kernel
theorem dX2_next_99 : decode cX2_next 99 = .ok (.getfield 35, 3) := by decide +kernel
theorem dX2_next_102 : decode cX2_next 102 = .ok (.aload_n 0, 1) := by decide +kernel
theorem dX2_next_103 : decode cX2_next 103 = .ok (.getfield 49, 3) := by decide +kernel
theorem dX2_next_106 : decode cX2_next 106 = .ok (.baload, 1) := by decide +kernel
theorem dX2_next_107 : decode cX2_next 107 = .ok (.invokestatic 93, 3) := by decide +kernel
theorem dX2_next_110 : decode cX2_next 110 = .ok (.ifCond .ne 18, 3) := by decide +kernel
theorem dX2_next_113 : decode cX2_next 113 = .ok (.aload_n 0, 1) := by decide +kernel
theorem dX2_next_114 : decode cX2_next 114 = .ok (.getfield 35, 3) := by decide +kernel
theorem dX2_next_117 : decode cX2_next 117 = .ok (.aload_n 0, 1) := by decide +kernel
theorem dX2_next_118 : decode cX2_next 118 = .ok (.getfield 49, 3) := by decide +kernel
theorem dX2_next_121 : decode cX2_next 121 = .ok (.baload, 1) := by decide +kernel
theorem dX2_next_122 : decode cX2_next 122 = .ok (.invokestatic 97, 3) := by decide +kernel
theorem dX2_next_125 : decode cX2_next 125 = .ok (.ifCond .eq 16, 3) := by decide +kernel
theorem dX2_next_128 : decode cX2_next 128 = .ok (.aload_n 0, 1) := by decide +kernel
theorem dX2_next_129 : decode cX2_next 129 = .ok (.dup, 1) := by decide +kernel
theorem dX2_next_130 : decode cX2_next 130 = .ok (.getfield 49, 3) := by decide +kernel
theorem dX2_next_133 : decode cX2_next 133 = .ok (.iconst 1, 1) := by decide +kernel
theorem dX2_next_134 : decode cX2_next 134 = .ok (.iadd, 1) := by decide +kernel
theorem dX2_next_135 : decode cX2_next 135 = .ok (.putfield 49, 3) := by decide +kernel
theorem dX2_next_138 : decode cX2_next 138 = .ok (.goto (-51), 3) := by decide +kernel
theorem dX2_next_141 : decode cX2_next 141 = .ok (.aload_n 0, 1) := by decide +kernel
theorem dX2_next_142 : decode cX2_next 142 = .ok (.iload_n 1, 1) := by decide +kernel
theorem dX2_next_143 : decode cX2_next 143 = .ok (.invokestatic 93, 3) := by decide +kernel
theorem dX2_next_146 : decode cX2_next 146 = .ok (.ifCond .eq 7, 3) := by decide +kernel
theorem dX2_next_149 : decode cX2_next 149 = .ok (.iconst 2, 1) := by decide +kernel
theorem dX2_next_150 : decode cX2_next 150 = .ok (.goto 4, 3) := by decide +kernel
theorem dX2_next_153 : decode cX2_next 153 = .ok (.iconst 1, 1) := by decide +kernel
theorem dX2_next_154 : decode cX2_next 154 = .ok (.putfield 77, 3) := by decide +kernel
theorem dX2_next_157 : decode cX2_next 157 = .ok (.aload_n 0, 1) := by decide +kernel
theorem dX2_next_158 : decode cX2_next 158 = .ok (.getfield 77, 3) := by decide +kernel
theorem dX2_next_161 : decode cX2_next 161 = .ok (.iconst 1, 1) := by decide +kernel
theorem dX2_next_162 : decode cX2_next 162 = .ok (.if_icmp .ne 7, 3) := by decide +kernel
theorem dX2_next_165 : decode cX2_next 165 = .ok (.aload_n 0, 1) := by decide +kernel
theorem dX2_next_166 : decode cX2_next 166 = .ok (.invokevirtual 100, 3) := by decide +kernel
theorem dX2_next_169 : decode cX2_next 169 = .ok (.return_, 1) := by decide +kernel
theorem dX2_next_170 : decode cX2_next 170 = .ok (.aload_n 0, 1) := by decide +kernel
theorem dX2_next_171 : decode cX2_next 171 = .ok (.getfield 49, 3) := by decide +kernel
theorem dX2_next_174 : decode cX2_next 174 = .ok (.iconst 1, 1) := by decide +kernel
theorem dX2_next_175 : decode cX2_next 175 = .ok (.iadd, 1) := by decide +kernel
theorem dX2_next_176 : decode cX2_next 176 = .ok (.aload_n 0, 1) := by decide +kernel
theorem dX2_next_177 : decode cX2_next 177 = .ok (.getfield 45, 3) := by decide +kernel
theorem dX2_next_180 : decode cX2_next 180 = .ok (.if_icmp .ge 17, 3) := by decide +kernel
theorem dX2_next_183 : decode cX2_next 183 = .ok (.aload_n 0, 1) := by decide +kernel
theorem dX2_next_184 : decode cX2_next 184 = .ok (.getfield 35, 3) := by decide +kernel
theorem dX2_next_187 : decode cX2_next 187 = .ok (.aload_n 0, 1) := by decide +kernel
theorem dX2_next_188 : decode cX2_next 188 = .ok (.getfield 49, 3) := by decide +kernel
theorem dX2_next_191 : decode cX2_next 191 = .ok (.iconst 1, 1) := by decide +kernel
theorem dX2_next_192 : decode cX2_next 192 = .ok (.iadd, 1) := by decide +kernel
theorem dX2_next_193 : decode cX2_next 193 = .ok (.baload, 1) := by decide +kernel
theorem dX2_next_194 : decode cX2_next 194 = .ok (.goto 4, 3) := by decide +kernel
theorem dX2_next_197 : decode cX2_next 197 = .ok (.iconst 0, 1) := by decide +kernel
theorem dX2_next_198 : decode cX2_next 198 = .ok (.istore_n 2, 1) := by decide +kernel
theorem dX2_next_199 : decode cX2_next 199 = .ok (.iload_n 1, 1) := by decide +kernel
theorem dX2_next_200 : decode cX2_next 200 = .ok (.iload_n 2, 1) := by decide +kernel
theorem dX2_next_201 : decode cX2_next 201 = .ok (.invokestatic 103, 3) := by decide +kernel
theorem dX2_next_204 : decode cX2_next 204 = .ok (.istore_n 3, 1) := by decide +kernel
theorem dX2_next_205 : decode cX2_next 205 = .ok (.aload_n 0, 1) := by decide +kernel
theorem dX2_next_206 : decode cX2_next 206 = .ok (.iload_n 3, 1) := by decide +kernel
theorem dX2_next_207 : decode cX2_next 207 = .ok (.ifCond .eq 8, 3) := by decide +kernel
theorem dX2_next_210 : decode cX2_next 210 = .ok (.iload_n 3, 1) := by decide +kernel
theorem dX2_next_211 : decode cX2_next 211 = .ok (.i2l, 1) := by decide +kernel
theorem dX2_next_212 : decode cX2_next 212 = .ok (.goto 8, 3) := by decide +kernel
theorem dX2_next_215 : decode cX2_next 215 = .ok (.iload_n 1, 1) := by decide +kernel
theorem dX2_next_216 : decode cX2_next 216 = .ok (.invokestatic 106, 3) := by decide +kernel
theorem dX2_next_219 : decode cX2_next 219 = .ok (.i2l, 1) := by decide +kernel
theorem dX2_next_220 : decode cX2_next 220 = .ok (.putfield 110, 3) := by decide +kernel
theorem dX2_next_223 : decode cX2_next 223 = .ok (.aload_n 0, 1) := by decide +kernel
theorem dX2_next_224 : decode cX2_next 224 = .ok (.aload_n 0, 1) := by decide +kernel
theorem dX2_next_225 : decode cX2_next 225 = .ok (.getfield 110, 3) := by decide +kernel
theorem dX2_next_228 : decode cX2_next 228 = .ok (.lconst 0, 1) := by decide +kernel
theorem dX2_next_229 : decode cX2_next 229 = .ok (.lcmp, 1) := by decide +kernel
theorem dX2_next_230 : decode cX2_next 230 = .ok (.ifCond .eq 7, 3) := by decide +kernel
theorem dX2_next_233 : decode cX2_next 233 = .ok (.iconst 3, 1) := by decide +kernel
theorem dX2_next_234 : decode cX2_next 234 = .ok (.goto 4, 3) := by decide +kernel
theorem dX2_next_237 : decode cX2_next 237 = .ok (.iconst 4, 1) := by decide +kernel
theorem dX2_next_238 : decode cX2_next 238 = .ok (.putfield 77, 3) := by decide +kernel
theorem dX2_next_241 : decode cX2_next 241 = .ok (.aload_n 0, 1) := by decide +kernel
theorem dX2_next_242 : decode cX2_next 242 = .ok (.dup, 1) := by decide +kernel
theorem dX2_next_243 : decode cX2_next 243 = .ok (.getfield 49, 3) := by decide +kernel
theorem dX2_next_246 : decode cX2_next 246 = .ok (.iload_n 3, 1) := by decide +kernel
theorem dX2_next_247 : decode cX2_next 247 = .ok (.ifCond .eq 7, 3) := by decide +kernel
theorem dX2_next_250 : decode cX2_next 250 = .ok (.iconst 2, 1) := by decide +kernel
theorem dX2_next_251 : decode cX2_next 251 = .ok (.goto 4, 3) := by decide +kernel
theorem dX2_next_254 : decode cX2_next 254 = .ok (.iconst 1, 1) := by decide +kernel
theorem dX2_next_255 : decode cX2_next 255 = .ok (.iadd, 1) := by decide +kernel
theorem dX2_next_256 : decode cX2_next 256 = .ok (.putfield 49, 3) := by decide +kernel
theorem dX2_next_259 : decode cX2_next 259 = .ok (.return_, 1) := by decide +kernel
theorem dX2_readNumber_0 : decode cX2_readNumber 0 = .ok (.aload_n 0, 1) := by decide +kernel
theorem dX2_readNumber_1 : decode cX2_readNumber 1 = .ok (.getfield 49, 3) := by decide +kernel
theorem dX2_readNumber_4 : decode cX2_readNumber 4 = .ok (.aload_n 0, 1) := by decide +kernel
theorem dX2_readNumber_5 : decode cX2_readNumber 5 = .ok (.getfield 90, 3) := by decide +kernel
theorem dX2_readNumber_8 : decode cX2_readNumber 8 = .ok (.isub, 1) := by decide +kernel
theorem dX2_readNumber_9 : decode cX2_readNumber 9 = .ok (.iconst 2, 1) := by decide +kernel
theorem dX2_readNumber_10 : decode cX2_readNumber 10 = .ok (.if_icmp .le 37, 3) := by decide +kernel
theorem dX2_readNumber_13 : decode cX2_readNumber 13 = .ok (.aload_n 0, 1) := by decide +kernel
theorem dX2_readNumber_14 : decode cX2_readNumber 14 = .ok (.getfield 35, 3) := by decide +kernel
theorem dX2_readNumber_17 : decode cX2_readNumber 17 = .ok (.aload_n 0, 1) := by decide +kernel
theorem dX2_readNumber_18 : decode cX2_readNumber 18 = .ok (.getfield 90, 3) := by decide +kernel
theorem dX2_readNumber_21 : decode cX2_readNumber 21 = .ok (.baload, 1) := by decide +kernel
theorem dX2_readNumber_22 : decode cX2_readNumber 22 = .ok (.bipush 48, 2) := by decide +kernel
theorem dX2_readNumber_24 : decode cX2_readNumber 24 = .ok (.if_icmp .ne 23, 3) := by decide +kernel
theorem dX2_readNumber_27 : decode cX2_readNumber 27 = .ok (.aload_n 0, 1) := by decide +kernel
theorem dX2_readNumber_28 : decode cX2_readNumber 28 = .ok (.getfield 35, 3) := by decide +kernel
theorem dX2_readNumber_31 : decode cX2_readNumber 31 = .ok (.aload_n 0, 1) := by decide +kernel
theorem dX2_readNumber_32 : decode cX2_readNumber 32 = .ok (.getfield 90, 3) := by decide +kernel
theorem dX2_readNumber_35 : decode cX2_readNumber 35 = .ok (.iconst 1, 1) := by decide +kernel
theorem dX2_readNumber_36 : decode cX2_readNumber 36 = .ok (.iadd, 1) := by decide +kernel
theorem dX2_readNumber_37 : decode cX2_readNumber 37 = .ok (.baload, 1) := by decide +kernel
theorem dX2_readNumber_38 : decode cX2_readNumber 38 = .ok (.bipush 120, 2) := by decide +kernel
theorem dX2_readNumber_40 : decode cX2_readNumber 40 = .ok (.if_icmp .ne 7, 3) := by decide +kernel
theorem dX2_readNumber_43 : decode cX2_readNumber 43 = .ok (.iconst 1, 1) := by decide +kernel
theorem dX2_readNumber_44 : decode cX2_readNumber 44 = .ok (.goto 4, 3) := by decide +kernel
theorem dX2_readNumber_47 : decode cX2_readNumber 47 = .ok (.iconst 0, 1) := by decide +kernel
theorem dX2_readNumber_48 : decode cX2_readNumber 48 = .ok (.istore_n 1, 1) := by decide +kernel
theorem dX2_readNumber_49 : decode cX2_readNumber 49 = .ok (.aload_n 0, 1) := by decide +kernel
theorem dX2_readNumber_50 : decode cX2_readNumber 50 = .ok (.lconst 0, 1) := by decide +kernel
theorem dX2_readNumber_51 : decode cX2_readNumber 51 = .ok (.putfield 110, 3) := by decide +kernel
theorem dX2_readNumber_54 : decode cX2_readNumber 54 = .ok (.iload_n 1, 1) := by decide +kernel
theorem dX2_readNumber_55 : decode cX2_readNumber 55 = .ok (.ifCond .eq 12, 3) := by decide +kernel
theorem dX2_readNumber_58 : decode cX2_readNumber 58 = .ok (.aload_n 0, 1) := by decide +kernel
theorem dX2_readNumber_59 : decode cX2_readNumber 59 = .ok (.getfield 90, 3) := by decide +kernel
theorem dX2_readNumber_62 : decode cX2_readNumber 62 = .ok (.iconst 2, 1) := by decide +kernel
theorem dX2_readNumber_63 : decode cX2_readNumber 63 = .ok (.iadd, 1) := by decide +kernel
theorem dX2_readNumber_64 : decode cX2_readNumber 64 = .ok (.goto 7, 3) := by decide +kernel
theorem dX2_readNumber_67 : decode cX2_readNumber 67 = .ok (.aload_n 0, 1) := by decide +kernel
theorem dX2_readNumber_68 : decode cX2_readNumber 68 = .ok (.getfield 90, 3) := by decide +kernel
theorem dX2_readNumber_71 : decode cX2_readNumber 71 = .ok (.istore_n 2, 1) := by decide +kernel
theorem dX2_readNumber_72 : decode cX2_readNumber 72 = .ok (.iload_n 2, 1) := by decide +kernel
theorem dX2_readNumber_73 : decode cX2_readNumber 73 = .ok (.aload_n 0, 1) := by decide +kernel
theorem dX2_readNumber_74 : decode cX2_readNumber 74 = .ok (.getfield 49, 3) := by decide +kernel
theorem dX2_readNumber_77 : decode cX2_readNumber 77 = .ok (.if_icmp .ge 106, 3) := by decide +kernel
theorem dX2_readNumber_80 : decode cX2_readNumber 80 = .ok (.aload_n 0, 1) := by decide +kernel
theorem dX2_readNumber_81 : decode cX2_readNumber 81 = .ok (.getfield 35, 3) := by decide +kernel
theorem dX2_readNumber_84 : decode cX2_readNumber 84 = .ok (.iload_n 2, 1) := by decide +kernel
theorem dX2_readNumber_85 : decode cX2_readNumber 85 = .ok (.baload, 1) := by decide +kernel
theorem dX2_readNumber_86 : decode cX2_readNumber 86 = .ok (.istore_n 3, 1) := by decide +kernel
theorem dX2_readNumber_87 : decode cX2_readNumber 87 = .ok (.iload_n 3, 1) := by decide +kernel
theorem dX2_readNumber_88 : decode cX2_readNumber 88 = .ok (.invokestatic 97, 3) := by decide +kernel
theorem dX2_readNumber_91 : decode cX2_readNumber 91 = .ok (.ifCond .eq 10, 3) := by decide +kernel
theorem dX2_readNumber_94 : decode cX2_readNumber 94 = .ok (.iload_n 3, 1) := by decide +kernel
theorem dX2_readNumber_95 : decode cX2_readNumber 95 = .ok (.bipush 48, 2) := by decide +kernel
theorem dX2_readNumber_97 : decode cX2_readNumber 97 = .ok (.isub, 1) := by decide +kernel
theorem dX2_readNumber_98 : decode cX2_readNumber 98 = .ok (.goto 30, 3) := by decide +kernel
theorem dX2_readNumber_101 : decode cX2_readNumber 101 = .ok (.iload_n 1, 1) := by decide +kernel
theorem dX2_readNumber_102 : decode cX2_readNumber 102 = .ok (.ifCond .eq 25, 3) := by decide +kernel
theorem dX2_readNumber_105 : decode cX2_readNumber 105 = .ok (.iload_n 3, 1) := by decide +kernel
theorem dX2_readNumber_106 : decode cX2_readNumber 106 = .ok (.bipush 97, 2) := by decide +kernel
theorem dX2_readNumber_108 : decode cX2_readNumber 108 = .ok (.if_icmp .lt 19, 3) := by decide +kernel
theorem dX2_readNumber_111 : decode cX2_readNumber 111 = .ok (.iload_n 3, 1) := by decide +kernel
theorem dX2_readNumber_112 : decode cX2_readNumber 112 = .ok (.bipush 102, 2) := by decide +kernel
theorem dX2_readNumber_114 : decode cX2_readNumber 114 = .ok (.if_icmp .gt 13, 3) := by decide +kernel
theorem dX2_readNumber_117 : decode cX2_readNumber 117 = .ok (.iload_n 3, 1) := by decide +kernel
theorem dX2_readNumber_118 : decode cX2_readNumber 118 = .ok (.bipush 97, 2) := by decide +kernel
theorem dX2_readNumber_120 : decode cX2_readNumber 120 = .ok (.isub, 1) := by decide +kernel
theorem dX2_readNumber_121 : decode cX2_readNumber 121 = .ok (.bipush 10, 2) := by decide +kernel
theorem dX2_readNumber_123 : decode cX2_readNumber 123 = .ok (.iadd, 1) := by decide +kernel
theorem dX2_readNumber_124 : decode cX2_readNumber 124 = .ok (.goto 4, 3) := by decide +kernel
theorem dX2_readNumber_127 : decode cX2_readNumber 127 = .ok (.iconst (-1), 1) := by decide +kernel
theorem dX2_readNumber_128 : decode cX2_readNumber 128 = .ok (.istore 4, 2) := by decide +kernel
theorem dX2_readNumber_130 : decode cX2_readNumber 130 = .ok (.aload_n 0, 1) := by decide +kernel
theorem dX2_readNumber_131 : decode cX2_readNumber 131 = .ok (.aload_n 0, 1) := by decide +kernel
theorem dX2_readNumber_132 : decode cX2_readNumber 132 = .ok (.getfield 110, 3) := by decide +kernel
theorem dX2_readNumber_135 : decode cX2_readNumber 135 = .ok (.iload_n 1, 1) := by decide +kernel
theorem dX2_readNumber_136 : decode cX2_readNumber 136 = .ok (.ifCond .eq 8, 3) := by decide +kernel
theorem dX2_readNumber_139 : decode cX2_readNumber 139 = .ok (.bipush 16, 2) := by decide +kernel
theorem dX2_readNumber_141 : decode cX2_readNumber 141 = .ok (.goto 5, 3) := by decide +kernel
theorem dX2_readNumber_144 : decode cX2_readNumber 144 = .ok (.bipush 10, 2) := by decide +kernel
theorem dX2_readNumber_146 : decode cX2_readNumber 146 = .ok (.i2l, 1) := by decide +kernel
theorem dX2_readNumber_147 : decode cX2_readNumber 147 = .ok (.lmul, 1) := by decide +kernel
theorem dX2_readNumber_148 : decode cX2_readNumber 148 = .ok (.iload 4, 2) := by decide +kernel
theorem dX2_readNumber_150 : decode cX2_readNumber 150 = .ok (.i2l, 1) := by decide +kernel
theorem dX2_readNumber_151 : decode cX2_readNumber 151 = .ok (.ladd, 1) := by decide +kernel
theorem dX2_readNumber_152 : decode cX2_readNumber 152 = .ok (.putfield 110, 3) := by decide +kernel
theorem dX2_readNumber_155 : decode cX2_readNumber 155 = .ok (.iload 4, 2) := by decide +kernel
theorem dX2_readNumber_157 : decode cX2_readNumber 157 = .ok (.ifCond .lt 14, 3) := by decide +kernel
theorem dX2_readNumber_160 : decode cX2_readNumber 160 = .ok (.aload_n 0, 1) := by decide +kernel
theorem dX2_readNumber_161 : decode cX2_readNumber 161 = .ok (.getfield 110, 3) := by decide +kernel
theorem dX2_readNumber_164 : decode cX2_readNumber 164 = .ok (.ldc2_w 114, 3) := by decide +kernel
theorem dX2_readNumber_167 : decode cX2_readNumber 167 = .ok (.lcmp, 1) := by decide +kernel
theorem dX2_readNumber_168 : decode cX2_readNumber 168 = .ok (.ifCond .le 9, 3) := by decide +kernel
theorem dX2_readNumber_171 : decode cX2_readNumber 171 = .ok (.aload_n 0, 1) := by decide +kernel
theorem dX2_readNumber_172 : decode cX2_readNumber 172 = .ok (.iconst 4, 1) := by decide +kernel
theorem dX2_readNumber_173 : decode cX2_readNumber 173 = .ok (.putfield 77, 3) := by decide +kernel
theorem dX2_readNumber_176 : decode cX2_readNumber 176 = .ok (.return_, 1) := by decide +kernel
theorem dX2_readNumber_177 : decode cX2_readNumber 177 = .ok (.iinc 2 1, 3) := by decide +kernel
theorem dX2_readNumber_180 : decode cX2_readNumber 180 = .ok (.goto (-108), 3) := by decide +kernel
theorem dX2_readNumber_183 : decode cX2_readNumber 183 = .ok (.return_, 1) := by decide +kernel
theorem dX2_pair_0 : decode cX2_pair 0 = .ok (.iload_n 1, 1) := by decide +kernel
theorem dX2_pair_1 : decode cX2_pair 1 = .ok (.bipush 61, 2) := by decide +kernel
theorem dX2_pair_3 : decode cX2_pair 3 = .ok (.if_icmp .ne 47, 3) := by decide +kernel
theorem dX2_pair_6 : decode cX2_pair 6 = .ok (.iload_n 0, 1) := by decide +kernel
theorem dX2_pair_7 : decode cX2_pair 7 = .ok (.bipush 61, 2) := by decide +kernel
theorem dX2_pair_9 : decode cX2_pair 9 = .ok (.if_icmp .ne 7, 3) := by decide +kernel
theorem dX2_pair_12 : decode cX2_pair 12 = .ok (.iconst 3, 1) := by decide +kernel
theorem dX2_pair_13 : decode cX2_pair 13 = .ok (.goto 36, 3) := by decide +kernel
theorem dX2_pair_16 : decode cX2_pair 16 = .ok (.iload_n 0, 1) := by decide +kernel
theorem dX2_pair_17 : decode cX2_pair 17 = .ok (.bipush 33, 2) := by decide +kernel
theorem dX2_pair_19 : decode cX2_pair 19 = .ok (.if_icmp .ne 7, 3) := by decide +kernel
theorem dX2_pair_22 : decode cX2_pair 22 = .ok (.iconst 4, 1) := by decide +kernel
theorem dX2_pair_23 : decode cX2_pair 23 = .ok (.goto 26, 3) := by decide +kernel
theorem dX2_pair_26 : decode cX2_pair 26 = .ok (.iload_n 0, 1) := by decide +kernel
theorem dX2_pair_27 : decode cX2_pair 27 = .ok (.bipush 60, 2) := by decide +kernel
theorem dX2_pair_29 : decode cX2_pair 29 = .ok (.if_icmp .ne 8, 3) := by decide +kernel
theorem dX2_pair_32 : decode cX2_pair 32 = .ok (.bipush 6, 2) := by decide +kernel
theorem dX2_pair_34 : decode cX2_pair 34 = .ok (.goto 15, 3) := by decide +kernel
theorem dX2_pair_37 : decode cX2_pair 37 = .ok (.iload_n 0, 1) := by decide +kernel
theorem dX2_pair_38 : decode cX2_pair 38 = .ok (.bipush 62, 2) := by decide +kernel
theorem dX2_pair_40 : decode cX2_pair 40 = .ok (.if_icmp .ne 8, 3) := by decide +kernel
theorem dX2_pair_43 : decode cX2_pair 43 = .ok (.bipush 8, 2) := by decide +kernel
theorem dX2_pair_45 : decode cX2_pair 45 = .ok (.goto 4, 3) := by decide +kernel
theorem dX2_pair_48 : decode cX2_pair 48 = .ok (.iconst 0, 1) := by decide +kernel
theorem dX2_pair_49 : decode cX2_pair 49 = .ok (.ireturn, 1) := by decide +kernel
theorem dX2_pair_50 : decode cX2_pair 50 = .ok (.iload_n 0, 1) := by decide +kernel
theorem dX2_pair_51 : decode cX2_pair 51 = .ok (.iload_n 1, 1) := by decide +kernel
theorem dX2_pair_52 : decode cX2_pair 52 = .ok (.if_icmp .eq 5, 3) := by decide +kernel
theorem dX2_pair_55 : decode cX2_pair 55 = .ok (.iconst 0, 1) := by decide +kernel
theorem dX2_pair_56 : decode cX2_pair 56 = .ok (.ireturn, 1) := by decide +kernel
theorem dX2_pair_57 : decode cX2_pair 57 = .ok (.iload_n 0, 1) := by decide +kernel
theorem dX2_pair_58 : decode cX2_pair 58 = .ok (.bipush 124, 2) := by decide +kernel
theorem dX2_pair_60 : decode cX2_pair 60 = .ok (.if_icmp .ne 7, 3) := by decide +kernel
theorem dX2_pair_63 : decode cX2_pair 63 = .ok (.iconst 1, 1) := by decide +kernel
theorem dX2_pair_64 : decode cX2_pair 64 = .ok (.goto 36, 3) := by decide +kernel
theorem dX2_pair_67 : decode cX2_pair 67 = .ok (.iload_n 0, 1) := by decide +kernel
theorem dX2_pair_68 : decode cX2_pair 68 = .ok (.bipush 38, 2) := by decide +kernel
theorem dX2_pair_70 : decode cX2_pair 70 = .ok (.if_icmp .ne 7, 3) := by decide +kernel
theorem dX2_pair_73 : decode cX2_pair 73 = .ok (.iconst 2, 1) := by decide +kernel
theorem dX2_pair_74 : decode cX2_pair 74 = .ok (.goto 26, 3) := by decide +kernel
theorem dX2_pair_77 : decode cX2_pair 77 = .ok (.iload_n 0, 1) := by decide +kernel
theorem dX2_pair_78 : decode cX2_pair 78 = .ok (.bipush 60, 2) := by decide +kernel
theorem dX2_pair_80 : decode cX2_pair 80 = .ok (.if_icmp .ne 8, 3) := by decide +kernel
theorem dX2_pair_83 : decode cX2_pair 83 = .ok (.bipush 12, 2) := by decide +kernel
theorem dX2_pair_85 : decode cX2_pair 85 = .ok (.goto 15, 3) := by decide +kernel
theorem dX2_pair_88 : decode cX2_pair 88 = .ok (.iload_n 0, 1) := by decide +kernel
theorem dX2_pair_89 : decode cX2_pair 89 = .ok (.bipush 62, 2) := by decide +kernel
theorem dX2_pair_91 : decode cX2_pair 91 = .ok (.if_icmp .ne 8, 3) := by decide +kernel
theorem dX2_pair_94 : decode cX2_pair 94 = .ok (.bipush 13, 2) := by decide +kernel
theorem dX2_pair_96 : decode cX2_pair 96 = .ok (.goto 4, 3) := by decide +kernel
theorem dX2_pair_99 : decode cX2_pair 99 = .ok (.iconst 0, 1) := by decide +kernel
theorem dX2_pair_100 : decode cX2_pair 100 = .ok (.ireturn, 1) := by decide +kernel
theorem dX2_alone_0 : decode cX2_alone 0 = .ok (.iload_n 0, 1) := by decide +kernel
theorem dX2_alone_1 : decode cX2_alone 1 = .ok (.lookupswitch 186 #[(33, 168), (37, 165), (38, 150), (40, 174), (41, 177), (42, 159), (43, 153), (45, 156), (47, 162), (60, 139), (62, 141), (91, 180), (93, 183), (94, 147), (124, 144), (126, 171)], 139) := by decide +kernel
theorem dX2_alone_140 : decode cX2_alone 140 = .ok (.iconst 5, 1) := by decide +kernel
theorem dX2_alone_141 : decode cX2_alone 141 = .ok (.ireturn, 1) := by decide +kernel
theorem dX2_alone_142 : decode cX2_alone 142 = .ok (.bipush 7, 2) := by decide +kernel
theorem dX2_alone_144 : decode cX2_alone 144 = .ok (.ireturn, 1) := by decide +kernel
theorem dX2_alone_145 : decode cX2_alone 145 = .ok (.bipush 9, 2) := by decide +kernel
theorem dX2_alone_147 : decode cX2_alone 147 = .ok (.ireturn, 1) := by decide +kernel
theorem dX2_alone_148 : decode cX2_alone 148 = .ok (.bipush 10, 2) := by decide +kernel
theorem dX2_alone_150 : decode cX2_alone 150 = .ok (.ireturn, 1) := by decide +kernel
theorem dX2_alone_151 : decode cX2_alone 151 = .ok (.bipush 11, 2) := by decide +kernel
theorem dX2_alone_153 : decode cX2_alone 153 = .ok (.ireturn, 1) := by decide +kernel
theorem dX2_alone_154 : decode cX2_alone 154 = .ok (.bipush 14, 2) := by decide +kernel
theorem dX2_alone_156 : decode cX2_alone 156 = .ok (.ireturn, 1) := by decide +kernel
theorem dX2_alone_157 : decode cX2_alone 157 = .ok (.bipush 15, 2) := by decide +kernel
theorem dX2_alone_159 : decode cX2_alone 159 = .ok (.ireturn, 1) := by decide +kernel
theorem dX2_alone_160 : decode cX2_alone 160 = .ok (.bipush 16, 2) := by decide +kernel
theorem dX2_alone_162 : decode cX2_alone 162 = .ok (.ireturn, 1) := by decide +kernel
theorem dX2_alone_163 : decode cX2_alone 163 = .ok (.bipush 17, 2) := by decide +kernel
theorem dX2_alone_165 : decode cX2_alone 165 = .ok (.ireturn, 1) := by decide +kernel
theorem dX2_alone_166 : decode cX2_alone 166 = .ok (.bipush 18, 2) := by decide +kernel
theorem dX2_alone_168 : decode cX2_alone 168 = .ok (.ireturn, 1) := by decide +kernel
theorem dX2_alone_169 : decode cX2_alone 169 = .ok (.bipush 19, 2) := by decide +kernel
theorem dX2_alone_171 : decode cX2_alone 171 = .ok (.ireturn, 1) := by decide +kernel
theorem dX2_alone_172 : decode cX2_alone 172 = .ok (.bipush 21, 2) := by decide +kernel
theorem dX2_alone_174 : decode cX2_alone 174 = .ok (.ireturn, 1) := by decide +kernel
theorem dX2_alone_175 : decode cX2_alone 175 = .ok (.bipush 22, 2) := by decide +kernel
theorem dX2_alone_177 : decode cX2_alone 177 = .ok (.ireturn, 1) := by decide +kernel
theorem dX2_alone_178 : decode cX2_alone 178 = .ok (.bipush 28, 2) := by decide +kernel
theorem dX2_alone_180 : decode cX2_alone 180 = .ok (.ireturn, 1) := by decide +kernel
theorem dX2_alone_181 : decode cX2_alone 181 = .ok (.bipush 25, 2) := by decide +kernel
theorem dX2_alone_183 : decode cX2_alone 183 = .ok (.ireturn, 1) := by decide +kernel
theorem dX2_alone_184 : decode cX2_alone 184 = .ok (.bipush 29, 2) := by decide +kernel
theorem dX2_alone_186 : decode cX2_alone 186 = .ok (.ireturn, 1) := by decide +kernel
theorem dX2_alone_187 : decode cX2_alone 187 = .ok (.iconst 0, 1) := by decide +kernel
theorem dX2_alone_188 : decode cX2_alone 188 = .ok (.ireturn, 1) := by decide +kernel
theorem dX2_isWord_0 : decode cX2_isWord 0 = .ok (.aload_n 1, 1) := by decide +kernel
theorem dX2_isWord_1 : decode cX2_isWord 1 = .ok (.aload_n 0, 1) := by decide +kernel
theorem dX2_isWord_2 : decode cX2_isWord 2 = .ok (.getfield 35, 3) := by decide +kernel
theorem dX2_isWord_5 : decode cX2_isWord 5 = .ok (.aload_n 0, 1) := by decide +kernel
theorem dX2_isWord_6 : decode cX2_isWord 6 = .ok (.getfield 90, 3) := by decide +kernel
theorem dX2_isWord_9 : decode cX2_isWord 9 = .ok (.aload_n 0, 1) := by decide +kernel
theorem dX2_isWord_10 : decode cX2_isWord 10 = .ok (.getfield 49, 3) := by decide +kernel
theorem dX2_isWord_13 : decode cX2_isWord 13 = .ok (.aload_n 0, 1) := by decide +kernel
theorem dX2_isWord_14 : decode cX2_isWord 14 = .ok (.getfield 90, 3) := by decide +kernel
theorem dX2_isWord_17 : decode cX2_isWord 17 = .ok (.isub, 1) := by decide +kernel
theorem dX2_isWord_18 : decode cX2_isWord 18 = .ok (.invokestatic 116, 3) := by decide +kernel
theorem dX2_isWord_21 : decode cX2_isWord 21 = .ok (.ireturn, 1) := by decide +kernel
theorem dX2_meaning_0 : decode cX2_meaning 0 = .ok (.aload_n 0, 1) := by decide +kernel
theorem dX2_meaning_1 : decode cX2_meaning 1 = .ok (.ldc 122, 2) := by decide +kernel
theorem dX2_meaning_3 : decode cX2_meaning 3 = .ok (.invokevirtual 124, 3) := by decide +kernel
theorem dX2_meaning_6 : decode cX2_meaning 6 = .ok (.ifCond .eq 13, 3) := by decide +kernel
theorem dX2_meaning_9 : decode cX2_meaning 9 = .ok (.aload_n 0, 1) := by decide +kernel
theorem dX2_meaning_10 : decode cX2_meaning 10 = .ok (.ldc2_w 130, 3) := by decide +kernel
theorem dX2_meaning_13 : decode cX2_meaning 13 = .ok (.putfield 110, 3) := by decide +kernel
theorem dX2_meaning_16 : decode cX2_meaning 16 = .ok (.bipush 31, 2) := by decide +kernel
theorem dX2_meaning_18 : decode cX2_meaning 18 = .ok (.ireturn, 1) := by decide +kernel
theorem dX2_meaning_19 : decode cX2_meaning 19 = .ok (.aload_n 0, 1) := by decide +kernel
theorem dX2_meaning_20 : decode cX2_meaning 20 = .ok (.getfield 35, 3) := by decide +kernel
theorem dX2_meaning_23 : decode cX2_meaning 23 = .ok (.aload_n 0, 1) := by decide +kernel
theorem dX2_meaning_24 : decode cX2_meaning 24 = .ok (.getfield 90, 3) := by decide +kernel
theorem dX2_meaning_27 : decode cX2_meaning 27 = .ok (.baload, 1) := by decide +kernel
theorem dX2_meaning_28 : decode cX2_meaning 28 = .ok (.bipush 120, 2) := by decide +kernel
theorem dX2_meaning_30 : decode cX2_meaning 30 = .ok (.if_icmp .ne 44, 3) := by decide +kernel
theorem dX2_meaning_33 : decode cX2_meaning 33 = .ok (.aload_n 0, 1) := by decide +kernel
theorem dX2_meaning_34 : decode cX2_meaning 34 = .ok (.aload_n 0, 1) := by decide +kernel
theorem dX2_meaning_35 : decode cX2_meaning 35 = .ok (.getfield 35, 3) := by decide +kernel
theorem dX2_meaning_38 : decode cX2_meaning 38 = .ok (.aload_n 0, 1) := by decide +kernel
theorem dX2_meaning_39 : decode cX2_meaning 39 = .ok (.getfield 90, 3) := by decide +kernel
theorem dX2_meaning_42 : decode cX2_meaning 42 = .ok (.aload_n 0, 1) := by decide +kernel
theorem dX2_meaning_43 : decode cX2_meaning 43 = .ok (.getfield 49, 3) := by decide +kernel
theorem dX2_meaning_46 : decode cX2_meaning 46 = .ok (.aload_n 0, 1) := by decide +kernel
theorem dX2_meaning_47 : decode cX2_meaning 47 = .ok (.getfield 90, 3) := by decide +kernel
theorem dX2_meaning_50 : decode cX2_meaning 50 = .ok (.isub, 1) := by decide +kernel
theorem dX2_meaning_51 : decode cX2_meaning 51 = .ok (.invokestatic 132, 3) := by decide +kernel
theorem dX2_meaning_54 : decode cX2_meaning 54 = .ok (.i2l, 1) := by decide +kernel
theorem dX2_meaning_55 : decode cX2_meaning 55 = .ok (.putfield 110, 3) := by decide +kernel
theorem dX2_meaning_58 : decode cX2_meaning 58 = .ok (.aload_n 0, 1) := by decide +kernel
theorem dX2_meaning_59 : decode cX2_meaning 59 = .ok (.getfield 110, 3) := by decide +kernel
theorem dX2_meaning_62 : decode cX2_meaning 62 = .ok (.lconst 0, 1) := by decide +kernel
theorem dX2_meaning_63 : decode cX2_meaning 63 = .ok (.lcmp, 1) := by decide +kernel
theorem dX2_meaning_64 : decode cX2_meaning 64 = .ok (.ifCond .lt 8, 3) := by decide +kernel
theorem dX2_meaning_67 : decode cX2_meaning 67 = .ok (.bipush 31, 2) := by decide +kernel
theorem dX2_meaning_69 : decode cX2_meaning 69 = .ok (.goto 4, 3) := by decide +kernel
theorem dX2_meaning_72 : decode cX2_meaning 72 = .ok (.iconst 0, 1) := by decide +kernel
theorem dX2_meaning_73 : decode cX2_meaning 73 = .ok (.ireturn, 1) := by decide +kernel
theorem dX2_meaning_74 : decode cX2_meaning 74 = .ok (.aload_n 0, 1) := by decide +kernel
theorem dX2_meaning_75 : decode cX2_meaning 75 = .ok (.ldc 136, 2) := by decide +kernel
theorem dX2_meaning_77 : decode cX2_meaning 77 = .ok (.invokevirtual 124, 3) := by decide +kernel
theorem dX2_meaning_80 : decode cX2_meaning 80 = .ok (.ifCond .eq 6, 3) := by decide +kernel
theorem dX2_meaning_83 : decode cX2_meaning 83 = .ok (.bipush 32, 2) := by decide +kernel
theorem dX2_meaning_85 : decode cX2_meaning 85 = .ok (.ireturn, 1) := by decide +kernel
theorem dX2_meaning_86 : decode cX2_meaning 86 = .ok (.aload_n 0, 1) := by decide +kernel
theorem dX2_meaning_87 : decode cX2_meaning 87 = .ok (.ldc 138, 2) := by decide +kernel
theorem dX2_meaning_89 : decode cX2_meaning 89 = .ok (.invokevirtual 124, 3) := by decide +kernel
theorem dX2_meaning_92 : decode cX2_meaning 92 = .ok (.ifCond .eq 6, 3) := by decide +kernel
theorem dX2_meaning_95 : decode cX2_meaning 95 = .ok (.bipush 33, 2) := by decide +kernel
theorem dX2_meaning_97 : decode cX2_meaning 97 = .ok (.ireturn, 1) := by decide +kernel
theorem dX2_meaning_98 : decode cX2_meaning 98 = .ok (.aload_n 0, 1) := by decide +kernel
theorem dX2_meaning_99 : decode cX2_meaning 99 = .ok (.ldc 140, 2) := by decide +kernel
theorem dX2_meaning_101 : decode cX2_meaning 101 = .ok (.invokevirtual 124, 3) := by decide +kernel
theorem dX2_meaning_104 : decode cX2_meaning 104 = .ok (.ifCond .eq 6, 3) := by decide +kernel
theorem dX2_meaning_107 : decode cX2_meaning 107 = .ok (.bipush 27, 2) := by decide +kernel
theorem dX2_meaning_109 : decode cX2_meaning 109 = .ok (.ireturn, 1) := by decide +kernel
theorem dX2_meaning_110 : decode cX2_meaning 110 = .ok (.aload_n 0, 1) := by decide +kernel
theorem dX2_meaning_111 : decode cX2_meaning 111 = .ok (.ldc 142, 2) := by decide +kernel
theorem dX2_meaning_113 : decode cX2_meaning 113 = .ok (.invokevirtual 124, 3) := by decide +kernel
theorem dX2_meaning_116 : decode cX2_meaning 116 = .ok (.ifCond .eq 6, 3) := by decide +kernel
theorem dX2_meaning_119 : decode cX2_meaning 119 = .ok (.bipush 26, 2) := by decide +kernel
theorem dX2_meaning_121 : decode cX2_meaning 121 = .ok (.ireturn, 1) := by decide +kernel
theorem dX2_meaning_122 : decode cX2_meaning 122 = .ok (.aload_n 0, 1) := by decide +kernel
theorem dX2_meaning_123 : decode cX2_meaning 123 = .ok (.ldc 144, 2) := by decide +kernel
theorem dX2_meaning_125 : decode cX2_meaning 125 = .ok (.invokevirtual 124, 3) := by decide +kernel
theorem dX2_meaning_128 : decode cX2_meaning 128 = .ok (.ifCond .eq 6, 3) := by decide +kernel
theorem dX2_meaning_131 : decode cX2_meaning 131 = .ok (.bipush 23, 2) := by decide +kernel
theorem dX2_meaning_133 : decode cX2_meaning 133 = .ok (.ireturn, 1) := by decide +kernel
theorem dX2_meaning_134 : decode cX2_meaning 134 = .ok (.aload_n 0, 1) := by decide +kernel
theorem dX2_meaning_135 : decode cX2_meaning 135 = .ok (.ldc 146, 2) := by decide +kernel
theorem dX2_meaning_137 : decode cX2_meaning 137 = .ok (.invokevirtual 124, 3) := by decide +kernel
theorem dX2_meaning_140 : decode cX2_meaning 140 = .ok (.ifCond .eq 8, 3) := by decide +kernel
theorem dX2_meaning_143 : decode cX2_meaning 143 = .ok (.bipush 24, 2) := by decide +kernel
theorem dX2_meaning_145 : decode cX2_meaning 145 = .ok (.goto 4, 3) := by decide +kernel
theorem dX2_meaning_148 : decode cX2_meaning 148 = .ok (.iconst 0, 1) := by decide +kernel
theorem dX2_meaning_149 : decode cX2_meaning 149 = .ok (.ireturn, 1) := by decide +kernel
theorem dX2_part_0 : decode cX2_part 0 = .ok (.aload_n 0, 1) := by decide +kernel
theorem dX2_part_1 : decode cX2_part 1 = .ok (.dup, 1) := by decide +kernel
theorem dX2_part_2 : decode cX2_part 2 = .ok (.getfield 61, 3) := by decide +kernel
theorem dX2_part_5 : decode cX2_part 5 = .ok (.iconst 1, 1) := by decide +kernel
theorem dX2_part_6 : decode cX2_part 6 = .ok (.iadd, 1) := by decide +kernel
theorem dX2_part_7 : decode cX2_part 7 = .ok (.putfield 61, 3) := by decide +kernel
theorem dX2_part_10 : decode cX2_part 10 = .ok (.aload_n 0, 1) := by decide +kernel
theorem dX2_part_11 : decode cX2_part 11 = .ok (.getfield 61, 3) := by decide +kernel
theorem dX2_part_14 : decode cX2_part 14 = .ok (.bipush 40, 2) := by decide +kernel
theorem dX2_part_16 : decode cX2_part 16 = .ok (.if_icmp .le 8, 3) := by decide +kernel
theorem dX2_part_19 : decode cX2_part 19 = .ok (.aload_n 0, 1) := by decide +kernel
theorem dX2_part_20 : decode cX2_part 20 = .ok (.iconst 3, 1) := by decide +kernel
theorem dX2_part_21 : decode cX2_part 21 = .ok (.invokevirtual 84, 3) := by decide +kernel
theorem dX2_part_24 : decode cX2_part 24 = .ok (.return_, 1) := by decide +kernel
theorem dX2_waiting_0 : decode cX2_waiting 0 = .ok (.iconst 0, 1) := by decide +kernel
theorem dX2_waiting_1 : decode cX2_waiting 1 = .ok (.istore_n 3, 1) := by decide +kernel
theorem dX2_waiting_2 : decode cX2_waiting 2 = .ok (.iconst 0, 1) := by decide +kernel
theorem dX2_waiting_3 : decode cX2_waiting 3 = .ok (.istore 4, 2) := by decide +kernel
theorem dX2_waiting_5 : decode cX2_waiting 5 = .ok (.iload 4, 2) := by decide +kernel
theorem dX2_waiting_7 : decode cX2_waiting 7 = .ok (.aload_n 0, 1) := by decide +kernel
theorem dX2_waiting_8 : decode cX2_waiting 8 = .ok (.getfield 55, 3) := by decide +kernel
theorem dX2_waiting_11 : decode cX2_waiting 11 = .ok (.if_icmp .ge 34, 3) := by decide +kernel
theorem dX2_waiting_14 : decode cX2_waiting 14 = .ok (.aload_n 0, 1) := by decide +kernel
theorem dX2_waiting_15 : decode cX2_waiting 15 = .ok (.getfield 20, 3) := by decide +kernel
theorem dX2_waiting_18 : decode cX2_waiting 18 = .ok (.iload 4, 2) := by decide +kernel
theorem dX2_waiting_20 : decode cX2_waiting 20 = .ok (.iaload, 1) := by decide +kernel
theorem dX2_waiting_21 : decode cX2_waiting 21 = .ok (.iload_n 1, 1) := by decide +kernel
theorem dX2_waiting_22 : decode cX2_waiting 22 = .ok (.if_icmp .lt 17, 3) := by decide +kernel
theorem dX2_waiting_25 : decode cX2_waiting 25 = .ok (.aload_n 0, 1) := by decide +kernel
theorem dX2_waiting_26 : decode cX2_waiting 26 = .ok (.getfield 20, 3) := by decide +kernel
theorem dX2_waiting_29 : decode cX2_waiting 29 = .ok (.iload 4, 2) := by decide +kernel
theorem dX2_waiting_31 : decode cX2_waiting 31 = .ok (.iaload, 1) := by decide +kernel
theorem dX2_waiting_32 : decode cX2_waiting 32 = .ok (.iload_n 2, 1) := by decide +kernel
theorem dX2_waiting_33 : decode cX2_waiting 33 = .ok (.if_icmp .gt 6, 3) := by decide +kernel
theorem dX2_waiting_36 : decode cX2_waiting 36 = .ok (.iinc 3 1, 3) := by decide +kernel
theorem dX2_waiting_39 : decode cX2_waiting 39 = .ok (.iinc 4 1, 3) := by decide +kernel
theorem dX2_waiting_42 : decode cX2_waiting 42 = .ok (.goto (-37), 3) := by decide +kernel
theorem dX2_waiting_45 : decode cX2_waiting 45 = .ok (.iload_n 3, 1) := by decide +kernel
theorem dX2_waiting_46 : decode cX2_waiting 46 = .ok (.ireturn, 1) := by decide +kernel
theorem dX2_opens_0 : decode cX2_opens 0 = .ok (.aload_n 0, 1) := by decide +kernel
theorem dX2_opens_1 : decode cX2_opens 1 = .ok (.invokevirtual 148, 3) := by decide +kernel
theorem dX2_opens_4 : decode cX2_opens 4 = .ok (.aload_n 0, 1) := by decide +kernel
theorem dX2_opens_5 : decode cX2_opens 5 = .ok (.bipush 22, 2) := by decide +kernel
theorem dX2_opens_7 : decode cX2_opens 7 = .ok (.bipush 27, 2) := by decide +kernel
theorem dX2_opens_9 : decode cX2_opens 9 = .ok (.invokevirtual 151, 3) := by decide +kernel
theorem dX2_opens_12 : decode cX2_opens 12 = .ok (.bipush 8, 2) := by decide +kernel
theorem dX2_opens_14 : decode cX2_opens 14 = .ok (.if_icmp .lt 8, 3) := by decide +kernel
theorem dX2_opens_17 : decode cX2_opens 17 = .ok (.aload_n 0, 1) := by decide +kernel
theorem dX2_opens_18 : decode cX2_opens 18 = .ok (.iconst 4, 1) := by decide +kernel
theorem dX2_opens_19 : decode cX2_opens 19 = .ok (.invokevirtual 84, 3) := by decide +kernel
theorem dX2_opens_22 : decode cX2_opens 22 = .ok (.aload_n 0, 1) := by decide +kernel
theorem dX2_opens_23 : decode cX2_opens 23 = .ok (.iload_n 1, 1) := by decide +kernel
theorem dX2_opens_24 : decode cX2_opens 24 = .ok (.iload_n 2, 1) := by decide +kernel
theorem dX2_opens_25 : decode cX2_opens 25 = .ok (.invokevirtual 154, 3) := by decide +kernel
theorem dX2_opens_28 : decode cX2_opens 28 = .ok (.return_, 1) := by decide +kernel
theorem dX2_push_0 : decode cX2_push 0 = .ok (.aload_n 0, 1) := by decide +kernel
theorem dX2_push_1 : decode cX2_push 1 = .ok (.getfield 64, 3) := by decide +kernel
theorem dX2_push_4 : decode cX2_push 4 = .ok (.ifCond .ne 45, 3) := by decide +kernel
theorem dX2_push_7 : decode cX2_push 7 = .ok (.aload_n 0, 1) := by decide +kernel
theorem dX2_push_8 : decode cX2_push 8 = .ok (.getfield 55, 3) := by decide +kernel
theorem dX2_push_11 : decode cX2_push 11 = .ok (.aload_n 0, 1) := by decide +kernel
theorem dX2_push_12 : decode cX2_push 12 = .ok (.getfield 20, 3) := by decide +kernel
theorem dX2_push_15 : decode cX2_push 15 = .ok (.arraylength, 1) := by decide +kernel
theorem dX2_push_16 : decode cX2_push 16 = .ok (.if_icmp .ge 33, 3) := by decide +kernel
theorem dX2_push_19 : decode cX2_push 19 = .ok (.aload_n 0, 1) := by decide +kernel
theorem dX2_push_20 : decode cX2_push 20 = .ok (.getfield 20, 3) := by decide +kernel
theorem dX2_push_23 : decode cX2_push 23 = .ok (.aload_n 0, 1) := by decide +kernel
theorem dX2_push_24 : decode cX2_push 24 = .ok (.getfield 55, 3) := by decide +kernel
theorem dX2_push_27 : decode cX2_push 27 = .ok (.iload_n 1, 1) := by decide +kernel
theorem dX2_push_28 : decode cX2_push 28 = .ok (.iastore, 1) := by decide +kernel
theorem dX2_push_29 : decode cX2_push 29 = .ok (.aload_n 0, 1) := by decide +kernel
theorem dX2_push_30 : decode cX2_push 30 = .ok (.getfield 23, 3) := by decide +kernel
theorem dX2_push_33 : decode cX2_push 33 = .ok (.aload_n 0, 1) := by decide +kernel
theorem dX2_push_34 : decode cX2_push 34 = .ok (.getfield 55, 3) := by decide +kernel
theorem dX2_push_37 : decode cX2_push 37 = .ok (.iload_n 2, 1) := by decide +kernel
theorem dX2_push_38 : decode cX2_push 38 = .ok (.iastore, 1) := by decide +kernel
theorem dX2_push_39 : decode cX2_push 39 = .ok (.aload_n 0, 1) := by decide +kernel
theorem dX2_push_40 : decode cX2_push 40 = .ok (.dup, 1) := by decide +kernel
theorem dX2_push_41 : decode cX2_push 41 = .ok (.getfield 55, 3) := by decide +kernel
theorem dX2_push_44 : decode cX2_push 44 = .ok (.iconst 1, 1) := by decide +kernel
theorem dX2_push_45 : decode cX2_push 45 = .ok (.iadd, 1) := by decide +kernel
theorem dX2_push_46 : decode cX2_push 46 = .ok (.putfield 55, 3) := by decide +kernel
theorem dX2_push_49 : decode cX2_push 49 = .ok (.return_, 1) := by decide +kernel
theorem dX2_emit_0 : decode cX2_emit 0 = .ok (.aload_n 0, 1) := by decide +kernel
theorem dX2_emit_1 : decode cX2_emit 1 = .ok (.getfield 64, 3) := by decide +kernel
theorem dX2_emit_4 : decode cX2_emit 4 = .ok (.ifCond .ne 45, 3) := by decide +kernel
theorem dX2_emit_7 : decode cX2_emit 7 = .ok (.aload_n 0, 1) := by decide +kernel
theorem dX2_emit_8 : decode cX2_emit 8 = .ok (.getfield 52, 3) := by decide +kernel
theorem dX2_emit_11 : decode cX2_emit 11 = .ok (.aload_n 0, 1) := by decide +kernel
theorem dX2_emit_12 : decode cX2_emit 12 = .ok (.getfield 9, 3) := by decide +kernel
theorem dX2_emit_15 : decode cX2_emit 15 = .ok (.arraylength, 1) := by decide +kernel
theorem dX2_emit_16 : decode cX2_emit 16 = .ok (.if_icmp .ge 33, 3) := by decide +kernel
theorem dX2_emit_19 : decode cX2_emit 19 = .ok (.aload_n 0, 1) := by decide +kernel
theorem dX2_emit_20 : decode cX2_emit 20 = .ok (.getfield 9, 3) := by decide +kernel
theorem dX2_emit_23 : decode cX2_emit 23 = .ok (.aload_n 0, 1) := by decide +kernel
theorem dX2_emit_24 : decode cX2_emit 24 = .ok (.getfield 52, 3) := by decide +kernel
theorem dX2_emit_27 : decode cX2_emit 27 = .ok (.iload_n 1, 1) := by decide +kernel
theorem dX2_emit_28 : decode cX2_emit 28 = .ok (.iastore, 1) := by decide +kernel
theorem dX2_emit_29 : decode cX2_emit 29 = .ok (.aload_n 0, 1) := by decide +kernel
theorem dX2_emit_30 : decode cX2_emit 30 = .ok (.getfield 13, 3) := by decide +kernel
theorem dX2_emit_33 : decode cX2_emit 33 = .ok (.aload_n 0, 1) := by decide +kernel
theorem dX2_emit_34 : decode cX2_emit 34 = .ok (.getfield 52, 3) := by decide +kernel
theorem dX2_emit_37 : decode cX2_emit 37 = .ok (.lload_n 2, 1) := by decide +kernel
theorem dX2_emit_38 : decode cX2_emit 38 = .ok (.lastore, 1) := by decide +kernel
theorem dX2_emit_39 : decode cX2_emit 39 = .ok (.aload_n 0, 1) := by decide +kernel
theorem dX2_emit_40 : decode cX2_emit 40 = .ok (.dup, 1) := by decide +kernel
theorem dX2_emit_41 : decode cX2_emit 41 = .ok (.getfield 52, 3) := by decide +kernel
theorem dX2_emit_44 : decode cX2_emit 44 = .ok (.iconst 1, 1) := by decide +kernel
theorem dX2_emit_45 : decode cX2_emit 45 = .ok (.iadd, 1) := by decide +kernel
theorem dX2_emit_46 : decode cX2_emit 46 = .ok (.putfield 52, 3) := by decide +kernel
theorem dX2_emit_49 : decode cX2_emit 49 = .ok (.return_, 1) := by decide +kernel
theorem dX2_takeOperand_0 : decode cX2_takeOperand 0 = .ok (.iconst 0, 1) := by decide +kernel
theorem dX2_takeOperand_1 : decode cX2_takeOperand 1 = .ok (.istore_n 1, 1) := by decide +kernel
theorem dX2_takeOperand_2 : decode cX2_takeOperand 2 = .ok (.aload_n 0, 1) := by decide +kernel
theorem dX2_takeOperand_3 : decode cX2_takeOperand 3 = .ok (.getfield 77, 3) := by decide +kernel
theorem dX2_takeOperand_6 : decode cX2_takeOperand 6 = .ok (.iconst 1, 1) := by decide +kernel
theorem dX2_takeOperand_7 : decode cX2_takeOperand 7 = .ok (.if_icmp .ne 20, 3) := by decide +kernel
theorem dX2_takeOperand_10 : decode cX2_takeOperand 10 = .ok (.aload_n 0, 1) := by decide +kernel
theorem dX2_takeOperand_11 : decode cX2_takeOperand 11 = .ok (.invokevirtual 148, 3) := by decide +kernel
theorem dX2_takeOperand_14 : decode cX2_takeOperand 14 = .ok (.aload_n 0, 1) := by decide +kernel
theorem dX2_takeOperand_15 : decode cX2_takeOperand 15 = .ok (.bipush 30, 2) := by decide +kernel
theorem dX2_takeOperand_17 : decode cX2_takeOperand 17 = .ok (.aload_n 0, 1) := by decide +kernel
theorem dX2_takeOperand_18 : decode cX2_takeOperand 18 = .ok (.getfield 110, 3) := by decide +kernel
theorem dX2_takeOperand_21 : decode cX2_takeOperand 21 = .ok (.invokevirtual 158, 3) := by decide +kernel
theorem dX2_takeOperand_24 : decode cX2_takeOperand 24 = .ok (.goto 145, 3) := by decide +kernel
theorem dX2_takeOperand_27 : decode cX2_takeOperand 27 = .ok (.aload_n 0, 1) := by decide +kernel
theorem dX2_takeOperand_28 : decode cX2_takeOperand 28 = .ok (.getfield 77, 3) := by decide +kernel
theorem dX2_takeOperand_31 : decode cX2_takeOperand 31 = .ok (.iconst 2, 1) := by decide +kernel
theorem dX2_takeOperand_32 : decode cX2_takeOperand 32 = .ok (.if_icmp .ne 11, 3) := by decide +kernel
theorem dX2_takeOperand_35 : decode cX2_takeOperand 35 = .ok (.aload_n 0, 1) := by decide +kernel
theorem dX2_takeOperand_36 : decode cX2_takeOperand 36 = .ok (.invokevirtual 162, 3) := by decide +kernel
theorem dX2_takeOperand_39 : decode cX2_takeOperand 39 = .ok (.istore_n 1, 1) := by decide +kernel
theorem dX2_takeOperand_40 : decode cX2_takeOperand 40 = .ok (.goto 129, 3) := by decide +kernel
theorem dX2_takeOperand_43 : decode cX2_takeOperand 43 = .ok (.aload_n 0, 1) := by decide +kernel
theorem dX2_takeOperand_44 : decode cX2_takeOperand 44 = .ok (.getfield 77, 3) := by decide +kernel
theorem dX2_takeOperand_47 : decode cX2_takeOperand 47 = .ok (.iconst 3, 1) := by decide +kernel
theorem dX2_takeOperand_48 : decode cX2_takeOperand 48 = .ok (.if_icmp .ne 71, 3) := by decide +kernel
theorem dX2_takeOperand_51 : decode cX2_takeOperand 51 = .ok (.aload_n 0, 1) := by decide +kernel
theorem dX2_takeOperand_52 : decode cX2_takeOperand 52 = .ok (.getfield 110, 3) := by decide +kernel
theorem dX2_takeOperand_55 : decode cX2_takeOperand 55 = .ok (.ldc2_w 165, 3) := by decide +kernel
theorem dX2_takeOperand_58 : decode cX2_takeOperand 58 = .ok (.lcmp, 1) := by decide +kernel
theorem dX2_takeOperand_59 : decode cX2_takeOperand 59 = .ok (.ifCond .eq 25, 3) := by decide +kernel
theorem dX2_takeOperand_62 : decode cX2_takeOperand 62 = .ok (.aload_n 0, 1) := by decide +kernel
theorem dX2_takeOperand_63 : decode cX2_takeOperand 63 = .ok (.getfield 110, 3) := by decide +kernel
theorem dX2_takeOperand_66 : decode cX2_takeOperand 66 = .ok (.ldc2_w 167, 3) := by decide +kernel
theorem dX2_takeOperand_69 : decode cX2_takeOperand 69 = .ok (.lcmp, 1) := by decide +kernel
theorem dX2_takeOperand_70 : decode cX2_takeOperand 70 = .ok (.ifCond .eq 14, 3) := by decide +kernel
theorem dX2_takeOperand_73 : decode cX2_takeOperand 73 = .ok (.aload_n 0, 1) := by decide +kernel
theorem dX2_takeOperand_74 : decode cX2_takeOperand 74 = .ok (.getfield 110, 3) := by decide +kernel
theorem dX2_takeOperand_77 : decode cX2_takeOperand 77 = .ok (.ldc2_w 169, 3) := by decide +kernel
theorem dX2_takeOperand_80 : decode cX2_takeOperand 80 = .ok (.lcmp, 1) := by decide +kernel
theorem dX2_takeOperand_81 : decode cX2_takeOperand 81 = .ok (.ifCond .ne 38, 3) := by decide +kernel
theorem dX2_takeOperand_84 : decode cX2_takeOperand 84 = .ok (.aload_n 0, 1) := by decide +kernel
theorem dX2_takeOperand_85 : decode cX2_takeOperand 85 = .ok (.invokevirtual 148, 3) := by decide +kernel
theorem dX2_takeOperand_88 : decode cX2_takeOperand 88 = .ok (.aload_n 0, 1) := by decide +kernel
theorem dX2_takeOperand_89 : decode cX2_takeOperand 89 = .ok (.aload_n 0, 1) := by decide +kernel
theorem dX2_takeOperand_90 : decode cX2_takeOperand 90 = .ok (.getfield 110, 3) := by decide +kernel
theorem dX2_takeOperand_93 : decode cX2_takeOperand 93 = .ok (.ldc2_w 167, 3) := by decide +kernel
theorem dX2_takeOperand_96 : decode cX2_takeOperand 96 = .ok (.lcmp, 1) := by decide +kernel
theorem dX2_takeOperand_97 : decode cX2_takeOperand 97 = .ok (.ifCond .ne 8, 3) := by decide +kernel
theorem dX2_takeOperand_100 : decode cX2_takeOperand 100 = .ok (.bipush 20, 2) := by decide +kernel
theorem dX2_takeOperand_102 : decode cX2_takeOperand 102 = .ok (.goto 8, 3) := by decide +kernel
theorem dX2_takeOperand_105 : decode cX2_takeOperand 105 = .ok (.aload_n 0, 1) := by decide +kernel
theorem dX2_takeOperand_106 : decode cX2_takeOperand 106 = .ok (.getfield 110, 3) := by decide +kernel
theorem dX2_takeOperand_109 : decode cX2_takeOperand 109 = .ok (.l2i, 1) := by decide +kernel
theorem dX2_takeOperand_110 : decode cX2_takeOperand 110 = .ok (.iconst 0, 1) := by decide +kernel
theorem dX2_takeOperand_111 : decode cX2_takeOperand 111 = .ok (.invokevirtual 154, 3) := by decide +kernel
theorem dX2_takeOperand_114 : decode cX2_takeOperand 114 = .ok (.iconst 1, 1) := by decide +kernel
theorem dX2_takeOperand_115 : decode cX2_takeOperand 115 = .ok (.istore_n 1, 1) := by decide +kernel
theorem dX2_takeOperand_116 : decode cX2_takeOperand 116 = .ok (.goto 53, 3) := by decide +kernel
theorem dX2_takeOperand_119 : decode cX2_takeOperand 119 = .ok (.aload_n 0, 1) := by decide +kernel
theorem dX2_takeOperand_120 : decode cX2_takeOperand 120 = .ok (.getfield 77, 3) := by decide +kernel
theorem dX2_takeOperand_123 : decode cX2_takeOperand 123 = .ok (.iconst 3, 1) := by decide +kernel
theorem dX2_takeOperand_124 : decode cX2_takeOperand 124 = .ok (.if_icmp .ne 40, 3) := by decide +kernel
theorem dX2_takeOperand_127 : decode cX2_takeOperand 127 = .ok (.aload_n 0, 1) := by decide +kernel
theorem dX2_takeOperand_128 : decode cX2_takeOperand 128 = .ok (.getfield 110, 3) := by decide +kernel
theorem dX2_takeOperand_131 : decode cX2_takeOperand 131 = .ok (.ldc2_w 171, 3) := by decide +kernel
theorem dX2_takeOperand_134 : decode cX2_takeOperand 134 = .ok (.lcmp, 1) := by decide +kernel
theorem dX2_takeOperand_135 : decode cX2_takeOperand 135 = .ok (.ifCond .eq 14, 3) := by decide +kernel
theorem dX2_takeOperand_138 : decode cX2_takeOperand 138 = .ok (.aload_n 0, 1) := by decide +kernel
theorem dX2_takeOperand_139 : decode cX2_takeOperand 139 = .ok (.getfield 110, 3) := by decide +kernel
theorem dX2_takeOperand_142 : decode cX2_takeOperand 142 = .ok (.ldc2_w 173, 3) := by decide +kernel
theorem dX2_takeOperand_145 : decode cX2_takeOperand 145 = .ok (.lcmp, 1) := by decide +kernel
theorem dX2_takeOperand_146 : decode cX2_takeOperand 146 = .ok (.ifCond .ne 18, 3) := by decide +kernel
theorem dX2_takeOperand_149 : decode cX2_takeOperand 149 = .ok (.aload_n 0, 1) := by decide +kernel
theorem dX2_takeOperand_150 : decode cX2_takeOperand 150 = .ok (.aload_n 0, 1) := by decide +kernel
theorem dX2_takeOperand_151 : decode cX2_takeOperand 151 = .ok (.getfield 110, 3) := by decide +kernel
theorem dX2_takeOperand_154 : decode cX2_takeOperand 154 = .ok (.l2i, 1) := by decide +kernel
theorem dX2_takeOperand_155 : decode cX2_takeOperand 155 = .ok (.iconst 0, 1) := by decide +kernel
theorem dX2_takeOperand_156 : decode cX2_takeOperand 156 = .ok (.invokevirtual 175, 3) := by decide +kernel
theorem dX2_takeOperand_159 : decode cX2_takeOperand 159 = .ok (.iconst 1, 1) := by decide +kernel
theorem dX2_takeOperand_160 : decode cX2_takeOperand 160 = .ok (.istore_n 1, 1) := by decide +kernel
theorem dX2_takeOperand_161 : decode cX2_takeOperand 161 = .ok (.goto 8, 3) := by decide +kernel
theorem dX2_takeOperand_164 : decode cX2_takeOperand 164 = .ok (.aload_n 0, 1) := by decide +kernel
theorem dX2_takeOperand_165 : decode cX2_takeOperand 165 = .ok (.iconst 1, 1) := by decide +kernel
theorem dX2_takeOperand_166 : decode cX2_takeOperand 166 = .ok (.invokevirtual 84, 3) := by decide +kernel
theorem dX2_takeOperand_169 : decode cX2_takeOperand 169 = .ok (.aload_n 0, 1) := by decide +kernel
theorem dX2_takeOperand_170 : decode cX2_takeOperand 170 = .ok (.invokevirtual 70, 3) := by decide +kernel
theorem dX2_takeOperand_173 : decode cX2_takeOperand 173 = .ok (.iload_n 1, 1) := by decide +kernel
theorem dX2_takeOperand_174 : decode cX2_takeOperand 174 = .ok (.ireturn, 1) := by decide +kernel
theorem dX2_takeWord_0 : decode cX2_takeWord 0 = .ok (.aload_n 0, 1) := by decide +kernel
theorem dX2_takeWord_1 : decode cX2_takeWord 1 = .ok (.invokevirtual 178, 3) := by decide +kernel
theorem dX2_takeWord_4 : decode cX2_takeWord 4 = .ok (.istore_n 1, 1) := by decide +kernel
theorem dX2_takeWord_5 : decode cX2_takeWord 5 = .ok (.iload_n 1, 1) := by decide +kernel
theorem dX2_takeWord_6 : decode cX2_takeWord 6 = .ok (.bipush 23, 2) := by decide +kernel
theorem dX2_takeWord_8 : decode cX2_takeWord 8 = .ok (.if_icmp .eq 9, 3) := by decide +kernel
theorem dX2_takeWord_11 : decode cX2_takeWord 11 = .ok (.iload_n 1, 1) := by decide +kernel
theorem dX2_takeWord_12 : decode cX2_takeWord 12 = .ok (.bipush 24, 2) := by decide +kernel
theorem dX2_takeWord_14 : decode cX2_takeWord 14 = .ok (.if_icmp .ne 7, 3) := by decide +kernel
theorem dX2_takeWord_17 : decode cX2_takeWord 17 = .ok (.iconst 1, 1) := by decide +kernel
theorem dX2_takeWord_18 : decode cX2_takeWord 18 = .ok (.goto 4, 3) := by decide +kernel
theorem dX2_takeWord_21 : decode cX2_takeWord 21 = .ok (.iconst 0, 1) := by decide +kernel
theorem dX2_takeWord_22 : decode cX2_takeWord 22 = .ok (.istore_n 2, 1) := by decide +kernel
theorem dX2_takeWord_23 : decode cX2_takeWord 23 = .ok (.iload_n 1, 1) := by decide +kernel
theorem dX2_takeWord_24 : decode cX2_takeWord 24 = .ok (.ifCond .eq 18, 3) := by decide +kernel
theorem dX2_takeWord_27 : decode cX2_takeWord 27 = .ok (.iload_n 2, 1) := by decide +kernel
theorem dX2_takeWord_28 : decode cX2_takeWord 28 = .ok (.ifCond .eq 29, 3) := by decide +kernel
theorem dX2_takeWord_31 : decode cX2_takeWord 31 = .ok (.aload_n 0, 1) := by decide +kernel
theorem dX2_takeWord_32 : decode cX2_takeWord 32 = .ok (.bipush 23, 2) := by decide +kernel
theorem dX2_takeWord_34 : decode cX2_takeWord 34 = .ok (.bipush 24, 2) := by decide +kernel
theorem dX2_takeWord_36 : decode cX2_takeWord 36 = .ok (.invokevirtual 151, 3) := by decide +kernel
theorem dX2_takeWord_39 : decode cX2_takeWord 39 = .ok (.ifCond .le 18, 3) := by decide +kernel
theorem dX2_takeWord_42 : decode cX2_takeWord 42 = .ok (.aload_n 0, 1) := by decide +kernel
theorem dX2_takeWord_43 : decode cX2_takeWord 43 = .ok (.iload_n 1, 1) := by decide +kernel
theorem dX2_takeWord_44 : decode cX2_takeWord 44 = .ok (.ifCond .ne 7, 3) := by decide +kernel
theorem dX2_takeWord_47 : decode cX2_takeWord 47 = .ok (.iconst 2, 1) := by decide +kernel
theorem dX2_takeWord_48 : decode cX2_takeWord 48 = .ok (.goto 4, 3) := by decide +kernel
theorem dX2_takeWord_51 : decode cX2_takeWord 51 = .ok (.iconst 1, 1) := by decide +kernel
theorem dX2_takeWord_52 : decode cX2_takeWord 52 = .ok (.invokevirtual 84, 3) := by decide +kernel
theorem dX2_takeWord_55 : decode cX2_takeWord 55 = .ok (.iconst 0, 1) := by decide +kernel
theorem dX2_takeWord_56 : decode cX2_takeWord 56 = .ok (.ireturn, 1) := by decide +kernel
theorem dX2_takeWord_57 : decode cX2_takeWord 57 = .ok (.aload_n 0, 1) := by decide +kernel
theorem dX2_takeWord_58 : decode cX2_takeWord 58 = .ok (.invokevirtual 148, 3) := by decide +kernel
theorem dX2_takeWord_61 : decode cX2_takeWord 61 = .ok (.iload_n 1, 1) := by decide +kernel
theorem dX2_takeWord_62 : decode cX2_takeWord 62 = .ok (.bipush 31, 2) := by decide +kernel
theorem dX2_takeWord_64 : decode cX2_takeWord 64 = .ok (.if_icmp .eq 15, 3) := by decide +kernel
theorem dX2_takeWord_67 : decode cX2_takeWord 67 = .ok (.iload_n 1, 1) := by decide +kernel
theorem dX2_takeWord_68 : decode cX2_takeWord 68 = .ok (.bipush 32, 2) := by decide +kernel
theorem dX2_takeWord_70 : decode cX2_takeWord 70 = .ok (.if_icmp .eq 9, 3) := by decide +kernel
theorem dX2_takeWord_73 : decode cX2_takeWord 73 = .ok (.iload_n 1, 1) := by decide +kernel
theorem dX2_takeWord_74 : decode cX2_takeWord 74 = .ok (.bipush 33, 2) := by decide +kernel
theorem dX2_takeWord_76 : decode cX2_takeWord 76 = .ok (.if_icmp .ne 14, 3) := by decide +kernel
theorem dX2_takeWord_79 : decode cX2_takeWord 79 = .ok (.aload_n 0, 1) := by decide +kernel
theorem dX2_takeWord_80 : decode cX2_takeWord 80 = .ok (.iload_n 1, 1) := by decide +kernel
theorem dX2_takeWord_81 : decode cX2_takeWord 81 = .ok (.aload_n 0, 1) := by decide +kernel
theorem dX2_takeWord_82 : decode cX2_takeWord 82 = .ok (.getfield 110, 3) := by decide +kernel
theorem dX2_takeWord_85 : decode cX2_takeWord 85 = .ok (.invokevirtual 158, 3) := by decide +kernel
theorem dX2_takeWord_88 : decode cX2_takeWord 88 = .ok (.iconst 0, 1) := by decide +kernel
theorem dX2_takeWord_89 : decode cX2_takeWord 89 = .ok (.ireturn, 1) := by decide +kernel
theorem dX2_takeWord_90 : decode cX2_takeWord 90 = .ok (.aload_n 0, 1) := by decide +kernel
theorem dX2_takeWord_91 : decode cX2_takeWord 91 = .ok (.getfield 64, 3) := by decide +kernel
theorem dX2_takeWord_94 : decode cX2_takeWord 94 = .ok (.ifCond .eq 5, 3) := by decide +kernel
theorem dX2_takeWord_97 : decode cX2_takeWord 97 = .ok (.iconst 0, 1) := by decide +kernel
theorem dX2_takeWord_98 : decode cX2_takeWord 98 = .ok (.ireturn, 1) := by decide +kernel
theorem dX2_takeWord_99 : decode cX2_takeWord 99 = .ok (.aload_n 0, 1) := by decide +kernel
theorem dX2_takeWord_100 : decode cX2_takeWord 100 = .ok (.invokevirtual 70, 3) := by decide +kernel
theorem dX2_takeWord_103 : decode cX2_takeWord 103 = .ok (.aload_n 0, 1) := by decide +kernel
theorem dX2_takeWord_104 : decode cX2_takeWord 104 = .ok (.getfield 77, 3) := by decide +kernel
theorem dX2_takeWord_107 : decode cX2_takeWord 107 = .ok (.iconst 3, 1) := by decide +kernel
theorem dX2_takeWord_108 : decode cX2_takeWord 108 = .ok (.if_icmp .ne 23, 3) := by decide +kernel
theorem dX2_takeWord_111 : decode cX2_takeWord 111 = .ok (.aload_n 0, 1) := by decide +kernel
theorem dX2_takeWord_112 : decode cX2_takeWord 112 = .ok (.getfield 110, 3) := by decide +kernel
theorem dX2_takeWord_115 : decode cX2_takeWord 115 = .ok (.iload_n 2, 1) := by decide +kernel
theorem dX2_takeWord_116 : decode cX2_takeWord 116 = .ok (.ifCond .eq 8, 3) := by decide +kernel
theorem dX2_takeWord_119 : decode cX2_takeWord 119 = .ok (.bipush 22, 2) := by decide +kernel
theorem dX2_takeWord_121 : decode cX2_takeWord 121 = .ok (.goto 5, 3) := by decide +kernel
theorem dX2_takeWord_124 : decode cX2_takeWord 124 = .ok (.bipush 25, 2) := by decide +kernel
theorem dX2_takeWord_126 : decode cX2_takeWord 126 = .ok (.i2l, 1) := by decide +kernel
theorem dX2_takeWord_127 : decode cX2_takeWord 127 = .ok (.lcmp, 1) := by decide +kernel
theorem dX2_takeWord_128 : decode cX2_takeWord 128 = .ok (.ifCond .eq 8, 3) := by decide +kernel
theorem dX2_takeWord_131 : decode cX2_takeWord 131 = .ok (.aload_n 0, 1) := by decide +kernel
theorem dX2_takeWord_132 : decode cX2_takeWord 132 = .ok (.iconst 1, 1) := by decide +kernel
theorem dX2_takeWord_133 : decode cX2_takeWord 133 = .ok (.invokevirtual 84, 3) := by decide +kernel
theorem dX2_takeWord_136 : decode cX2_takeWord 136 = .ok (.aload_n 0, 1) := by decide +kernel
theorem dX2_takeWord_137 : decode cX2_takeWord 137 = .ok (.iload_n 1, 1) := by decide +kernel
theorem dX2_takeWord_138 : decode cX2_takeWord 138 = .ok (.aload_n 0, 1) := by decide +kernel
theorem dX2_takeWord_139 : decode cX2_takeWord 139 = .ok (.getfield 58, 3) := by decide +kernel
theorem dX2_takeWord_142 : decode cX2_takeWord 142 = .ok (.invokevirtual 175, 3) := by decide +kernel
theorem dX2_takeWord_145 : decode cX2_takeWord 145 = .ok (.aload_n 0, 1) := by decide +kernel
theorem dX2_takeWord_146 : decode cX2_takeWord 146 = .ok (.getfield 64, 3) := by decide +kernel
theorem dX2_takeWord_149 : decode cX2_takeWord 149 = .ok (.ifCond .ne 59, 3) := by decide +kernel
theorem dX2_takeWord_152 : decode cX2_takeWord 152 = .ok (.iload_n 2, 1) := by decide +kernel
theorem dX2_takeWord_153 : decode cX2_takeWord 153 = .ok (.ifCond .eq 55, 3) := by decide +kernel
theorem dX2_takeWord_156 : decode cX2_takeWord 156 = .ok (.aload_n 0, 1) := by decide +kernel
theorem dX2_takeWord_157 : decode cX2_takeWord 157 = .ok (.getfield 58, 3) := by decide +kernel
theorem dX2_takeWord_160 : decode cX2_takeWord 160 = .ok (.aload_n 0, 1) := by decide +kernel
theorem dX2_takeWord_161 : decode cX2_takeWord 161 = .ok (.getfield 26, 3) := by decide +kernel
theorem dX2_takeWord_164 : decode cX2_takeWord 164 = .ok (.arraylength, 1) := by decide +kernel
theorem dX2_takeWord_165 : decode cX2_takeWord 165 = .ok (.if_icmp .ge 43, 3) := by decide +kernel
theorem dX2_takeWord_168 : decode cX2_takeWord 168 = .ok (.iload_n 1, 1) := by decide +kernel
theorem dX2_takeWord_169 : decode cX2_takeWord 169 = .ok (.bipush 23, 2) := by decide +kernel
theorem dX2_takeWord_171 : decode cX2_takeWord 171 = .ok (.if_icmp .ne 14, 3) := by decide +kernel
theorem dX2_takeWord_174 : decode cX2_takeWord 174 = .ok (.aload_n 0, 1) := by decide +kernel
theorem dX2_takeWord_175 : decode cX2_takeWord 175 = .ok (.bipush 23, 2) := by decide +kernel
theorem dX2_takeWord_177 : decode cX2_takeWord 177 = .ok (.aload_n 0, 1) := by decide +kernel
theorem dX2_takeWord_178 : decode cX2_takeWord 178 = .ok (.getfield 58, 3) := by decide +kernel
theorem dX2_takeWord_181 : decode cX2_takeWord 181 = .ok (.i2l, 1) := by decide +kernel
theorem dX2_takeWord_182 : decode cX2_takeWord 182 = .ok (.invokevirtual 158, 3) := by decide +kernel
theorem dX2_takeWord_185 : decode cX2_takeWord 185 = .ok (.aload_n 0, 1) := by decide +kernel
theorem dX2_takeWord_186 : decode cX2_takeWord 186 = .ok (.getfield 26, 3) := by decide +kernel
theorem dX2_takeWord_189 : decode cX2_takeWord 189 = .ok (.aload_n 0, 1) := by decide +kernel
theorem dX2_takeWord_190 : decode cX2_takeWord 190 = .ok (.getfield 58, 3) := by decide +kernel
theorem dX2_takeWord_193 : decode cX2_takeWord 193 = .ok (.aload_n 0, 1) := by decide +kernel
theorem dX2_takeWord_194 : decode cX2_takeWord 194 = .ok (.getfield 52, 3) := by decide +kernel
theorem dX2_takeWord_197 : decode cX2_takeWord 197 = .ok (.iastore, 1) := by decide +kernel
theorem dX2_takeWord_198 : decode cX2_takeWord 198 = .ok (.aload_n 0, 1) := by decide +kernel
theorem dX2_takeWord_199 : decode cX2_takeWord 199 = .ok (.dup, 1) := by decide +kernel
theorem dX2_takeWord_200 : decode cX2_takeWord 200 = .ok (.getfield 58, 3) := by decide +kernel
theorem dX2_takeWord_203 : decode cX2_takeWord 203 = .ok (.iconst 1, 1) := by decide +kernel
theorem dX2_takeWord_204 : decode cX2_takeWord 204 = .ok (.iadd, 1) := by decide +kernel
theorem dX2_takeWord_205 : decode cX2_takeWord 205 = .ok (.putfield 58, 3) := by decide +kernel
theorem dX2_takeWord_208 : decode cX2_takeWord 208 = .ok (.iconst 1, 1) := by decide +kernel
theorem dX2_takeWord_209 : decode cX2_takeWord 209 = .ok (.ireturn, 1) := by decide +kernel
theorem dX2_takeOperator_0 : decode cX2_takeOperator 0 = .ok (.iconst 0, 1) := by decide +kernel
theorem dX2_takeOperator_1 : decode cX2_takeOperator 1 = .ok (.istore_n 1, 1) := by decide +kernel
theorem dX2_takeOperator_2 : decode cX2_takeOperator 2 = .ok (.aload_n 0, 1) := by decide +kernel
theorem dX2_takeOperator_3 : decode cX2_takeOperator 3 = .ok (.getfield 77, 3) := by decide +kernel
theorem dX2_takeOperator_6 : decode cX2_takeOperator 6 = .ok (.iconst 3, 1) := by decide +kernel
theorem dX2_takeOperator_7 : decode cX2_takeOperator 7 = .ok (.if_icmp .ne 83, 3) := by decide +kernel
theorem dX2_takeOperator_10 : decode cX2_takeOperator 10 = .ok (.aload_n 0, 1) := by decide +kernel
theorem dX2_takeOperator_11 : decode cX2_takeOperator 11 = .ok (.getfield 110, 3) := by decide +kernel
theorem dX2_takeOperator_14 : decode cX2_takeOperator 14 = .ok (.lconst 1, 1) := by decide +kernel
theorem dX2_takeOperator_15 : decode cX2_takeOperator 15 = .ok (.lcmp, 1) := by decide +kernel
theorem dX2_takeOperator_16 : decode cX2_takeOperator 16 = .ok (.ifCond .lt 74, 3) := by decide +kernel
theorem dX2_takeOperator_19 : decode cX2_takeOperator 19 = .ok (.aload_n 0, 1) := by decide +kernel
theorem dX2_takeOperator_20 : decode cX2_takeOperator 20 = .ok (.getfield 110, 3) := by decide +kernel
theorem dX2_takeOperator_23 : decode cX2_takeOperator 23 = .ok (.ldc2_w 182, 3) := by decide +kernel
theorem dX2_takeOperator_26 : decode cX2_takeOperator 26 = .ok (.lcmp, 1) := by decide +kernel
theorem dX2_takeOperator_27 : decode cX2_takeOperator 27 = .ok (.ifCond .gt 63, 3) := by decide +kernel
theorem dX2_takeOperator_30 : decode cX2_takeOperator 30 = .ok (.aload_n 0, 1) := by decide +kernel
theorem dX2_takeOperator_31 : decode cX2_takeOperator 31 = .ok (.getfield 110, 3) := by decide +kernel
theorem dX2_takeOperator_34 : decode cX2_takeOperator 34 = .ok (.l2i, 1) := by decide +kernel
theorem dX2_takeOperator_35 : decode cX2_takeOperator 35 = .ok (.istore_n 2, 1) := by decide +kernel
theorem dX2_takeOperator_36 : decode cX2_takeOperator 36 = .ok (.aload_n 0, 1) := by decide +kernel
theorem dX2_takeOperator_37 : decode cX2_takeOperator 37 = .ok (.invokevirtual 148, 3) := by decide +kernel
theorem dX2_takeOperator_40 : decode cX2_takeOperator 40 = .ok (.aload_n 0, 1) := by decide +kernel
theorem dX2_takeOperator_41 : decode cX2_takeOperator 41 = .ok (.getstatic 184, 3) := by decide +kernel
theorem dX2_takeOperator_44 : decode cX2_takeOperator 44 = .ok (.iload_n 2, 1) := by decide +kernel
theorem dX2_takeOperator_45 : decode cX2_takeOperator 45 = .ok (.iaload, 1) := by decide +kernel
theorem dX2_takeOperator_46 : decode cX2_takeOperator 46 = .ok (.invokevirtual 80, 3) := by decide +kernel
theorem dX2_takeOperator_49 : decode cX2_takeOperator 49 = .ok (.aload_n 0, 1) := by decide +kernel
theorem dX2_takeOperator_50 : decode cX2_takeOperator 50 = .ok (.iload_n 2, 1) := by decide +kernel
theorem dX2_takeOperator_51 : decode cX2_takeOperator 51 = .ok (.aload_n 0, 1) := by decide +kernel
theorem dX2_takeOperator_52 : decode cX2_takeOperator 52 = .ok (.getfield 52, 3) := by decide +kernel
theorem dX2_takeOperator_55 : decode cX2_takeOperator 55 = .ok (.invokevirtual 154, 3) := by decide +kernel
theorem dX2_takeOperator_58 : decode cX2_takeOperator 58 = .ok (.iload_n 2, 1) := by decide +kernel
theorem dX2_takeOperator_59 : decode cX2_takeOperator 59 = .ok (.iconst 1, 1) := by decide +kernel
theorem dX2_takeOperator_60 : decode cX2_takeOperator 60 = .ok (.if_icmp .eq 8, 3) := by decide +kernel
