theorem dX2_read_26 : decode cX2_read 26 = .ok (.iload_n 1, 1) := by decide +kernel
theorem dX2_read_27 : decode cX2_read 27 = .ok (.ifCond .eq 11, 3) := by decide +kernel
theorem dX2_read_30 : decode cX2_read 30 = .ok (.aload_n 0, 1) := by decide +kernel
theorem dX2_read_31 : decode cX2_read 31 = .ok (.invokevirtual 73, 3) := by decide +kernel
theorem dX2_read_34 : decode cX2_read 34 = .ok (.istore_n 1, 1) := by decide +kernel
theorem dX2_read_35 : decode cX2_read 35 = .ok (.goto 37, 3) := by decide +kernel
theorem dX2_read_72 : decode cX2_read 72 = .ok (.iinc 3 (-1), 3) := by decide +kernel
theorem dX2_read_75 : decode cX2_read 75 = .ok (.goto (-64), 3) := by decide +kernel
theorem dX2_read_78 : decode cX2_read 78 = .ok (.return_, 1) := by decide +kernel
theorem dX2_blame_0 : decode cX2_blame 0 = .ok (.aload_n 0, 1) := by decide +kernel
theorem dX2_blame_1 : decode cX2_blame 1 = .ok (.getfield 64, 3) := by decide +kernel
theorem dX2_blame_4 : decode cX2_blame 4 = .ok (.ifCond .ne 16, 3) := by decide +kernel
theorem dX2_blame_7 : decode cX2_blame 7 = .ok (.aload_n 0, 1) := by decide +kernel
theorem dX2_blame_8 : decode cX2_blame 8 = .ok (.iload_n 1, 1) := by decide +kernel
theorem dX2_blame_9 : decode cX2_blame 9 = .ok (.bipush 8, 2) := by decide +kernel
theorem dX2_blame_11 : decode cX2_blame 11 = .ok (.aload_n 0, 1) := by decide +kernel
theorem dX2_blame_12 : decode cX2_blame 12 = .ok (.getfield 90, 3) := by decide +kernel
theorem dX2_blame_15 : decode cX2_blame 15 = .ok (.imul, 1) := by decide +kernel
theorem dX2_blame_16 : decode cX2_blame 16 = .ok (.iadd, 1) := by decide +kernel
theorem dX2_blame_17 : decode cX2_blame 17 = .ok (.putfield 64, 3) := by decide +kernel
theorem dX2_blame_20 : decode cX2_blame 20 = .ok (.return_, 1) := by decide +kernel
theorem dX2_next_0 : decode cX2_next 0 = .ok (.aload_n 0, 1) := by decide +kernel
theorem dX2_next_1 : decode cX2_next 1 = .ok (.getfield 49, 3) := by decide +kernel
theorem dX2_next_4 : decode cX2_next 4 = .ok (.aload_n 0, 1) := by decide +kernel
theorem dX2_next_5 : decode cX2_next 5 = .ok (.getfield 45, 3) := by decide +kernel
theorem dX2_next_8 : decode cX2_next 8 = .ok (.if_icmp .ge 30, 3) := by decide +kernel
theorem dX2_next_38 : decode cX2_next 38 = .ok (.aload_n 0, 1) := by decide +kernel
theorem dX2_next_39 : decode cX2_next 39 = .ok (.aload_n 0, 1) := by decide +kernel
theorem dX2_next_40 : decode cX2_next 40 = .ok (.getfield 49, 3) := by decide +kernel
theorem dX2_next_43 : decode cX2_next 43 = .ok (.putfield 90, 3) := by decide +kernel
theorem dX2_next_46 : decode cX2_next 46 = .ok (.aload_n 0, 1) := by decide +kernel
theorem dX2_next_47 : decode cX2_next 47 = .ok (.getfield 49, 3) := by decide +kernel
theorem dX2_next_50 : decode cX2_next 50 = .ok (.aload_n 0, 1) := by decide +kernel
theorem dX2_next_51 : decode cX2_next 51 = .ok (.getfield 45, 3) := by decide +kernel
theorem dX2_next_54 : decode cX2_next 54 = .ok (.if_icmp .lt 9, 3) := by decide +kernel
theorem dX2_next_57 : decode cX2_next 57 = .ok (.aload_n 0, 1) := by decide +kernel
theorem dX2_next_58 : decode cX2_next 58 = .ok (.iconst 0, 1) := by decide +kernel
theorem dX2_next_59 : decode cX2_next 59 = .ok (.putfield 77, 3) := by decide +kernel
theorem dX2_next_62 : decode cX2_next 62 = .ok (.return_, 1) := by decide +kernel
theorem dX2_takeOperand_0 : decode cX2_takeOperand 0 = .ok (.iconst 0, 1) := by decide +kernel
theorem dX2_takeOperand_1 : decode cX2_takeOperand 1 = .ok (.istore_n 1, 1) := by decide +kernel
theorem dX2_takeOperand_2 : decode cX2_takeOperand 2 = .ok (.aload_n 0, 1) := by decide +kernel
theorem dX2_takeOperand_3 : decode cX2_takeOperand 3 = .ok (.getfield 77, 3) := by decide +kernel
theorem dX2_takeOperand_6 : decode cX2_takeOperand 6 = .ok (.iconst 1, 1) := by decide +kernel
theorem dX2_takeOperand_7 : decode cX2_takeOperand 7 = .ok (.if_icmp .ne 20, 3) := by decide +kernel
theorem dX2_takeOperand_27 : decode cX2_takeOperand 27 = .ok (.aload_n 0, 1) := by decide +kernel
theorem dX2_takeOperand_28 : decode cX2_takeOperand 28 = .ok (.getfield 77, 3) := by decide +kernel
theorem dX2_takeOperand_31 : decode cX2_takeOperand 31 = .ok (.iconst 2, 1) := by decide +kernel
theorem dX2_takeOperand_32 : decode cX2_takeOperand 32 = .ok (.if_icmp .ne 11, 3) := by decide +kernel
theorem dX2_takeOperand_43 : decode cX2_takeOperand 43 = .ok (.aload_n 0, 1) := by decide +kernel
theorem dX2_takeOperand_44 : decode cX2_takeOperand 44 = .ok (.getfield 77, 3) := by decide +kernel
theorem dX2_takeOperand_47 : decode cX2_takeOperand 47 = .ok (.iconst 3, 1) := by decide +kernel
theorem dX2_takeOperand_48 : decode cX2_takeOperand 48 = .ok (.if_icmp .ne 71, 3) := by decide +kernel
theorem dX2_takeOperand_119 : decode cX2_takeOperand 119 = .ok (.aload_n 0, 1) := by decide +kernel
theorem dX2_takeOperand_120 : decode cX2_takeOperand 120 = .ok (.getfield 77, 3) := by decide +kernel
theorem dX2_takeOperand_123 : decode cX2_takeOperand 123 = .ok (.iconst 3, 1) := by decide +kernel
theorem dX2_takeOperand_124 : decode cX2_takeOperand 124 = .ok (.if_icmp .ne 40, 3) := by decide +kernel
theorem dX2_takeOperand_164 : decode cX2_takeOperand 164 = .ok (.aload_n 0, 1) := by decide +kernel
theorem dX2_takeOperand_165 : decode cX2_takeOperand 165 = .ok (.iconst 1, 1) := by decide +kernel
theorem dX2_takeOperand_166 : decode cX2_takeOperand 166 = .ok (.invokevirtual 84, 3) := by decide +kernel
theorem dX2_takeOperand_169 : decode cX2_takeOperand 169 = .ok (.aload_n 0, 1) := by decide +kernel
theorem dX2_takeOperand_170 : decode cX2_takeOperand 170 = .ok (.invokevirtual 70, 3) := by decide +kernel
theorem dX2_takeOperand_173 : decode cX2_takeOperand 173 = .ok (.iload_n 1, 1) := by decide +kernel
theorem dX2_takeOperand_174 : decode cX2_takeOperand 174 = .ok (.ireturn, 1) := by decide +kernel
theorem dX3_init_0 : decode cX3_init 0 = .ok (.aload_n 0, 1) := by decide +kernel
theorem dX3_init_1 : decode cX3_init 1 = .ok (.invokespecial 1, 3) := by decide +kernel
theorem dX3_init_4 : decode cX3_init 4 = .ok (.aload_n 0, 1) := by decide +kernel
theorem dX3_init_5 : decode cX3_init 5 = .ok (.sipush 2048, 3) := by decide +kernel
theorem dX3_init_8 : decode cX3_init 8 = .ok (.newarray .int, 2) := by decide +kernel
theorem dX3_init_10 : decode cX3_init 10 = .ok (.putfield 9, 3) := by decide +kernel
theorem dX3_init_13 : decode cX3_init 13 = .ok (.aload_n 0, 1) := by decide +kernel
theorem dX3_init_14 : decode cX3_init 14 = .ok (.sipush 2048, 3) := by decide +kernel
theorem dX3_init_17 : decode cX3_init 17 = .ok (.newarray .long, 2) := by decide +kernel
theorem dX3_init_19 : decode cX3_init 19 = .ok (.putfield 13, 3) := by decide +kernel
theorem dX3_init_22 : decode cX3_init 22 = .ok (.aload_n 0, 1) := by decide +kernel
theorem dX3_init_23 : decode cX3_init 23 = .ok (.sipush 2048, 3) := by decide +kernel
theorem dX3_init_26 : decode cX3_init 26 = .ok (.newarray .long, 2) := by decide +kernel
theorem dX3_init_28 : decode cX3_init 28 = .ok (.putfield 17, 3) := by decide +kernel
theorem dX3_init_31 : decode cX3_init 31 = .ok (.aload_n 0, 1) := by decide +kernel
theorem dX3_init_32 : decode cX3_init 32 = .ok (.sipush 2048, 3) := by decide +kernel
theorem dX3_init_35 : decode cX3_init 35 = .ok (.newarray .int, 2) := by decide +kernel
theorem dX3_init_37 : decode cX3_init 37 = .ok (.putfield 20, 3) := by decide +kernel
theorem dX3_init_40 : decode cX3_init 40 = .ok (.aload_n 0, 1) := by decide +kernel
theorem dX3_init_41 : decode cX3_init 41 = .ok (.iconst 0, 1) := by decide +kernel
theorem dX3_init_42 : decode cX3_init 42 = .ok (.newarray .byte, 2) := by decide +kernel
theorem dX3_init_44 : decode cX3_init 44 = .ok (.putfield 23, 3) := by decide +kernel
theorem dX3_init_47 : decode cX3_init 47 = .ok (.return_, 1) := by decide +kernel
theorem dX3_isEvent_0 : decode cX3_isEvent 0 = .ok (.iload_n 0, 1) := by decide +kernel
theorem dX3_isEvent_1 : decode cX3_isEvent 1 = .ok (.tableswitch 119 0 3 #[31, 51, 68, 99], 31) := by decide +kernel
theorem dX3_isEvent_32 : decode cX3_isEvent 32 = .ok (.lload_n 1, 1) := by decide +kernel
theorem dX3_isEvent_33 : decode cX3_isEvent 33 = .ok (.lconst 0, 1) := by decide +kernel
theorem dX3_isEvent_34 : decode cX3_isEvent 34 = .ok (.lcmp, 1) := by decide +kernel
theorem dX3_isEvent_35 : decode cX3_isEvent 35 = .ok (.ifCond .lt 15, 3) := by decide +kernel
theorem dX3_isEvent_38 : decode cX3_isEvent 38 = .ok (.lload_n 1, 1) := by decide +kernel
theorem dX3_isEvent_39 : decode cX3_isEvent 39 = .ok (.ldc2_w 29, 3) := by decide +kernel
theorem dX3_isEvent_42 : decode cX3_isEvent 42 = .ok (.lcmp, 1) := by decide +kernel
theorem dX3_isEvent_43 : decode cX3_isEvent 43 = .ok (.ifCond .ge 7, 3) := by decide +kernel
theorem dX3_isEvent_46 : decode cX3_isEvent 46 = .ok (.iconst 1, 1) := by decide +kernel
theorem dX3_isEvent_47 : decode cX3_isEvent 47 = .ok (.goto 4, 3) := by decide +kernel
theorem dX3_isEvent_50 : decode cX3_isEvent 50 = .ok (.iconst 0, 1) := by decide +kernel
theorem dX3_isEvent_51 : decode cX3_isEvent 51 = .ok (.ireturn, 1) := by decide +kernel
theorem dX3_isEvent_52 : decode cX3_isEvent 52 = .ok (.iload_n 3, 1) := by decide +kernel
theorem dX3_isEvent_53 : decode cX3_isEvent 53 = .ok (.iconst 1, 1) := by decide +kernel
theorem dX3_isEvent_54 : decode cX3_isEvent 54 = .ok (.if_icmp .lt 13, 3) := by decide +kernel
theorem dX3_isEvent_57 : decode cX3_isEvent 57 = .ok (.iload_n 3, 1) := by decide +kernel
theorem dX3_isEvent_58 : decode cX3_isEvent 58 = .ok (.bipush 8, 2) := by decide +kernel
theorem dX3_isEvent_60 : decode cX3_isEvent 60 = .ok (.if_icmp .gt 7, 3) := by decide +kernel
theorem dX3_isEvent_63 : decode cX3_isEvent 63 = .ok (.iconst 1, 1) := by decide +kernel
theorem dX3_isEvent_64 : decode cX3_isEvent 64 = .ok (.goto 4, 3) := by decide +kernel
theorem dX3_isEvent_67 : decode cX3_isEvent 67 = .ok (.iconst 0, 1) := by decide +kernel
theorem dX3_isEvent_68 : decode cX3_isEvent 68 = .ok (.ireturn, 1) := by decide +kernel
theorem dX3_isEvent_69 : decode cX3_isEvent 69 = .ok (.lload_n 1, 1) := by decide +kernel
theorem dX3_isEvent_70 : decode cX3_isEvent 70 = .ok (.lconst 0, 1) := by decide +kernel
theorem dX3_isEvent_71 : decode cX3_isEvent 71 = .ok (.lcmp, 1) := by decide +kernel
theorem dX3_isEvent_72 : decode cX3_isEvent 72 = .ok (.ifCond .lt 26, 3) := by decide +kernel
theorem dX3_isEvent_75 : decode cX3_isEvent 75 = .ok (.lload_n 1, 1) := by decide +kernel
theorem dX3_isEvent_76 : decode cX3_isEvent 76 = .ok (.ldc2_w 29, 3) := by decide +kernel
theorem dX3_isEvent_79 : decode cX3_isEvent 79 = .ok (.lcmp, 1) := by decide +kernel
theorem dX3_isEvent_80 : decode cX3_isEvent 80 = .ok (.ifCond .ge 18, 3) := by decide +kernel
theorem dX3_isEvent_83 : decode cX3_isEvent 83 = .ok (.iload_n 3, 1) := by decide +kernel
theorem dX3_isEvent_84 : decode cX3_isEvent 84 = .ok (.iconst 1, 1) := by decide +kernel
theorem dX3_isEvent_85 : decode cX3_isEvent 85 = .ok (.if_icmp .lt 13, 3) := by decide +kernel
theorem dX3_isEvent_88 : decode cX3_isEvent 88 = .ok (.iload_n 3, 1) := by decide +kernel
theorem dX3_isEvent_89 : decode cX3_isEvent 89 = .ok (.bipush 31, 2) := by decide +kernel
theorem dX3_isEvent_91 : decode cX3_isEvent 91 = .ok (.if_icmp .gt 7, 3) := by decide +kernel
theorem dX3_isEvent_94 : decode cX3_isEvent 94 = .ok (.iconst 1, 1) := by decide +kernel
theorem dX3_isEvent_95 : decode cX3_isEvent 95 = .ok (.goto 4, 3) := by decide +kernel
theorem dX3_isEvent_98 : decode cX3_isEvent 98 = .ok (.iconst 0, 1) := by decide +kernel
theorem dX3_isEvent_99 : decode cX3_isEvent 99 = .ok (.ireturn, 1) := by decide +kernel
theorem dX3_isEvent_100 : decode cX3_isEvent 100 = .ok (.lload_n 1, 1) := by decide +kernel
theorem dX3_isEvent_101 : decode cX3_isEvent 101 = .ok (.lconst 0, 1) := by decide +kernel
theorem dX3_isEvent_102 : decode cX3_isEvent 102 = .ok (.lcmp, 1) := by decide +kernel
theorem dX3_isEvent_103 : decode cX3_isEvent 103 = .ok (.ifCond .lt 15, 3) := by decide +kernel
theorem dX3_isEvent_106 : decode cX3_isEvent 106 = .ok (.lload_n 1, 1) := by decide +kernel
theorem dX3_isEvent_107 : decode cX3_isEvent 107 = .ok (.ldc2_w 31, 3) := by decide +kernel
theorem dX3_isEvent_110 : decode cX3_isEvent 110 = .ok (.lcmp, 1) := by decide +kernel
theorem dX3_isEvent_111 : decode cX3_isEvent 111 = .ok (.ifCond .gt 7, 3) := by decide +kernel
theorem dX3_isEvent_114 : decode cX3_isEvent 114 = .ok (.iconst 1, 1) := by decide +kernel
theorem dX3_isEvent_115 : decode cX3_isEvent 115 = .ok (.goto 4, 3) := by decide +kernel
theorem dX3_isEvent_118 : decode cX3_isEvent 118 = .ok (.iconst 0, 1) := by decide +kernel
theorem dX3_isEvent_119 : decode cX3_isEvent 119 = .ok (.ireturn, 1) := by decide +kernel
theorem dX3_isEvent_120 : decode cX3_isEvent 120 = .ok (.iload_n 0, 1) := by decide +kernel
theorem dX3_isEvent_121 : decode cX3_isEvent 121 = .ok (.iconst 4, 1) := by decide +kernel
theorem dX3_isEvent_122 : decode cX3_isEvent 122 = .ok (.if_icmp .ne 7, 3) := by decide +kernel
theorem dX3_isEvent_125 : decode cX3_isEvent 125 = .ok (.iconst 1, 1) := by decide +kernel
theorem dX3_isEvent_126 : decode cX3_isEvent 126 = .ok (.goto 4, 3) := by decide +kernel
theorem dX3_isEvent_129 : decode cX3_isEvent 129 = .ok (.iconst 0, 1) := by decide +kernel
theorem dX3_isEvent_130 : decode cX3_isEvent 130 = .ok (.ireturn, 1) := by decide +kernel
theorem dX3_told_0 : decode cX3_told 0 = .ok (.iload_n 1, 1) := by decide +kernel
theorem dX3_told_1 : decode cX3_told 1 = .ok (.ifCond .lt 11, 3) := by decide +kernel
theorem dX3_told_4 : decode cX3_told 4 = .ok (.iload_n 1, 1) := by decide +kernel
theorem dX3_told_5 : decode cX3_told 5 = .ok (.aload_n 0, 1) := by decide +kernel
theorem dX3_told_6 : decode cX3_told 6 = .ok (.getfield 35, 3) := by decide +kernel
theorem dX3_told_9 : decode cX3_told 9 = .ok (.if_icmp .lt 7, 3) := by decide +kernel
theorem dX3_told_12 : decode cX3_told 12 = .ok (.ldc2_w 42, 3) := by decide +kernel
theorem dX3_told_15 : decode cX3_told 15 = .ok (.lreturn, 1) := by decide +kernel
theorem dX3_writeLog_0 : decode cX3_writeLog 0 = .ok (.aload_n 0, 1) := by decide +kernel
theorem dX3_writeLog_1 : decode cX3_writeLog 1 = .ok (.aload_n 1, 1) := by decide +kernel
theorem dX3_writeLog_2 : decode cX3_writeLog 2 = .ok (.putfield 23, 3) := by decide +kernel
theorem dX3_writeLog_5 : decode cX3_writeLog 5 = .ok (.aload_n 0, 1) := by decide +kernel
theorem dX3_writeLog_6 : decode cX3_writeLog 6 = .ok (.iconst 0, 1) := by decide +kernel
theorem dX3_writeLog_7 : decode cX3_writeLog 7 = .ok (.putfield 44, 3) := by decide +kernel
theorem dX3_writeLog_10 : decode cX3_writeLog 10 = .ok (.aload_n 0, 1) := by decide +kernel
theorem dX3_writeLog_11 : decode cX3_writeLog 11 = .ok (.aload_n 0, 1) := by decide +kernel
theorem dX3_writeLog_12 : decode cX3_writeLog 12 = .ok (.getfield 35, 3) := by decide +kernel
theorem dX3_writeLog_15 : decode cX3_writeLog 15 = .ok (.i2l, 1) := by decide +kernel
theorem dX3_writeLog_16 : decode cX3_writeLog 16 = .ok (.invokevirtual 47, 3) := by decide +kernel
theorem dX3_writeLog_19 : decode cX3_writeLog 19 = .ok (.iconst 0, 1) := by decide +kernel
theorem dX3_writeLog_20 : decode cX3_writeLog 20 = .ok (.istore_n 2, 1) := by decide +kernel
theorem dX3_writeLog_21 : decode cX3_writeLog 21 = .ok (.iload_n 2, 1) := by decide +kernel
theorem dX3_writeLog_22 : decode cX3_writeLog 22 = .ok (.aload_n 0, 1) := by decide +kernel
theorem dX3_writeLog_23 : decode cX3_writeLog 23 = .ok (.getfield 35, 3) := by decide +kernel
theorem dX3_writeLog_26 : decode cX3_writeLog 26 = .ok (.if_icmp .ge 62, 3) := by decide +kernel
theorem dX3_writeLog_88 : decode cX3_writeLog 88 = .ok (.aload_n 0, 1) := by decide +kernel
theorem dX3_writeLog_89 : decode cX3_writeLog 89 = .ok (.getfield 44, 3) := by decide +kernel
theorem dX3_writeLog_92 : decode cX3_writeLog 92 = .ok (.ireturn, 1) := by decide +kernel
theorem dX3_putByte_0 : decode cX3_putByte 0 = .ok (.aload_n 0, 1) := by decide +kernel
theorem dX3_putByte_1 : decode cX3_putByte 1 = .ok (.getfield 44, 3) := by decide +kernel
theorem dX3_putByte_4 : decode cX3_putByte 4 = .ok (.aload_n 0, 1) := by decide +kernel
theorem dX3_putByte_5 : decode cX3_putByte 5 = .ok (.getfield 23, 3) := by decide +kernel
theorem dX3_putByte_8 : decode cX3_putByte 8 = .ok (.arraylength, 1) := by decide +kernel
theorem dX3_putByte_9 : decode cX3_putByte 9 = .ok (.if_icmp .ge 24, 3) := by decide +kernel
theorem dX3_putByte_12 : decode cX3_putByte 12 = .ok (.aload_n 0, 1) := by decide +kernel
theorem dX3_putByte_13 : decode cX3_putByte 13 = .ok (.getfield 23, 3) := by decide +kernel
theorem dX3_putByte_16 : decode cX3_putByte 16 = .ok (.aload_n 0, 1) := by decide +kernel
theorem dX3_putByte_17 : decode cX3_putByte 17 = .ok (.getfield 44, 3) := by decide +kernel
theorem dX3_putByte_20 : decode cX3_putByte 20 = .ok (.iload_n 1, 1) := by decide +kernel
theorem dX3_putByte_21 : decode cX3_putByte 21 = .ok (.i2b, 1) := by decide +kernel
theorem dX3_putByte_22 : decode cX3_putByte 22 = .ok (.bastore, 1) := by decide +kernel
theorem dX3_putByte_23 : decode cX3_putByte 23 = .ok (.aload_n 0, 1) := by decide +kernel
theorem dX3_putByte_24 : decode cX3_putByte 24 = .ok (.dup, 1) := by decide +kernel
theorem dX3_putByte_25 : decode cX3_putByte 25 = .ok (.getfield 44, 3) := by decide +kernel
theorem dX3_putByte_28 : decode cX3_putByte 28 = .ok (.iconst 1, 1) := by decide +kernel
theorem dX3_putByte_29 : decode cX3_putByte 29 = .ok (.iadd, 1) := by decide +kernel
theorem dX3_putByte_30 : decode cX3_putByte 30 = .ok (.putfield 44, 3) := by decide +kernel
theorem dX3_putByte_33 : decode cX3_putByte 33 = .ok (.return_, 1) := by decide +kernel
theorem dX3_putVarint_0 : decode cX3_putVarint 0 = .ok (.lload_n 1, 1) := by decide +kernel
theorem dX3_putVarint_1 : decode cX3_putVarint 1 = .ok (.lstore_n 3, 1) := by decide +kernel
theorem dX3_putVarint_2 : decode cX3_putVarint 2 = .ok (.iconst 0, 1) := by decide +kernel
theorem dX3_putVarint_3 : decode cX3_putVarint 3 = .ok (.istore 5, 2) := by decide +kernel
theorem dX3_putVarint_5 : decode cX3_putVarint 5 = .ok (.iload 5, 2) := by decide +kernel
theorem dX3_putVarint_7 : decode cX3_putVarint 7 = .ok (.bipush 7, 2) := by decide +kernel
theorem dX3_putVarint_9 : decode cX3_putVarint 9 = .ok (.if_icmp .ge 36, 3) := by decide +kernel
theorem dX3_putVarint_12 : decode cX3_putVarint 12 = .ok (.lload_n 3, 1) := by decide +kernel
theorem dX3_putVarint_13 : decode cX3_putVarint 13 = .ok (.ldc2_w 84, 3) := by decide +kernel
theorem dX3_putVarint_16 : decode cX3_putVarint 16 = .ok (.lcmp, 1) := by decide +kernel
theorem dX3_putVarint_17 : decode cX3_putVarint 17 = .ok (.ifCond .le 28, 3) := by decide +kernel
theorem dX3_putVarint_45 : decode cX3_putVarint 45 = .ok (.aload_n 0, 1) := by decide +kernel
theorem dX3_putVarint_46 : decode cX3_putVarint 46 = .ok (.lload_n 3, 1) := by decide +kernel
theorem dX3_putVarint_47 : decode cX3_putVarint 47 = .ok (.l2i, 1) := by decide +kernel
theorem dX3_putVarint_48 : decode cX3_putVarint 48 = .ok (.invokevirtual 59, 3) := by decide +kernel
theorem dX3_putVarint_51 : decode cX3_putVarint 51 = .ok (.return_, 1) := by decide +kernel
theorem dX4_init_0 : decode cX4_init 0 = .ok (.aload_n 0, 1) := by decide +kernel
theorem dX4_init_1 : decode cX4_init 1 = .ok (.invokespecial 1, 3) := by decide +kernel
theorem dX4_init_4 : decode cX4_init 4 = .ok (.aload_n 0, 1) := by decide +kernel
theorem dX4_init_5 : decode cX4_init 5 = .ok (.aload_n 1, 1) := by decide +kernel
theorem dX4_init_6 : decode cX4_init 6 = .ok (.putfield 7, 3) := by decide +kernel
theorem dX4_init_9 : decode cX4_init 9 = .ok (.aload_n 0, 1) := by decide +kernel
theorem dX4_init_10 : decode cX4_init 10 = .ok (.aload_n 1, 1) := by decide +kernel
theorem dX4_init_11 : decode cX4_init 11 = .ok (.getfield 13, 3) := by decide +kernel
theorem dX4_init_14 : decode cX4_init 14 = .ok (.putfield 19, 3) := by decide +kernel
theorem dX4_init_17 : decode cX4_init 17 = .ok (.return_, 1) := by decide +kernel
theorem dX5_init_0 : decode cX5_init 0 = .ok (.aload_n 0, 1) := by decide +kernel
theorem dX5_init_1 : decode cX5_init 1 = .ok (.invokespecial 1, 3) := by decide +kernel
theorem dX5_init_4 : decode cX5_init 4 = .ok (.aload_n 0, 1) := by decide +kernel
theorem dX5_init_5 : decode cX5_init 5 = .ok (.bipush 16, 2) := by decide +kernel
theorem dX5_init_7 : decode cX5_init 7 = .ok (.newarray .byte, 2) := by decide +kernel
theorem dX5_init_9 : decode cX5_init 9 = .ok (.putfield 9, 3) := by decide +kernel
theorem dX5_init_12 : decode cX5_init 12 = .ok (.aload_n 0, 1) := by decide +kernel
theorem dX5_init_13 : decode cX5_init 13 = .ok (.bipush 16, 2) := by decide +kernel
theorem dX5_init_15 : decode cX5_init 15 = .ok (.newarray .byte, 2) := by decide +kernel
theorem dX5_init_17 : decode cX5_init 17 = .ok (.putfield 15, 3) := by decide +kernel
theorem dX5_init_20 : decode cX5_init 20 = .ok (.aload_n 0, 1) := by decide +kernel
theorem dX5_init_21 : decode cX5_init 21 = .ok (.aload_n 1, 1) := by decide +kernel
theorem dX5_init_22 : decode cX5_init 22 = .ok (.putfield 18, 3) := by decide +kernel
theorem dX5_init_25 : decode cX5_init 25 = .ok (.aload_n 0, 1) := by decide +kernel
theorem dX5_init_26 : decode cX5_init 26 = .ok (.aload_n 1, 1) := by decide +kernel
theorem dX5_init_27 : decode cX5_init 27 = .ok (.getfield 22, 3) := by decide +kernel
theorem dX5_init_30 : decode cX5_init 30 = .ok (.putfield 28, 3) := by decide +kernel
theorem dX5_init_33 : decode cX5_init 33 = .ok (.aload_n 0, 1) := by decide +kernel
theorem dX5_init_34 : decode cX5_init 34 = .ok (.aload_n 1, 1) := by decide +kernel
theorem dX5_init_35 : decode cX5_init 35 = .ok (.getfield 29, 3) := by decide +kernel
theorem dX5_init_38 : decode cX5_init 38 = .ok (.putfield 33, 3) := by decide +kernel
theorem dX5_init_41 : decode cX5_init 41 = .ok (.aload_n 0, 1) := by decide +kernel
theorem dX5_init_42 : decode cX5_init 42 = .ok (.aload_n 1, 1) := by decide +kernel
theorem dX5_init_43 : decode cX5_init 43 = .ok (.getfield 34, 3) := by decide +kernel
theorem dX5_init_46 : decode cX5_init 46 = .ok (.putfield 37, 3) := by decide +kernel
theorem dX5_init_49 : decode cX5_init 49 = .ok (.aload_n 0, 1) := by decide +kernel
theorem dX5_init_50 : decode cX5_init 50 = .ok (.new 38, 3) := by decide +kernel
theorem dX5_init_53 : decode cX5_init 53 = .ok (.dup, 1) := by decide +kernel
theorem dX5_init_54 : decode cX5_init 54 = .ok (.aload_n 1, 1) := by decide +kernel
theorem dX5_init_55 : decode cX5_init 55 = .ok (.invokespecial 40, 3) := by decide +kernel
theorem dX5_init_58 : decode cX5_init 58 = .ok (.putfield 43, 3) := by decide +kernel
theorem dX5_init_61 : decode cX5_init 61 = .ok (.aload_n 0, 1) := by decide +kernel
theorem dX5_init_62 : decode cX5_init 62 = .ok (.aload_n 2, 1) := by decide +kernel
theorem dX5_init_63 : decode cX5_init 63 = .ok (.putfield 47, 3) := by decide +kernel
theorem dX5_init_66 : decode cX5_init 66 = .ok (.return_, 1) := by decide +kernel
theorem dX6_init_0 : decode cX6_init 0 = .ok (.aload_n 0, 1) := by decide +kernel
theorem dX6_init_1 : decode cX6_init 1 = .ok (.invokespecial 1, 3) := by decide +kernel
theorem dX6_init_4 : decode cX6_init 4 = .ok (.aload_n 0, 1) := by decide +kernel
theorem dX6_init_5 : decode cX6_init 5 = .ok (.ldc 9, 2) := by decide +kernel
theorem dX6_init_7 : decode cX6_init 7 = .ok (.newarray .int, 2) := by decide +kernel
theorem dX6_init_9 : decode cX6_init 9 = .ok (.putfield 10, 3) := by decide +kernel
theorem dX6_init_12 : decode cX6_init 12 = .ok (.aload_n 0, 1) := by decide +kernel
theorem dX6_init_13 : decode cX6_init 13 = .ok (.sipush 256, 3) := by decide +kernel
theorem dX6_init_16 : decode cX6_init 16 = .ok (.newarray .int, 2) := by decide +kernel
theorem dX6_init_18 : decode cX6_init 18 = .ok (.putfield 14, 3) := by decide +kernel
theorem dX6_init_21 : decode cX6_init 21 = .ok (.aload_n 0, 1) := by decide +kernel
theorem dX6_init_22 : decode cX6_init 22 = .ok (.sipush 1024, 3) := by decide +kernel
theorem dX6_init_25 : decode cX6_init 25 = .ok (.newarray .int, 2) := by decide +kernel
theorem dX6_init_27 : decode cX6_init 27 = .ok (.putfield 17, 3) := by decide +kernel
theorem dX6_init_30 : decode cX6_init 30 = .ok (.aload_n 0, 1) := by decide +kernel
theorem dX6_init_31 : decode cX6_init 31 = .ok (.sipush 528, 3) := by decide +kernel
theorem dX6_init_34 : decode cX6_init 34 = .ok (.newarray .int, 2) := by decide +kernel
theorem dX6_init_36 : decode cX6_init 36 = .ok (.putfield 20, 3) := by decide +kernel
theorem dX6_init_39 : decode cX6_init 39 = .ok (.aload_n 0, 1) := by decide +kernel
theorem dX6_init_40 : decode cX6_init 40 = .ok (.sipush 528, 3) := by decide +kernel
theorem dX6_init_43 : decode cX6_init 43 = .ok (.newarray .int, 2) := by decide +kernel
theorem dX6_init_45 : decode cX6_init 45 = .ok (.putfield 23, 3) := by decide +kernel
theorem dX6_init_48 : decode cX6_init 48 = .ok (.aload_n 0, 1) := by decide +kernel
theorem dX6_init_49 : decode cX6_init 49 = .ok (.sipush 256, 3) := by decide +kernel
theorem dX6_init_52 : decode cX6_init 52 = .ok (.newarray .int, 2) := by decide +kernel
theorem dX6_init_54 : decode cX6_init 54 = .ok (.putfield 26, 3) := by decide +kernel
theorem dX6_init_57 : decode cX6_init 57 = .ok (.aload_n 0, 1) := by decide +kernel
theorem dX6_init_58 : decode cX6_init 58 = .ok (.bipush 112, 2) := by decide +kernel
theorem dX6_init_60 : decode cX6_init 60 = .ok (.newarray .int, 2) := by decide +kernel
theorem dX6_init_62 : decode cX6_init 62 = .ok (.putfield 29, 3) := by decide +kernel
theorem dX6_init_65 : decode cX6_init 65 = .ok (.aload_n 0, 1) := by decide +kernel
theorem dX6_init_66 : decode cX6_init 66 = .ok (.bipush 16, 2) := by decide +kernel
theorem dX6_init_68 : decode cX6_init 68 = .ok (.newarray .long, 2) := by decide +kernel
theorem dX6_init_70 : decode cX6_init 70 = .ok (.putfield 32, 3) := by decide +kernel
theorem dX6_init_73 : decode cX6_init 73 = .ok (.aload_n 0, 1) := by decide +kernel
theorem dX6_init_74 : decode cX6_init 74 = .ok (.bipush 16, 2) := by decide +kernel
theorem dX6_init_76 : decode cX6_init 76 = .ok (.newarray .int, 2) := by decide +kernel
theorem dX6_init_78 : decode cX6_init 78 = .ok (.putfield 36, 3) := by decide +kernel
theorem dX6_init_81 : decode cX6_init 81 = .ok (.aload_n 0, 1) := by decide +kernel
theorem dX6_init_82 : decode cX6_init 82 = .ok (.new 39, 3) := by decide +kernel
theorem dX6_init_85 : decode cX6_init 85 = .ok (.dup, 1) := by decide +kernel
theorem dX6_init_86 : decode cX6_init 86 = .ok (.invokespecial 41, 3) := by decide +kernel
theorem dX6_init_89 : decode cX6_init 89 = .ok (.putfield 42, 3) := by decide +kernel
theorem dX6_init_92 : decode cX6_init 92 = .ok (.return_, 1) := by decide +kernel
theorem dX8_init_0 : decode cX8_init 0 = .ok (.aload_n 0, 1) := by decide +kernel
theorem dX8_init_1 : decode cX8_init 1 = .ok (.invokespecial 3, 3) := by decide +kernel
theorem dX8_init_4 : decode cX8_init 4 = .ok (.aload_n 0, 1) := by decide +kernel
theorem dX8_init_5 : decode cX8_init 5 = .ok (.ldc 9, 2) := by decide +kernel
theorem dX8_init_7 : decode cX8_init 7 = .ok (.newarray .byte, 2) := by decide +kernel
theorem dX8_init_9 : decode cX8_init 9 = .ok (.putfield 10, 3) := by decide +kernel
theorem dX8_init_12 : decode cX8_init 12 = .ok (.aload_n 0, 1) := by decide +kernel
theorem dX8_init_13 : decode cX8_init 13 = .ok (.sipush 10986, 3) := by decide +kernel
theorem dX8_init_16 : decode cX8_init 16 = .ok (.newarray .int, 2) := by decide +kernel
theorem dX8_init_18 : decode cX8_init 18 = .ok (.putfield 16, 3) := by decide +kernel
theorem dX8_init_21 : decode cX8_init 21 = .ok (.aload_n 0, 1) := by decide +kernel
theorem dX8_init_22 : decode cX8_init 22 = .ok (.sipush 8194, 3) := by decide +kernel
theorem dX8_init_25 : decode cX8_init 25 = .ok (.newarray .int, 2) := by decide +kernel
theorem dX8_init_27 : decode cX8_init 27 = .ok (.putfield 22, 3) := by decide +kernel
theorem dX8_init_30 : decode cX8_init 30 = .ok (.aload_n 0, 1) := by decide +kernel
theorem dX8_init_31 : decode cX8_init 31 = .ok (.sipush 8194, 3) := by decide +kernel
theorem dX8_init_34 : decode cX8_init 34 = .ok (.newarray .int, 2) := by decide +kernel
theorem dX8_init_36 : decode cX8_init 36 = .ok (.putfield 25, 3) := by decide +kernel
theorem dX8_init_39 : decode cX8_init 39 = .ok (.return_, 1) := by decide +kernel
theorem dX8_startDescription_0 : decode cX8_startDescription 0 = .ok (.aload_n 0, 1) := by decide +kernel
theorem dX8_startDescription_1 : decode cX8_startDescription 1 = .ok (.iload_n 1, 1) := by decide +kernel
theorem dX8_startDescription_2 : decode cX8_startDescription 2 = .ok (.putfield 28, 3) := by decide +kernel
theorem dX8_startDescription_5 : decode cX8_startDescription 5 = .ok (.aload_n 0, 1) := by decide +kernel
theorem dX8_startDescription_6 : decode cX8_startDescription 6 = .ok (.iload_n 2, 1) := by decide +kernel
theorem dX8_startDescription_7 : decode cX8_startDescription 7 = .ok (.putfield 32, 3) := by decide +kernel
theorem dX8_startDescription_10 : decode cX8_startDescription 10 = .ok (.aload_n 0, 1) := by decide +kernel
theorem dX8_startDescription_11 : decode cX8_startDescription 11 = .ok (.iload_n 3, 1) := by decide +kernel
theorem dX8_startDescription_12 : decode cX8_startDescription 12 = .ok (.putfield 35, 3) := by decide +kernel
theorem dX8_startDescription_15 : decode cX8_startDescription 15 = .ok (.aload_n 0, 1) := by decide +kernel
theorem dX8_startDescription_16 : decode cX8_startDescription 16 = .ok (.iconst 0, 1) := by decide +kernel
theorem dX8_startDescription_17 : decode cX8_startDescription 17 = .ok (.putfield 38, 3) := by decide +kernel
theorem dX8_startDescription_20 : decode cX8_startDescription 20 = .ok (.aload_n 0, 1) := by decide +kernel
theorem dX8_startDescription_21 : decode cX8_startDescription 21 = .ok (.iconst 0, 1) := by decide +kernel
theorem dX8_startDescription_22 : decode cX8_startDescription 22 = .ok (.putfield 41, 3) := by decide +kernel
theorem dX8_startDescription_25 : decode cX8_startDescription 25 = .ok (.return_, 1) := by decide +kernel
theorem dX9_init_0 : decode cX9_init 0 = .ok (.aload_n 0, 1) := by decide +kernel
theorem dX9_init_1 : decode cX9_init 1 = .ok (.invokespecial 3, 3) := by decide +kernel
theorem dX9_init_4 : decode cX9_init 4 = .ok (.aload_n 0, 1) := by decide +kernel
theorem dX9_init_5 : decode cX9_init 5 = .ok (.iconst 0, 1) := by decide +kernel
theorem dX9_init_6 : decode cX9_init 6 = .ok (.newarray .byte, 2) := by decide +kernel
theorem dX9_init_8 : decode cX9_init 8 = .ok (.putfield 9, 3) := by decide +kernel
theorem dX9_init_11 : decode cX9_init 11 = .ok (.aload_n 0, 1) := by decide +kernel
theorem dX9_init_12 : decode cX9_init 12 = .ok (.ldc 15, 2) := by decide +kernel
theorem dX9_init_14 : decode cX9_init 14 = .ok (.newarray .int, 2) := by decide +kernel
theorem dX9_init_16 : decode cX9_init 16 = .ok (.putfield 16, 3) := by decide +kernel
theorem dX9_init_19 : decode cX9_init 19 = .ok (.aload_n 0, 1) := by decide +kernel
theorem dX9_init_20 : decode cX9_init 20 = .ok (.ldc 15, 2) := by decide +kernel
theorem dX9_init_22 : decode cX9_init 22 = .ok (.newarray .int, 2) := by decide +kernel
theorem dX9_init_24 : decode cX9_init 24 = .ok (.putfield 20, 3) := by decide +kernel
