theorem dX3_isEvent_0 : decode cX3_isEvent 0 = .ok (.iload_n 0, 1) := by decide +kernel
theorem dX3_isEvent_1 : decode cX3_isEvent 1 = .ok (.tableswitch 119 0 3 #[31, 51, 68, 99], 31) := by decide +kernel
theorem dX3_isEvent_32 : decode cX3_isEvent 32 = .ok (.lload_n 1, 1) := by decide +kernel
theorem dX3_isEvent_33 : decode cX3_isEvent 33 = .ok (.lconst 0, 1) := by decide +kernel
theorem dX3_isEvent_34 : decode cX3_isEvent 34 = .ok (.lcmp, 1) := by decide +kernel
theorem dX3_isEvent_35 : decode cX3_isEvent 35 = .ok (.ifCond .lt 15, 3) := by decide +kernel
theorem dX3_isEvent_38 : decode cX3_isEvent 38 = .ok (.lload_n 1, 1) := by decide +kernel
theorem dX3_isEvent_39 : decode cX3_isEvent 39 = .ok (.ldc2_w 29, 3) := by decide +kernel
theorem dX3_isEvent_42 : decode cX3_isEvent 42 = .ok (.lcmp, 1) := by decide +kernel
theorem dX3_isEvent_43 : decode cX3_isEvent 43 = .ok (.ifCond .ge 7, 3) := by decide +kernel
theorem dX3_isEvent_46 : decode cX3_isEvent 46 = .ok (.iconst 1, 1) := by decide +kernel
theorem dX3_isEvent_47 : decode cX3_isEvent 47 = .ok (.goto 4, 3) := by decide +kernel
theorem dX3_isEvent_50 : decode cX3_isEvent 50 = .ok (.iconst 0, 1) := by decide +kernel
theorem dX3_isEvent_51 : decode cX3_isEvent 51 = .ok (.ireturn, 1) := by decide +kernel
theorem dX3_isEvent_52 : decode cX3_isEvent 52 = .ok (.iload_n 3, 1) := by decide +kernel
theorem dX3_isEvent_53 : decode cX3_isEvent 53 = .ok (.iconst 1, 1) := by decide +kernel
theorem dX3_isEvent_54 : decode cX3_isEvent 54 = .ok (.if_icmp .lt 13, 3) := by decide +kernel
theorem dX3_isEvent_57 : decode cX3_isEvent 57 = .ok (.iload_n 3, 1) := by decide +kernel
theorem dX3_isEvent_58 : decode cX3_isEvent 58 = .ok (.bipush 8, 2) := by decide +kernel
theorem dX3_isEvent_60 : decode cX3_isEvent 60 = .ok (.if_icmp .gt 7, 3) := by decide +kernel
theorem dX3_isEvent_63 : decode cX3_isEvent 63 = .ok (.iconst 1, 1) := by decide +kernel
theorem dX3_isEvent_64 : decode cX3_isEvent 64 = .ok (.goto 4, 3) := by decide +kernel
theorem dX3_isEvent_67 : decode cX3_isEvent 67 = .ok (.iconst 0, 1) := by decide +kernel
theorem dX3_isEvent_68 : decode cX3_isEvent 68 = .ok (.ireturn, 1) := by decide +kernel
theorem dX3_isEvent_69 : decode cX3_isEvent 69 = .ok (.lload_n 1, 1) := by decide +kernel
theorem dX3_isEvent_70 : decode cX3_isEvent 70 = .ok (.lconst 0, 1) := by decide +kernel
theorem dX3_isEvent_71 : decode cX3_isEvent 71 = .ok (.lcmp, 1) := by decide +kernel
theorem dX3_isEvent_72 : decode cX3_isEvent 72 = .ok (.ifCond .lt 26, 3) := by decide +kernel
theorem dX3_isEvent_75 : decode cX3_isEvent 75 = .ok (.lload_n 1, 1) := by decide +kernel
theorem dX3_isEvent_76 : decode cX3_isEvent 76 = .ok (.ldc2_w 29, 3) := by decide +kernel
theorem dX3_isEvent_79 : decode cX3_isEvent 79 = .ok (.lcmp, 1) := by decide +kernel
theorem dX3_isEvent_80 : decode cX3_isEvent 80 = .ok (.ifCond .ge 18, 3) := by decide +kernel
theorem dX3_isEvent_83 : decode cX3_isEvent 83 = .ok (.iload_n 3, 1) := by decide +kernel
theorem dX3_isEvent_84 : decode cX3_isEvent 84 = .ok (.iconst 1, 1) := by decide +kernel
theorem dX3_isEvent_85 : decode cX3_isEvent 85 = .ok (.if_icmp .lt 13, 3) := by decide +kernel
theorem dX3_isEvent_88 : decode cX3_isEvent 88 = .ok (.iload_n 3, 1) := by decide +kernel
theorem dX3_isEvent_89 : decode cX3_isEvent 89 = .ok (.bipush 31, 2) := by decide +kernel
theorem dX3_isEvent_91 : decode cX3_isEvent 91 = .ok (.if_icmp .gt 7, 3) := by decide +kernel
theorem dX3_isEvent_94 : decode cX3_isEvent 94 = .ok (.iconst 1, 1) := by decide +kernel
theorem dX3_isEvent_95 : decode cX3_isEvent 95 = .ok (.goto 4, 3) := by decide +kernel
theorem dX3_isEvent_98 : decode cX3_isEvent 98 = .ok (.iconst 0, 1) := by decide +kernel
theorem dX3_isEvent_99 : decode cX3_isEvent 99 = .ok (.ireturn, 1) := by decide +kernel
theorem dX3_isEvent_100 : decode cX3_isEvent 100 = .ok (.lload_n 1, 1) := by decide +kernel
theorem dX3_isEvent_101 : decode cX3_isEvent 101 = .ok (.lconst 0, 1) := by decide +kernel
theorem dX3_isEvent_102 : decode cX3_isEvent 102 = .ok (.lcmp, 1) := by decide +kernel
theorem dX3_isEvent_103 : decode cX3_isEvent 103 = .ok (.ifCond .lt 15, 3) := by decide +kernel
theorem dX3_isEvent_106 : decode cX3_isEvent 106 = .ok (.lload_n 1, 1) := by decide +kernel
theorem dX3_isEvent_107 : decode cX3_isEvent 107 = .ok (.ldc2_w 31, 3) := by decide +kernel
theorem dX3_isEvent_110 : decode cX3_isEvent 110 = .ok (.lcmp, 1) := by decide +kernel
theorem dX3_isEvent_111 : decode cX3_isEvent 111 = .ok (.ifCond .gt 7, 3) := by decide +kernel
theorem dX3_isEvent_114 : decode cX3_isEvent 114 = .ok (.iconst 1, 1) := by decide +kernel
theorem dX3_isEvent_115 : decode cX3_isEvent 115 = .ok (.goto 4, 3) := by decide +kernel
theorem dX3_isEvent_118 : decode cX3_isEvent 118 = .ok (.iconst 0, 1) := by decide +kernel
theorem dX3_isEvent_119 : decode cX3_isEvent 119 = .ok (.ireturn, 1) := by decide +kernel
theorem dX3_isEvent_120 : decode cX3_isEvent 120 = .ok (.iload_n 0, 1) := by decide +kernel
theorem dX3_isEvent_121 : decode cX3_isEvent 121 = .ok (.iconst 4, 1) := by decide +kernel
theorem dX3_isEvent_122 : decode cX3_isEvent 122 = .ok (.if_icmp .ne 7, 3) := by decide +kernel
theorem dX3_isEvent_125 : decode cX3_isEvent 125 = .ok (.iconst 1, 1) := by decide +kernel
theorem dX3_isEvent_126 : decode cX3_isEvent 126 = .ok (.goto 4, 3) := by decide +kernel
theorem dX3_isEvent_129 : decode cX3_isEvent 129 = .ok (.iconst 0, 1) := by decide +kernel
theorem dX3_isEvent_130 : decode cX3_isEvent 130 = .ok (.ireturn, 1) := by decide +kernel
theorem dX3_first_0 : decode cX3_first 0 = .ok (.iload_n 0, 1) := by decide +kernel
theorem dX3_first_1 : decode cX3_first 1 = .ok (.iconst 1, 1) := by decide +kernel
theorem dX3_first_2 : decode cX3_first 2 = .ok (.if_icmp .ne 20, 3) := by decide +kernel
theorem dX3_first_5 : decode cX3_first 5 = .ok (.iload_n 3, 1) := by decide +kernel
theorem dX3_first_6 : decode cX3_first 6 = .ok (.bipush 8, 2) := by decide +kernel
theorem dX3_first_8 : decode cX3_first 8 = .ok (.if_icmp .ge 14, 3) := by decide +kernel
theorem dX3_first_11 : decode cX3_first 11 = .ok (.lload_n 1, 1) := by decide +kernel
theorem dX3_first_12 : decode cX3_first 12 = .ok (.lconst 1, 1) := by decide +kernel
theorem dX3_first_13 : decode cX3_first 13 = .ok (.bipush 8, 2) := by decide +kernel
theorem dX3_first_15 : decode cX3_first 15 = .ok (.iload_n 3, 1) := by decide +kernel
theorem dX3_first_16 : decode cX3_first 16 = .ok (.imul, 1) := by decide +kernel
theorem dX3_first_17 : decode cX3_first 17 = .ok (.lshl, 1) := by decide +kernel
theorem dX3_first_18 : decode cX3_first 18 = .ok (.lconst 1, 1) := by decide +kernel
theorem dX3_first_19 : decode cX3_first 19 = .ok (.lsub, 1) := by decide +kernel
theorem dX3_first_20 : decode cX3_first 20 = .ok (.land, 1) := by decide +kernel
theorem dX3_first_21 : decode cX3_first 21 = .ok (.lreturn, 1) := by decide +kernel
theorem dX3_first_22 : decode cX3_first 22 = .ok (.iload_n 0, 1) := by decide +kernel
theorem dX3_first_23 : decode cX3_first 23 = .ok (.iconst 4, 1) := by decide +kernel
theorem dX3_first_24 : decode cX3_first 24 = .ok (.if_icmp .ne 11, 3) := by decide +kernel
theorem dX3_first_27 : decode cX3_first 27 = .ok (.lload_n 1, 1) := by decide +kernel
theorem dX3_first_28 : decode cX3_first 28 = .ok (.ldc2_w 33, 3) := by decide +kernel
theorem dX3_first_31 : decode cX3_first 31 = .ok (.land, 1) := by decide +kernel
theorem dX3_first_32 : decode cX3_first 32 = .ok (.goto 4, 3) := by decide +kernel
theorem dX3_first_35 : decode cX3_first 35 = .ok (.lload_n 1, 1) := by decide +kernel
theorem dX3_first_36 : decode cX3_first 36 = .ok (.lreturn, 1) := by decide +kernel
theorem dX3_second_0 : decode cX3_second 0 = .ok (.iload_n 0, 1) := by decide +kernel
theorem dX3_second_1 : decode cX3_second 1 = .ok (.iconst 1, 1) := by decide +kernel
theorem dX3_second_2 : decode cX3_second 2 = .ok (.if_icmp .eq 8, 3) := by decide +kernel
theorem dX3_second_5 : decode cX3_second 5 = .ok (.iload_n 0, 1) := by decide +kernel
theorem dX3_second_6 : decode cX3_second 6 = .ok (.iconst 2, 1) := by decide +kernel
theorem dX3_second_7 : decode cX3_second 7 = .ok (.if_icmp .ne 7, 3) := by decide +kernel
theorem dX3_second_10 : decode cX3_second 10 = .ok (.iload_n 1, 1) := by decide +kernel
theorem dX3_second_11 : decode cX3_second 11 = .ok (.goto 4, 3) := by decide +kernel
theorem dX3_second_14 : decode cX3_second 14 = .ok (.iconst 0, 1) := by decide +kernel
theorem dX3_second_15 : decode cX3_second 15 = .ok (.ireturn, 1) := by decide +kernel
theorem dX3_clear_0 : decode cX3_clear 0 = .ok (.aload_n 0, 1) := by decide +kernel
theorem dX3_clear_1 : decode cX3_clear 1 = .ok (.iconst 0, 1) := by decide +kernel
theorem dX3_clear_2 : decode cX3_clear 2 = .ok (.putfield 35, 3) := by decide +kernel
theorem dX3_clear_5 : decode cX3_clear 5 = .ok (.aload_n 0, 1) := by decide +kernel
theorem dX3_clear_6 : decode cX3_clear 6 = .ok (.iconst 0, 1) := by decide +kernel
theorem dX3_clear_7 : decode cX3_clear 7 = .ok (.putfield 39, 3) := by decide +kernel
theorem dX3_clear_10 : decode cX3_clear 10 = .ok (.return_, 1) := by decide +kernel
theorem dX3_add_0 : decode cX3_add 0 = .ok (.aload_n 0, 1) := by decide +kernel
theorem dX3_add_1 : decode cX3_add 1 = .ok (.getfield 39, 3) := by decide +kernel
theorem dX3_add_4 : decode cX3_add 4 = .ok (.sipush 2048, 3) := by decide +kernel
theorem dX3_add_7 : decode cX3_add 7 = .ok (.if_icmp .lt 5, 3) := by decide +kernel
theorem dX3_add_10 : decode cX3_add 10 = .ok (.iconst 0, 1) := by decide +kernel
theorem dX3_add_11 : decode cX3_add 11 = .ok (.ireturn, 1) := by decide +kernel
theorem dX3_add_12 : decode cX3_add 12 = .ok (.aload_n 0, 1) := by decide +kernel
theorem dX3_add_13 : decode cX3_add 13 = .ok (.getfield 9, 3) := by decide +kernel
theorem dX3_add_16 : decode cX3_add 16 = .ok (.aload_n 0, 1) := by decide +kernel
theorem dX3_add_17 : decode cX3_add 17 = .ok (.getfield 39, 3) := by decide +kernel
theorem dX3_add_20 : decode cX3_add 20 = .ok (.iload_n 1, 1) := by decide +kernel
theorem dX3_add_21 : decode cX3_add 21 = .ok (.iastore, 1) := by decide +kernel
theorem dX3_add_22 : decode cX3_add 22 = .ok (.aload_n 0, 1) := by decide +kernel
theorem dX3_add_23 : decode cX3_add 23 = .ok (.getfield 13, 3) := by decide +kernel
theorem dX3_add_26 : decode cX3_add 26 = .ok (.aload_n 0, 1) := by decide +kernel
theorem dX3_add_27 : decode cX3_add 27 = .ok (.getfield 39, 3) := by decide +kernel
theorem dX3_add_30 : decode cX3_add 30 = .ok (.lload_n 2, 1) := by decide +kernel
theorem dX3_add_31 : decode cX3_add 31 = .ok (.lastore, 1) := by decide +kernel
theorem dX3_add_32 : decode cX3_add 32 = .ok (.aload_n 0, 1) := by decide +kernel
theorem dX3_add_33 : decode cX3_add 33 = .ok (.getfield 17, 3) := by decide +kernel
theorem dX3_add_36 : decode cX3_add 36 = .ok (.aload_n 0, 1) := by decide +kernel
theorem dX3_add_37 : decode cX3_add 37 = .ok (.getfield 39, 3) := by decide +kernel
theorem dX3_add_40 : decode cX3_add 40 = .ok (.lload 4, 2) := by decide +kernel
theorem dX3_add_42 : decode cX3_add 42 = .ok (.lastore, 1) := by decide +kernel
theorem dX3_add_43 : decode cX3_add 43 = .ok (.aload_n 0, 1) := by decide +kernel
theorem dX3_add_44 : decode cX3_add 44 = .ok (.getfield 20, 3) := by decide +kernel
theorem dX3_add_47 : decode cX3_add 47 = .ok (.aload_n 0, 1) := by decide +kernel
theorem dX3_add_48 : decode cX3_add 48 = .ok (.getfield 39, 3) := by decide +kernel
theorem dX3_add_51 : decode cX3_add 51 = .ok (.iload 6, 2) := by decide +kernel
theorem dX3_add_53 : decode cX3_add 53 = .ok (.iastore, 1) := by decide +kernel
theorem dX3_add_54 : decode cX3_add 54 = .ok (.aload_n 0, 1) := by decide +kernel
theorem dX3_add_55 : decode cX3_add 55 = .ok (.dup, 1) := by decide +kernel
theorem dX3_add_56 : decode cX3_add 56 = .ok (.getfield 39, 3) := by decide +kernel
theorem dX3_add_59 : decode cX3_add 59 = .ok (.iconst 1, 1) := by decide +kernel
theorem dX3_add_60 : decode cX3_add 60 = .ok (.iadd, 1) := by decide +kernel
theorem dX3_add_61 : decode cX3_add 61 = .ok (.putfield 39, 3) := by decide +kernel
theorem dX3_add_64 : decode cX3_add 64 = .ok (.iconst 1, 1) := by decide +kernel
theorem dX3_add_65 : decode cX3_add 65 = .ok (.ireturn, 1) := by decide +kernel
theorem dX3_isAt_0 : decode cX3_isAt 0 = .ok (.iload_n 1, 1) := by decide +kernel
theorem dX3_isAt_1 : decode cX3_isAt 1 = .ok (.ifCond .lt 27, 3) := by decide +kernel
theorem dX3_isAt_4 : decode cX3_isAt 4 = .ok (.iload_n 1, 1) := by decide +kernel
theorem dX3_isAt_5 : decode cX3_isAt 5 = .ok (.aload_n 0, 1) := by decide +kernel
theorem dX3_isAt_6 : decode cX3_isAt 6 = .ok (.getfield 39, 3) := by decide +kernel
theorem dX3_isAt_9 : decode cX3_isAt 9 = .ok (.if_icmp .ge 19, 3) := by decide +kernel
theorem dX3_isAt_12 : decode cX3_isAt 12 = .ok (.aload_n 0, 1) := by decide +kernel
theorem dX3_isAt_13 : decode cX3_isAt 13 = .ok (.getfield 13, 3) := by decide +kernel
theorem dX3_isAt_16 : decode cX3_isAt 16 = .ok (.iload_n 1, 1) := by decide +kernel
theorem dX3_isAt_17 : decode cX3_isAt 17 = .ok (.laload, 1) := by decide +kernel
theorem dX3_isAt_18 : decode cX3_isAt 18 = .ok (.iload_n 2, 1) := by decide +kernel
theorem dX3_isAt_19 : decode cX3_isAt 19 = .ok (.i2l, 1) := by decide +kernel
theorem dX3_isAt_20 : decode cX3_isAt 20 = .ok (.lcmp, 1) := by decide +kernel
theorem dX3_isAt_21 : decode cX3_isAt 21 = .ok (.ifCond .ne 7, 3) := by decide +kernel
theorem dX3_isAt_24 : decode cX3_isAt 24 = .ok (.iconst 1, 1) := by decide +kernel
theorem dX3_isAt_25 : decode cX3_isAt 25 = .ok (.goto 4, 3) := by decide +kernel
theorem dX3_isAt_28 : decode cX3_isAt 28 = .ok (.iconst 0, 1) := by decide +kernel
theorem dX3_isAt_29 : decode cX3_isAt 29 = .ok (.ireturn, 1) := by decide +kernel
theorem dX3_recordedBefore_0 : decode cX3_recordedBefore 0 = .ok (.iconst 0, 1) := by decide +kernel
theorem dX3_recordedBefore_1 : decode cX3_recordedBefore 1 = .ok (.istore_n 2, 1) := by decide +kernel
theorem dX3_recordedBefore_2 : decode cX3_recordedBefore 2 = .ok (.iload_n 2, 1) := by decide +kernel
theorem dX3_recordedBefore_3 : decode cX3_recordedBefore 3 = .ok (.aload_n 0, 1) := by decide +kernel
theorem dX3_recordedBefore_4 : decode cX3_recordedBefore 4 = .ok (.getfield 35, 3) := by decide +kernel
theorem dX3_recordedBefore_7 : decode cX3_recordedBefore 7 = .ok (.if_icmp .ge 21, 3) := by decide +kernel
theorem dX3_recordedBefore_10 : decode cX3_recordedBefore 10 = .ok (.aload_n 0, 1) := by decide +kernel
theorem dX3_recordedBefore_11 : decode cX3_recordedBefore 11 = .ok (.getfield 13, 3) := by decide +kernel
theorem dX3_recordedBefore_14 : decode cX3_recordedBefore 14 = .ok (.iload_n 2, 1) := by decide +kernel
theorem dX3_recordedBefore_15 : decode cX3_recordedBefore 15 = .ok (.laload, 1) := by decide +kernel
theorem dX3_recordedBefore_16 : decode cX3_recordedBefore 16 = .ok (.iload_n 1, 1) := by decide +kernel
theorem dX3_recordedBefore_17 : decode cX3_recordedBefore 17 = .ok (.i2l, 1) := by decide +kernel
theorem dX3_recordedBefore_18 : decode cX3_recordedBefore 18 = .ok (.lcmp, 1) := by decide +kernel
theorem dX3_recordedBefore_19 : decode cX3_recordedBefore 19 = .ok (.ifCond .ge 9, 3) := by decide +kernel
theorem dX3_recordedBefore_22 : decode cX3_recordedBefore 22 = .ok (.iinc 2 1, 3) := by decide +kernel
theorem dX3_recordedBefore_25 : decode cX3_recordedBefore 25 = .ok (.goto (-23), 3) := by decide +kernel
theorem dX3_recordedBefore_28 : decode cX3_recordedBefore 28 = .ok (.iload_n 2, 1) := by decide +kernel
theorem dX3_recordedBefore_29 : decode cX3_recordedBefore 29 = .ok (.ireturn, 1) := by decide +kernel
theorem dX3_told_0 : decode cX3_told 0 = .ok (.iload_n 1, 1) := by decide +kernel
theorem dX3_told_1 : decode cX3_told 1 = .ok (.ifCond .lt 11, 3) := by decide +kernel
theorem dX3_told_4 : decode cX3_told 4 = .ok (.iload_n 1, 1) := by decide +kernel
theorem dX3_told_5 : decode cX3_told 5 = .ok (.aload_n 0, 1) := by decide +kernel
theorem dX3_told_6 : decode cX3_told 6 = .ok (.getfield 35, 3) := by decide +kernel
theorem dX3_told_9 : decode cX3_told 9 = .ok (.if_icmp .lt 7, 3) := by decide +kernel
theorem dX3_told_12 : decode cX3_told 12 = .ok (.ldc2_w 42, 3) := by decide +kernel
theorem dX3_told_15 : decode cX3_told 15 = .ok (.lreturn, 1) := by decide +kernel
theorem dX3_told_16 : decode cX3_told 16 = .ok (.iload_n 2, 1) := by decide +kernel
theorem dX3_told_17 : decode cX3_told 17 = .ok (.tableswitch 61 0 3 #[31, 39, 46, 53], 31) := by decide +kernel
theorem dX3_told_48 : decode cX3_told 48 = .ok (.aload_n 0, 1) := by decide +kernel
theorem dX3_told_49 : decode cX3_told 49 = .ok (.getfield 9, 3) := by decide +kernel
theorem dX3_told_52 : decode cX3_told 52 = .ok (.iload_n 1, 1) := by decide +kernel
theorem dX3_told_53 : decode cX3_told 53 = .ok (.iaload, 1) := by decide +kernel
theorem dX3_told_54 : decode cX3_told 54 = .ok (.i2l, 1) := by decide +kernel
theorem dX3_told_55 : decode cX3_told 55 = .ok (.lreturn, 1) := by decide +kernel
theorem dX3_told_56 : decode cX3_told 56 = .ok (.aload_n 0, 1) := by decide +kernel
theorem dX3_told_57 : decode cX3_told 57 = .ok (.getfield 13, 3) := by decide +kernel
theorem dX3_told_60 : decode cX3_told 60 = .ok (.iload_n 1, 1) := by decide +kernel
theorem dX3_told_61 : decode cX3_told 61 = .ok (.laload, 1) := by decide +kernel
theorem dX3_told_62 : decode cX3_told 62 = .ok (.lreturn, 1) := by decide +kernel
theorem dX3_told_63 : decode cX3_told 63 = .ok (.aload_n 0, 1) := by decide +kernel
theorem dX3_told_64 : decode cX3_told 64 = .ok (.getfield 17, 3) := by decide +kernel
theorem dX3_told_67 : decode cX3_told 67 = .ok (.iload_n 1, 1) := by decide +kernel
theorem dX3_told_68 : decode cX3_told 68 = .ok (.laload, 1) := by decide +kernel
theorem dX3_told_69 : decode cX3_told 69 = .ok (.lreturn, 1) := by decide +kernel
theorem dX3_told_70 : decode cX3_told 70 = .ok (.aload_n 0, 1) := by decide +kernel
theorem dX3_told_71 : decode cX3_told 71 = .ok (.getfield 20, 3) := by decide +kernel
theorem dX3_told_74 : decode cX3_told 74 = .ok (.iload_n 1, 1) := by decide +kernel
theorem dX3_told_75 : decode cX3_told 75 = .ok (.iaload, 1) := by decide +kernel
theorem dX3_told_76 : decode cX3_told 76 = .ok (.i2l, 1) := by decide +kernel
theorem dX3_told_77 : decode cX3_told 77 = .ok (.lreturn, 1) := by decide +kernel
theorem dX3_told_78 : decode cX3_told 78 = .ok (.ldc2_w 42, 3) := by decide +kernel
theorem dX3_told_81 : decode cX3_told 81 = .ok (.lreturn, 1) := by decide +kernel
theorem dX3_difference_0 : decode cX3_difference 0 = .ok (.iload_n 1, 1) := by decide +kernel
theorem dX3_difference_1 : decode cX3_difference 1 = .ok (.ifCond .gt 12, 3) := by decide +kernel
theorem dX3_difference_4 : decode cX3_difference 4 = .ok (.aload_n 0, 1) := by decide +kernel
theorem dX3_difference_5 : decode cX3_difference 5 = .ok (.getfield 13, 3) := by decide +kernel
theorem dX3_difference_8 : decode cX3_difference 8 = .ok (.iconst 0, 1) := by decide +kernel
theorem dX3_difference_9 : decode cX3_difference 9 = .ok (.laload, 1) := by decide +kernel
theorem dX3_difference_10 : decode cX3_difference 10 = .ok (.goto 18, 3) := by decide +kernel
theorem dX3_difference_13 : decode cX3_difference 13 = .ok (.aload_n 0, 1) := by decide +kernel
theorem dX3_difference_14 : decode cX3_difference 14 = .ok (.getfield 13, 3) := by decide +kernel
theorem dX3_difference_17 : decode cX3_difference 17 = .ok (.iload_n 1, 1) := by decide +kernel
theorem dX3_difference_18 : decode cX3_difference 18 = .ok (.laload, 1) := by decide +kernel
theorem dX3_difference_19 : decode cX3_difference 19 = .ok (.aload_n 0, 1) := by decide +kernel
theorem dX3_difference_20 : decode cX3_difference 20 = .ok (.getfield 13, 3) := by decide +kernel
theorem dX3_difference_23 : decode cX3_difference 23 = .ok (.iload_n 1, 1) := by decide +kernel
theorem dX3_difference_24 : decode cX3_difference 24 = .ok (.iconst 1, 1) := by decide +kernel
theorem dX3_difference_25 : decode cX3_difference 25 = .ok (.isub, 1) := by decide +kernel
theorem dX3_difference_26 : decode cX3_difference 26 = .ok (.laload, 1) := by decide +kernel
theorem dX3_difference_27 : decode cX3_difference 27 = .ok (.lsub, 1) := by decide +kernel
theorem dX3_difference_28 : decode cX3_difference 28 = .ok (.lreturn, 1) := by decide +kernel
theorem dX3_bringsSame_0 : decode cX3_bringsSame 0 = .ok (.aload_n 0, 1) := by decide +kernel
theorem dX3_bringsSame_1 : decode cX3_bringsSame 1 = .ok (.getfield 9, 3) := by decide +kernel
theorem dX3_bringsSame_4 : decode cX3_bringsSame 4 = .ok (.iload_n 1, 1) := by decide +kernel
theorem dX3_bringsSame_5 : decode cX3_bringsSame 5 = .ok (.iaload, 1) := by decide +kernel
theorem dX3_bringsSame_6 : decode cX3_bringsSame 6 = .ok (.aload_n 0, 1) := by decide +kernel
theorem dX3_bringsSame_7 : decode cX3_bringsSame 7 = .ok (.getfield 9, 3) := by decide +kernel
theorem dX3_bringsSame_10 : decode cX3_bringsSame 10 = .ok (.iload_n 2, 1) := by decide +kernel
theorem dX3_bringsSame_11 : decode cX3_bringsSame 11 = .ok (.iaload, 1) := by decide +kernel
theorem dX3_bringsSame_12 : decode cX3_bringsSame 12 = .ok (.if_icmp .ne 38, 3) := by decide +kernel
theorem dX3_bringsSame_15 : decode cX3_bringsSame 15 = .ok (.aload_n 0, 1) := by decide +kernel
theorem dX3_bringsSame_16 : decode cX3_bringsSame 16 = .ok (.getfield 17, 3) := by decide +kernel
theorem dX3_bringsSame_19 : decode cX3_bringsSame 19 = .ok (.iload_n 1, 1) := by decide +kernel
theorem dX3_bringsSame_20 : decode cX3_bringsSame 20 = .ok (.laload, 1) := by decide +kernel
theorem dX3_bringsSame_21 : decode cX3_bringsSame 21 = .ok (.aload_n 0, 1) := by decide +kernel
theorem dX3_bringsSame_22 : decode cX3_bringsSame 22 = .ok (.getfield 17, 3) := by decide +kernel
theorem dX3_bringsSame_25 : decode cX3_bringsSame 25 = .ok (.iload_n 2, 1) := by decide +kernel
theorem dX3_bringsSame_26 : decode cX3_bringsSame 26 = .ok (.laload, 1) := by decide +kernel
theorem dX3_bringsSame_27 : decode cX3_bringsSame 27 = .ok (.lcmp, 1) := by decide +kernel
theorem dX3_bringsSame_28 : decode cX3_bringsSame 28 = .ok (.ifCond .ne 22, 3) := by decide +kernel
theorem dX3_bringsSame_31 : decode cX3_bringsSame 31 = .ok (.aload_n 0, 1) := by decide +kernel
theorem dX3_bringsSame_32 : decode cX3_bringsSame 32 = .ok (.getfield 20, 3) := by decide +kernel
theorem dX3_bringsSame_35 : decode cX3_bringsSame 35 = .ok (.iload_n 1, 1) := by decide +kernel
theorem dX3_bringsSame_36 : decode cX3_bringsSame 36 = .ok (.iaload, 1) := by decide +kernel
theorem dX3_bringsSame_37 : decode cX3_bringsSame 37 = .ok (.aload_n 0, 1) := by decide +kernel
theorem dX3_bringsSame_38 : decode cX3_bringsSame 38 = .ok (.getfield 20, 3) := by decide +kernel
theorem dX3_bringsSame_41 : decode cX3_bringsSame 41 = .ok (.iload_n 2, 1) := by decide +kernel
theorem dX3_bringsSame_42 : decode cX3_bringsSame 42 = .ok (.iaload, 1) := by decide +kernel
theorem dX3_bringsSame_43 : decode cX3_bringsSame 43 = .ok (.if_icmp .ne 7, 3) := by decide +kernel
theorem dX3_bringsSame_46 : decode cX3_bringsSame 46 = .ok (.iconst 1, 1) := by decide +kernel
theorem dX3_bringsSame_47 : decode cX3_bringsSame 47 = .ok (.goto 4, 3) := by decide +kernel
theorem dX3_bringsSame_50 : decode cX3_bringsSame 50 = .ok (.iconst 0, 1) := by decide +kernel
theorem dX3_bringsSame_51 : decode cX3_bringsSame 51 = .ok (.ireturn, 1) := by decide +kernel
theorem dX3_writeLog_0 : decode cX3_writeLog 0 = .ok (.aload_n 0, 1) := by decide +kernel
theorem dX3_writeLog_1 : decode cX3_writeLog 1 = .ok (.aload_n 1, 1) := by decide +kernel
theorem dX3_writeLog_2 : decode cX3_writeLog 2 = .ok (.putfield 23, 3) := by decide +kernel
theorem dX3_writeLog_5 : decode cX3_writeLog 5 = .ok (.aload_n 0, 1) := by decide +kernel
theorem dX3_writeLog_6 : decode cX3_writeLog 6 = .ok (.iconst 0, 1) := by decide +kernel
theorem dX3_writeLog_7 : decode cX3_writeLog 7 = .ok (.putfield 44, 3) := by decide +kernel
theorem dX3_writeLog_10 : decode cX3_writeLog 10 = .ok (.aload_n 0, 1) := by decide +kernel
theorem dX3_writeLog_11 : decode cX3_writeLog 11 = .ok (.aload_n 0, 1) := by decide +kernel
theorem dX3_writeLog_12 : decode cX3_writeLog 12 = .ok (.getfield 35, 3) := by decide +kernel
theorem dX3_writeLog_15 : decode cX3_writeLog 15 = .ok (.i2l, 1) := by decide +kernel
theorem dX3_writeLog_16 : decode cX3_writeLog 16 = .ok (.invokevirtual 47, 3) := by decide +kernel
theorem dX3_writeLog_19 : decode cX3_writeLog 19 = .ok (.iconst 0, 1) := by decide +kernel
theorem dX3_writeLog_20 : decode cX3_writeLog 20 = .ok (.istore_n 2, 1) := by decide +kernel
theorem dX3_writeLog_21 : decode cX3_writeLog 21 = .ok (.iload_n 2, 1) := by decide +kernel
theorem dX3_writeLog_22 : decode cX3_writeLog 22 = .ok (.aload_n 0, 1) := by decide +kernel
theorem dX3_writeLog_23 : decode cX3_writeLog 23 = .ok (.getfield 35, 3) := by decide +kernel
theorem dX3_writeLog_26 : decode cX3_writeLog 26 = .ok (.if_icmp .ge 62, 3) := by decide +kernel
theorem dX3_writeLog_29 : decode cX3_writeLog 29 = .ok (.aload_n 0, 1) := by decide +kernel
theorem dX3_writeLog_30 : decode cX3_writeLog 30 = .ok (.iload_n 2, 1) := by decide +kernel
theorem dX3_writeLog_31 : decode cX3_writeLog 31 = .ok (.invokevirtual 51, 3) := by decide +kernel
theorem dX3_writeLog_34 : decode cX3_writeLog 34 = .ok (.istore_n 3, 1) := by decide +kernel
theorem dX3_writeLog_35 : decode cX3_writeLog 35 = .ok (.iload_n 3, 1) := by decide +kernel
theorem dX3_writeLog_36 : decode cX3_writeLog 36 = .ok (.ifCond .ne 14, 3) := by decide +kernel
theorem dX3_writeLog_39 : decode cX3_writeLog 39 = .ok (.aload_n 0, 1) := by decide +kernel
theorem dX3_writeLog_40 : decode cX3_writeLog 40 = .ok (.iload_n 2, 1) := by decide +kernel
theorem dX3_writeLog_41 : decode cX3_writeLog 41 = .ok (.invokevirtual 55, 3) := by decide +kernel
theorem dX3_writeLog_44 : decode cX3_writeLog 44 = .ok (.iinc 2 1, 3) := by decide +kernel
theorem dX3_writeLog_47 : decode cX3_writeLog 47 = .ok (.goto 38, 3) := by decide +kernel
theorem dX3_writeLog_50 : decode cX3_writeLog 50 = .ok (.aload_n 0, 1) := by decide +kernel
theorem dX3_writeLog_51 : decode cX3_writeLog 51 = .ok (.iconst 5, 1) := by decide +kernel
theorem dX3_writeLog_52 : decode cX3_writeLog 52 = .ok (.iload_n 3, 1) := by decide +kernel
theorem dX3_writeLog_53 : decode cX3_writeLog 53 = .ok (.bipush 15, 2) := by decide +kernel
theorem dX3_writeLog_55 : decode cX3_writeLog 55 = .ok (.if_icmp .gt 9, 3) := by decide +kernel
theorem dX3_writeLog_58 : decode cX3_writeLog 58 = .ok (.iload_n 3, 1) := by decide +kernel
theorem dX3_writeLog_59 : decode cX3_writeLog 59 = .ok (.iconst 4, 1) := by decide +kernel
theorem dX3_writeLog_60 : decode cX3_writeLog 60 = .ok (.ishl, 1) := by decide +kernel
theorem dX3_writeLog_61 : decode cX3_writeLog 61 = .ok (.goto 4, 3) := by decide +kernel
theorem dX3_writeLog_64 : decode cX3_writeLog 64 = .ok (.iconst 0, 1) := by decide +kernel
theorem dX3_writeLog_65 : decode cX3_writeLog 65 = .ok (.ior, 1) := by decide +kernel
theorem dX3_writeLog_66 : decode cX3_writeLog 66 = .ok (.invokevirtual 59, 3) := by decide +kernel
theorem dX3_writeLog_69 : decode cX3_writeLog 69 = .ok (.iload_n 3, 1) := by decide +kernel
theorem dX3_writeLog_70 : decode cX3_writeLog 70 = .ok (.bipush 15, 2) := by decide +kernel
theorem dX3_writeLog_72 : decode cX3_writeLog 72 = .ok (.if_icmp .le 9, 3) := by decide +kernel
theorem dX3_writeLog_75 : decode cX3_writeLog 75 = .ok (.aload_n 0, 1) := by decide +kernel
theorem dX3_writeLog_76 : decode cX3_writeLog 76 = .ok (.iload_n 3, 1) := by decide +kernel
theorem dX3_writeLog_77 : decode cX3_writeLog 77 = .ok (.i2l, 1) := by decide +kernel
theorem dX3_writeLog_78 : decode cX3_writeLog 78 = .ok (.invokevirtual 47, 3) := by decide +kernel
theorem dX3_writeLog_81 : decode cX3_writeLog 81 = .ok (.iload_n 2, 1) := by decide +kernel
theorem dX3_writeLog_82 : decode cX3_writeLog 82 = .ok (.iload_n 3, 1) := by decide +kernel
theorem dX3_writeLog_83 : decode cX3_writeLog 83 = .ok (.iadd, 1) := by decide +kernel
theorem dX3_writeLog_84 : decode cX3_writeLog 84 = .ok (.istore_n 2, 1) := by decide +kernel
theorem dX3_writeLog_85 : decode cX3_writeLog 85 = .ok (.goto (-64), 3) := by decide +kernel
theorem dX3_writeLog_88 : decode cX3_writeLog 88 = .ok (.aload_n 0, 1) := by decide +kernel
theorem dX3_writeLog_89 : decode cX3_writeLog 89 = .ok (.getfield 44, 3) := by decide +kernel
theorem dX3_writeLog_92 : decode cX3_writeLog 92 = .ok (.ireturn, 1) := by decide +kernel
theorem dX3_likeBefore_0 : decode cX3_likeBefore 0 = .ok (.iconst 0, 1) := by decide +kernel
theorem dX3_likeBefore_1 : decode cX3_likeBefore 1 = .ok (.istore_n 2, 1) := by decide +kernel
theorem dX3_likeBefore_2 : decode cX3_likeBefore 2 = .ok (.iload_n 1, 1) := by decide +kernel
theorem dX3_likeBefore_3 : decode cX3_likeBefore 3 = .ok (.ifCond .le 50, 3) := by decide +kernel
theorem dX3_likeBefore_6 : decode cX3_likeBefore 6 = .ok (.iload_n 1, 1) := by decide +kernel
theorem dX3_likeBefore_7 : decode cX3_likeBefore 7 = .ok (.iload_n 2, 1) := by decide +kernel
theorem dX3_likeBefore_8 : decode cX3_likeBefore 8 = .ok (.iadd, 1) := by decide +kernel
theorem dX3_likeBefore_9 : decode cX3_likeBefore 9 = .ok (.aload_n 0, 1) := by decide +kernel
theorem dX3_likeBefore_10 : decode cX3_likeBefore 10 = .ok (.getfield 35, 3) := by decide +kernel
theorem dX3_likeBefore_13 : decode cX3_likeBefore 13 = .ok (.if_icmp .ge 40, 3) := by decide +kernel
theorem dX3_likeBefore_16 : decode cX3_likeBefore 16 = .ok (.aload_n 0, 1) := by decide +kernel
theorem dX3_likeBefore_17 : decode cX3_likeBefore 17 = .ok (.iload_n 1, 1) := by decide +kernel
theorem dX3_likeBefore_18 : decode cX3_likeBefore 18 = .ok (.iload_n 2, 1) := by decide +kernel
theorem dX3_likeBefore_19 : decode cX3_likeBefore 19 = .ok (.iadd, 1) := by decide +kernel
theorem dX3_likeBefore_20 : decode cX3_likeBefore 20 = .ok (.iload_n 1, 1) := by decide +kernel
theorem dX3_likeBefore_21 : decode cX3_likeBefore 21 = .ok (.iconst 1, 1) := by decide +kernel
theorem dX3_likeBefore_22 : decode cX3_likeBefore 22 = .ok (.isub, 1) := by decide +kernel
theorem dX3_likeBefore_23 : decode cX3_likeBefore 23 = .ok (.invokevirtual 62, 3) := by decide +kernel
theorem dX3_likeBefore_26 : decode cX3_likeBefore 26 = .ok (.ifCond .eq 27, 3) := by decide +kernel
theorem dX3_likeBefore_29 : decode cX3_likeBefore 29 = .ok (.aload_n 0, 1) := by decide +kernel
theorem dX3_likeBefore_30 : decode cX3_likeBefore 30 = .ok (.iload_n 1, 1) := by decide +kernel
theorem dX3_likeBefore_31 : decode cX3_likeBefore 31 = .ok (.iload_n 2, 1) := by decide +kernel
theorem dX3_likeBefore_32 : decode cX3_likeBefore 32 = .ok (.iadd, 1) := by decide +kernel
theorem dX3_likeBefore_33 : decode cX3_likeBefore 33 = .ok (.invokevirtual 66, 3) := by decide +kernel
theorem dX3_likeBefore_36 : decode cX3_likeBefore 36 = .ok (.aload_n 0, 1) := by decide +kernel
theorem dX3_likeBefore_37 : decode cX3_likeBefore 37 = .ok (.iload_n 1, 1) := by decide +kernel
theorem dX3_likeBefore_38 : decode cX3_likeBefore 38 = .ok (.iconst 1, 1) := by decide +kernel
theorem dX3_likeBefore_39 : decode cX3_likeBefore 39 = .ok (.isub, 1) := by decide +kernel
theorem dX3_likeBefore_40 : decode cX3_likeBefore 40 = .ok (.invokevirtual 66, 3) := by decide +kernel
theorem dX3_likeBefore_43 : decode cX3_likeBefore 43 = .ok (.lcmp, 1) := by decide +kernel
theorem dX3_likeBefore_44 : decode cX3_likeBefore 44 = .ok (.ifCond .ne 9, 3) := by decide +kernel
theorem dX3_likeBefore_47 : decode cX3_likeBefore 47 = .ok (.iinc 2 1, 3) := by decide +kernel
theorem dX3_likeBefore_50 : decode cX3_likeBefore 50 = .ok (.goto (-48), 3) := by decide +kernel
theorem dX3_likeBefore_53 : decode cX3_likeBefore 53 = .ok (.iload_n 2, 1) := by decide +kernel
theorem dX3_likeBefore_54 : decode cX3_likeBefore 54 = .ok (.ireturn, 1) := by decide +kernel
theorem dX3_putEntry_0 : decode cX3_putEntry 0 = .ok (.aload_n 0, 1) := by decide +kernel
theorem dX3_putEntry_1 : decode cX3_putEntry 1 = .ok (.iload_n 1, 1) := by decide +kernel
theorem dX3_putEntry_2 : decode cX3_putEntry 2 = .ok (.invokevirtual 66, 3) := by decide +kernel
theorem dX3_putEntry_5 : decode cX3_putEntry 5 = .ok (.iload_n 1, 1) := by decide +kernel
theorem dX3_putEntry_6 : decode cX3_putEntry 6 = .ok (.ifCond .ne 7, 3) := by decide +kernel
theorem dX3_putEntry_9 : decode cX3_putEntry 9 = .ok (.lconst 0, 1) := by decide +kernel
theorem dX3_putEntry_10 : decode cX3_putEntry 10 = .ok (.goto 10, 3) := by decide +kernel
theorem dX3_putEntry_13 : decode cX3_putEntry 13 = .ok (.aload_n 0, 1) := by decide +kernel
theorem dX3_putEntry_14 : decode cX3_putEntry 14 = .ok (.iload_n 1, 1) := by decide +kernel
theorem dX3_putEntry_15 : decode cX3_putEntry 15 = .ok (.iconst 1, 1) := by decide +kernel
theorem dX3_putEntry_16 : decode cX3_putEntry 16 = .ok (.isub, 1) := by decide +kernel
theorem dX3_putEntry_17 : decode cX3_putEntry 17 = .ok (.invokevirtual 66, 3) := by decide +kernel
theorem dX3_putEntry_20 : decode cX3_putEntry 20 = .ok (.lcmp, 1) := by decide +kernel
theorem dX3_putEntry_21 : decode cX3_putEntry 21 = .ok (.ifCond .ne 7, 3) := by decide +kernel
theorem dX3_putEntry_24 : decode cX3_putEntry 24 = .ok (.iconst 1, 1) := by decide +kernel
theorem dX3_putEntry_25 : decode cX3_putEntry 25 = .ok (.goto 4, 3) := by decide +kernel
theorem dX3_putEntry_28 : decode cX3_putEntry 28 = .ok (.iconst 0, 1) := by decide +kernel
theorem dX3_putEntry_29 : decode cX3_putEntry 29 = .ok (.istore_n 2, 1) := by decide +kernel
theorem dX3_putEntry_30 : decode cX3_putEntry 30 = .ok (.aload_n 0, 1) := by decide +kernel
theorem dX3_putEntry_31 : decode cX3_putEntry 31 = .ok (.getfield 9, 3) := by decide +kernel
theorem dX3_putEntry_34 : decode cX3_putEntry 34 = .ok (.iload_n 1, 1) := by decide +kernel
theorem dX3_putEntry_35 : decode cX3_putEntry 35 = .ok (.iaload, 1) := by decide +kernel
theorem dX3_putEntry_36 : decode cX3_putEntry 36 = .ok (.iconst 1, 1) := by decide +kernel
theorem dX3_putEntry_37 : decode cX3_putEntry 37 = .ok (.if_icmp .ne 11, 3) := by decide +kernel
theorem dX3_putEntry_40 : decode cX3_putEntry 40 = .ok (.aload_n 0, 1) := by decide +kernel
theorem dX3_putEntry_41 : decode cX3_putEntry 41 = .ok (.iload_n 1, 1) := by decide +kernel
theorem dX3_putEntry_42 : decode cX3_putEntry 42 = .ok (.invokevirtual 70, 3) := by decide +kernel
theorem dX3_putEntry_45 : decode cX3_putEntry 45 = .ok (.goto 22, 3) := by decide +kernel
theorem dX3_putEntry_48 : decode cX3_putEntry 48 = .ok (.aload_n 0, 1) := by decide +kernel
theorem dX3_putEntry_49 : decode cX3_putEntry 49 = .ok (.getfield 9, 3) := by decide +kernel
theorem dX3_putEntry_52 : decode cX3_putEntry 52 = .ok (.iload_n 1, 1) := by decide +kernel
theorem dX3_putEntry_53 : decode cX3_putEntry 53 = .ok (.iaload, 1) := by decide +kernel
theorem dX3_putEntry_54 : decode cX3_putEntry 54 = .ok (.iconst 3, 1) := by decide +kernel
theorem dX3_putEntry_55 : decode cX3_putEntry 55 = .ok (.if_icmp .ne 11, 3) := by decide +kernel
theorem dX3_putEntry_58 : decode cX3_putEntry 58 = .ok (.aload_n 0, 1) := by decide +kernel
theorem dX3_putEntry_59 : decode cX3_putEntry 59 = .ok (.iload_n 1, 1) := by decide +kernel
theorem dX3_putEntry_60 : decode cX3_putEntry 60 = .ok (.invokevirtual 73, 3) := by decide +kernel
theorem dX3_putEntry_63 : decode cX3_putEntry 63 = .ok (.goto 4, 3) := by decide +kernel
theorem dX3_putEntry_66 : decode cX3_putEntry 66 = .ok (.iconst 0, 1) := by decide +kernel
theorem dX3_putEntry_67 : decode cX3_putEntry 67 = .ok (.istore_n 3, 1) := by decide +kernel
theorem dX3_putEntry_68 : decode cX3_putEntry 68 = .ok (.iconst 0, 1) := by decide +kernel
theorem dX3_putEntry_69 : decode cX3_putEntry 69 = .ok (.istore 4, 2) := by decide +kernel
theorem dX3_putEntry_71 : decode cX3_putEntry 71 = .ok (.aload_n 0, 1) := by decide +kernel
theorem dX3_putEntry_72 : decode cX3_putEntry 72 = .ok (.getfield 9, 3) := by decide +kernel
theorem dX3_putEntry_75 : decode cX3_putEntry 75 = .ok (.iload_n 1, 1) := by decide +kernel
theorem dX3_putEntry_76 : decode cX3_putEntry 76 = .ok (.iaload, 1) := by decide +kernel
theorem dX3_putEntry_77 : decode cX3_putEntry 77 = .ok (.ifCond .eq 13, 3) := by decide +kernel
theorem dX3_putEntry_80 : decode cX3_putEntry 80 = .ok (.aload_n 0, 1) := by decide +kernel
theorem dX3_putEntry_81 : decode cX3_putEntry 81 = .ok (.getfield 9, 3) := by decide +kernel
theorem dX3_putEntry_84 : decode cX3_putEntry 84 = .ok (.iload_n 1, 1) := by decide +kernel
theorem dX3_putEntry_85 : decode cX3_putEntry 85 = .ok (.iaload, 1) := by decide +kernel
theorem dX3_putEntry_86 : decode cX3_putEntry 86 = .ok (.iconst 2, 1) := by decide +kernel
theorem dX3_putEntry_87 : decode cX3_putEntry 87 = .ok (.if_icmp .ne 15, 3) := by decide +kernel
theorem dX3_putEntry_90 : decode cX3_putEntry 90 = .ok (.aload_n 0, 1) := by decide +kernel
theorem dX3_putEntry_91 : decode cX3_putEntry 91 = .ok (.getfield 17, 3) := by decide +kernel
theorem dX3_putEntry_94 : decode cX3_putEntry 94 = .ok (.iload_n 1, 1) := by decide +kernel
theorem dX3_putEntry_95 : decode cX3_putEntry 95 = .ok (.laload, 1) := by decide +kernel
theorem dX3_putEntry_96 : decode cX3_putEntry 96 = .ok (.l2i, 1) := by decide +kernel
theorem dX3_putEntry_97 : decode cX3_putEntry 97 = .ok (.istore 4, 2) := by decide +kernel
theorem dX3_putEntry_99 : decode cX3_putEntry 99 = .ok (.goto 45, 3) := by decide +kernel
theorem dX3_putEntry_102 : decode cX3_putEntry 102 = .ok (.aload_n 0, 1) := by decide +kernel
theorem dX3_putEntry_103 : decode cX3_putEntry 103 = .ok (.getfield 9, 3) := by decide +kernel
theorem dX3_putEntry_106 : decode cX3_putEntry 106 = .ok (.iload_n 1, 1) := by decide +kernel
theorem dX3_putEntry_107 : decode cX3_putEntry 107 = .ok (.iaload, 1) := by decide +kernel
theorem dX3_putEntry_108 : decode cX3_putEntry 108 = .ok (.iconst 1, 1) := by decide +kernel
theorem dX3_putEntry_109 : decode cX3_putEntry 109 = .ok (.if_icmp .ne 22, 3) := by decide +kernel
theorem dX3_putEntry_112 : decode cX3_putEntry 112 = .ok (.iload_n 3, 1) := by decide +kernel
theorem dX3_putEntry_113 : decode cX3_putEntry 113 = .ok (.ifCond .le 7, 3) := by decide +kernel
theorem dX3_putEntry_116 : decode cX3_putEntry 116 = .ok (.iconst 0, 1) := by decide +kernel
theorem dX3_putEntry_117 : decode cX3_putEntry 117 = .ok (.goto 9, 3) := by decide +kernel
theorem dX3_putEntry_120 : decode cX3_putEntry 120 = .ok (.aload_n 0, 1) := by decide +kernel
theorem dX3_putEntry_121 : decode cX3_putEntry 121 = .ok (.getfield 20, 3) := by decide +kernel
theorem dX3_putEntry_124 : decode cX3_putEntry 124 = .ok (.iload_n 1, 1) := by decide +kernel
theorem dX3_putEntry_125 : decode cX3_putEntry 125 = .ok (.iaload, 1) := by decide +kernel
theorem dX3_putEntry_126 : decode cX3_putEntry 126 = .ok (.istore 4, 2) := by decide +kernel
theorem dX3_putEntry_128 : decode cX3_putEntry 128 = .ok (.goto 16, 3) := by decide +kernel
theorem dX3_putEntry_131 : decode cX3_putEntry 131 = .ok (.aload_n 0, 1) := by decide +kernel
theorem dX3_putEntry_132 : decode cX3_putEntry 132 = .ok (.getfield 9, 3) := by decide +kernel
theorem dX3_putEntry_135 : decode cX3_putEntry 135 = .ok (.iload_n 1, 1) := by decide +kernel
theorem dX3_putEntry_136 : decode cX3_putEntry 136 = .ok (.iaload, 1) := by decide +kernel
theorem dX3_putEntry_137 : decode cX3_putEntry 137 = .ok (.iconst 3, 1) := by decide +kernel
theorem dX3_putEntry_138 : decode cX3_putEntry 138 = .ok (.if_icmp .ne 6, 3) := by decide +kernel
theorem dX3_putEntry_141 : decode cX3_putEntry 141 = .ok (.iload_n 3, 1) := by decide +kernel
theorem dX3_putEntry_142 : decode cX3_putEntry 142 = .ok (.istore 4, 2) := by decide +kernel
theorem dX3_putEntry_144 : decode cX3_putEntry 144 = .ok (.aload_n 0, 1) := by decide +kernel
theorem dX3_putEntry_145 : decode cX3_putEntry 145 = .ok (.aload_n 0, 1) := by decide +kernel
theorem dX3_putEntry_146 : decode cX3_putEntry 146 = .ok (.getfield 9, 3) := by decide +kernel
theorem dX3_putEntry_149 : decode cX3_putEntry 149 = .ok (.iload_n 1, 1) := by decide +kernel
theorem dX3_putEntry_150 : decode cX3_putEntry 150 = .ok (.iaload, 1) := by decide +kernel
theorem dX3_putEntry_151 : decode cX3_putEntry 151 = .ok (.iload_n 2, 1) := by decide +kernel
theorem dX3_putEntry_152 : decode cX3_putEntry 152 = .ok (.ifCond .eq 8, 3) := by decide +kernel
theorem dX3_putEntry_155 : decode cX3_putEntry 155 = .ok (.bipush 8, 2) := by decide +kernel
theorem dX3_putEntry_157 : decode cX3_putEntry 157 = .ok (.goto 4, 3) := by decide +kernel
theorem dX3_putEntry_160 : decode cX3_putEntry 160 = .ok (.iconst 0, 1) := by decide +kernel
theorem dX3_putEntry_161 : decode cX3_putEntry 161 = .ok (.ior, 1) := by decide +kernel
theorem dX3_putEntry_162 : decode cX3_putEntry 162 = .ok (.iload 4, 2) := by decide +kernel
theorem dX3_putEntry_164 : decode cX3_putEntry 164 = .ok (.iconst 4, 1) := by decide +kernel
theorem dX3_putEntry_165 : decode cX3_putEntry 165 = .ok (.ishl, 1) := by decide +kernel
theorem dX3_putEntry_166 : decode cX3_putEntry 166 = .ok (.ior, 1) := by decide +kernel
theorem dX3_putEntry_167 : decode cX3_putEntry 167 = .ok (.invokevirtual 59, 3) := by decide +kernel
theorem dX3_putEntry_170 : decode cX3_putEntry 170 = .ok (.iload_n 2, 1) := by decide +kernel
theorem dX3_putEntry_171 : decode cX3_putEntry 171 = .ok (.ifCond .ne 12, 3) := by decide +kernel
theorem dX3_putEntry_174 : decode cX3_putEntry 174 = .ok (.aload_n 0, 1) := by decide +kernel
theorem dX3_putEntry_175 : decode cX3_putEntry 175 = .ok (.aload_n 0, 1) := by decide +kernel
theorem dX3_putEntry_176 : decode cX3_putEntry 176 = .ok (.iload_n 1, 1) := by decide +kernel
theorem dX3_putEntry_177 : decode cX3_putEntry 177 = .ok (.invokevirtual 66, 3) := by decide +kernel
theorem dX3_putEntry_180 : decode cX3_putEntry 180 = .ok (.invokevirtual 47, 3) := by decide +kernel
theorem dX3_putEntry_183 : decode cX3_putEntry 183 = .ok (.aload_n 0, 1) := by decide +kernel
theorem dX3_putEntry_184 : decode cX3_putEntry 184 = .ok (.getfield 9, 3) := by decide +kernel
theorem dX3_putEntry_187 : decode cX3_putEntry 187 = .ok (.iload_n 1, 1) := by decide +kernel
theorem dX3_putEntry_188 : decode cX3_putEntry 188 = .ok (.iaload, 1) := by decide +kernel
theorem dX3_putEntry_189 : decode cX3_putEntry 189 = .ok (.iconst 1, 1) := by decide +kernel
theorem dX3_putEntry_190 : decode cX3_putEntry 190 = .ok (.if_icmp .ne 16, 3) := by decide +kernel
theorem dX3_putEntry_193 : decode cX3_putEntry 193 = .ok (.iload_n 3, 1) := by decide +kernel
theorem dX3_putEntry_194 : decode cX3_putEntry 194 = .ok (.ifCond .le 12, 3) := by decide +kernel
theorem dX3_putEntry_197 : decode cX3_putEntry 197 = .ok (.aload_n 0, 1) := by decide +kernel
theorem dX3_putEntry_198 : decode cX3_putEntry 198 = .ok (.iload_n 3, 1) := by decide +kernel
theorem dX3_putEntry_199 : decode cX3_putEntry 199 = .ok (.i2l, 1) := by decide +kernel
theorem dX3_putEntry_200 : decode cX3_putEntry 200 = .ok (.invokevirtual 47, 3) := by decide +kernel
theorem dX3_putEntry_203 : decode cX3_putEntry 203 = .ok (.goto 103, 3) := by decide +kernel
theorem dX3_putEntry_206 : decode cX3_putEntry 206 = .ok (.aload_n 0, 1) := by decide +kernel
theorem dX3_putEntry_207 : decode cX3_putEntry 207 = .ok (.getfield 9, 3) := by decide +kernel
theorem dX3_putEntry_210 : decode cX3_putEntry 210 = .ok (.iload_n 1, 1) := by decide +kernel
theorem dX3_putEntry_211 : decode cX3_putEntry 211 = .ok (.iaload, 1) := by decide +kernel
theorem dX3_putEntry_212 : decode cX3_putEntry 212 = .ok (.iconst 1, 1) := by decide +kernel
theorem dX3_putEntry_213 : decode cX3_putEntry 213 = .ok (.if_icmp .ne 22, 3) := by decide +kernel
theorem dX3_putEntry_216 : decode cX3_putEntry 216 = .ok (.aload_n 0, 1) := by decide +kernel
theorem dX3_putEntry_217 : decode cX3_putEntry 217 = .ok (.aload_n 0, 1) := by decide +kernel
theorem dX3_putEntry_218 : decode cX3_putEntry 218 = .ok (.getfield 17, 3) := by decide +kernel
theorem dX3_putEntry_221 : decode cX3_putEntry 221 = .ok (.iload_n 1, 1) := by decide +kernel
theorem dX3_putEntry_222 : decode cX3_putEntry 222 = .ok (.laload, 1) := by decide +kernel
theorem dX3_putEntry_223 : decode cX3_putEntry 223 = .ok (.aload_n 0, 1) := by decide +kernel
theorem dX3_putEntry_224 : decode cX3_putEntry 224 = .ok (.getfield 20, 3) := by decide +kernel
theorem dX3_putEntry_227 : decode cX3_putEntry 227 = .ok (.iload_n 1, 1) := by decide +kernel
theorem dX3_putEntry_228 : decode cX3_putEntry 228 = .ok (.iaload, 1) := by decide +kernel
theorem dX3_putEntry_229 : decode cX3_putEntry 229 = .ok (.invokevirtual 76, 3) := by decide +kernel
theorem dX3_putEntry_232 : decode cX3_putEntry 232 = .ok (.goto 74, 3) := by decide +kernel
theorem dX3_putEntry_235 : decode cX3_putEntry 235 = .ok (.aload_n 0, 1) := by decide +kernel
theorem dX3_putEntry_236 : decode cX3_putEntry 236 = .ok (.getfield 9, 3) := by decide +kernel
theorem dX3_putEntry_239 : decode cX3_putEntry 239 = .ok (.iload_n 1, 1) := by decide +kernel
theorem dX3_putEntry_240 : decode cX3_putEntry 240 = .ok (.iaload, 1) := by decide +kernel
theorem dX3_putEntry_241 : decode cX3_putEntry 241 = .ok (.iconst 2, 1) := by decide +kernel
theorem dX3_putEntry_242 : decode cX3_putEntry 242 = .ok (.if_icmp .ne 16, 3) := by decide +kernel
theorem dX3_putEntry_245 : decode cX3_putEntry 245 = .ok (.aload_n 0, 1) := by decide +kernel
theorem dX3_putEntry_246 : decode cX3_putEntry 246 = .ok (.aload_n 0, 1) := by decide +kernel
theorem dX3_putEntry_247 : decode cX3_putEntry 247 = .ok (.getfield 20, 3) := by decide +kernel
theorem dX3_putEntry_250 : decode cX3_putEntry 250 = .ok (.iload_n 1, 1) := by decide +kernel
theorem dX3_putEntry_251 : decode cX3_putEntry 251 = .ok (.iaload, 1) := by decide +kernel
theorem dX3_putEntry_252 : decode cX3_putEntry 252 = .ok (.invokevirtual 59, 3) := by decide +kernel
theorem dX3_putEntry_255 : decode cX3_putEntry 255 = .ok (.goto 51, 3) := by decide +kernel
theorem dX3_putEntry_258 : decode cX3_putEntry 258 = .ok (.aload_n 0, 1) := by decide +kernel
theorem dX3_putEntry_259 : decode cX3_putEntry 259 = .ok (.getfield 9, 3) := by decide +kernel
theorem dX3_putEntry_262 : decode cX3_putEntry 262 = .ok (.iload_n 1, 1) := by decide +kernel
theorem dX3_putEntry_263 : decode cX3_putEntry 263 = .ok (.iaload, 1) := by decide +kernel
theorem dX3_putEntry_264 : decode cX3_putEntry 264 = .ok (.iconst 3, 1) := by decide +kernel
theorem dX3_putEntry_265 : decode cX3_putEntry 265 = .ok (.if_icmp .ne 20, 3) := by decide +kernel
theorem dX3_putEntry_268 : decode cX3_putEntry 268 = .ok (.iload_n 3, 1) := by decide +kernel
theorem dX3_putEntry_269 : decode cX3_putEntry 269 = .ok (.ifCond .ne 16, 3) := by decide +kernel
theorem dX3_putEntry_272 : decode cX3_putEntry 272 = .ok (.aload_n 0, 1) := by decide +kernel
theorem dX3_putEntry_273 : decode cX3_putEntry 273 = .ok (.aload_n 0, 1) := by decide +kernel
theorem dX3_putEntry_274 : decode cX3_putEntry 274 = .ok (.getfield 17, 3) := by decide +kernel
theorem dX3_putEntry_277 : decode cX3_putEntry 277 = .ok (.iload_n 1, 1) := by decide +kernel
theorem dX3_putEntry_278 : decode cX3_putEntry 278 = .ok (.laload, 1) := by decide +kernel
theorem dX3_putEntry_279 : decode cX3_putEntry 279 = .ok (.invokevirtual 47, 3) := by decide +kernel
theorem dX3_putEntry_282 : decode cX3_putEntry 282 = .ok (.goto 24, 3) := by decide +kernel
theorem dX3_putEntry_285 : decode cX3_putEntry 285 = .ok (.aload_n 0, 1) := by decide +kernel
theorem dX3_putEntry_286 : decode cX3_putEntry 286 = .ok (.getfield 9, 3) := by decide +kernel
theorem dX3_putEntry_289 : decode cX3_putEntry 289 = .ok (.iload_n 1, 1) := by decide +kernel
theorem dX3_putEntry_290 : decode cX3_putEntry 290 = .ok (.iaload, 1) := by decide +kernel
theorem dX3_putEntry_291 : decode cX3_putEntry 291 = .ok (.iconst 4, 1) := by decide +kernel
theorem dX3_putEntry_292 : decode cX3_putEntry 292 = .ok (.if_icmp .ne 14, 3) := by decide +kernel
theorem dX3_putEntry_295 : decode cX3_putEntry 295 = .ok (.aload_n 0, 1) := by decide +kernel
theorem dX3_putEntry_296 : decode cX3_putEntry 296 = .ok (.aload_n 0, 1) := by decide +kernel
theorem dX3_putEntry_297 : decode cX3_putEntry 297 = .ok (.getfield 17, 3) := by decide +kernel
theorem dX3_putEntry_300 : decode cX3_putEntry 300 = .ok (.iload_n 1, 1) := by decide +kernel
theorem dX3_putEntry_301 : decode cX3_putEntry 301 = .ok (.laload, 1) := by decide +kernel
theorem dX3_putEntry_302 : decode cX3_putEntry 302 = .ok (.iconst 4, 1) := by decide +kernel
theorem dX3_putEntry_303 : decode cX3_putEntry 303 = .ok (.invokevirtual 76, 3) := by decide +kernel
theorem dX3_putEntry_306 : decode cX3_putEntry 306 = .ok (.return_, 1) := by decide +kernel
theorem dX3_sameTyped_0 : decode cX3_sameTyped 0 = .ok (.iconst 0, 1) := by decide +kernel
theorem dX3_sameTyped_1 : decode cX3_sameTyped 1 = .ok (.istore_n 2, 1) := by decide +kernel
theorem dX3_sameTyped_2 : decode cX3_sameTyped 2 = .ok (.iload_n 1, 1) := by decide +kernel
theorem dX3_sameTyped_3 : decode cX3_sameTyped 3 = .ok (.iconst 1, 1) := by decide +kernel
theorem dX3_sameTyped_4 : decode cX3_sameTyped 4 = .ok (.isub, 1) := by decide +kernel
theorem dX3_sameTyped_5 : decode cX3_sameTyped 5 = .ok (.istore_n 3, 1) := by decide +kernel
theorem dX3_sameTyped_6 : decode cX3_sameTyped 6 = .ok (.iload_n 3, 1) := by decide +kernel
theorem dX3_sameTyped_7 : decode cX3_sameTyped 7 = .ok (.ifCond .lt 49, 3) := by decide +kernel
theorem dX3_sameTyped_10 : decode cX3_sameTyped 10 = .ok (.iload_n 2, 1) := by decide +kernel
theorem dX3_sameTyped_11 : decode cX3_sameTyped 11 = .ok (.bipush 20, 2) := by decide +kernel
theorem dX3_sameTyped_13 : decode cX3_sameTyped 13 = .ok (.if_icmp .ge 43, 3) := by decide +kernel
theorem dX3_sameTyped_16 : decode cX3_sameTyped 16 = .ok (.aload_n 0, 1) := by decide +kernel
theorem dX3_sameTyped_17 : decode cX3_sameTyped 17 = .ok (.getfield 20, 3) := by decide +kernel
theorem dX3_sameTyped_20 : decode cX3_sameTyped 20 = .ok (.iload_n 1, 1) := by decide +kernel
theorem dX3_sameTyped_21 : decode cX3_sameTyped 21 = .ok (.iaload, 1) := by decide +kernel
theorem dX3_sameTyped_22 : decode cX3_sameTyped 22 = .ok (.iconst 1, 1) := by decide +kernel
theorem dX3_sameTyped_23 : decode cX3_sameTyped 23 = .ok (.if_icmp .le 33, 3) := by decide +kernel
theorem dX3_sameTyped_26 : decode cX3_sameTyped 26 = .ok (.aload_n 0, 1) := by decide +kernel
theorem dX3_sameTyped_27 : decode cX3_sameTyped 27 = .ok (.getfield 9, 3) := by decide +kernel
theorem dX3_sameTyped_30 : decode cX3_sameTyped 30 = .ok (.iload_n 3, 1) := by decide +kernel
theorem dX3_sameTyped_31 : decode cX3_sameTyped 31 = .ok (.iaload, 1) := by decide +kernel
theorem dX3_sameTyped_32 : decode cX3_sameTyped 32 = .ok (.iconst 1, 1) := by decide +kernel
theorem dX3_sameTyped_33 : decode cX3_sameTyped 33 = .ok (.if_icmp .ne 17, 3) := by decide +kernel
theorem dX3_sameTyped_36 : decode cX3_sameTyped 36 = .ok (.iinc 2 1, 3) := by decide +kernel
theorem dX3_sameTyped_39 : decode cX3_sameTyped 39 = .ok (.aload_n 0, 1) := by decide +kernel
theorem dX3_sameTyped_40 : decode cX3_sameTyped 40 = .ok (.iload_n 1, 1) := by decide +kernel
theorem dX3_sameTyped_41 : decode cX3_sameTyped 41 = .ok (.iload_n 3, 1) := by decide +kernel
theorem dX3_sameTyped_42 : decode cX3_sameTyped 42 = .ok (.invokevirtual 62, 3) := by decide +kernel
theorem dX3_sameTyped_45 : decode cX3_sameTyped 45 = .ok (.ifCond .eq 5, 3) := by decide +kernel
theorem dX3_sameTyped_48 : decode cX3_sameTyped 48 = .ok (.iload_n 2, 1) := by decide +kernel
theorem dX3_sameTyped_49 : decode cX3_sameTyped 49 = .ok (.ireturn, 1) := by decide +kernel
theorem dX3_sameTyped_50 : decode cX3_sameTyped 50 = .ok (.iinc 3 (-1), 3) := by decide +kernel
theorem dX3_sameTyped_53 : decode cX3_sameTyped 53 = .ok (.goto (-47), 3) := by decide +kernel
theorem dX3_sameTyped_56 : decode cX3_sameTyped 56 = .ok (.iconst 0, 1) := by decide +kernel
theorem dX3_sameTyped_57 : decode cX3_sameTyped 57 = .ok (.ireturn, 1) := by decide +kernel
theorem dX3_sameClock_0 : decode cX3_sameClock 0 = .ok (.aload_n 0, 1) := by decide +kernel
theorem dX3_sameClock_1 : decode cX3_sameClock 1 = .ok (.iconst 3, 1) := by decide +kernel
theorem dX3_sameClock_2 : decode cX3_sameClock 2 = .ok (.lconst 1, 1) := by decide +kernel
theorem dX3_sameClock_3 : decode cX3_sameClock 3 = .ok (.iload_n 1, 1) := by decide +kernel
theorem dX3_sameClock_4 : decode cX3_sameClock 4 = .ok (.invokevirtual 80, 3) := by decide +kernel
theorem dX3_sameClock_7 : decode cX3_sameClock 7 = .ok (.istore_n 2, 1) := by decide +kernel
theorem dX3_sameClock_8 : decode cX3_sameClock 8 = .ok (.iload_n 2, 1) := by decide +kernel
theorem dX3_sameClock_9 : decode cX3_sameClock 9 = .ok (.ifCond .lt 23, 3) := by decide +kernel
theorem dX3_sameClock_12 : decode cX3_sameClock 12 = .ok (.aload_n 0, 1) := by decide +kernel
theorem dX3_sameClock_13 : decode cX3_sameClock 13 = .ok (.getfield 17, 3) := by decide +kernel
theorem dX3_sameClock_16 : decode cX3_sameClock 16 = .ok (.iload_n 2, 1) := by decide +kernel
theorem dX3_sameClock_17 : decode cX3_sameClock 17 = .ok (.laload, 1) := by decide +kernel
theorem dX3_sameClock_18 : decode cX3_sameClock 18 = .ok (.aload_n 0, 1) := by decide +kernel
theorem dX3_sameClock_19 : decode cX3_sameClock 19 = .ok (.getfield 17, 3) := by decide +kernel
theorem dX3_sameClock_22 : decode cX3_sameClock 22 = .ok (.iload_n 1, 1) := by decide +kernel
theorem dX3_sameClock_23 : decode cX3_sameClock 23 = .ok (.laload, 1) := by decide +kernel
theorem dX3_sameClock_24 : decode cX3_sameClock 24 = .ok (.lcmp, 1) := by decide +kernel
theorem dX3_sameClock_25 : decode cX3_sameClock 25 = .ok (.ifCond .ne 7, 3) := by decide +kernel
theorem dX3_sameClock_28 : decode cX3_sameClock 28 = .ok (.iconst 1, 1) := by decide +kernel
theorem dX3_sameClock_29 : decode cX3_sameClock 29 = .ok (.goto 4, 3) := by decide +kernel
theorem dX3_sameClock_32 : decode cX3_sameClock 32 = .ok (.iconst 0, 1) := by decide +kernel
theorem dX3_sameClock_33 : decode cX3_sameClock 33 = .ok (.ireturn, 1) := by decide +kernel
theorem dX3_latest_0 : decode cX3_latest 0 = .ok (.lload_n 2, 1) := by decide +kernel
theorem dX3_latest_1 : decode cX3_latest 1 = .ok (.lstore 5, 2) := by decide +kernel
theorem dX3_latest_3 : decode cX3_latest 3 = .ok (.iload 4, 2) := by decide +kernel
theorem dX3_latest_5 : decode cX3_latest 5 = .ok (.iconst 1, 1) := by decide +kernel
theorem dX3_latest_6 : decode cX3_latest 6 = .ok (.isub, 1) := by decide +kernel
theorem dX3_latest_7 : decode cX3_latest 7 = .ok (.istore 7, 2) := by decide +kernel
theorem dX3_latest_9 : decode cX3_latest 9 = .ok (.iload 7, 2) := by decide +kernel
theorem dX3_latest_11 : decode cX3_latest 11 = .ok (.ifCond .lt 36, 3) := by decide +kernel
theorem dX3_latest_14 : decode cX3_latest 14 = .ok (.aload_n 0, 1) := by decide +kernel
theorem dX3_latest_15 : decode cX3_latest 15 = .ok (.getfield 9, 3) := by decide +kernel
theorem dX3_latest_18 : decode cX3_latest 18 = .ok (.iload 7, 2) := by decide +kernel
theorem dX3_latest_20 : decode cX3_latest 20 = .ok (.iaload, 1) := by decide +kernel
theorem dX3_latest_21 : decode cX3_latest 21 = .ok (.iload_n 1, 1) := by decide +kernel
theorem dX3_latest_22 : decode cX3_latest 22 = .ok (.if_icmp .ne 19, 3) := by decide +kernel
theorem dX3_latest_25 : decode cX3_latest 25 = .ok (.lload 5, 2) := by decide +kernel
theorem dX3_latest_27 : decode cX3_latest 27 = .ok (.lconst 1, 1) := by decide +kernel
theorem dX3_latest_28 : decode cX3_latest 28 = .ok (.lsub, 1) := by decide +kernel
theorem dX3_latest_29 : decode cX3_latest 29 = .ok (.lstore 5, 2) := by decide +kernel
theorem dX3_latest_31 : decode cX3_latest 31 = .ok (.lload 5, 2) := by decide +kernel
theorem dX3_latest_33 : decode cX3_latest 33 = .ok (.lconst 0, 1) := by decide +kernel
theorem dX3_latest_34 : decode cX3_latest 34 = .ok (.lcmp, 1) := by decide +kernel
theorem dX3_latest_35 : decode cX3_latest 35 = .ok (.ifCond .ne 6, 3) := by decide +kernel
theorem dX3_latest_38 : decode cX3_latest 38 = .ok (.iload 7, 2) := by decide +kernel
theorem dX3_latest_40 : decode cX3_latest 40 = .ok (.ireturn, 1) := by decide +kernel
theorem dX3_latest_41 : decode cX3_latest 41 = .ok (.iinc 7 (-1), 3) := by decide +kernel
theorem dX3_latest_44 : decode cX3_latest 44 = .ok (.goto (-35), 3) := by decide +kernel
theorem dX3_latest_47 : decode cX3_latest 47 = .ok (.iconst (-1), 1) := by decide +kernel
theorem dX3_latest_48 : decode cX3_latest 48 = .ok (.ireturn, 1) := by decide +kernel
theorem dX3_putByte_0 : decode cX3_putByte 0 = .ok (.aload_n 0, 1) := by decide +kernel
theorem dX3_putByte_1 : decode cX3_putByte 1 = .ok (.getfield 44, 3) := by decide +kernel
theorem dX3_putByte_4 : decode cX3_putByte 4 = .ok (.aload_n 0, 1) := by decide +kernel
theorem dX3_putByte_5 : decode cX3_putByte 5 = .ok (.getfield 23, 3) := by decide +kernel
theorem dX3_putByte_8 : decode cX3_putByte 8 = .ok (.arraylength, 1) := by decide +kernel
theorem dX3_putByte_9 : decode cX3_putByte 9 = .ok (.if_icmp .ge 24, 3) := by decide +kernel
theorem dX3_putByte_12 : decode cX3_putByte 12 = .ok (.aload_n 0, 1) := by decide +kernel
theorem dX3_putByte_13 : decode cX3_putByte 13 = .ok (.getfield 23, 3) := by decide +kernel
theorem dX3_putByte_16 : decode cX3_putByte 16 = .ok (.aload_n 0, 1) := by decide +kernel
theorem dX3_putByte_17 : decode cX3_putByte 17 = .ok (.getfield 44, 3) := by decide +kernel
theorem dX3_putByte_20 : decode cX3_putByte 20 = .ok (.iload_n 1, 1) := by decide +kernel
theorem dX3_putByte_21 : decode cX3_putByte 21 = .ok (.i2b, 1) := by decide +kernel
theorem dX3_putByte_22 : decode cX3_putByte 22 = .ok (.bastore, 1) := by decide +kernel
theorem dX3_putByte_23 : decode cX3_putByte 23 = .ok (.aload_n 0, 1) := by decide +kernel
theorem dX3_putByte_24 : decode cX3_putByte 24 = .ok (.dup, 1) := by decide +kernel
theorem dX3_putByte_25 : decode cX3_putByte 25 = .ok (.getfield 44, 3) := by decide +kernel
theorem dX3_putByte_28 : decode cX3_putByte 28 = .ok (.iconst 1, 1) := by decide +kernel
theorem dX3_putByte_29 : decode cX3_putByte 29 = .ok (.iadd, 1) := by decide +kernel
theorem dX3_putByte_30 : decode cX3_putByte 30 = .ok (.putfield 44, 3) := by decide +kernel
theorem dX3_putByte_33 : decode cX3_putByte 33 = .ok (.return_, 1) := by decide +kernel
theorem dX3_putBytes_0 : decode cX3_putBytes 0 = .ok (.iload_n 3, 1) := by decide +kernel
theorem dX3_putBytes_1 : decode cX3_putBytes 1 = .ok (.iconst 1, 1) := by decide +kernel
theorem dX3_putBytes_2 : decode cX3_putBytes 2 = .ok (.isub, 1) := by decide +kernel
theorem dX3_putBytes_3 : decode cX3_putBytes 3 = .ok (.istore 4, 2) := by decide +kernel
theorem dX3_putBytes_5 : decode cX3_putBytes 5 = .ok (.iload 4, 2) := by decide +kernel
theorem dX3_putBytes_7 : decode cX3_putBytes 7 = .ok (.ifCond .lt 21, 3) := by decide +kernel
theorem dX3_putBytes_10 : decode cX3_putBytes 10 = .ok (.aload_n 0, 1) := by decide +kernel
theorem dX3_putBytes_11 : decode cX3_putBytes 11 = .ok (.lload_n 1, 1) := by decide +kernel
theorem dX3_putBytes_12 : decode cX3_putBytes 12 = .ok (.bipush 8, 2) := by decide +kernel
theorem dX3_putBytes_14 : decode cX3_putBytes 14 = .ok (.iload 4, 2) := by decide +kernel
theorem dX3_putBytes_16 : decode cX3_putBytes 16 = .ok (.imul, 1) := by decide +kernel
theorem dX3_putBytes_17 : decode cX3_putBytes 17 = .ok (.lshr, 1) := by decide +kernel
theorem dX3_putBytes_18 : decode cX3_putBytes 18 = .ok (.l2i, 1) := by decide +kernel
theorem dX3_putBytes_19 : decode cX3_putBytes 19 = .ok (.invokevirtual 59, 3) := by decide +kernel
theorem dX3_putBytes_22 : decode cX3_putBytes 22 = .ok (.iinc 4 (-1), 3) := by decide +kernel
theorem dX3_putBytes_25 : decode cX3_putBytes 25 = .ok (.goto (-20), 3) := by decide +kernel
theorem dX3_putBytes_28 : decode cX3_putBytes 28 = .ok (.return_, 1) := by decide +kernel
theorem dX3_putVarint_0 : decode cX3_putVarint 0 = .ok (.lload_n 1, 1) := by decide +kernel
theorem dX3_putVarint_1 : decode cX3_putVarint 1 = .ok (.lstore_n 3, 1) := by decide +kernel
theorem dX3_putVarint_2 : decode cX3_putVarint 2 = .ok (.iconst 0, 1) := by decide +kernel
theorem dX3_putVarint_3 : decode cX3_putVarint 3 = .ok (.istore 5, 2) := by decide +kernel
theorem dX3_putVarint_5 : decode cX3_putVarint 5 = .ok (.iload 5, 2) := by decide +kernel
theorem dX3_putVarint_7 : decode cX3_putVarint 7 = .ok (.bipush 7, 2) := by decide +kernel
theorem dX3_putVarint_9 : decode cX3_putVarint 9 = .ok (.if_icmp .ge 36, 3) := by decide +kernel
theorem dX3_putVarint_12 : decode cX3_putVarint 12 = .ok (.lload_n 3, 1) := by decide +kernel
theorem dX3_putVarint_13 : decode cX3_putVarint 13 = .ok (.ldc2_w 84, 3) := by decide +kernel
theorem dX3_putVarint_16 : decode cX3_putVarint 16 = .ok (.lcmp, 1) := by decide +kernel
theorem dX3_putVarint_17 : decode cX3_putVarint 17 = .ok (.ifCond .le 28, 3) := by decide +kernel
theorem dX3_putVarint_20 : decode cX3_putVarint 20 = .ok (.aload_n 0, 1) := by decide +kernel
theorem dX3_putVarint_21 : decode cX3_putVarint 21 = .ok (.lload_n 3, 1) := by decide +kernel
theorem dX3_putVarint_22 : decode cX3_putVarint 22 = .ok (.ldc2_w 84, 3) := by decide +kernel
theorem dX3_putVarint_25 : decode cX3_putVarint 25 = .ok (.land, 1) := by decide +kernel
theorem dX3_putVarint_26 : decode cX3_putVarint 26 = .ok (.l2i, 1) := by decide +kernel
theorem dX3_putVarint_27 : decode cX3_putVarint 27 = .ok (.sipush 128, 3) := by decide +kernel
theorem dX3_putVarint_30 : decode cX3_putVarint 30 = .ok (.ior, 1) := by decide +kernel
theorem dX3_putVarint_31 : decode cX3_putVarint 31 = .ok (.invokevirtual 59, 3) := by decide +kernel
theorem dX3_putVarint_34 : decode cX3_putVarint 34 = .ok (.lload_n 3, 1) := by decide +kernel
theorem dX3_putVarint_35 : decode cX3_putVarint 35 = .ok (.bipush 7, 2) := by decide +kernel
theorem dX3_putVarint_37 : decode cX3_putVarint 37 = .ok (.lshr, 1) := by decide +kernel
theorem dX3_putVarint_38 : decode cX3_putVarint 38 = .ok (.lstore_n 3, 1) := by decide +kernel
theorem dX3_putVarint_39 : decode cX3_putVarint 39 = .ok (.iinc 5 1, 3) := by decide +kernel
theorem dX3_putVarint_42 : decode cX3_putVarint 42 = .ok (.goto (-37), 3) := by decide +kernel
theorem dX3_putVarint_45 : decode cX3_putVarint 45 = .ok (.aload_n 0, 1) := by decide +kernel
theorem dX3_putVarint_46 : decode cX3_putVarint 46 = .ok (.lload_n 3, 1) := by decide +kernel
theorem dX3_putVarint_47 : decode cX3_putVarint 47 = .ok (.l2i, 1) := by decide +kernel
theorem dX3_putVarint_48 : decode cX3_putVarint 48 = .ok (.invokevirtual 59, 3) := by decide +kernel
theorem dX3_putVarint_51 : decode cX3_putVarint 51 = .ok (.return_, 1) := by decide +kernel
theorem dX3_readLog_0 : decode cX3_readLog 0 = .ok (.aload_n 0, 1) := by decide +kernel
theorem dX3_readLog_1 : decode cX3_readLog 1 = .ok (.aload_n 1, 1) := by decide +kernel
theorem dX3_readLog_2 : decode cX3_readLog 2 = .ok (.putfield 23, 3) := by decide +kernel
theorem dX3_readLog_5 : decode cX3_readLog 5 = .ok (.aload_n 0, 1) := by decide +kernel
theorem dX3_readLog_6 : decode cX3_readLog 6 = .ok (.iload_n 2, 1) := by decide +kernel
theorem dX3_readLog_7 : decode cX3_readLog 7 = .ok (.aload_n 1, 1) := by decide +kernel
theorem dX3_readLog_8 : decode cX3_readLog 8 = .ok (.arraylength, 1) := by decide +kernel
theorem dX3_readLog_9 : decode cX3_readLog 9 = .ok (.invokestatic 86, 3) := by decide +kernel
theorem dX3_readLog_12 : decode cX3_readLog 12 = .ok (.putfield 92, 3) := by decide +kernel
theorem dX3_readLog_15 : decode cX3_readLog 15 = .ok (.aload_n 0, 1) := by decide +kernel
theorem dX3_readLog_16 : decode cX3_readLog 16 = .ok (.iconst 0, 1) := by decide +kernel
theorem dX3_readLog_17 : decode cX3_readLog 17 = .ok (.putfield 44, 3) := by decide +kernel
theorem dX3_readLog_20 : decode cX3_readLog 20 = .ok (.aload_n 0, 1) := by decide +kernel
theorem dX3_readLog_21 : decode cX3_readLog 21 = .ok (.iconst 0, 1) := by decide +kernel
theorem dX3_readLog_22 : decode cX3_readLog 22 = .ok (.putfield 95, 3) := by decide +kernel
theorem dX3_readLog_25 : decode cX3_readLog 25 = .ok (.aload_n 0, 1) := by decide +kernel
theorem dX3_readLog_26 : decode cX3_readLog 26 = .ok (.invokevirtual 98, 3) := by decide +kernel
theorem dX3_readLog_29 : decode cX3_readLog 29 = .ok (.aload_n 0, 1) := by decide +kernel
theorem dX3_readLog_30 : decode cX3_readLog 30 = .ok (.invokevirtual 101, 3) := by decide +kernel
theorem dX3_readLog_33 : decode cX3_readLog 33 = .ok (.lstore_n 3, 1) := by decide +kernel
theorem dX3_readLog_34 : decode cX3_readLog 34 = .ok (.lload_n 3, 1) := by decide +kernel
theorem dX3_readLog_35 : decode cX3_readLog 35 = .ok (.ldc2_w 105, 3) := by decide +kernel
theorem dX3_readLog_38 : decode cX3_readLog 38 = .ok (.lcmp, 1) := by decide +kernel
theorem dX3_readLog_39 : decode cX3_readLog 39 = .ok (.ifCond .le 10, 3) := by decide +kernel
theorem dX3_readLog_42 : decode cX3_readLog 42 = .ok (.aload_n 0, 1) := by decide +kernel
theorem dX3_readLog_43 : decode cX3_readLog 43 = .ok (.bipush 6, 2) := by decide +kernel
theorem dX3_readLog_45 : decode cX3_readLog 45 = .ok (.iconst 0, 1) := by decide +kernel
theorem dX3_readLog_46 : decode cX3_readLog 46 = .ok (.invokevirtual 107, 3) := by decide +kernel
theorem dX3_readLog_49 : decode cX3_readLog 49 = .ok (.sipush 2048, 3) := by decide +kernel
theorem dX3_readLog_52 : decode cX3_readLog 52 = .ok (.istore 5, 2) := by decide +kernel
theorem dX3_readLog_54 : decode cX3_readLog 54 = .ok (.iload 5, 2) := by decide +kernel
theorem dX3_readLog_56 : decode cX3_readLog 56 = .ok (.ifCond .le 31, 3) := by decide +kernel
theorem dX3_readLog_59 : decode cX3_readLog 59 = .ok (.aload_n 0, 1) := by decide +kernel
theorem dX3_readLog_60 : decode cX3_readLog 60 = .ok (.getfield 95, 3) := by decide +kernel
theorem dX3_readLog_63 : decode cX3_readLog 63 = .ok (.ifCond .ne 24, 3) := by decide +kernel
theorem dX3_readLog_66 : decode cX3_readLog 66 = .ok (.aload_n 0, 1) := by decide +kernel
theorem dX3_readLog_67 : decode cX3_readLog 67 = .ok (.getfield 39, 3) := by decide +kernel
theorem dX3_readLog_70 : decode cX3_readLog 70 = .ok (.i2l, 1) := by decide +kernel
theorem dX3_readLog_71 : decode cX3_readLog 71 = .ok (.lload_n 3, 1) := by decide +kernel
theorem dX3_readLog_72 : decode cX3_readLog 72 = .ok (.lcmp, 1) := by decide +kernel
theorem dX3_readLog_73 : decode cX3_readLog 73 = .ok (.ifCond .ge 14, 3) := by decide +kernel
theorem dX3_readLog_76 : decode cX3_readLog 76 = .ok (.aload_n 0, 1) := by decide +kernel
theorem dX3_readLog_77 : decode cX3_readLog 77 = .ok (.lload_n 3, 1) := by decide +kernel
theorem dX3_readLog_78 : decode cX3_readLog 78 = .ok (.invokevirtual 111, 3) := by decide +kernel
theorem dX3_readLog_81 : decode cX3_readLog 81 = .ok (.iinc 5 (-1), 3) := by decide +kernel
theorem dX3_readLog_84 : decode cX3_readLog 84 = .ok (.goto (-30), 3) := by decide +kernel
theorem dX3_readLog_87 : decode cX3_readLog 87 = .ok (.aload_n 0, 1) := by decide +kernel
theorem dX3_readLog_88 : decode cX3_readLog 88 = .ok (.getfield 44, 3) := by decide +kernel
theorem dX3_readLog_91 : decode cX3_readLog 91 = .ok (.aload_n 0, 1) := by decide +kernel
theorem dX3_readLog_92 : decode cX3_readLog 92 = .ok (.getfield 92, 3) := by decide +kernel
theorem dX3_readLog_95 : decode cX3_readLog 95 = .ok (.if_icmp .ge 13, 3) := by decide +kernel
theorem dX3_readLog_98 : decode cX3_readLog 98 = .ok (.aload_n 0, 1) := by decide +kernel
theorem dX3_readLog_99 : decode cX3_readLog 99 = .ok (.bipush 7, 2) := by decide +kernel
theorem dX3_readLog_101 : decode cX3_readLog 101 = .ok (.aload_n 0, 1) := by decide +kernel
theorem dX3_readLog_102 : decode cX3_readLog 102 = .ok (.getfield 44, 3) := by decide +kernel
theorem dX3_readLog_105 : decode cX3_readLog 105 = .ok (.invokevirtual 107, 3) := by decide +kernel
theorem dX3_readLog_108 : decode cX3_readLog 108 = .ok (.aload_n 0, 1) := by decide +kernel
theorem dX3_readLog_109 : decode cX3_readLog 109 = .ok (.getfield 95, 3) := by decide +kernel
theorem dX3_readLog_112 : decode cX3_readLog 112 = .ok (.ifCond .ne 10, 3) := by decide +kernel
theorem dX3_readLog_115 : decode cX3_readLog 115 = .ok (.aload_n 0, 1) := by decide +kernel
theorem dX3_readLog_116 : decode cX3_readLog 116 = .ok (.getfield 39, 3) := by decide +kernel
theorem dX3_readLog_119 : decode cX3_readLog 119 = .ok (.goto 17, 3) := by decide +kernel
theorem dX3_readLog_122 : decode cX3_readLog 122 = .ok (.iconst (-1), 1) := by decide +kernel
theorem dX3_readLog_123 : decode cX3_readLog 123 = .ok (.aload_n 0, 1) := by decide +kernel
theorem dX3_readLog_124 : decode cX3_readLog 124 = .ok (.getfield 95, 3) := by decide +kernel
theorem dX3_readLog_127 : decode cX3_readLog 127 = .ok (.bipush 8, 2) := by decide +kernel
theorem dX3_readLog_129 : decode cX3_readLog 129 = .ok (.aload_n 0, 1) := by decide +kernel
theorem dX3_readLog_130 : decode cX3_readLog 130 = .ok (.getfield 114, 3) := by decide +kernel
theorem dX3_readLog_133 : decode cX3_readLog 133 = .ok (.imul, 1) := by decide +kernel
theorem dX3_readLog_134 : decode cX3_readLog 134 = .ok (.iadd, 1) := by decide +kernel
theorem dX3_readLog_135 : decode cX3_readLog 135 = .ok (.isub, 1) := by decide +kernel
theorem dX3_readLog_136 : decode cX3_readLog 136 = .ok (.ireturn, 1) := by decide +kernel
theorem dX3_blame_0 : decode cX3_blame 0 = .ok (.aload_n 0, 1) := by decide +kernel
theorem dX3_blame_1 : decode cX3_blame 1 = .ok (.getfield 95, 3) := by decide +kernel
theorem dX3_blame_4 : decode cX3_blame 4 = .ok (.ifCond .ne 13, 3) := by decide +kernel
theorem dX3_blame_7 : decode cX3_blame 7 = .ok (.aload_n 0, 1) := by decide +kernel
theorem dX3_blame_8 : decode cX3_blame 8 = .ok (.iload_n 1, 1) := by decide +kernel
theorem dX3_blame_9 : decode cX3_blame 9 = .ok (.putfield 95, 3) := by decide +kernel
theorem dX3_blame_12 : decode cX3_blame 12 = .ok (.aload_n 0, 1) := by decide +kernel
theorem dX3_blame_13 : decode cX3_blame 13 = .ok (.iload_n 2, 1) := by decide +kernel
theorem dX3_blame_14 : decode cX3_blame 14 = .ok (.putfield 114, 3) := by decide +kernel
theorem dX3_blame_17 : decode cX3_blame 17 = .ok (.return_, 1) := by decide +kernel
theorem dX3_readByte_0 : decode cX3_readByte 0 = .ok (.aload_n 0, 1) := by decide +kernel
theorem dX3_readByte_1 : decode cX3_readByte 1 = .ok (.getfield 44, 3) := by decide +kernel
theorem dX3_readByte_4 : decode cX3_readByte 4 = .ok (.aload_n 0, 1) := by decide +kernel
theorem dX3_readByte_5 : decode cX3_readByte 5 = .ok (.getfield 92, 3) := by decide +kernel
theorem dX3_readByte_8 : decode cX3_readByte 8 = .ok (.if_icmp .lt 14, 3) := by decide +kernel
theorem dX3_readByte_11 : decode cX3_readByte 11 = .ok (.aload_n 0, 1) := by decide +kernel
theorem dX3_readByte_12 : decode cX3_readByte 12 = .ok (.iconst 2, 1) := by decide +kernel
theorem dX3_readByte_13 : decode cX3_readByte 13 = .ok (.aload_n 0, 1) := by decide +kernel
theorem dX3_readByte_14 : decode cX3_readByte 14 = .ok (.getfield 92, 3) := by decide +kernel
theorem dX3_readByte_17 : decode cX3_readByte 17 = .ok (.invokevirtual 107, 3) := by decide +kernel
theorem dX3_readByte_20 : decode cX3_readByte 20 = .ok (.iconst 0, 1) := by decide +kernel
theorem dX3_readByte_21 : decode cX3_readByte 21 = .ok (.ireturn, 1) := by decide +kernel
theorem dX3_readByte_22 : decode cX3_readByte 22 = .ok (.aload_n 0, 1) := by decide +kernel
theorem dX3_readByte_23 : decode cX3_readByte 23 = .ok (.dup, 1) := by decide +kernel
theorem dX3_readByte_24 : decode cX3_readByte 24 = .ok (.getfield 44, 3) := by decide +kernel
theorem dX3_readByte_27 : decode cX3_readByte 27 = .ok (.iconst 1, 1) := by decide +kernel
theorem dX3_readByte_28 : decode cX3_readByte 28 = .ok (.iadd, 1) := by decide +kernel
theorem dX3_readByte_29 : decode cX3_readByte 29 = .ok (.putfield 44, 3) := by decide +kernel
theorem dX3_readByte_32 : decode cX3_readByte 32 = .ok (.aload_n 0, 1) := by decide +kernel
theorem dX3_readByte_33 : decode cX3_readByte 33 = .ok (.getfield 23, 3) := by decide +kernel
theorem dX3_readByte_36 : decode cX3_readByte 36 = .ok (.aload_n 0, 1) := by decide +kernel
theorem dX3_readByte_37 : decode cX3_readByte 37 = .ok (.getfield 44, 3) := by decide +kernel
theorem dX3_readByte_40 : decode cX3_readByte 40 = .ok (.iconst 1, 1) := by decide +kernel
theorem dX3_readByte_41 : decode cX3_readByte 41 = .ok (.isub, 1) := by decide +kernel
theorem dX3_readByte_42 : decode cX3_readByte 42 = .ok (.baload, 1) := by decide +kernel
theorem dX3_readByte_43 : decode cX3_readByte 43 = .ok (.sipush 255, 3) := by decide +kernel
theorem dX3_readByte_46 : decode cX3_readByte 46 = .ok (.iand, 1) := by decide +kernel
theorem dX3_readByte_47 : decode cX3_readByte 47 = .ok (.ireturn, 1) := by decide +kernel
theorem dX3_readVarint_0 : decode cX3_readVarint 0 = .ok (.lconst 0, 1) := by decide +kernel
theorem dX3_readVarint_1 : decode cX3_readVarint 1 = .ok (.lstore_n 1, 1) := by decide +kernel
theorem dX3_readVarint_2 : decode cX3_readVarint 2 = .ok (.iconst 0, 1) := by decide +kernel
theorem dX3_readVarint_3 : decode cX3_readVarint 3 = .ok (.istore_n 3, 1) := by decide +kernel
theorem dX3_readVarint_4 : decode cX3_readVarint 4 = .ok (.iload_n 3, 1) := by decide +kernel
theorem dX3_readVarint_5 : decode cX3_readVarint 5 = .ok (.bipush 7, 2) := by decide +kernel
theorem dX3_readVarint_7 : decode cX3_readVarint 7 = .ok (.if_icmp .ge 74, 3) := by decide +kernel
theorem dX3_readVarint_10 : decode cX3_readVarint 10 = .ok (.aload_n 0, 1) := by decide +kernel
theorem dX3_readVarint_11 : decode cX3_readVarint 11 = .ok (.getfield 95, 3) := by decide +kernel
theorem dX3_readVarint_14 : decode cX3_readVarint 14 = .ok (.ifCond .ne 67, 3) := by decide +kernel
theorem dX3_readVarint_17 : decode cX3_readVarint 17 = .ok (.aload_n 0, 1) := by decide +kernel
theorem dX3_readVarint_18 : decode cX3_readVarint 18 = .ok (.invokevirtual 117, 3) := by decide +kernel
theorem dX3_readVarint_21 : decode cX3_readVarint 21 = .ok (.istore 4, 2) := by decide +kernel
theorem dX3_readVarint_23 : decode cX3_readVarint 23 = .ok (.lload_n 1, 1) := by decide +kernel
theorem dX3_readVarint_24 : decode cX3_readVarint 24 = .ok (.iload 4, 2) := by decide +kernel
theorem dX3_readVarint_26 : decode cX3_readVarint 26 = .ok (.bipush 127, 2) := by decide +kernel
theorem dX3_readVarint_28 : decode cX3_readVarint 28 = .ok (.iand, 1) := by decide +kernel
theorem dX3_readVarint_29 : decode cX3_readVarint 29 = .ok (.i2l, 1) := by decide +kernel
theorem dX3_readVarint_30 : decode cX3_readVarint 30 = .ok (.bipush 7, 2) := by decide +kernel
theorem dX3_readVarint_32 : decode cX3_readVarint 32 = .ok (.iload_n 3, 1) := by decide +kernel
theorem dX3_readVarint_33 : decode cX3_readVarint 33 = .ok (.imul, 1) := by decide +kernel
theorem dX3_readVarint_34 : decode cX3_readVarint 34 = .ok (.lshl, 1) := by decide +kernel
theorem dX3_readVarint_35 : decode cX3_readVarint 35 = .ok (.lor, 1) := by decide +kernel
theorem dX3_readVarint_36 : decode cX3_readVarint 36 = .ok (.lstore_n 1, 1) := by decide +kernel
theorem dX3_readVarint_37 : decode cX3_readVarint 37 = .ok (.iload 4, 2) := by decide +kernel
theorem dX3_readVarint_39 : decode cX3_readVarint 39 = .ok (.sipush 128, 3) := by decide +kernel
theorem dX3_readVarint_42 : decode cX3_readVarint 42 = .ok (.if_icmp .ge 33, 3) := by decide +kernel
theorem dX3_readVarint_45 : decode cX3_readVarint 45 = .ok (.iload_n 3, 1) := by decide +kernel
theorem dX3_readVarint_46 : decode cX3_readVarint 46 = .ok (.ifCond .le 8, 3) := by decide +kernel
theorem dX3_readVarint_49 : decode cX3_readVarint 49 = .ok (.iload 4, 2) := by decide +kernel
theorem dX3_readVarint_51 : decode cX3_readVarint 51 = .ok (.ifCond .eq 11, 3) := by decide +kernel
theorem dX3_readVarint_54 : decode cX3_readVarint 54 = .ok (.lload_n 1, 1) := by decide +kernel
theorem dX3_readVarint_55 : decode cX3_readVarint 55 = .ok (.ldc2_w 31, 3) := by decide +kernel
theorem dX3_readVarint_58 : decode cX3_readVarint 58 = .ok (.lcmp, 1) := by decide +kernel
theorem dX3_readVarint_59 : decode cX3_readVarint 59 = .ok (.ifCond .le 14, 3) := by decide +kernel
theorem dX3_readVarint_62 : decode cX3_readVarint 62 = .ok (.aload_n 0, 1) := by decide +kernel
theorem dX3_readVarint_63 : decode cX3_readVarint 63 = .ok (.iconst 3, 1) := by decide +kernel
theorem dX3_readVarint_64 : decode cX3_readVarint 64 = .ok (.aload_n 0, 1) := by decide +kernel
theorem dX3_readVarint_65 : decode cX3_readVarint 65 = .ok (.getfield 44, 3) := by decide +kernel
theorem dX3_readVarint_68 : decode cX3_readVarint 68 = .ok (.iconst 1, 1) := by decide +kernel
theorem dX3_readVarint_69 : decode cX3_readVarint 69 = .ok (.isub, 1) := by decide +kernel
theorem dX3_readVarint_70 : decode cX3_readVarint 70 = .ok (.invokevirtual 107, 3) := by decide +kernel
theorem dX3_readVarint_73 : decode cX3_readVarint 73 = .ok (.lload_n 1, 1) := by decide +kernel
theorem dX3_readVarint_74 : decode cX3_readVarint 74 = .ok (.lreturn, 1) := by decide +kernel
theorem dX3_readVarint_75 : decode cX3_readVarint 75 = .ok (.iinc 3 1, 3) := by decide +kernel
theorem dX3_readVarint_78 : decode cX3_readVarint 78 = .ok (.goto (-74), 3) := by decide +kernel
theorem dX3_readVarint_81 : decode cX3_readVarint 81 = .ok (.aload_n 0, 1) := by decide +kernel
theorem dX3_readVarint_82 : decode cX3_readVarint 82 = .ok (.iconst 3, 1) := by decide +kernel
theorem dX3_readVarint_83 : decode cX3_readVarint 83 = .ok (.aload_n 0, 1) := by decide +kernel
theorem dX3_readVarint_84 : decode cX3_readVarint 84 = .ok (.getfield 44, 3) := by decide +kernel
theorem dX3_readVarint_87 : decode cX3_readVarint 87 = .ok (.iconst 1, 1) := by decide +kernel
theorem dX3_readVarint_88 : decode cX3_readVarint 88 = .ok (.isub, 1) := by decide +kernel
theorem dX3_readVarint_89 : decode cX3_readVarint 89 = .ok (.invokevirtual 107, 3) := by decide +kernel
theorem dX3_readVarint_92 : decode cX3_readVarint 92 = .ok (.lconst 0, 1) := by decide +kernel
theorem dX3_readVarint_93 : decode cX3_readVarint 93 = .ok (.lreturn, 1) := by decide +kernel
theorem dX3_isHead_0 : decode cX3_isHead 0 = .ok (.iload_n 0, 1) := by decide +kernel
theorem dX3_isHead_1 : decode cX3_isHead 1 = .ok (.tableswitch 84 0 5 #[39, 41, 39, 53, 64, 74], 39) := by decide +kernel
theorem dX3_isHead_40 : decode cX3_isHead 40 = .ok (.iconst 1, 1) := by decide +kernel
theorem dX3_isHead_41 : decode cX3_isHead 41 = .ok (.ireturn, 1) := by decide +kernel
theorem dX3_isHead_42 : decode cX3_isHead 42 = .ok (.iload_n 1, 1) := by decide +kernel
theorem dX3_isHead_43 : decode cX3_isHead 43 = .ok (.bipush 8, 2) := by decide +kernel
theorem dX3_isHead_45 : decode cX3_isHead 45 = .ok (.if_icmp .gt 7, 3) := by decide +kernel
theorem dX3_isHead_48 : decode cX3_isHead 48 = .ok (.iconst 1, 1) := by decide +kernel
theorem dX3_isHead_49 : decode cX3_isHead 49 = .ok (.goto 4, 3) := by decide +kernel
theorem dX3_isHead_52 : decode cX3_isHead 52 = .ok (.iconst 0, 1) := by decide +kernel
theorem dX3_isHead_53 : decode cX3_isHead 53 = .ok (.ireturn, 1) := by decide +kernel
theorem dX3_isHead_54 : decode cX3_isHead 54 = .ok (.iload_n 1, 1) := by decide +kernel
theorem dX3_isHead_55 : decode cX3_isHead 55 = .ok (.iconst 1, 1) := by decide +kernel
theorem dX3_isHead_56 : decode cX3_isHead 56 = .ok (.if_icmp .gt 7, 3) := by decide +kernel
theorem dX3_isHead_59 : decode cX3_isHead 59 = .ok (.iconst 1, 1) := by decide +kernel
theorem dX3_isHead_60 : decode cX3_isHead 60 = .ok (.goto 4, 3) := by decide +kernel
theorem dX3_isHead_63 : decode cX3_isHead 63 = .ok (.iconst 0, 1) := by decide +kernel
theorem dX3_isHead_64 : decode cX3_isHead 64 = .ok (.ireturn, 1) := by decide +kernel
theorem dX3_isHead_65 : decode cX3_isHead 65 = .ok (.iload_n 1, 1) := by decide +kernel
theorem dX3_isHead_66 : decode cX3_isHead 66 = .ok (.ifCond .ne 7, 3) := by decide +kernel
theorem dX3_isHead_69 : decode cX3_isHead 69 = .ok (.iconst 1, 1) := by decide +kernel
theorem dX3_isHead_70 : decode cX3_isHead 70 = .ok (.goto 4, 3) := by decide +kernel
theorem dX3_isHead_73 : decode cX3_isHead 73 = .ok (.iconst 0, 1) := by decide +kernel
theorem dX3_isHead_74 : decode cX3_isHead 74 = .ok (.ireturn, 1) := by decide +kernel
theorem dX3_isHead_75 : decode cX3_isHead 75 = .ok (.iload_n 2, 1) := by decide +kernel
theorem dX3_isHead_76 : decode cX3_isHead 76 = .ok (.ifCond .ne 7, 3) := by decide +kernel
theorem dX3_isHead_79 : decode cX3_isHead 79 = .ok (.iconst 1, 1) := by decide +kernel
theorem dX3_isHead_80 : decode cX3_isHead 80 = .ok (.goto 4, 3) := by decide +kernel
theorem dX3_isHead_83 : decode cX3_isHead 83 = .ok (.iconst 0, 1) := by decide +kernel
theorem dX3_isHead_84 : decode cX3_isHead 84 = .ok (.ireturn, 1) := by decide +kernel
theorem dX3_isHead_85 : decode cX3_isHead 85 = .ok (.iconst 0, 1) := by decide +kernel
theorem dX3_isHead_86 : decode cX3_isHead 86 = .ok (.ireturn, 1) := by decide +kernel
theorem dX3_readEntry_0 : decode cX3_readEntry 0 = .ok (.aload_n 0, 1) := by decide +kernel
theorem dX3_readEntry_1 : decode cX3_readEntry 1 = .ok (.getfield 44, 3) := by decide +kernel
theorem dX3_readEntry_4 : decode cX3_readEntry 4 = .ok (.istore_n 3, 1) := by decide +kernel
theorem dX3_readEntry_5 : decode cX3_readEntry 5 = .ok (.aload_n 0, 1) := by decide +kernel
theorem dX3_readEntry_6 : decode cX3_readEntry 6 = .ok (.invokevirtual 117, 3) := by decide +kernel
theorem dX3_readEntry_9 : decode cX3_readEntry 9 = .ok (.istore 4, 2) := by decide +kernel
theorem dX3_readEntry_11 : decode cX3_readEntry 11 = .ok (.iload 4, 2) := by decide +kernel
theorem dX3_readEntry_13 : decode cX3_readEntry 13 = .ok (.bipush 7, 2) := by decide +kernel
theorem dX3_readEntry_15 : decode cX3_readEntry 15 = .ok (.iand, 1) := by decide +kernel
theorem dX3_readEntry_16 : decode cX3_readEntry 16 = .ok (.istore 5, 2) := by decide +kernel
theorem dX3_readEntry_18 : decode cX3_readEntry 18 = .ok (.iload 4, 2) := by decide +kernel
theorem dX3_readEntry_20 : decode cX3_readEntry 20 = .ok (.iconst 4, 1) := by decide +kernel
theorem dX3_readEntry_21 : decode cX3_readEntry 21 = .ok (.ishr, 1) := by decide +kernel
theorem dX3_readEntry_22 : decode cX3_readEntry 22 = .ok (.istore 6, 2) := by decide +kernel
theorem dX3_readEntry_24 : decode cX3_readEntry 24 = .ok (.iload 4, 2) := by decide +kernel
theorem dX3_readEntry_26 : decode cX3_readEntry 26 = .ok (.bipush 8, 2) := by decide +kernel
theorem dX3_readEntry_28 : decode cX3_readEntry 28 = .ok (.iand, 1) := by decide +kernel
theorem dX3_readEntry_29 : decode cX3_readEntry 29 = .ok (.ifCond .eq 7, 3) := by decide +kernel
theorem dX3_readEntry_32 : decode cX3_readEntry 32 = .ok (.iconst 1, 1) := by decide +kernel
theorem dX3_readEntry_33 : decode cX3_readEntry 33 = .ok (.goto 4, 3) := by decide +kernel
