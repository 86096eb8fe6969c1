theorem dX3_isEvent_0 : decode cX3_isEvent 0 = .ok (.iload_n 0, 1) := by decide +kernel
theorem dX3_isEvent_1 : decode cX3_isEvent 1 = .ok (.tableswitch 119 0 3 #[31, 51, 68, 99], 31) := by decide +kernel
theorem dX3_isEvent_32 : decode cX3_isEvent 32 = .ok (.lload_n 1, 1) := by decide +kernel
theorem dX3_isEvent_33 : decode cX3_isEvent 33 = .ok (.lconst 0, 1) := by decide +kernel
theorem dX3_isEvent_34 : decode cX3_isEvent 34 = .ok (.lcmp, 1) := by decide +kernel
theorem dX3_isEvent_35 : decode cX3_isEvent 35 = .ok (.ifCond .lt 15, 3) := by decide +kernel
theorem dX3_isEvent_38 : decode cX3_isEvent 38 = .ok (.lload_n 1, 1) := by decide +kernel
theorem dX3_isEvent_39 : decode cX3_isEvent 39 = .ok (.ldc2_w 29, 3) := by decide +kernel
theorem dX3_isEvent_42 : decode cX3_isEvent 42 = .ok (.lcmp, 1) := by decide +kernel
theorem dX3_isEvent_43 : decode cX3_isEvent 43 = .ok (.ifCond .ge 7, 3) := by decide +kernel
theorem dX3_isEvent_46 : decode cX3_isEvent 46 = .ok (.iconst 1, 1) := by decide +kernel
theorem dX3_isEvent_47 : decode cX3_isEvent 47 = .ok (.goto 4, 3) := by decide +kernel
theorem dX3_isEvent_50 : decode cX3_isEvent 50 = .ok (.iconst 0, 1) := by decide +kernel
theorem dX3_isEvent_51 : decode cX3_isEvent 51 = .ok (.ireturn, 1) := by decide +kernel
theorem dX3_isEvent_52 : decode cX3_isEvent 52 = .ok (.iload_n 3, 1) := by decide +kernel
theorem dX3_isEvent_53 : decode cX3_isEvent 53 = .ok (.iconst 1, 1) := by decide +kernel
theorem dX3_isEvent_54 : decode cX3_isEvent 54 = .ok (.if_icmp .lt 13, 3) := by decide +kernel
theorem dX3_isEvent_57 : decode cX3_isEvent 57 = .ok (.iload_n 3, 1) := by decide +kernel
theorem dX3_isEvent_58 : decode cX3_isEvent 58 = .ok (.bipush 8, 2) := by decide +kernel
theorem dX3_isEvent_60 : decode cX3_isEvent 60 = .ok (.if_icmp .gt 7, 3) := by decide +kernel
theorem dX3_isEvent_63 : decode cX3_isEvent 63 = .ok (.iconst 1, 1) := by decide +kernel
theorem dX3_isEvent_64 : decode cX3_isEvent 64 = .ok (.goto 4, 3) := by decide +kernel
theorem dX3_isEvent_67 : decode cX3_isEvent 67 = .ok (.iconst 0, 1) := by decide +kernel
theorem dX3_isEvent_68 : decode cX3_isEvent 68 = .ok (.ireturn, 1) := by decide +kernel
theorem dX3_isEvent_69 : decode cX3_isEvent 69 = .ok (.lload_n 1, 1) := by decide +kernel
theorem dX3_isEvent_70 : decode cX3_isEvent 70 = .ok (.lconst 0, 1) := by decide +kernel
theorem dX3_isEvent_71 : decode cX3_isEvent 71 = .ok (.lcmp, 1) := by decide +kernel
theorem dX3_isEvent_72 : decode cX3_isEvent 72 = .ok (.ifCond .lt 26, 3) := by decide +kernel
theorem dX3_isEvent_75 : decode cX3_isEvent 75 = .ok (.lload_n 1, 1) := by decide +kernel
theorem dX3_isEvent_76 : decode cX3_isEvent 76 = .ok (.ldc2_w 29, 3) := by decide +kernel
theorem dX3_isEvent_79 : decode cX3_isEvent 79 = .ok (.lcmp, 1) := by decide +kernel
theorem dX3_isEvent_80 : decode cX3_isEvent 80 = .ok (.ifCond .ge 18, 3) := by decide +kernel
theorem dX3_isEvent_83 : decode cX3_isEvent 83 = .ok (.iload_n 3, 1) := by decide +kernel
theorem dX3_isEvent_84 : decode cX3_isEvent 84 = .ok (.iconst 1, 1) := by decide +kernel
theorem dX3_isEvent_85 : decode cX3_isEvent 85 = .ok (.if_icmp .lt 13, 3) := by decide +kernel
theorem dX3_isEvent_88 : decode cX3_isEvent 88 = .ok (.iload_n 3, 1) := by decide +kernel
theorem dX3_isEvent_89 : decode cX3_isEvent 89 = .ok (.bipush 31, 2) := by decide +kernel
theorem dX3_isEvent_91 : decode cX3_isEvent 91 = .ok (.if_icmp .gt 7, 3) := by decide +kernel
theorem dX3_isEvent_94 : decode cX3_isEvent 94 = .ok (.iconst 1, 1) := by decide +kernel
theorem dX3_isEvent_95 : decode cX3_isEvent 95 = .ok (.goto 4, 3) := by decide +kernel
theorem dX3_isEvent_98 : decode cX3_isEvent 98 = .ok (.iconst 0, 1) := by decide +kernel
theorem dX3_isEvent_99 : decode cX3_isEvent 99 = .ok (.ireturn, 1) := by decide +kernel
theorem dX3_isEvent_100 : decode cX3_isEvent 100 = .ok (.lload_n 1, 1) := by decide +kernel
theorem dX3_isEvent_101 : decode cX3_isEvent 101 = .ok (.lconst 0, 1) := by decide +kernel
theorem dX3_isEvent_102 : decode cX3_isEvent 102 = .ok (.lcmp, 1) := by decide +kernel
theorem dX3_isEvent_103 : decode cX3_isEvent 103 = .ok (.ifCond .lt 15, 3) := by decide +kernel
theorem dX3_isEvent_106 : decode cX3_isEvent 106 = .ok (.lload_n 1, 1) := by decide +kernel
theorem dX3_isEvent_107 : decode cX3_isEvent 107 = .ok (.ldc2_w 31, 3) := by decide +kernel
theorem dX3_isEvent_110 : decode cX3_isEvent 110 = .ok (.lcmp, 1) := by decide +kernel
theorem dX3_isEvent_111 : decode cX3_isEvent 111 = .ok (.ifCond .gt 7, 3) := by decide +kernel
theorem dX3_isEvent_114 : decode cX3_isEvent 114 = .ok (.iconst 1, 1) := by decide +kernel
theorem dX3_isEvent_115 : decode cX3_isEvent 115 = .ok (.goto 4, 3) := by decide +kernel
theorem dX3_isEvent_118 : decode cX3_isEvent 118 = .ok (.iconst 0, 1) := by decide +kernel
theorem dX3_isEvent_119 : decode cX3_isEvent 119 = .ok (.ireturn, 1) := by decide +kernel
theorem dX3_isEvent_120 : decode cX3_isEvent 120 = .ok (.iload_n 0, 1) := by decide +kernel
theorem dX3_isEvent_121 : decode cX3_isEvent 121 = .ok (.iconst 4, 1) := by decide +kernel
theorem dX3_isEvent_122 : decode cX3_isEvent 122 = .ok (.if_icmp .ne 7, 3) := by decide +kernel
theorem dX3_isEvent_125 : decode cX3_isEvent 125 = .ok (.iconst 1, 1) := by decide +kernel
theorem dX3_isEvent_126 : decode cX3_isEvent 126 = .ok (.goto 4, 3) := by decide +kernel
theorem dX3_isEvent_129 : decode cX3_isEvent 129 = .ok (.iconst 0, 1) := by decide +kernel
theorem dX3_isEvent_130 : decode cX3_isEvent 130 = .ok (.ireturn, 1) := by decide +kernel
theorem dX3_first_0 : decode cX3_first 0 = .ok (.iload_n 0, 1) := by decide +kernel
theorem dX3_first_1 : decode cX3_first 1 = .ok (.iconst 1, 1) := by decide +kernel
theorem dX3_first_2 : decode cX3_first 2 = .ok (.if_icmp .ne 20, 3) := by decide +kernel
theorem dX3_first_5 : decode cX3_first 5 = .ok (.iload_n 3, 1) := by decide +kernel
theorem dX3_first_6 : decode cX3_first 6 = .ok (.bipush 8, 2) := by decide +kernel
theorem dX3_first_8 : decode cX3_first 8 = .ok (.if_icmp .ge 14, 3) := by decide +kernel
theorem dX3_first_11 : decode cX3_first 11 = .ok (.lload_n 1, 1) := by decide +kernel
theorem dX3_first_12 : decode cX3_first 12 = .ok (.lconst 1, 1) := by decide +kernel
theorem dX3_first_13 : decode cX3_first 13 = .ok (.bipush 8, 2) := by decide +kernel
theorem dX3_first_15 : decode cX3_first 15 = .ok (.iload_n 3, 1) := by decide +kernel
theorem dX3_first_16 : decode cX3_first 16 = .ok (.imul, 1) := by decide +kernel
theorem dX3_first_17 : decode cX3_first 17 = .ok (.lshl, 1) := by decide +kernel
theorem dX3_first_18 : decode cX3_first 18 = .ok (.lconst 1, 1) := by decide +kernel
theorem dX3_first_19 : decode cX3_first 19 = .ok (.lsub, 1) := by decide +kernel
theorem dX3_first_20 : decode cX3_first 20 = .ok (.land, 1) := by decide +kernel
theorem dX3_first_21 : decode cX3_first 21 = .ok (.lreturn, 1) := by decide +kernel
theorem dX3_first_22 : decode cX3_first 22 = .ok (.iload_n 0, 1) := by decide +kernel
theorem dX3_first_23 : decode cX3_first 23 = .ok (.iconst 4, 1) := by decide +kernel
theorem dX3_first_24 : decode cX3_first 24 = .ok (.if_icmp .ne 11, 3) := by decide +kernel
theorem dX3_first_27 : decode cX3_first 27 = .ok (.lload_n 1, 1) := by decide +kernel
theorem dX3_first_28 : decode cX3_first 28 = .ok (.ldc2_w 33, 3) := by decide +kernel
theorem dX3_first_31 : decode cX3_first 31 = .ok (.land, 1) := by decide +kernel
theorem dX3_first_32 : decode cX3_first 32 = .ok (.goto 4, 3) := by decide +kernel
theorem dX3_first_35 : decode cX3_first 35 = .ok (.lload_n 1, 1) := by decide +kernel
theorem dX3_first_36 : decode cX3_first 36 = .ok (.lreturn, 1) := by decide +kernel
theorem dX3_second_0 : decode cX3_second 0 = .ok (.iload_n 0, 1) := by decide +kernel
theorem dX3_second_1 : decode cX3_second 1 = .ok (.iconst 1, 1) := by decide +kernel
theorem dX3_second_2 : decode cX3_second 2 = .ok (.if_icmp .eq 8, 3) := by decide +kernel
theorem dX3_second_5 : decode cX3_second 5 = .ok (.iload_n 0, 1) := by decide +kernel
theorem dX3_second_6 : decode cX3_second 6 = .ok (.iconst 2, 1) := by decide +kernel
theorem dX3_second_7 : decode cX3_second 7 = .ok (.if_icmp .ne 7, 3) := by decide +kernel
theorem dX3_second_10 : decode cX3_second 10 = .ok (.iload_n 1, 1) := by decide +kernel
theorem dX3_second_11 : decode cX3_second 11 = .ok (.goto 4, 3) := by decide +kernel
theorem dX3_second_14 : decode cX3_second 14 = .ok (.iconst 0, 1) := by decide +kernel
theorem dX3_second_15 : decode cX3_second 15 = .ok (.ireturn, 1) := by decide +kernel
theorem dX3_clear_0 : decode cX3_clear 0 = .ok (.aload_n 0, 1) := by decide +kernel
theorem dX3_clear_1 : decode cX3_clear 1 = .ok (.iconst 0, 1) := by decide +kernel
theorem dX3_clear_2 : decode cX3_clear 2 = .ok (.putfield 35, 3) := by decide +kernel
theorem dX3_clear_5 : decode cX3_clear 5 = .ok (.aload_n 0, 1) := by decide +kernel
theorem dX3_clear_6 : decode cX3_clear 6 = .ok (.iconst 0, 1) := by decide +kernel
theorem dX3_clear_7 : decode cX3_clear 7 = .ok (.putfield 39, 3) := by decide +kernel
theorem dX3_clear_10 : decode cX3_clear 10 = .ok (.return_, 1) := by decide +kernel
theorem dX3_add_0 : decode cX3_add 0 = .ok (.aload_n 0, 1) := by decide +kernel
theorem dX3_add_1 : decode cX3_add 1 = .ok (.getfield 39, 3) := by decide +kernel
theorem dX3_add_4 : decode cX3_add 4 = .ok (.sipush 2048, 3) := by decide +kernel
theorem dX3_add_7 : decode cX3_add 7 = .ok (.if_icmp .lt 5, 3) := by decide +kernel
theorem dX3_add_10 : decode cX3_add 10 = .ok (.iconst 0, 1) := by decide +kernel
theorem dX3_add_11 : decode cX3_add 11 = .ok (.ireturn, 1) := by decide +kernel
theorem dX3_add_12 : decode cX3_add 12 = .ok (.aload_n 0, 1) := by decide +kernel
theorem dX3_add_13 : decode cX3_add 13 = .ok (.getfield 9, 3) := by decide +kernel
theorem dX3_add_16 : decode cX3_add 16 = .ok (.aload_n 0, 1) := by decide +kernel
theorem dX3_add_17 : decode cX3_add 17 = .ok (.getfield 39, 3) := by decide +kernel
theorem dX3_add_20 : decode cX3_add 20 = .ok (.iload_n 1, 1) := by decide +kernel
theorem dX3_add_21 : decode cX3_add 21 = .ok (.iastore, 1) := by decide +kernel
theorem dX3_add_22 : decode cX3_add 22 = .ok (.aload_n 0, 1) := by decide +kernel
theorem dX3_add_23 : decode cX3_add 23 = .ok (.getfield 13, 3) := by decide +kernel
theorem dX3_add_26 : decode cX3_add 26 = .ok (.aload_n 0, 1) := by decide +kernel
theorem dX3_add_27 : decode cX3_add 27 = .ok (.getfield 39, 3) := by decide +kernel
theorem dX3_add_30 : decode cX3_add 30 = .ok (.lload_n 2, 1) := by decide +kernel
theorem dX3_add_31 : decode cX3_add 31 = .ok (.lastore, 1) := by decide +kernel
theorem dX3_add_32 : decode cX3_add 32 = .ok (.aload_n 0, 1) := by decide +kernel
theorem dX3_add_33 : decode cX3_add 33 = .ok (.getfield 17, 3) := by decide +kernel
theorem dX3_add_36 : decode cX3_add 36 = .ok (.aload_n 0, 1) := by decide +kernel
theorem dX3_add_37 : decode cX3_add 37 = .ok (.getfield 39, 3) := by decide +kernel
theorem dX3_add_40 : decode cX3_add 40 = .ok (.lload 4, 2) := by decide +kernel
theorem dX3_add_42 : decode cX3_add 42 = .ok (.lastore, 1) := by decide +kernel
theorem dX3_add_43 : decode cX3_add 43 = .ok (.aload_n 0, 1) := by decide +kernel
theorem dX3_add_44 : decode cX3_add 44 = .ok (.getfield 20, 3) := by decide +kernel
theorem dX3_add_47 : decode cX3_add 47 = .ok (.aload_n 0, 1) := by decide +kernel
theorem dX3_add_48 : decode cX3_add 48 = .ok (.getfield 39, 3) := by decide +kernel
theorem dX3_add_51 : decode cX3_add 51 = .ok (.iload 6, 2) := by decide +kernel
theorem dX3_add_53 : decode cX3_add 53 = .ok (.iastore, 1) := by decide +kernel
theorem dX3_add_54 : decode cX3_add 54 = .ok (.aload_n 0, 1) := by decide +kernel
theorem dX3_add_55 : decode cX3_add 55 = .ok (.dup, 1) := by decide +kernel
theorem dX3_add_56 : decode cX3_add 56 = .ok (.getfield 39, 3) := by decide +kernel
theorem dX3_add_59 : decode cX3_add 59 = .ok (.iconst 1, 1) := by decide +kernel
theorem dX3_add_60 : decode cX3_add 60 = .ok (.iadd, 1) := by decide +kernel
theorem dX3_add_61 : decode cX3_add 61 = .ok (.putfield 39, 3) := by decide +kernel
theorem dX3_add_64 : decode cX3_add 64 = .ok (.iconst 1, 1) := by decide +kernel
theorem dX3_add_65 : decode cX3_add 65 = .ok (.ireturn, 1) := by decide +kernel
theorem dX3_isAt_0 : decode cX3_isAt 0 = .ok (.iload_n 1, 1) := by decide +kernel
theorem dX3_isAt_1 : decode cX3_isAt 1 = .ok (.ifCond .lt 27, 3) := by decide +kernel
theorem dX3_isAt_4 : decode cX3_isAt 4 = .ok (.iload_n 1, 1) := by decide +kernel
theorem dX3_isAt_5 : decode cX3_isAt 5 = .ok (.aload_n 0, 1) := by decide +kernel
theorem dX3_isAt_6 : decode cX3_isAt 6 = .ok (.getfield 39, 3) := by decide +kernel
theorem dX3_isAt_9 : decode cX3_isAt 9 = .ok (.if_icmp .ge 19, 3) := by decide +kernel
theorem dX3_isAt_12 : decode cX3_isAt 12 = .ok (.aload_n 0, 1) := by decide +kernel
theorem dX3_isAt_13 : decode cX3_isAt 13 = .ok (.getfield 13, 3) := by decide +kernel
theorem dX3_isAt_16 : decode cX3_isAt 16 = .ok (.iload_n 1, 1) := by decide +kernel
theorem dX3_isAt_17 : decode cX3_isAt 17 = .ok (.laload, 1) := by decide +kernel
theorem dX3_isAt_18 : decode cX3_isAt 18 = .ok (.iload_n 2, 1) := by decide +kernel
theorem dX3_isAt_19 : decode cX3_isAt 19 = .ok (.i2l, 1) := by decide +kernel
theorem dX3_isAt_20 : decode cX3_isAt 20 = .ok (.lcmp, 1) := by decide +kernel
theorem dX3_isAt_21 : decode cX3_isAt 21 = .ok (.ifCond .ne 7, 3) := by decide +kernel
theorem dX3_isAt_24 : decode cX3_isAt 24 = .ok (.iconst 1, 1) := by decide +kernel
theorem dX3_isAt_25 : decode cX3_isAt 25 = .ok (.goto 4, 3) := by decide +kernel
theorem dX3_isAt_28 : decode cX3_isAt 28 = .ok (.iconst 0, 1) := by decide +kernel
theorem dX3_isAt_29 : decode cX3_isAt 29 = .ok (.ireturn, 1) := by decide +kernel
theorem dX3_recordedBefore_0 : decode cX3_recordedBefore 0 = .ok (.iconst 0, 1) := by decide +kernel
theorem dX3_recordedBefore_1 : decode cX3_recordedBefore 1 = .ok (.istore_n 2, 1) := by decide +kernel
theorem dX3_recordedBefore_2 : decode cX3_recordedBefore 2 = .ok (.iload_n 2, 1) := by decide +kernel
theorem dX3_recordedBefore_3 : decode cX3_recordedBefore 3 = .ok (.aload_n 0, 1) := by decide +kernel
theorem dX3_recordedBefore_4 : decode cX3_recordedBefore 4 = .ok (.getfield 35, 3) := by decide +kernel
theorem dX3_recordedBefore_7 : decode cX3_recordedBefore 7 = .ok (.if_icmp .ge 21, 3) := by decide +kernel
theorem dX3_recordedBefore_10 : decode cX3_recordedBefore 10 = .ok (.aload_n 0, 1) := by decide +kernel
theorem dX3_recordedBefore_11 : decode cX3_recordedBefore 11 = .ok (.getfield 13, 3) := by decide +kernel
theorem dX3_recordedBefore_14 : decode cX3_recordedBefore 14 = .ok (.iload_n 2, 1) := by decide +kernel
theorem dX3_recordedBefore_15 : decode cX3_recordedBefore 15 = .ok (.laload, 1) := by decide +kernel
theorem dX3_recordedBefore_16 : decode cX3_recordedBefore 16 = .ok (.iload_n 1, 1) := by decide +kernel
theorem dX3_recordedBefore_17 : decode cX3_recordedBefore 17 = .ok (.i2l, 1) := by decide +kernel
theorem dX3_recordedBefore_18 : decode cX3_recordedBefore 18 = .ok (.lcmp, 1) := by decide +kernel
theorem dX3_recordedBefore_19 : decode cX3_recordedBefore 19 = .ok (.ifCond .ge 9, 3) := by decide +kernel
theorem dX3_recordedBefore_22 : decode cX3_recordedBefore 22 = .ok (.iinc 2 1, 3) := by decide +kernel
theorem dX3_recordedBefore_25 : decode cX3_recordedBefore 25 = .ok (.goto (-23), 3) := by decide +kernel
theorem dX3_recordedBefore_28 : decode cX3_recordedBefore 28 = .ok (.iload_n 2, 1) := by decide +kernel
theorem dX3_recordedBefore_29 : decode cX3_recordedBefore 29 = .ok (.ireturn, 1) := by decide +kernel
theorem dX3_told_0 : decode cX3_told 0 = .ok (.iload_n 1, 1) := by decide +kernel
theorem dX3_told_1 : decode cX3_told 1 = .ok (.ifCond .lt 11, 3) := by decide +kernel
theorem dX3_told_4 : decode cX3_told 4 = .ok (.iload_n 1, 1) := by decide +kernel
theorem dX3_told_5 : decode cX3_told 5 = .ok (.aload_n 0, 1) := by decide +kernel
theorem dX3_told_6 : decode cX3_told 6 = .ok (.getfield 35, 3) := by decide +kernel
theorem dX3_told_9 : decode cX3_told 9 = .ok (.if_icmp .lt 7, 3) := by decide +kernel
theorem dX3_told_12 : decode cX3_told 12 = .ok (.ldc2_w 42, 3) := by decide +kernel
theorem dX3_told_15 : decode cX3_told 15 = .ok (.lreturn, 1) := by decide +kernel
theorem dX3_told_16 : decode cX3_told 16 = .ok (.iload_n 2, 1) := by decide +kernel
theorem dX3_told_17 : decode cX3_told 17 = .ok (.tableswitch 61 0 3 #[31, 39, 46, 53], 31) := by decide +kernel
theorem dX3_told_48 : decode cX3_told 48 = .ok (.aload_n 0, 1) := by decide +kernel
theorem dX3_told_49 : decode cX3_told 49 = .ok (.getfield 9, 3) := by decide +kernel
theorem dX3_told_52 : decode cX3_told 52 = .ok (.iload_n 1, 1) := by decide +kernel
theorem dX3_told_53 : decode cX3_told 53 = .ok (.iaload, 1) := by decide +kernel
theorem dX3_told_54 : decode cX3_told 54 = .ok (.i2l, 1) := by decide +kernel
theorem dX3_told_55 : decode cX3_told 55 = .ok (.lreturn, 1) := by decide +kernel
theorem dX3_told_56 : decode cX3_told 56 = .ok (.aload_n 0, 1) := by decide +kernel
theorem dX3_told_57 : decode cX3_told 57 = .ok (.getfield 13, 3) := by decide +kernel
theorem dX3_told_60 : decode cX3_told 60 = .ok (.iload_n 1, 1) := by decide +kernel
theorem dX3_told_61 : decode cX3_told 61 = .ok (.laload, 1) := by decide +kernel
theorem dX3_told_62 : decode cX3_told 62 = .ok (.lreturn, 1) := by decide +kernel
theorem dX3_told_63 : decode cX3_told 63 = .ok (.aload_n 0, 1) := by decide +kernel
theorem dX3_told_64 : decode cX3_told 64 = .ok (.getfield 17, 3) := by decide +kernel
theorem dX3_told_67 : decode cX3_told 67 = .ok (.iload_n 1, 1) := by decide +kernel
theorem dX3_told_68 : decode cX3_told 68 = .ok (.laload, 1) := by decide +kernel
theorem dX3_told_69 : decode cX3_told 69 = .ok (.lreturn, 1) := by decide +kernel
theorem dX3_told_70 : decode cX3_told 70 = .ok (.aload_n 0, 1) := by decide +kernel
theorem dX3_told_71 : decode cX3_told 71 = .ok (.getfield 20, 3) := by decide +kernel
theorem dX3_told_74 : decode cX3_told 74 = .ok (.iload_n 1, 1) := by decide +kernel
theorem dX3_told_75 : decode cX3_told 75 = .ok (.iaload, 1) := by decide +kernel
theorem dX3_told_76 : decode cX3_told 76 = .ok (.i2l, 1) := by decide +kernel
theorem dX3_told_77 : decode cX3_told 77 = .ok (.lreturn, 1) := by decide +kernel
theorem dX3_told_78 : decode cX3_told 78 = .ok (.ldc2_w 42, 3) := by decide +kernel
theorem dX3_told_81 : decode cX3_told 81 = .ok (.lreturn, 1) := by decide +kernel
theorem dX3_difference_0 : decode cX3_difference 0 = .ok (.iload_n 1, 1) := by decide +kernel
theorem dX3_difference_1 : decode cX3_difference 1 = .ok (.ifCond .gt 12, 3) := by decide +kernel
theorem dX3_difference_4 : decode cX3_difference 4 = .ok (.aload_n 0, 1) := by decide +kernel
theorem dX3_difference_5 : decode cX3_difference 5 = .ok (.getfield 13, 3) := by decide +kernel
theorem dX3_difference_8 : decode cX3_difference 8 = .ok (.iconst 0, 1) := by decide +kernel
theorem dX3_difference_9 : decode cX3_difference 9 = .ok (.laload, 1) := by decide +kernel
theorem dX3_difference_10 : decode cX3_difference 10 = .ok (.goto 18, 3) := by decide +kernel
theorem dX3_difference_13 : decode cX3_difference 13 = .ok (.aload_n 0, 1) := by decide +kernel
theorem dX3_difference_14 : decode cX3_difference 14 = .ok (.getfield 13, 3) := by decide +kernel
theorem dX3_difference_17 : decode cX3_difference 17 = .ok (.iload_n 1, 1) := by decide +kernel
theorem dX3_difference_18 : decode cX3_difference 18 = .ok (.laload, 1) := by decide +kernel
theorem dX3_difference_19 : decode cX3_difference 19 = .ok (.aload_n 0, 1) := by decide +kernel
theorem dX3_difference_20 : decode cX3_difference 20 = .ok (.getfield 13, 3) := by decide +kernel
theorem dX3_difference_23 : decode cX3_difference 23 = .ok (.iload_n 1, 1) := by decide +kernel
theorem dX3_difference_24 : decode cX3_difference 24 = .ok (.iconst 1, 1) := by decide +kernel
theorem dX3_difference_25 : decode cX3_difference 25 = .ok (.isub, 1) := by decide +kernel
theorem dX3_difference_26 : decode cX3_difference 26 = .ok (.laload, 1) := by decide +kernel
theorem dX3_difference_27 : decode cX3_difference 27 = .ok (.lsub, 1) := by decide +kernel
theorem dX3_difference_28 : decode cX3_difference 28 = .ok (.lreturn, 1) := by decide +kernel
theorem dX3_bringsSame_0 : decode cX3_bringsSame 0 = .ok (.aload_n 0, 1) := by decide +kernel
theorem dX3_bringsSame_1 : decode cX3_bringsSame 1 = .ok (.getfield 9, 3) := by decide +kernel
theorem dX3_bringsSame_4 : decode cX3_bringsSame 4 = .ok (.iload_n 1, 1) := by decide +kernel
theorem dX3_bringsSame_5 : decode cX3_bringsSame 5 = .ok (.iaload, 1) := by decide +kernel
theorem dX3_bringsSame_6 : decode cX3_bringsSame 6 = .ok (.aload_n 0, 1) := by decide +kernel
theorem dX3_bringsSame_7 : decode cX3_bringsSame 7 = .ok (.getfield 9, 3) := by decide +kernel
theorem dX3_bringsSame_10 : decode cX3_bringsSame 10 = .ok (.iload_n 2, 1) := by decide +kernel
theorem dX3_bringsSame_11 : decode cX3_bringsSame 11 = .ok (.iaload, 1) := by decide +kernel
theorem dX3_bringsSame_12 : decode cX3_bringsSame 12 = .ok (.if_icmp .ne 38, 3) := by decide +kernel
theorem dX3_bringsSame_15 : decode cX3_bringsSame 15 = .ok (.aload_n 0, 1) := by decide +kernel
theorem dX3_bringsSame_16 : decode cX3_bringsSame 16 = .ok (.getfield 17, 3) := by decide +kernel
theorem dX3_bringsSame_19 : decode cX3_bringsSame 19 = .ok (.iload_n 1, 1) := by decide +kernel
theorem dX3_bringsSame_20 : decode cX3_bringsSame 20 = .ok (.laload, 1) := by decide +kernel
theorem dX3_bringsSame_21 : decode cX3_bringsSame 21 = .ok (.aload_n 0, 1) := by decide +kernel
theorem dX3_bringsSame_22 : decode cX3_bringsSame 22 = .ok (.getfield 17, 3) := by decide +kernel
theorem dX3_bringsSame_25 : decode cX3_bringsSame 25 = .ok (.iload_n 2, 1) := by decide +kernel
theorem dX3_bringsSame_26 : decode cX3_bringsSame 26 = .ok (.laload, 1) := by decide +kernel
theorem dX3_bringsSame_27 : decode cX3_bringsSame 27 = .ok (.lcmp, 1) := by decide +kernel
theorem dX3_bringsSame_28 : decode cX3_bringsSame 28 = .ok (.ifCond .ne 22, 3) := by decide +kernel
theorem dX3_bringsSame_31 : decode cX3_bringsSame 31 = .ok (.aload_n 0, 1) := by decide +kernel
theorem dX3_bringsSame_32 : decode cX3_bringsSame 32 = .ok (.getfield 20, 3) := by decide +kernel
theorem dX3_bringsSame_35 : decode cX3_bringsSame 35 = .ok (.iload_n 1, 1) := by decide +kernel
theorem dX3_bringsSame_36 : decode cX3_bringsSame 36 = .ok (.iaload, 1) := by decide +kernel
theorem dX3_bringsSame_37 : decode cX3_bringsSame 37 = .ok (.aload_n 0, 1) := by decide +kernel
theorem dX3_bringsSame_38 : decode cX3_bringsSame 38 = .ok (.getfield 20, 3) := by decide +kernel
theorem dX3_bringsSame_41 : decode cX3_bringsSame 41 = .ok (.iload_n 2, 1) := by decide +kernel
theorem dX3_bringsSame_42 : decode cX3_bringsSame 42 = .ok (.iaload, 1) := by decide +kernel
theorem dX3_bringsSame_43 : decode cX3_bringsSame 43 = .ok (.if_icmp .ne 7, 3) := by decide +kernel
theorem dX3_bringsSame_46 : decode cX3_bringsSame 46 = .ok (.iconst 1, 1) := by decide +kernel
theorem dX3_bringsSame_47 : decode cX3_bringsSame 47 = .ok (.goto 4, 3) := by decide +kernel
theorem dX3_bringsSame_50 : decode cX3_bringsSame 50 = .ok (.iconst 0, 1) := by decide +kernel
theorem dX3_bringsSame_51 : decode cX3_bringsSame 51 = .ok (.ireturn, 1) := by decide +kernel
theorem dX3_writeLog_0 : decode cX3_writeLog 0 = .ok (.aload_n 0, 1) := by decide +kernel
theorem dX3_writeLog_1 : decode cX3_writeLog 1 = .ok (.aload_n 1, 1) := by decide +kernel
theorem dX3_writeLog_2 : decode cX3_writeLog 2 = .ok (.putfield 23, 3) := by decide +kernel
theorem dX3_writeLog_5 : decode cX3_writeLog 5 = .ok (.aload_n 0, 1) := by decide +kernel
theorem dX3_writeLog_6 : decode cX3_writeLog 6 = .ok (.iconst 0, 1) := by decide +kernel
theorem dX3_writeLog_7 : decode cX3_writeLog 7 = .ok (.putfield 44, 3) := by decide +kernel
theorem dX3_writeLog_10 : decode cX3_writeLog 10 = .ok (.aload_n 0, 1) := by decide +kernel
theorem dX3_writeLog_11 : decode cX3_writeLog 11 = .ok (.aload_n 0, 1) := by decide +kernel
theorem dX3_writeLog_12 : decode cX3_writeLog 12 = .ok (.getfield 35, 3) := by decide +kernel
theorem dX3_writeLog_15 : decode cX3_writeLog 15 = .ok (.i2l, 1) := by decide +kernel
theorem dX3_writeLog_16 : decode cX3_writeLog 16 = .ok (.invokevirtual 47, 3) := by decide +kernel
theorem dX3_writeLog_19 : decode cX3_writeLog 19 = .ok (.iconst 0, 1) := by decide +kernel
theorem dX3_writeLog_20 : decode cX3_writeLog 20 = .ok (.istore_n 2, 1) := by decide +kernel
theorem dX3_writeLog_21 : decode cX3_writeLog 21 = .ok (.iload_n 2, 1) := by decide +kernel
theorem dX3_writeLog_22 : decode cX3_writeLog 22 = .ok (.aload_n 0, 1) := by decide +kernel
theorem dX3_writeLog_23 : decode cX3_writeLog 23 = .ok (.getfield 35, 3) := by decide +kernel
theorem dX3_writeLog_26 : decode cX3_writeLog 26 = .ok (.if_icmp .ge 62, 3) := by decide +kernel
theorem dX3_writeLog_29 : decode cX3_writeLog 29 = .ok (.aload_n 0, 1) := by decide +kernel
theorem dX3_writeLog_30 : decode cX3_writeLog 30 = .ok (.iload_n 2, 1) := by decide +kernel
theorem dX3_writeLog_31 : decode cX3_writeLog 31 = .ok (.invokevirtual 51, 3) := by decide +kernel
theorem dX3_writeLog_34 : decode cX3_writeLog 34 = .ok (.istore_n 3, 1) := by decide +kernel
theorem dX3_writeLog_35 : decode cX3_writeLog 35 = .ok (.iload_n 3, 1) := by decide +kernel
theorem dX3_writeLog_36 : decode cX3_writeLog 36 = .ok (.ifCond .ne 14, 3) := by decide +kernel
theorem dX3_writeLog_39 : decode cX3_writeLog 39 = .ok (.aload_n 0, 1) := by decide +kernel
theorem dX3_writeLog_40 : decode cX3_writeLog 40 = .ok (.iload_n 2, 1) := by decide +kernel
theorem dX3_writeLog_41 : decode cX3_writeLog 41 = .ok (.invokevirtual 55, 3) := by decide +kernel
theorem dX3_writeLog_44 : decode cX3_writeLog 44 = .ok (.iinc 2 1, 3) := by decide +kernel
theorem dX3_writeLog_47 : decode cX3_writeLog 47 = .ok (.goto 38, 3) := by decide +kernel
theorem dX3_writeLog_50 : decode cX3_writeLog 50 = .ok (.aload_n 0, 1) := by decide +kernel
theorem dX3_writeLog_51 : decode cX3_writeLog 51 = .ok (.iconst 5, 1) := by decide +kernel
theorem dX3_writeLog_52 : decode cX3_writeLog 52 = .ok (.iload_n 3, 1) := by decide +kernel
theorem dX3_writeLog_53 : decode cX3_writeLog 53 = .ok (.bipush 15, 2) := by decide +kernel
theorem dX3_writeLog_55 : decode cX3_writeLog 55 = .ok (.if_icmp .gt 9, 3) := by decide +kernel
theorem dX3_writeLog_58 : decode cX3_writeLog 58 = .ok (.iload_n 3, 1) := by decide +kernel
theorem dX3_writeLog_59 : decode cX3_writeLog 59 = .ok (.iconst 4, 1) := by decide +kernel
theorem dX3_writeLog_60 : decode cX3_writeLog 60 = .ok (.ishl, 1) := by decide +kernel
theorem dX3_writeLog_61 : decode cX3_writeLog 61 = .ok (.goto 4, 3) := by decide +kernel
theorem dX3_writeLog_64 : decode cX3_writeLog 64 = .ok (.iconst 0, 1) := by decide +kernel
theorem dX3_writeLog_65 : decode cX3_writeLog 65 = .ok (.ior, 1) := by decide +kernel
theorem dX3_writeLog_66 : decode cX3_writeLog 66 = .ok (.invokevirtual 59, 3) := by decide +kernel
theorem dX3_writeLog_69 : decode cX3_writeLog 69 = .ok (.iload_n 3, 1) := by decide +kernel
theorem dX3_writeLog_70 : decode cX3_writeLog 70 = .ok (.bipush 15, 2) := by decide +kernel
theorem dX3_writeLog_72 : decode cX3_writeLog 72 = .ok (.if_icmp .le 9, 3) := by decide +kernel
theorem dX3_writeLog_75 : decode cX3_writeLog 75 = .ok (.aload_n 0, 1) := by decide +kernel
theorem dX3_writeLog_76 : decode cX3_writeLog 76 = .ok (.iload_n 3, 1) := by decide +kernel
theorem dX3_writeLog_77 : decode cX3_writeLog 77 = .ok (.i2l, 1) := by decide +kernel
theorem dX3_writeLog_78 : decode cX3_writeLog 78 = .ok (.invokevirtual 47, 3) := by decide +kernel
theorem dX3_writeLog_81 : decode cX3_writeLog 81 = .ok (.iload_n 2, 1) := by decide +kernel
theorem dX3_writeLog_82 : decode cX3_writeLog 82 = .ok (.iload_n 3, 1) := by decide +kernel
theorem dX3_writeLog_83 : decode cX3_writeLog 83 = .ok (.iadd, 1) := by decide +kernel
theorem dX3_writeLog_84 : decode cX3_writeLog 84 = .ok (.istore_n 2, 1) := by decide +kernel
theorem dX3_writeLog_85 : decode cX3_writeLog 85 = .ok (.goto (-64), 3) := by decide +kernel
theorem dX3_writeLog_88 : decode cX3_writeLog 88 = .ok (.aload_n 0, 1) := by decide +kernel
theorem dX3_writeLog_89 : decode cX3_writeLog 89 = .ok (.getfield 44, 3) := by decide +kernel
theorem dX3_writeLog_92 : decode cX3_writeLog 92 = .ok (.ireturn, 1) := by decide +kernel
theorem dX3_likeBefore_0 : decode cX3_likeBefore 0 = .ok (.iconst 0, 1) := by decide +kernel
theorem dX3_likeBefore_1 : decode cX3_likeBefore 1 = .ok (.istore_n 2, 1) := by decide +kernel
theorem dX3_likeBefore_2 : decode cX3_likeBefore 2 = .ok (.iload_n 1, 1) := by decide +kernel
theorem dX3_likeBefore_3 : decode cX3_likeBefore 3 = .ok (.ifCond .le 50, 3) := by decide +kernel
theorem dX3_likeBefore_6 : decode cX3_likeBefore 6 = .ok (.iload_n 1, 1) := by decide +kernel
theorem dX3_likeBefore_7 : decode cX3_likeBefore 7 = .ok (.iload_n 2, 1) := by decide +kernel
theorem dX3_likeBefore_8 : decode cX3_likeBefore 8 = .ok (.iadd, 1) := by decide +kernel
theorem dX3_likeBefore_9 : decode cX3_likeBefore 9 = .ok (.aload_n 0, 1) := by decide +kernel
theorem dX3_likeBefore_10 : decode cX3_likeBefore 10 = .ok (.getfield 35, 3) := by decide +kernel
theorem dX3_likeBefore_13 : decode cX3_likeBefore 13 = .ok (.if_icmp .ge 40, 3) := by decide +kernel
theorem dX3_likeBefore_16 : decode cX3_likeBefore 16 = .ok (.aload_n 0, 1) := by decide +kernel
theorem dX3_likeBefore_17 : decode cX3_likeBefore 17 = .ok (.iload_n 1, 1) := by decide +kernel
theorem dX3_likeBefore_18 : decode cX3_likeBefore 18 = .ok (.iload_n 2, 1) := by decide +kernel
theorem dX3_likeBefore_19 : decode cX3_likeBefore 19 = .ok (.iadd, 1) := by decide +kernel
theorem dX3_likeBefore_20 : decode cX3_likeBefore 20 = .ok (.iload_n 1, 1) := by decide +kernel
theorem dX3_likeBefore_21 : decode cX3_likeBefore 21 = .ok (.iconst 1, 1) := by decide +kernel
theorem dX3_likeBefore_22 : decode cX3_likeBefore 22 = .ok (.isub, 1) := by decide +kernel
theorem dX3_likeBefore_23 : decode cX3_likeBefore 23 = .ok (.invokevirtual 62, 3) := by decide +kernel
theorem dX3_likeBefore_26 : decode cX3_likeBefore 26 = .ok (.ifCond .eq 27, 3) := by decide +kernel
theorem dX3_likeBefore_29 : decode cX3_likeBefore 29 = .ok (.aload_n 0, 1) := by decide +kernel
theorem dX3_likeBefore_30 : decode cX3_likeBefore 30 = .ok (.iload_n 1, 1) := by decide +kernel
theorem dX3_likeBefore_31 : decode cX3_likeBefore 31 = .ok (.iload_n 2, 1) := by decide +kernel
theorem dX3_likeBefore_32 : decode cX3_likeBefore 32 = .ok (.iadd, 1) := by decide +kernel
theorem dX3_likeBefore_33 : decode cX3_likeBefore 33 = .ok (.invokevirtual 66, 3) := by decide +kernel
theorem dX3_likeBefore_36 : decode cX3_likeBefore 36 = .ok (.aload_n 0, 1) := by decide +kernel
theorem dX3_likeBefore_37 : decode cX3_likeBefore 37 = .ok (.iload_n 1, 1) := by decide +kernel
theorem dX3_likeBefore_38 : decode cX3_likeBefore 38 = .ok (.iconst 1, 1) := by decide +kernel
theorem dX3_likeBefore_39 : decode cX3_likeBefore 39 = .ok (.isub, 1) := by decide +kernel
theorem dX3_likeBefore_40 : decode cX3_likeBefore 40 = .ok (.invokevirtual 66, 3) := by decide +kernel
theorem dX3_likeBefore_43 : decode cX3_likeBefore 43 = .ok (.lcmp, 1) := by decide +kernel
theorem dX3_likeBefore_44 : decode cX3_likeBefore 44 = .ok (.ifCond .ne 9, 3) := by decide +kernel
theorem dX3_likeBefore_47 : decode cX3_likeBefore 47 = .ok (.iinc 2 1, 3) := by decide +kernel
theorem dX3_likeBefore_50 : decode cX3_likeBefore 50 = .ok (.goto (-48), 3) := by decide +kernel
