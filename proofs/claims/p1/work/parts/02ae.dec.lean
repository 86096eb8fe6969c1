theorem dX12_putOnTape_36 : decode cX12_putOnTape 36 = .ok (.putfield 58, 3) := by decide +kernel
theorem dX12_putOnTape_39 : decode cX12_putOnTape 39 = .ok (.iinc 2 (-8), 3) := by decide +kernel
theorem dX12_putOnTape_42 : decode cX12_putOnTape 42 = .ok (.goto (-39), 3) := by decide +kernel
theorem dX12_putOnTape_45 : decode cX12_putOnTape 45 = .ok (.return_, 1) := by decide +kernel
theorem dX12_useTape_0 : decode cX12_useTape 0 = .ok (.aload_n 0, 1) := by decide +kernel
theorem dX12_useTape_1 : decode cX12_useTape 1 = .ok (.getfield 58, 3) := by decide +kernel
theorem dX12_useTape_4 : decode cX12_useTape 4 = .ok (.istore_n 1, 1) := by decide +kernel
theorem dX12_useTape_5 : decode cX12_useTape 5 = .ok (.aload_n 0, 1) := by decide +kernel
theorem dX12_useTape_6 : decode cX12_useTape 6 = .ok (.iconst 0, 1) := by decide +kernel
theorem dX12_useTape_7 : decode cX12_useTape 7 = .ok (.putfield 58, 3) := by decide +kernel
theorem dX12_useTape_10 : decode cX12_useTape 10 = .ok (.aload_n 0, 1) := by decide +kernel
theorem dX12_useTape_11 : decode cX12_useTape 11 = .ok (.iconst 0, 1) := by decide +kernel
theorem dX12_useTape_12 : decode cX12_useTape 12 = .ok (.putfield 66, 3) := by decide +kernel
theorem dX12_useTape_15 : decode cX12_useTape 15 = .ok (.iload_n 1, 1) := by decide +kernel
theorem dX12_useTape_16 : decode cX12_useTape 16 = .ok (.ireturn, 1) := by decide +kernel
theorem dX12_programOf_0 : decode cX12_programOf 0 = .ok (.iload_n 1, 1) := by decide +kernel
theorem dX12_programOf_1 : decode cX12_programOf 1 = .ok (.ifCond .lt 8, 3) := by decide +kernel
theorem dX12_programOf_4 : decode cX12_programOf 4 = .ok (.iload_n 1, 1) := by decide +kernel
theorem dX12_programOf_5 : decode cX12_programOf 5 = .ok (.iconst 4, 1) := by decide +kernel
theorem dX12_programOf_6 : decode cX12_programOf 6 = .ok (.if_icmp .lt 7, 3) := by decide +kernel
theorem dX12_programOf_9 : decode cX12_programOf 9 = .ok (.aconst_null, 1) := by decide +kernel
theorem dX12_programOf_10 : decode cX12_programOf 10 = .ok (.goto 9, 3) := by decide +kernel
theorem dX12_programOf_13 : decode cX12_programOf 13 = .ok (.aload_n 0, 1) := by decide +kernel
theorem dX12_programOf_14 : decode cX12_programOf 14 = .ok (.getfield 16, 3) := by decide +kernel
theorem dX12_programOf_17 : decode cX12_programOf 17 = .ok (.iload_n 1, 1) := by decide +kernel
theorem dX12_programOf_18 : decode cX12_programOf 18 = .ok (.aaload, 1) := by decide +kernel
theorem dX12_programOf_19 : decode cX12_programOf 19 = .ok (.areturn, 1) := by decide +kernel
theorem dX12_unusedProgram_0 : decode cX12_unusedProgram 0 = .ok (.iconst 0, 1) := by decide +kernel
theorem dX12_unusedProgram_1 : decode cX12_unusedProgram 1 = .ok (.istore_n 1, 1) := by decide +kernel
theorem dX12_unusedProgram_2 : decode cX12_unusedProgram 2 = .ok (.iload_n 1, 1) := by decide +kernel
theorem dX12_unusedProgram_3 : decode cX12_unusedProgram 3 = .ok (.aload_n 0, 1) := by decide +kernel
theorem dX12_unusedProgram_4 : decode cX12_unusedProgram 4 = .ok (.getfield 20, 3) := by decide +kernel
theorem dX12_unusedProgram_7 : decode cX12_unusedProgram 7 = .ok (.arraylength, 1) := by decide +kernel
theorem dX12_unusedProgram_8 : decode cX12_unusedProgram 8 = .ok (.iconst 1, 1) := by decide +kernel
theorem dX12_unusedProgram_9 : decode cX12_unusedProgram 9 = .ok (.isub, 1) := by decide +kernel
theorem dX12_unusedProgram_10 : decode cX12_unusedProgram 10 = .ok (.if_icmp .ge 22, 3) := by decide +kernel
theorem dX12_unusedProgram_13 : decode cX12_unusedProgram 13 = .ok (.aload_n 0, 1) := by decide +kernel
theorem dX12_unusedProgram_14 : decode cX12_unusedProgram 14 = .ok (.aload_n 0, 1) := by decide +kernel
theorem dX12_unusedProgram_15 : decode cX12_unusedProgram 15 = .ok (.getfield 20, 3) := by decide +kernel
theorem dX12_unusedProgram_18 : decode cX12_unusedProgram 18 = .ok (.iload_n 1, 1) := by decide +kernel
theorem dX12_unusedProgram_19 : decode cX12_unusedProgram 19 = .ok (.aaload, 1) := by decide +kernel
theorem dX12_unusedProgram_20 : decode cX12_unusedProgram 20 = .ok (.invokevirtual 293, 3) := by decide +kernel
theorem dX12_unusedProgram_23 : decode cX12_unusedProgram 23 = .ok (.ifCond .eq 9, 3) := by decide +kernel
theorem dX12_unusedProgram_32 : decode cX12_unusedProgram 32 = .ok (.aload_n 0, 1) := by decide +kernel
theorem dX12_unusedProgram_33 : decode cX12_unusedProgram 33 = .ok (.getfield 20, 3) := by decide +kernel
theorem dX12_unusedProgram_36 : decode cX12_unusedProgram 36 = .ok (.iload_n 1, 1) := by decide +kernel
theorem dX12_unusedProgram_37 : decode cX12_unusedProgram 37 = .ok (.aaload, 1) := by decide +kernel
theorem dX12_unusedProgram_38 : decode cX12_unusedProgram 38 = .ok (.areturn, 1) := by decide +kernel
theorem dX12_isUsedProgram_0 : decode cX12_isUsedProgram 0 = .ok (.iconst 0, 1) := by decide +kernel
theorem dX12_isUsedProgram_1 : decode cX12_isUsedProgram 1 = .ok (.istore_n 2, 1) := by decide +kernel
theorem dX12_isUsedProgram_2 : decode cX12_isUsedProgram 2 = .ok (.iload_n 2, 1) := by decide +kernel
theorem dX12_isUsedProgram_3 : decode cX12_isUsedProgram 3 = .ok (.iconst 4, 1) := by decide +kernel
theorem dX12_isUsedProgram_4 : decode cX12_isUsedProgram 4 = .ok (.if_icmp .ge 34, 3) := by decide +kernel
theorem dX12_isUsedProgram_7 : decode cX12_isUsedProgram 7 = .ok (.aload_n 0, 1) := by decide +kernel
theorem dX12_isUsedProgram_8 : decode cX12_isUsedProgram 8 = .ok (.getfield 16, 3) := by decide +kernel
theorem dX12_isUsedProgram_11 : decode cX12_isUsedProgram 11 = .ok (.iload_n 2, 1) := by decide +kernel
theorem dX12_isUsedProgram_12 : decode cX12_isUsedProgram 12 = .ok (.aaload, 1) := by decide +kernel
theorem dX12_isUsedProgram_13 : decode cX12_isUsedProgram 13 = .ok (.aload_n 1, 1) := by decide +kernel
theorem dX12_isUsedProgram_14 : decode cX12_isUsedProgram 14 = .ok (.if_acmp .eq 16, 3) := by decide +kernel
theorem dX12_isUsedProgram_17 : decode cX12_isUsedProgram 17 = .ok (.aload_n 0, 1) := by decide +kernel
theorem dX12_isUsedProgram_18 : decode cX12_isUsedProgram 18 = .ok (.getfield 33, 3) := by decide +kernel
theorem dX12_isUsedProgram_21 : decode cX12_isUsedProgram 21 = .ok (.getfield 297, 3) := by decide +kernel
theorem dX12_isUsedProgram_24 : decode cX12_isUsedProgram 24 = .ok (.iload_n 2, 1) := by decide +kernel
theorem dX12_isUsedProgram_25 : decode cX12_isUsedProgram 25 = .ok (.aaload, 1) := by decide +kernel
theorem dX12_isUsedProgram_26 : decode cX12_isUsedProgram 26 = .ok (.aload_n 1, 1) := by decide +kernel
theorem dX12_isUsedProgram_27 : decode cX12_isUsedProgram 27 = .ok (.if_acmp .ne 5, 3) := by decide +kernel
theorem dX12_isUsedProgram_32 : decode cX12_isUsedProgram 32 = .ok (.iinc 2 1, 3) := by decide +kernel
theorem dX12_isUsedProgram_35 : decode cX12_isUsedProgram 35 = .ok (.goto (-33), 3) := by decide +kernel
theorem dX12_isUsedProgram_38 : decode cX12_isUsedProgram 38 = .ok (.iconst 0, 1) := by decide +kernel
theorem dX12_isUsedProgram_39 : decode cX12_isUsedProgram 39 = .ok (.ireturn, 1) := by decide +kernel
theorem dX12_unusedCondition_0 : decode cX12_unusedCondition 0 = .ok (.iconst 0, 1) := by decide +kernel
theorem dX12_unusedCondition_1 : decode cX12_unusedCondition 1 = .ok (.istore_n 1, 1) := by decide +kernel
theorem dX12_unusedCondition_2 : decode cX12_unusedCondition 2 = .ok (.iload_n 1, 1) := by decide +kernel
theorem dX12_unusedCondition_3 : decode cX12_unusedCondition 3 = .ok (.aload_n 0, 1) := by decide +kernel
theorem dX12_unusedCondition_4 : decode cX12_unusedCondition 4 = .ok (.getfield 43, 3) := by decide +kernel
theorem dX12_unusedCondition_7 : decode cX12_unusedCondition 7 = .ok (.arraylength, 1) := by decide +kernel
theorem dX12_unusedCondition_8 : decode cX12_unusedCondition 8 = .ok (.iconst 1, 1) := by decide +kernel
theorem dX12_unusedCondition_9 : decode cX12_unusedCondition 9 = .ok (.isub, 1) := by decide +kernel
theorem dX12_unusedCondition_10 : decode cX12_unusedCondition 10 = .ok (.if_icmp .ge 22, 3) := by decide +kernel
theorem dX12_unusedCondition_13 : decode cX12_unusedCondition 13 = .ok (.aload_n 0, 1) := by decide +kernel
theorem dX12_unusedCondition_14 : decode cX12_unusedCondition 14 = .ok (.aload_n 0, 1) := by decide +kernel
theorem dX12_unusedCondition_15 : decode cX12_unusedCondition 15 = .ok (.getfield 43, 3) := by decide +kernel
theorem dX12_unusedCondition_18 : decode cX12_unusedCondition 18 = .ok (.iload_n 1, 1) := by decide +kernel
theorem dX12_unusedCondition_19 : decode cX12_unusedCondition 19 = .ok (.aaload, 1) := by decide +kernel
theorem dX12_unusedCondition_20 : decode cX12_unusedCondition 20 = .ok (.invokevirtual 298, 3) := by decide +kernel
theorem dX12_unusedCondition_23 : decode cX12_unusedCondition 23 = .ok (.ifCond .eq 9, 3) := by decide +kernel
theorem dX12_unusedCondition_32 : decode cX12_unusedCondition 32 = .ok (.aload_n 0, 1) := by decide +kernel
theorem dX12_unusedCondition_33 : decode cX12_unusedCondition 33 = .ok (.getfield 43, 3) := by decide +kernel
theorem dX12_unusedCondition_36 : decode cX12_unusedCondition 36 = .ok (.iload_n 1, 1) := by decide +kernel
theorem dX12_unusedCondition_37 : decode cX12_unusedCondition 37 = .ok (.aaload, 1) := by decide +kernel
theorem dX12_unusedCondition_38 : decode cX12_unusedCondition 38 = .ok (.areturn, 1) := by decide +kernel
theorem dX12_isBreak_0 : decode cX12_isBreak 0 = .ok (.iconst 0, 1) := by decide +kernel
theorem dX12_isBreak_1 : decode cX12_isBreak 1 = .ok (.istore_n 2, 1) := by decide +kernel
theorem dX12_isBreak_2 : decode cX12_isBreak 2 = .ok (.iload_n 2, 1) := by decide +kernel
theorem dX12_isBreak_3 : decode cX12_isBreak 3 = .ok (.bipush 8, 2) := by decide +kernel
theorem dX12_isBreak_5 : decode cX12_isBreak 5 = .ok (.if_icmp .ge 21, 3) := by decide +kernel
theorem dX12_isBreak_8 : decode cX12_isBreak 8 = .ok (.aload_n 0, 1) := by decide +kernel
theorem dX12_isBreak_9 : decode cX12_isBreak 9 = .ok (.getfield 39, 3) := by decide +kernel
theorem dX12_isBreak_12 : decode cX12_isBreak 12 = .ok (.iload_n 2, 1) := by decide +kernel
theorem dX12_isBreak_13 : decode cX12_isBreak 13 = .ok (.aaload, 1) := by decide +kernel
theorem dX12_isBreak_14 : decode cX12_isBreak 14 = .ok (.aload_n 1, 1) := by decide +kernel
theorem dX12_isBreak_15 : decode cX12_isBreak 15 = .ok (.if_acmp .ne 5, 3) := by decide +kernel
theorem dX12_isBreak_20 : decode cX12_isBreak 20 = .ok (.iinc 2 1, 3) := by decide +kernel
theorem dX12_isBreak_23 : decode cX12_isBreak 23 = .ok (.goto (-21), 3) := by decide +kernel
theorem dX12_isBreak_26 : decode cX12_isBreak 26 = .ok (.iconst 0, 1) := by decide +kernel
theorem dX12_isBreak_27 : decode cX12_isBreak 27 = .ok (.ireturn, 1) := by decide +kernel
theorem dX12_isThere_0 : decode cX12_isThere 0 = .ok (.aload_n 0, 1) := by decide +kernel
theorem dX12_isThere_1 : decode cX12_isThere 1 = .ok (.getfield 33, 3) := by decide +kernel
theorem dX12_isThere_4 : decode cX12_isThere 4 = .ok (.getfield 142, 3) := by decide +kernel
theorem dX12_isThere_7 : decode cX12_isThere 7 = .ok (.ifCond .eq 17, 3) := by decide +kernel
theorem dX12_isThere_24 : decode cX12_isThere 24 = .ok (.iconst 0, 1) := by decide +kernel
theorem dX12_isThere_25 : decode cX12_isThere 25 = .ok (.ireturn, 1) := by decide +kernel
theorem dX12_breaksThere_0 : decode cX12_breaksThere 0 = .ok (.iconst 0, 1) := by decide +kernel
theorem dX12_breaksThere_1 : decode cX12_breaksThere 1 = .ok (.istore_n 1, 1) := by decide +kernel
theorem dX12_breaksThere_2 : decode cX12_breaksThere 2 = .ok (.iconst 0, 1) := by decide +kernel
theorem dX12_breaksThere_3 : decode cX12_breaksThere 3 = .ok (.istore_n 2, 1) := by decide +kernel
theorem dX12_breaksThere_4 : decode cX12_breaksThere 4 = .ok (.iload_n 2, 1) := by decide +kernel
theorem dX12_breaksThere_5 : decode cX12_breaksThere 5 = .ok (.bipush 8, 2) := by decide +kernel
theorem dX12_breaksThere_7 : decode cX12_breaksThere 7 = .ok (.if_icmp .ge 21, 3) := by decide +kernel
theorem dX12_breaksThere_10 : decode cX12_breaksThere 10 = .ok (.aload_n 0, 1) := by decide +kernel
theorem dX12_breaksThere_11 : decode cX12_breaksThere 11 = .ok (.getfield 39, 3) := by decide +kernel
theorem dX12_breaksThere_14 : decode cX12_breaksThere 14 = .ok (.iload_n 2, 1) := by decide +kernel
theorem dX12_breaksThere_15 : decode cX12_breaksThere 15 = .ok (.aaload, 1) := by decide +kernel
theorem dX12_breaksThere_16 : decode cX12_breaksThere 16 = .ok (.ifnull 6, 3) := by decide +kernel
theorem dX12_breaksThere_22 : decode cX12_breaksThere 22 = .ok (.iinc 2 1, 3) := by decide +kernel
theorem dX12_breaksThere_25 : decode cX12_breaksThere 25 = .ok (.goto (-21), 3) := by decide +kernel
theorem dX12_breaksThere_28 : decode cX12_breaksThere 28 = .ok (.iload_n 1, 1) := by decide +kernel
theorem dX12_breaksThere_29 : decode cX12_breaksThere 29 = .ok (.ireturn, 1) := by decide +kernel
theorem dX13_init_0 : decode cX13_init 0 = .ok (.aload_n 0, 1) := by decide +kernel
theorem dX13_init_1 : decode cX13_init 1 = .ok (.invokespecial 1, 3) := by decide +kernel
theorem dX13_init_4 : decode cX13_init 4 = .ok (.aload_n 0, 1) := by decide +kernel
theorem dX13_init_5 : decode cX13_init 5 = .ok (.sipush 128, 3) := by decide +kernel
theorem dX13_init_8 : decode cX13_init 8 = .ok (.newarray .long, 2) := by decide +kernel
theorem dX13_init_10 : decode cX13_init 10 = .ok (.dup, 1) := by decide +kernel
theorem dX13_init_11 : decode cX13_init 11 = .ok (.iconst 0, 1) := by decide +kernel
theorem dX13_init_12 : decode cX13_init 12 = .ok (.ldc2_w 7, 3) := by decide +kernel
theorem dX13_init_15 : decode cX13_init 15 = .ok (.lastore, 1) := by decide +kernel
theorem dX13_init_16 : decode cX13_init 16 = .ok (.dup, 1) := by decide +kernel
theorem dX13_init_17 : decode cX13_init 17 = .ok (.iconst 1, 1) := by decide +kernel
theorem dX13_init_18 : decode cX13_init 18 = .ok (.ldc2_w 9, 3) := by decide +kernel
theorem dX13_init_21 : decode cX13_init 21 = .ok (.lastore, 1) := by decide +kernel
theorem dX13_init_22 : decode cX13_init 22 = .ok (.dup, 1) := by decide +kernel
theorem dX13_init_23 : decode cX13_init 23 = .ok (.iconst 2, 1) := by decide +kernel
theorem dX13_init_24 : decode cX13_init 24 = .ok (.ldc2_w 11, 3) := by decide +kernel
theorem dX13_init_27 : decode cX13_init 27 = .ok (.lastore, 1) := by decide +kernel
theorem dX13_init_28 : decode cX13_init 28 = .ok (.dup, 1) := by decide +kernel
theorem dX13_init_29 : decode cX13_init 29 = .ok (.iconst 3, 1) := by decide +kernel
theorem dX13_init_30 : decode cX13_init 30 = .ok (.ldc2_w 13, 3) := by decide +kernel
theorem dX13_init_33 : decode cX13_init 33 = .ok (.lastore, 1) := by decide +kernel
theorem dX13_init_34 : decode cX13_init 34 = .ok (.dup, 1) := by decide +kernel
theorem dX13_init_35 : decode cX13_init 35 = .ok (.iconst 4, 1) := by decide +kernel
theorem dX13_init_36 : decode cX13_init 36 = .ok (.ldc2_w 15, 3) := by decide +kernel
theorem dX13_init_39 : decode cX13_init 39 = .ok (.lastore, 1) := by decide +kernel
theorem dX13_init_40 : decode cX13_init 40 = .ok (.dup, 1) := by decide +kernel
theorem dX13_init_41 : decode cX13_init 41 = .ok (.iconst 5, 1) := by decide +kernel
theorem dX13_init_42 : decode cX13_init 42 = .ok (.ldc2_w 17, 3) := by decide +kernel
theorem dX13_init_45 : decode cX13_init 45 = .ok (.lastore, 1) := by decide +kernel
theorem dX13_init_46 : decode cX13_init 46 = .ok (.dup, 1) := by decide +kernel
theorem dX13_init_47 : decode cX13_init 47 = .ok (.bipush 6, 2) := by decide +kernel
theorem dX13_init_49 : decode cX13_init 49 = .ok (.ldc2_w 19, 3) := by decide +kernel
theorem dX13_init_52 : decode cX13_init 52 = .ok (.lastore, 1) := by decide +kernel
theorem dX13_init_53 : decode cX13_init 53 = .ok (.dup, 1) := by decide +kernel
theorem dX13_init_54 : decode cX13_init 54 = .ok (.bipush 7, 2) := by decide +kernel
theorem dX13_init_56 : decode cX13_init 56 = .ok (.ldc2_w 21, 3) := by decide +kernel
theorem dX13_init_59 : decode cX13_init 59 = .ok (.lastore, 1) := by decide +kernel
theorem dX13_init_60 : decode cX13_init 60 = .ok (.dup, 1) := by decide +kernel
theorem dX13_init_61 : decode cX13_init 61 = .ok (.bipush 8, 2) := by decide +kernel
theorem dX13_init_63 : decode cX13_init 63 = .ok (.ldc2_w 23, 3) := by decide +kernel
theorem dX13_init_66 : decode cX13_init 66 = .ok (.lastore, 1) := by decide +kernel
theorem dX13_init_67 : decode cX13_init 67 = .ok (.dup, 1) := by decide +kernel
theorem dX13_init_68 : decode cX13_init 68 = .ok (.bipush 9, 2) := by decide +kernel
theorem dX13_init_70 : decode cX13_init 70 = .ok (.ldc2_w 25, 3) := by decide +kernel
theorem dX13_init_73 : decode cX13_init 73 = .ok (.lastore, 1) := by decide +kernel
theorem dX13_init_74 : decode cX13_init 74 = .ok (.dup, 1) := by decide +kernel
theorem dX13_init_75 : decode cX13_init 75 = .ok (.bipush 10, 2) := by decide +kernel
theorem dX13_init_77 : decode cX13_init 77 = .ok (.ldc2_w 27, 3) := by decide +kernel
theorem dX13_init_80 : decode cX13_init 80 = .ok (.lastore, 1) := by decide +kernel
theorem dX13_init_81 : decode cX13_init 81 = .ok (.dup, 1) := by decide +kernel
theorem dX13_init_82 : decode cX13_init 82 = .ok (.bipush 11, 2) := by decide +kernel
theorem dX13_init_84 : decode cX13_init 84 = .ok (.ldc2_w 29, 3) := by decide +kernel
theorem dX13_init_87 : decode cX13_init 87 = .ok (.lastore, 1) := by decide +kernel
theorem dX13_init_88 : decode cX13_init 88 = .ok (.dup, 1) := by decide +kernel
theorem dX13_init_89 : decode cX13_init 89 = .ok (.bipush 12, 2) := by decide +kernel
theorem dX13_init_91 : decode cX13_init 91 = .ok (.ldc2_w 31, 3) := by decide +kernel
theorem dX13_init_94 : decode cX13_init 94 = .ok (.lastore, 1) := by decide +kernel
theorem dX13_init_95 : decode cX13_init 95 = .ok (.dup, 1) := by decide +kernel
theorem dX13_init_96 : decode cX13_init 96 = .ok (.bipush 13, 2) := by decide +kernel
theorem dX13_init_98 : decode cX13_init 98 = .ok (.ldc2_w 33, 3) := by decide +kernel
theorem dX13_init_101 : decode cX13_init 101 = .ok (.lastore, 1) := by decide +kernel
theorem dX13_init_102 : decode cX13_init 102 = .ok (.dup, 1) := by decide +kernel
theorem dX13_init_103 : decode cX13_init 103 = .ok (.bipush 14, 2) := by decide +kernel
theorem dX13_init_105 : decode cX13_init 105 = .ok (.ldc2_w 35, 3) := by decide +kernel
theorem dX13_init_108 : decode cX13_init 108 = .ok (.lastore, 1) := by decide +kernel
theorem dX13_init_109 : decode cX13_init 109 = .ok (.dup, 1) := by decide +kernel
theorem dX13_init_110 : decode cX13_init 110 = .ok (.bipush 15, 2) := by decide +kernel
theorem dX13_init_112 : decode cX13_init 112 = .ok (.ldc2_w 37, 3) := by decide +kernel
theorem dX13_init_115 : decode cX13_init 115 = .ok (.lastore, 1) := by decide +kernel
theorem dX13_init_116 : decode cX13_init 116 = .ok (.dup, 1) := by decide +kernel
theorem dX13_init_117 : decode cX13_init 117 = .ok (.bipush 16, 2) := by decide +kernel
theorem dX13_init_119 : decode cX13_init 119 = .ok (.ldc2_w 39, 3) := by decide +kernel
theorem dX13_init_122 : decode cX13_init 122 = .ok (.lastore, 1) := by decide +kernel
theorem dX13_init_123 : decode cX13_init 123 = .ok (.dup, 1) := by decide +kernel
theorem dX13_init_124 : decode cX13_init 124 = .ok (.bipush 17, 2) := by decide +kernel
theorem dX13_init_126 : decode cX13_init 126 = .ok (.ldc2_w 41, 3) := by decide +kernel
theorem dX13_init_129 : decode cX13_init 129 = .ok (.lastore, 1) := by decide +kernel
theorem dX13_init_130 : decode cX13_init 130 = .ok (.dup, 1) := by decide +kernel
theorem dX13_init_131 : decode cX13_init 131 = .ok (.bipush 18, 2) := by decide +kernel
theorem dX13_init_133 : decode cX13_init 133 = .ok (.ldc2_w 43, 3) := by decide +kernel
theorem dX13_init_136 : decode cX13_init 136 = .ok (.lastore, 1) := by decide +kernel
theorem dX13_init_137 : decode cX13_init 137 = .ok (.dup, 1) := by decide +kernel
theorem dX13_init_138 : decode cX13_init 138 = .ok (.bipush 19, 2) := by decide +kernel
theorem dX13_init_140 : decode cX13_init 140 = .ok (.ldc2_w 45, 3) := by decide +kernel
theorem dX13_init_143 : decode cX13_init 143 = .ok (.lastore, 1) := by decide +kernel
theorem dX13_init_144 : decode cX13_init 144 = .ok (.dup, 1) := by decide +kernel
theorem dX13_init_145 : decode cX13_init 145 = .ok (.bipush 20, 2) := by decide +kernel
theorem dX13_init_147 : decode cX13_init 147 = .ok (.ldc2_w 47, 3) := by decide +kernel
theorem dX13_init_150 : decode cX13_init 150 = .ok (.lastore, 1) := by decide +kernel
theorem dX13_init_151 : decode cX13_init 151 = .ok (.dup, 1) := by decide +kernel
theorem dX13_init_152 : decode cX13_init 152 = .ok (.bipush 21, 2) := by decide +kernel
theorem dX13_init_154 : decode cX13_init 154 = .ok (.ldc2_w 49, 3) := by decide +kernel
theorem dX13_init_157 : decode cX13_init 157 = .ok (.lastore, 1) := by decide +kernel
theorem dX13_init_158 : decode cX13_init 158 = .ok (.dup, 1) := by decide +kernel
theorem dX13_init_159 : decode cX13_init 159 = .ok (.bipush 22, 2) := by decide +kernel
theorem dX13_init_161 : decode cX13_init 161 = .ok (.ldc2_w 51, 3) := by decide +kernel
theorem dX13_init_164 : decode cX13_init 164 = .ok (.lastore, 1) := by decide +kernel
theorem dX13_init_165 : decode cX13_init 165 = .ok (.dup, 1) := by decide +kernel
theorem dX13_init_166 : decode cX13_init 166 = .ok (.bipush 23, 2) := by decide +kernel
theorem dX13_init_168 : decode cX13_init 168 = .ok (.ldc2_w 53, 3) := by decide +kernel
theorem dX13_init_171 : decode cX13_init 171 = .ok (.lastore, 1) := by decide +kernel
theorem dX13_init_172 : decode cX13_init 172 = .ok (.dup, 1) := by decide +kernel
theorem dX13_init_173 : decode cX13_init 173 = .ok (.bipush 24, 2) := by decide +kernel
theorem dX13_init_175 : decode cX13_init 175 = .ok (.ldc2_w 55, 3) := by decide +kernel
theorem dX13_init_178 : decode cX13_init 178 = .ok (.lastore, 1) := by decide +kernel
theorem dX13_init_179 : decode cX13_init 179 = .ok (.dup, 1) := by decide +kernel
theorem dX13_init_180 : decode cX13_init 180 = .ok (.bipush 25, 2) := by decide +kernel
theorem dX13_init_182 : decode cX13_init 182 = .ok (.ldc2_w 57, 3) := by decide +kernel
theorem dX13_init_185 : decode cX13_init 185 = .ok (.lastore, 1) := by decide +kernel
theorem dX13_init_186 : decode cX13_init 186 = .ok (.dup, 1) := by decide +kernel
theorem dX13_init_187 : decode cX13_init 187 = .ok (.bipush 26, 2) := by decide +kernel
theorem dX13_init_189 : decode cX13_init 189 = .ok (.ldc2_w 59, 3) := by decide +kernel
theorem dX13_init_192 : decode cX13_init 192 = .ok (.lastore, 1) := by decide +kernel
theorem dX13_init_193 : decode cX13_init 193 = .ok (.dup, 1) := by decide +kernel
theorem dX13_init_194 : decode cX13_init 194 = .ok (.bipush 27, 2) := by decide +kernel
theorem dX13_init_196 : decode cX13_init 196 = .ok (.ldc2_w 61, 3) := by decide +kernel
theorem dX13_init_199 : decode cX13_init 199 = .ok (.lastore, 1) := by decide +kernel
theorem dX13_init_200 : decode cX13_init 200 = .ok (.dup, 1) := by decide +kernel
theorem dX13_init_201 : decode cX13_init 201 = .ok (.bipush 28, 2) := by decide +kernel
theorem dX13_init_203 : decode cX13_init 203 = .ok (.ldc2_w 63, 3) := by decide +kernel
theorem dX13_init_206 : decode cX13_init 206 = .ok (.lastore, 1) := by decide +kernel
theorem dX13_init_207 : decode cX13_init 207 = .ok (.dup, 1) := by decide +kernel
theorem dX13_init_208 : decode cX13_init 208 = .ok (.bipush 29, 2) := by decide +kernel
theorem dX13_init_210 : decode cX13_init 210 = .ok (.ldc2_w 65, 3) := by decide +kernel
theorem dX13_init_213 : decode cX13_init 213 = .ok (.lastore, 1) := by decide +kernel
theorem dX13_init_214 : decode cX13_init 214 = .ok (.dup, 1) := by decide +kernel
theorem dX13_init_215 : decode cX13_init 215 = .ok (.bipush 30, 2) := by decide +kernel
theorem dX13_init_217 : decode cX13_init 217 = .ok (.ldc2_w 67, 3) := by decide +kernel
theorem dX13_init_220 : decode cX13_init 220 = .ok (.lastore, 1) := by decide +kernel
theorem dX13_init_221 : decode cX13_init 221 = .ok (.dup, 1) := by decide +kernel
theorem dX13_init_222 : decode cX13_init 222 = .ok (.bipush 31, 2) := by decide +kernel
theorem dX13_init_224 : decode cX13_init 224 = .ok (.ldc2_w 69, 3) := by decide +kernel
theorem dX13_init_227 : decode cX13_init 227 = .ok (.lastore, 1) := by decide +kernel
theorem dX13_init_228 : decode cX13_init 228 = .ok (.dup, 1) := by decide +kernel
theorem dX13_init_229 : decode cX13_init 229 = .ok (.bipush 32, 2) := by decide +kernel
theorem dX13_init_231 : decode cX13_init 231 = .ok (.ldc2_w 71, 3) := by decide +kernel
theorem dX13_init_234 : decode cX13_init 234 = .ok (.lastore, 1) := by decide +kernel
theorem dX13_init_235 : decode cX13_init 235 = .ok (.dup, 1) := by decide +kernel
theorem dX13_init_236 : decode cX13_init 236 = .ok (.bipush 33, 2) := by decide +kernel
theorem dX13_init_238 : decode cX13_init 238 = .ok (.ldc2_w 73, 3) := by decide +kernel
theorem dX13_init_241 : decode cX13_init 241 = .ok (.lastore, 1) := by decide +kernel
theorem dX13_init_242 : decode cX13_init 242 = .ok (.dup, 1) := by decide +kernel
theorem dX13_init_243 : decode cX13_init 243 = .ok (.bipush 34, 2) := by decide +kernel
theorem dX13_init_245 : decode cX13_init 245 = .ok (.ldc2_w 75, 3) := by decide +kernel
theorem dX13_init_248 : decode cX13_init 248 = .ok (.lastore, 1) := by decide +kernel
theorem dX13_init_249 : decode cX13_init 249 = .ok (.dup, 1) := by decide +kernel
theorem dX13_init_250 : decode cX13_init 250 = .ok (.bipush 35, 2) := by decide +kernel
theorem dX13_init_252 : decode cX13_init 252 = .ok (.ldc2_w 77, 3) := by decide +kernel
theorem dX13_init_255 : decode cX13_init 255 = .ok (.lastore, 1) := by decide +kernel
theorem dX13_init_256 : decode cX13_init 256 = .ok (.dup, 1) := by decide +kernel
theorem dX13_init_257 : decode cX13_init 257 = .ok (.bipush 36, 2) := by decide +kernel
theorem dX13_init_259 : decode cX13_init 259 = .ok (.ldc2_w 79, 3) := by decide +kernel
theorem dX13_init_262 : decode cX13_init 262 = .ok (.lastore, 1) := by decide +kernel
theorem dX13_init_263 : decode cX13_init 263 = .ok (.dup, 1) := by decide +kernel
theorem dX13_init_264 : decode cX13_init 264 = .ok (.bipush 37, 2) := by decide +kernel
theorem dX13_init_266 : decode cX13_init 266 = .ok (.ldc2_w 81, 3) := by decide +kernel
theorem dX13_init_269 : decode cX13_init 269 = .ok (.lastore, 1) := by decide +kernel
theorem dX13_init_270 : decode cX13_init 270 = .ok (.dup, 1) := by decide +kernel
theorem dX13_init_271 : decode cX13_init 271 = .ok (.bipush 38, 2) := by decide +kernel
theorem dX13_init_273 : decode cX13_init 273 = .ok (.ldc2_w 83, 3) := by decide +kernel
theorem dX13_init_276 : decode cX13_init 276 = .ok (.lastore, 1) := by decide +kernel
theorem dX13_init_277 : decode cX13_init 277 = .ok (.dup, 1) := by decide +kernel
theorem dX13_init_278 : decode cX13_init 278 = .ok (.bipush 39, 2) := by decide +kernel
theorem dX13_init_280 : decode cX13_init 280 = .ok (.ldc2_w 85, 3) := by decide +kernel
theorem dX13_init_283 : decode cX13_init 283 = .ok (.lastore, 1) := by decide +kernel
theorem dX13_init_284 : decode cX13_init 284 = .ok (.dup, 1) := by decide +kernel
theorem dX13_init_285 : decode cX13_init 285 = .ok (.bipush 40, 2) := by decide +kernel
theorem dX13_init_287 : decode cX13_init 287 = .ok (.ldc2_w 87, 3) := by decide +kernel
theorem dX13_init_290 : decode cX13_init 290 = .ok (.lastore, 1) := by decide +kernel
theorem dX13_init_291 : decode cX13_init 291 = .ok (.dup, 1) := by decide +kernel
theorem dX13_init_292 : decode cX13_init 292 = .ok (.bipush 41, 2) := by decide +kernel
theorem dX13_init_294 : decode cX13_init 294 = .ok (.ldc2_w 89, 3) := by decide +kernel
theorem dX13_init_297 : decode cX13_init 297 = .ok (.lastore, 1) := by decide +kernel
theorem dX13_init_298 : decode cX13_init 298 = .ok (.dup, 1) := by decide +kernel
theorem dX13_init_299 : decode cX13_init 299 = .ok (.bipush 42, 2) := by decide +kernel
theorem dX13_init_301 : decode cX13_init 301 = .ok (.ldc2_w 91, 3) := by decide +kernel
theorem dX13_init_304 : decode cX13_init 304 = .ok (.lastore, 1) := by decide +kernel
theorem dX13_init_305 : decode cX13_init 305 = .ok (.dup, 1) := by decide +kernel
theorem dX13_init_306 : decode cX13_init 306 = .ok (.bipush 43, 2) := by decide +kernel
theorem dX13_init_308 : decode cX13_init 308 = .ok (.ldc2_w 93, 3) := by decide +kernel
theorem dX13_init_311 : decode cX13_init 311 = .ok (.lastore, 1) := by decide +kernel
theorem dX13_init_312 : decode cX13_init 312 = .ok (.dup, 1) := by decide +kernel
theorem dX13_init_313 : decode cX13_init 313 = .ok (.bipush 44, 2) := by decide +kernel
theorem dX13_init_315 : decode cX13_init 315 = .ok (.ldc2_w 95, 3) := by decide +kernel
theorem dX13_init_318 : decode cX13_init 318 = .ok (.lastore, 1) := by decide +kernel
theorem dX13_init_319 : decode cX13_init 319 = .ok (.dup, 1) := by decide +kernel
theorem dX13_init_320 : decode cX13_init 320 = .ok (.bipush 45, 2) := by decide +kernel
theorem dX13_init_322 : decode cX13_init 322 = .ok (.ldc2_w 97, 3) := by decide +kernel
theorem dX13_init_325 : decode cX13_init 325 = .ok (.lastore, 1) := by decide +kernel
theorem dX13_init_326 : decode cX13_init 326 = .ok (.dup, 1) := by decide +kernel
theorem dX13_init_327 : decode cX13_init 327 = .ok (.bipush 46, 2) := by decide +kernel
theorem dX13_init_329 : decode cX13_init 329 = .ok (.ldc2_w 99, 3) := by decide +kernel
theorem dX13_init_332 : decode cX13_init 332 = .ok (.lastore, 1) := by decide +kernel
theorem dX13_init_333 : decode cX13_init 333 = .ok (.dup, 1) := by decide +kernel
theorem dX13_init_334 : decode cX13_init 334 = .ok (.bipush 47, 2) := by decide +kernel
theorem dX13_init_336 : decode cX13_init 336 = .ok (.ldc2_w 101, 3) := by decide +kernel
theorem dX13_init_339 : decode cX13_init 339 = .ok (.lastore, 1) := by decide +kernel
theorem dX13_init_340 : decode cX13_init 340 = .ok (.dup, 1) := by decide +kernel
theorem dX13_init_341 : decode cX13_init 341 = .ok (.bipush 48, 2) := by decide +kernel
theorem dX13_init_343 : decode cX13_init 343 = .ok (.ldc2_w 103, 3) := by decide +kernel
theorem dX13_init_346 : decode cX13_init 346 = .ok (.lastore, 1) := by decide +kernel
theorem dX13_init_347 : decode cX13_init 347 = .ok (.dup, 1) := by decide +kernel
theorem dX13_init_348 : decode cX13_init 348 = .ok (.bipush 49, 2) := by decide +kernel
theorem dX13_init_350 : decode cX13_init 350 = .ok (.ldc2_w 105, 3) := by decide +kernel
theorem dX13_init_353 : decode cX13_init 353 = .ok (.lastore, 1) := by decide +kernel
theorem dX13_init_354 : decode cX13_init 354 = .ok (.dup, 1) := by decide +kernel
theorem dX13_init_355 : decode cX13_init 355 = .ok (.bipush 50, 2) := by decide +kernel
theorem dX13_init_357 : decode cX13_init 357 = .ok (.ldc2_w 107, 3) := by decide +kernel
theorem dX13_init_360 : decode cX13_init 360 = .ok (.lastore, 1) := by decide +kernel
theorem dX13_init_361 : decode cX13_init 361 = .ok (.dup, 1) := by decide +kernel
theorem dX13_init_362 : decode cX13_init 362 = .ok (.bipush 51, 2) := by decide +kernel
theorem dX13_init_364 : decode cX13_init 364 = .ok (.ldc2_w 109, 3) := by decide +kernel
theorem dX13_init_367 : decode cX13_init 367 = .ok (.lastore, 1) := by decide +kernel
theorem dX13_init_368 : decode cX13_init 368 = .ok (.dup, 1) := by decide +kernel
theorem dX13_init_369 : decode cX13_init 369 = .ok (.bipush 52, 2) := by decide +kernel
theorem dX13_init_371 : decode cX13_init 371 = .ok (.ldc2_w 111, 3) := by decide +kernel
theorem dX13_init_374 : decode cX13_init 374 = .ok (.lastore, 1) := by decide +kernel
theorem dX13_init_375 : decode cX13_init 375 = .ok (.dup, 1) := by decide +kernel
theorem dX13_init_376 : decode cX13_init 376 = .ok (.bipush 53, 2) := by decide +kernel
theorem dX13_init_378 : decode cX13_init 378 = .ok (.ldc2_w 113, 3) := by decide +kernel
theorem dX13_init_381 : decode cX13_init 381 = .ok (.lastore, 1) := by decide +kernel
theorem dX13_init_382 : decode cX13_init 382 = .ok (.dup, 1) := by decide +kernel
