theorem dX12_useTape_1 : decode cX12_useTape 1 = .ok (.getfield 58, 3) := by decide +kernel
theorem dX12_useTape_4 : decode cX12_useTape 4 = .ok (.istore_n 1, 1) := by decide +kernel
theorem dX12_useTape_5 : decode cX12_useTape 5 = .ok (.aload_n 0, 1) := by decide +kernel
theorem dX12_useTape_6 : decode cX12_useTape 6 = .ok (.iconst 0, 1) := by decide +kernel
theorem dX12_useTape_7 : decode cX12_useTape 7 = .ok (.putfield 58, 3) := by decide +kernel
theorem dX12_useTape_10 : decode cX12_useTape 10 = .ok (.aload_n 0, 1) := by decide +kernel
theorem dX12_useTape_11 : decode cX12_useTape 11 = .ok (.iconst 0, 1) := by decide +kernel
theorem dX12_useTape_12 : decode cX12_useTape 12 = .ok (.putfield 66, 3) := by decide +kernel
theorem dX12_useTape_15 : decode cX12_useTape 15 = .ok (.iload_n 1, 1) := by decide +kernel
theorem dX12_useTape_16 : decode cX12_useTape 16 = .ok (.ireturn, 1) := by decide +kernel
theorem dX12_programOf_0 : decode cX12_programOf 0 = .ok (.iload_n 1, 1) := by decide +kernel
theorem dX12_programOf_1 : decode cX12_programOf 1 = .ok (.ifCond .lt 8, 3) := by decide +kernel
theorem dX12_programOf_4 : decode cX12_programOf 4 = .ok (.iload_n 1, 1) := by decide +kernel
theorem dX12_programOf_5 : decode cX12_programOf 5 = .ok (.iconst 4, 1) := by decide +kernel
theorem dX12_programOf_6 : decode cX12_programOf 6 = .ok (.if_icmp .lt 7, 3) := by decide +kernel
theorem dX12_programOf_9 : decode cX12_programOf 9 = .ok (.aconst_null, 1) := by decide +kernel
theorem dX12_programOf_10 : decode cX12_programOf 10 = .ok (.goto 9, 3) := by decide +kernel
theorem dX12_programOf_13 : decode cX12_programOf 13 = .ok (.aload_n 0, 1) := by decide +kernel
theorem dX12_programOf_14 : decode cX12_programOf 14 = .ok (.getfield 16, 3) := by decide +kernel
theorem dX12_programOf_17 : decode cX12_programOf 17 = .ok (.iload_n 1, 1) := by decide +kernel
theorem dX12_programOf_18 : decode cX12_programOf 18 = .ok (.aaload, 1) := by decide +kernel
theorem dX12_programOf_19 : decode cX12_programOf 19 = .ok (.areturn, 1) := by decide +kernel
theorem dX12_unusedProgram_0 : decode cX12_unusedProgram 0 = .ok (.iconst 0, 1) := by decide +kernel
theorem dX12_unusedProgram_1 : decode cX12_unusedProgram 1 = .ok (.istore_n 1, 1) := by decide +kernel
theorem dX12_unusedProgram_2 : decode cX12_unusedProgram 2 = .ok (.iload_n 1, 1) := by decide +kernel
theorem dX12_unusedProgram_3 : decode cX12_unusedProgram 3 = .ok (.aload_n 0, 1) := by decide +kernel
theorem dX12_unusedProgram_4 : decode cX12_unusedProgram 4 = .ok (.getfield 20, 3) := by decide +kernel
theorem dX12_unusedProgram_7 : decode cX12_unusedProgram 7 = .ok (.arraylength, 1) := by decide +kernel
theorem dX12_unusedProgram_8 : decode cX12_unusedProgram 8 = .ok (.iconst 1, 1) := by decide +kernel
theorem dX12_unusedProgram_9 : decode cX12_unusedProgram 9 = .ok (.isub, 1) := by decide +kernel
theorem dX12_unusedProgram_10 : decode cX12_unusedProgram 10 = .ok (.if_icmp .ge 22, 3) := by decide +kernel
theorem dX12_unusedProgram_13 : decode cX12_unusedProgram 13 = .ok (.aload_n 0, 1) := by decide +kernel
theorem dX12_unusedProgram_14 : decode cX12_unusedProgram 14 = .ok (.aload_n 0, 1) := by decide +kernel
theorem dX12_unusedProgram_15 : decode cX12_unusedProgram 15 = .ok (.getfield 20, 3) := by decide +kernel
theorem dX12_unusedProgram_18 : decode cX12_unusedProgram 18 = .ok (.iload_n 1, 1) := by decide +kernel
theorem dX12_unusedProgram_19 : decode cX12_unusedProgram 19 = .ok (.aaload, 1) := by decide +kernel
theorem dX12_unusedProgram_20 : decode cX12_unusedProgram 20 = .ok (.invokevirtual 293, 3) := by decide +kernel
theorem dX12_unusedProgram_23 : decode cX12_unusedProgram 23 = .ok (.ifCond .eq 9, 3) := by decide +kernel
theorem dX12_unusedProgram_26 : decode cX12_unusedProgram 26 = .ok (.iinc 1 1, 3) := by decide +kernel
theorem dX12_unusedProgram_29 : decode cX12_unusedProgram 29 = .ok (.goto (-27), 3) := by decide +kernel
theorem dX12_unusedProgram_32 : decode cX12_unusedProgram 32 = .ok (.aload_n 0, 1) := by decide +kernel
theorem dX12_unusedProgram_33 : decode cX12_unusedProgram 33 = .ok (.getfield 20, 3) := by decide +kernel
theorem dX12_unusedProgram_36 : decode cX12_unusedProgram 36 = .ok (.iload_n 1, 1) := by decide +kernel
theorem dX12_unusedProgram_37 : decode cX12_unusedProgram 37 = .ok (.aaload, 1) := by decide +kernel
theorem dX12_unusedProgram_38 : decode cX12_unusedProgram 38 = .ok (.areturn, 1) := by decide +kernel
theorem dX12_isUsedProgram_0 : decode cX12_isUsedProgram 0 = .ok (.iconst 0, 1) := by decide +kernel
theorem dX12_isUsedProgram_1 : decode cX12_isUsedProgram 1 = .ok (.istore_n 2, 1) := by decide +kernel
theorem dX12_isUsedProgram_2 : decode cX12_isUsedProgram 2 = .ok (.iload_n 2, 1) := by decide +kernel
theorem dX12_isUsedProgram_3 : decode cX12_isUsedProgram 3 = .ok (.iconst 4, 1) := by decide +kernel
theorem dX12_isUsedProgram_4 : decode cX12_isUsedProgram 4 = .ok (.if_icmp .ge 34, 3) := by decide +kernel
theorem dX12_isUsedProgram_7 : decode cX12_isUsedProgram 7 = .ok (.aload_n 0, 1) := by decide +kernel
theorem dX12_isUsedProgram_8 : decode cX12_isUsedProgram 8 = .ok (.getfield 16, 3) := by decide +kernel
theorem dX12_isUsedProgram_11 : decode cX12_isUsedProgram 11 = .ok (.iload_n 2, 1) := by decide +kernel
theorem dX12_isUsedProgram_12 : decode cX12_isUsedProgram 12 = .ok (.aaload, 1) := by decide +kernel
theorem dX12_isUsedProgram_13 : decode cX12_isUsedProgram 13 = .ok (.aload_n 1, 1) := by decide +kernel
theorem dX12_isUsedProgram_14 : decode cX12_isUsedProgram 14 = .ok (.if_acmp .eq 16, 3) := by decide +kernel
theorem dX12_isUsedProgram_17 : decode cX12_isUsedProgram 17 = .ok (.aload_n 0, 1) := by decide +kernel
theorem dX12_isUsedProgram_18 : decode cX12_isUsedProgram 18 = .ok (.getfield 33, 3) := by decide +kernel
theorem dX12_isUsedProgram_21 : decode cX12_isUsedProgram 21 = .ok (.getfield 297, 3) := by decide +kernel
theorem dX12_isUsedProgram_24 : decode cX12_isUsedProgram 24 = .ok (.iload_n 2, 1) := by decide +kernel
theorem dX12_isUsedProgram_25 : decode cX12_isUsedProgram 25 = .ok (.aaload, 1) := by decide +kernel
theorem dX12_isUsedProgram_26 : decode cX12_isUsedProgram 26 = .ok (.aload_n 1, 1) := by decide +kernel
theorem dX12_isUsedProgram_27 : decode cX12_isUsedProgram 27 = .ok (.if_acmp .ne 5, 3) := by decide +kernel
theorem dX12_isUsedProgram_30 : decode cX12_isUsedProgram 30 = .ok (.iconst 1, 1) := by decide +kernel
theorem dX12_isUsedProgram_31 : decode cX12_isUsedProgram 31 = .ok (.ireturn, 1) := by decide +kernel
theorem dX12_isUsedProgram_32 : decode cX12_isUsedProgram 32 = .ok (.iinc 2 1, 3) := by decide +kernel
theorem dX12_isUsedProgram_35 : decode cX12_isUsedProgram 35 = .ok (.goto (-33), 3) := by decide +kernel
theorem dX12_isUsedProgram_38 : decode cX12_isUsedProgram 38 = .ok (.iconst 0, 1) := by decide +kernel
theorem dX12_isUsedProgram_39 : decode cX12_isUsedProgram 39 = .ok (.ireturn, 1) := by decide +kernel
theorem dX12_unusedCondition_0 : decode cX12_unusedCondition 0 = .ok (.iconst 0, 1) := by decide +kernel
theorem dX12_unusedCondition_1 : decode cX12_unusedCondition 1 = .ok (.istore_n 1, 1) := by decide +kernel
theorem dX12_unusedCondition_2 : decode cX12_unusedCondition 2 = .ok (.iload_n 1, 1) := by decide +kernel
theorem dX12_unusedCondition_3 : decode cX12_unusedCondition 3 = .ok (.aload_n 0, 1) := by decide +kernel
theorem dX12_unusedCondition_4 : decode cX12_unusedCondition 4 = .ok (.getfield 43, 3) := by decide +kernel
theorem dX12_unusedCondition_7 : decode cX12_unusedCondition 7 = .ok (.arraylength, 1) := by decide +kernel
theorem dX12_unusedCondition_8 : decode cX12_unusedCondition 8 = .ok (.iconst 1, 1) := by decide +kernel
theorem dX12_unusedCondition_9 : decode cX12_unusedCondition 9 = .ok (.isub, 1) := by decide +kernel
theorem dX12_unusedCondition_10 : decode cX12_unusedCondition 10 = .ok (.if_icmp .ge 22, 3) := by decide +kernel
theorem dX12_unusedCondition_13 : decode cX12_unusedCondition 13 = .ok (.aload_n 0, 1) := by decide +kernel
theorem dX12_unusedCondition_14 : decode cX12_unusedCondition 14 = .ok (.aload_n 0, 1) := by decide +kernel
theorem dX12_unusedCondition_15 : decode cX12_unusedCondition 15 = .ok (.getfield 43, 3) := by decide +kernel
theorem dX12_unusedCondition_18 : decode cX12_unusedCondition 18 = .ok (.iload_n 1, 1) := by decide +kernel
theorem dX12_unusedCondition_19 : decode cX12_unusedCondition 19 = .ok (.aaload, 1) := by decide +kernel
theorem dX12_unusedCondition_20 : decode cX12_unusedCondition 20 = .ok (.invokevirtual 298, 3) := by decide +kernel
theorem dX12_unusedCondition_23 : decode cX12_unusedCondition 23 = .ok (.ifCond .eq 9, 3) := by decide +kernel
theorem dX12_unusedCondition_26 : decode cX12_unusedCondition 26 = .ok (.iinc 1 1, 3) := by decide +kernel
theorem dX12_unusedCondition_29 : decode cX12_unusedCondition 29 = .ok (.goto (-27), 3) := by decide +kernel
theorem dX12_unusedCondition_32 : decode cX12_unusedCondition 32 = .ok (.aload_n 0, 1) := by decide +kernel
theorem dX12_unusedCondition_33 : decode cX12_unusedCondition 33 = .ok (.getfield 43, 3) := by decide +kernel
theorem dX12_unusedCondition_36 : decode cX12_unusedCondition 36 = .ok (.iload_n 1, 1) := by decide +kernel
theorem dX12_unusedCondition_37 : decode cX12_unusedCondition 37 = .ok (.aaload, 1) := by decide +kernel
theorem dX12_unusedCondition_38 : decode cX12_unusedCondition 38 = .ok (.areturn, 1) := by decide +kernel
theorem dX12_isBreak_0 : decode cX12_isBreak 0 = .ok (.iconst 0, 1) := by decide +kernel
theorem dX12_isBreak_1 : decode cX12_isBreak 1 = .ok (.istore_n 2, 1) := by decide +kernel
theorem dX12_isBreak_2 : decode cX12_isBreak 2 = .ok (.iload_n 2, 1) := by decide +kernel
theorem dX12_isBreak_3 : decode cX12_isBreak 3 = .ok (.bipush 8, 2) := by decide +kernel
theorem dX12_isBreak_5 : decode cX12_isBreak 5 = .ok (.if_icmp .ge 21, 3) := by decide +kernel
theorem dX12_isBreak_8 : decode cX12_isBreak 8 = .ok (.aload_n 0, 1) := by decide +kernel
theorem dX12_isBreak_9 : decode cX12_isBreak 9 = .ok (.getfield 39, 3) := by decide +kernel
theorem dX12_isBreak_12 : decode cX12_isBreak 12 = .ok (.iload_n 2, 1) := by decide +kernel
theorem dX12_isBreak_13 : decode cX12_isBreak 13 = .ok (.aaload, 1) := by decide +kernel
theorem dX12_isBreak_14 : decode cX12_isBreak 14 = .ok (.aload_n 1, 1) := by decide +kernel
theorem dX12_isBreak_15 : decode cX12_isBreak 15 = .ok (.if_acmp .ne 5, 3) := by decide +kernel
theorem dX12_isBreak_18 : decode cX12_isBreak 18 = .ok (.iconst 1, 1) := by decide +kernel
theorem dX12_isBreak_19 : decode cX12_isBreak 19 = .ok (.ireturn, 1) := by decide +kernel
theorem dX12_isBreak_20 : decode cX12_isBreak 20 = .ok (.iinc 2 1, 3) := by decide +kernel
theorem dX12_isBreak_23 : decode cX12_isBreak 23 = .ok (.goto (-21), 3) := by decide +kernel
theorem dX12_isBreak_26 : decode cX12_isBreak 26 = .ok (.iconst 0, 1) := by decide +kernel
theorem dX12_isBreak_27 : decode cX12_isBreak 27 = .ok (.ireturn, 1) := by decide +kernel
theorem dX12_isThere_0 : decode cX12_isThere 0 = .ok (.aload_n 0, 1) := by decide +kernel
theorem dX12_isThere_1 : decode cX12_isThere 1 = .ok (.getfield 33, 3) := by decide +kernel
theorem dX12_isThere_4 : decode cX12_isThere 4 = .ok (.getfield 142, 3) := by decide +kernel
theorem dX12_isThere_7 : decode cX12_isThere 7 = .ok (.ifCond .eq 17, 3) := by decide +kernel
theorem dX12_isThere_10 : decode cX12_isThere 10 = .ok (.iload_n 1, 1) := by decide +kernel
theorem dX12_isThere_11 : decode cX12_isThere 11 = .ok (.ifCond .lt 13, 3) := by decide +kernel
theorem dX12_isThere_14 : decode cX12_isThere 14 = .ok (.iload_n 1, 1) := by decide +kernel
theorem dX12_isThere_15 : decode cX12_isThere 15 = .ok (.bipush 16, 2) := by decide +kernel
theorem dX12_isThere_17 : decode cX12_isThere 17 = .ok (.if_icmp .ge 7, 3) := by decide +kernel
theorem dX12_isThere_20 : decode cX12_isThere 20 = .ok (.iconst 1, 1) := by decide +kernel
theorem dX12_isThere_21 : decode cX12_isThere 21 = .ok (.goto 4, 3) := by decide +kernel
theorem dX12_isThere_24 : decode cX12_isThere 24 = .ok (.iconst 0, 1) := by decide +kernel
theorem dX12_isThere_25 : decode cX12_isThere 25 = .ok (.ireturn, 1) := by decide +kernel
theorem dX12_breaksThere_0 : decode cX12_breaksThere 0 = .ok (.iconst 0, 1) := by decide +kernel
theorem dX12_breaksThere_1 : decode cX12_breaksThere 1 = .ok (.istore_n 1, 1) := by decide +kernel
theorem dX12_breaksThere_2 : decode cX12_breaksThere 2 = .ok (.iconst 0, 1) := by decide +kernel
theorem dX12_breaksThere_3 : decode cX12_breaksThere 3 = .ok (.istore_n 2, 1) := by decide +kernel
theorem dX12_breaksThere_4 : decode cX12_breaksThere 4 = .ok (.iload_n 2, 1) := by decide +kernel
theorem dX12_breaksThere_5 : decode cX12_breaksThere 5 = .ok (.bipush 8, 2) := by decide +kernel
theorem dX12_breaksThere_7 : decode cX12_breaksThere 7 = .ok (.if_icmp .ge 21, 3) := by decide +kernel
theorem dX12_breaksThere_10 : decode cX12_breaksThere 10 = .ok (.aload_n 0, 1) := by decide +kernel
theorem dX12_breaksThere_11 : decode cX12_breaksThere 11 = .ok (.getfield 39, 3) := by decide +kernel
theorem dX12_breaksThere_14 : decode cX12_breaksThere 14 = .ok (.iload_n 2, 1) := by decide +kernel
theorem dX12_breaksThere_15 : decode cX12_breaksThere 15 = .ok (.aaload, 1) := by decide +kernel
theorem dX12_breaksThere_16 : decode cX12_breaksThere 16 = .ok (.ifnull 6, 3) := by decide +kernel
theorem dX12_breaksThere_19 : decode cX12_breaksThere 19 = .ok (.iinc 1 1, 3) := by decide +kernel
theorem dX12_breaksThere_22 : decode cX12_breaksThere 22 = .ok (.iinc 2 1, 3) := by decide +kernel
theorem dX12_breaksThere_25 : decode cX12_breaksThere 25 = .ok (.goto (-21), 3) := by decide +kernel
theorem dX12_breaksThere_28 : decode cX12_breaksThere 28 = .ok (.iload_n 1, 1) := by decide +kernel
theorem dX12_breaksThere_29 : decode cX12_breaksThere 29 = .ok (.ireturn, 1) := by decide +kernel
theorem dX19_program_0 : decode cX19_program 0 = .ok (.aload_n 0, 1) := by decide +kernel
theorem dX19_program_1 : decode cX19_program 1 = .ok (.iconst 0, 1) := by decide +kernel
theorem dX19_program_2 : decode cX19_program 2 = .ok (.putfield 113, 3) := by decide +kernel
theorem dX19_program_5 : decode cX19_program 5 = .ok (.aload_n 0, 1) := by decide +kernel
theorem dX19_program_6 : decode cX19_program 6 = .ok (.iload_n 1, 1) := by decide +kernel
theorem dX19_program_7 : decode cX19_program 7 = .ok (.invokevirtual 172, 3) := by decide +kernel
theorem dX19_program_10 : decode cX19_program 10 = .ok (.ifCond .ne 5, 3) := by decide +kernel
theorem dX19_program_13 : decode cX19_program 13 = .ok (.iconst (-1), 1) := by decide +kernel
theorem dX19_program_14 : decode cX19_program 14 = .ok (.ireturn, 1) := by decide +kernel
theorem dX19_program_15 : decode cX19_program 15 = .ok (.iload_n 2, 1) := by decide +kernel
theorem dX19_program_16 : decode cX19_program 16 = .ok (.ifCond .ne 12, 3) := by decide +kernel
theorem dX19_program_19 : decode cX19_program 19 = .ok (.aload_n 0, 1) := by decide +kernel
theorem dX19_program_20 : decode cX19_program 20 = .ok (.getfield 18, 3) := by decide +kernel
theorem dX19_program_23 : decode cX19_program 23 = .ok (.iload_n 1, 1) := by decide +kernel
theorem dX19_program_24 : decode cX19_program 24 = .ok (.iaload, 1) := by decide +kernel
theorem dX19_program_25 : decode cX19_program 25 = .ok (.goto 61, 3) := by decide +kernel
theorem dX19_program_28 : decode cX19_program 28 = .ok (.iload_n 2, 1) := by decide +kernel
theorem dX19_program_29 : decode cX19_program 29 = .ok (.iconst 1, 1) := by decide +kernel
theorem dX19_program_30 : decode cX19_program 30 = .ok (.if_icmp .ne 12, 3) := by decide +kernel
theorem dX19_program_33 : decode cX19_program 33 = .ok (.aload_n 0, 1) := by decide +kernel
theorem dX19_program_34 : decode cX19_program 34 = .ok (.getfield 21, 3) := by decide +kernel
theorem dX19_program_37 : decode cX19_program 37 = .ok (.iload_n 1, 1) := by decide +kernel
theorem dX19_program_38 : decode cX19_program 38 = .ok (.iaload, 1) := by decide +kernel
theorem dX19_program_39 : decode cX19_program 39 = .ok (.goto 47, 3) := by decide +kernel
theorem dX19_program_42 : decode cX19_program 42 = .ok (.iload_n 2, 1) := by decide +kernel
theorem dX19_program_43 : decode cX19_program 43 = .ok (.iconst 2, 1) := by decide +kernel
theorem dX19_program_44 : decode cX19_program 44 = .ok (.if_icmp .ne 12, 3) := by decide +kernel
theorem dX19_program_47 : decode cX19_program 47 = .ok (.aload_n 0, 1) := by decide +kernel
theorem dX19_program_48 : decode cX19_program 48 = .ok (.getfield 24, 3) := by decide +kernel
theorem dX19_program_51 : decode cX19_program 51 = .ok (.iload_n 1, 1) := by decide +kernel
theorem dX19_program_52 : decode cX19_program 52 = .ok (.iaload, 1) := by decide +kernel
theorem dX19_program_53 : decode cX19_program 53 = .ok (.goto 33, 3) := by decide +kernel
theorem dX19_program_56 : decode cX19_program 56 = .ok (.iload_n 2, 1) := by decide +kernel
theorem dX19_program_57 : decode cX19_program 57 = .ok (.iconst 3, 1) := by decide +kernel
theorem dX19_program_58 : decode cX19_program 58 = .ok (.if_icmp .ne 13, 3) := by decide +kernel
theorem dX19_program_61 : decode cX19_program 61 = .ok (.aload_n 0, 1) := by decide +kernel
theorem dX19_program_62 : decode cX19_program 62 = .ok (.getfield 35, 3) := by decide +kernel
theorem dX19_program_65 : decode cX19_program 65 = .ok (.iload_n 1, 1) := by decide +kernel
theorem dX19_program_66 : decode cX19_program 66 = .ok (.aaload, 1) := by decide +kernel
theorem dX19_program_67 : decode cX19_program 67 = .ok (.arraylength, 1) := by decide +kernel
theorem dX19_program_68 : decode cX19_program 68 = .ok (.goto 18, 3) := by decide +kernel
theorem dX19_program_71 : decode cX19_program 71 = .ok (.iload_n 2, 1) := by decide +kernel
theorem dX19_program_72 : decode cX19_program 72 = .ok (.iconst 4, 1) := by decide +kernel
theorem dX19_program_73 : decode cX19_program 73 = .ok (.if_icmp .ne 12, 3) := by decide +kernel
theorem dX19_program_76 : decode cX19_program 76 = .ok (.aload_n 0, 1) := by decide +kernel
theorem dX19_program_77 : decode cX19_program 77 = .ok (.getfield 27, 3) := by decide +kernel
theorem dX19_program_80 : decode cX19_program 80 = .ok (.iload_n 1, 1) := by decide +kernel
theorem dX19_program_81 : decode cX19_program 81 = .ok (.iaload, 1) := by decide +kernel
theorem dX19_program_82 : decode cX19_program 82 = .ok (.goto 4, 3) := by decide +kernel
theorem dX19_program_85 : decode cX19_program 85 = .ok (.iconst (-1), 1) := by decide +kernel
theorem dX19_program_86 : decode cX19_program 86 = .ok (.ireturn, 1) := by decide +kernel
theorem dX19_label_0 : decode cX19_label 0 = .ok (.aload_n 0, 1) := by decide +kernel
theorem dX19_label_1 : decode cX19_label 1 = .ok (.iconst 0, 1) := by decide +kernel
theorem dX19_label_2 : decode cX19_label 2 = .ok (.putfield 113, 3) := by decide +kernel
theorem dX19_label_5 : decode cX19_label 5 = .ok (.aload_n 0, 1) := by decide +kernel
theorem dX19_label_6 : decode cX19_label 6 = .ok (.iload_n 1, 1) := by decide +kernel
theorem dX19_label_7 : decode cX19_label 7 = .ok (.invokevirtual 172, 3) := by decide +kernel
theorem dX19_label_10 : decode cX19_label 10 = .ok (.ifCond .eq 29, 3) := by decide +kernel
theorem dX19_label_13 : decode cX19_label 13 = .ok (.iload_n 2, 1) := by decide +kernel
theorem dX19_label_14 : decode cX19_label 14 = .ok (.ifCond .lt 25, 3) := by decide +kernel
theorem dX19_label_17 : decode cX19_label 17 = .ok (.iload_n 2, 1) := by decide +kernel
theorem dX19_label_18 : decode cX19_label 18 = .ok (.aload_n 0, 1) := by decide +kernel
theorem dX19_label_19 : decode cX19_label 19 = .ok (.getfield 35, 3) := by decide +kernel
theorem dX19_label_22 : decode cX19_label 22 = .ok (.iload_n 1, 1) := by decide +kernel
theorem dX19_label_23 : decode cX19_label 23 = .ok (.aaload, 1) := by decide +kernel
theorem dX19_label_24 : decode cX19_label 24 = .ok (.arraylength, 1) := by decide +kernel
theorem dX19_label_25 : decode cX19_label 25 = .ok (.if_icmp .ge 14, 3) := by decide +kernel
theorem dX19_label_28 : decode cX19_label 28 = .ok (.aload_n 0, 1) := by decide +kernel
theorem dX19_label_29 : decode cX19_label 29 = .ok (.getfield 35, 3) := by decide +kernel
theorem dX19_label_32 : decode cX19_label 32 = .ok (.iload_n 1, 1) := by decide +kernel
theorem dX19_label_33 : decode cX19_label 33 = .ok (.aaload, 1) := by decide +kernel
theorem dX19_label_34 : decode cX19_label 34 = .ok (.iload_n 2, 1) := by decide +kernel
theorem dX19_label_35 : decode cX19_label 35 = .ok (.iaload, 1) := by decide +kernel
theorem dX19_label_36 : decode cX19_label 36 = .ok (.goto 4, 3) := by decide +kernel
theorem dX19_label_39 : decode cX19_label 39 = .ok (.iconst (-1), 1) := by decide +kernel
theorem dX19_label_40 : decode cX19_label 40 = .ok (.ireturn, 1) := by decide +kernel
theorem dX19_before_0 : decode cX19_before 0 = .ok (.aload_n 0, 1) := by decide +kernel
theorem dX19_before_1 : decode cX19_before 1 = .ok (.iconst 0, 1) := by decide +kernel
theorem dX19_before_2 : decode cX19_before 2 = .ok (.putfield 113, 3) := by decide +kernel
theorem dX19_before_5 : decode cX19_before 5 = .ok (.iconst (-1), 1) := by decide +kernel
theorem dX19_before_6 : decode cX19_before 6 = .ok (.istore_n 3, 1) := by decide +kernel
theorem dX19_before_7 : decode cX19_before 7 = .ok (.iconst 0, 1) := by decide +kernel
theorem dX19_before_8 : decode cX19_before 8 = .ok (.istore 4, 2) := by decide +kernel
theorem dX19_before_10 : decode cX19_before 10 = .ok (.aload_n 0, 1) := by decide +kernel
theorem dX19_before_11 : decode cX19_before 11 = .ok (.iload_n 1, 1) := by decide +kernel
theorem dX19_before_12 : decode cX19_before 12 = .ok (.invokevirtual 172, 3) := by decide +kernel
theorem dX19_before_15 : decode cX19_before 15 = .ok (.ifCond .eq 66, 3) := by decide +kernel
theorem dX19_before_18 : decode cX19_before 18 = .ok (.iload 4, 2) := by decide +kernel
theorem dX19_before_20 : decode cX19_before 20 = .ok (.aload_n 0, 1) := by decide +kernel
theorem dX19_before_21 : decode cX19_before 21 = .ok (.getfield 35, 3) := by decide +kernel
theorem dX19_before_24 : decode cX19_before 24 = .ok (.iload_n 1, 1) := by decide +kernel
theorem dX19_before_25 : decode cX19_before 25 = .ok (.aaload, 1) := by decide +kernel
theorem dX19_before_26 : decode cX19_before 26 = .ok (.arraylength, 1) := by decide +kernel
theorem dX19_before_27 : decode cX19_before 27 = .ok (.if_icmp .ge 54, 3) := by decide +kernel
theorem dX19_before_30 : decode cX19_before 30 = .ok (.aload_n 0, 1) := by decide +kernel
theorem dX19_before_31 : decode cX19_before 31 = .ok (.getfield 35, 3) := by decide +kernel
theorem dX19_before_34 : decode cX19_before 34 = .ok (.iload_n 1, 1) := by decide +kernel
theorem dX19_before_35 : decode cX19_before 35 = .ok (.aaload, 1) := by decide +kernel
theorem dX19_before_36 : decode cX19_before 36 = .ok (.iload 4, 2) := by decide +kernel
theorem dX19_before_38 : decode cX19_before 38 = .ok (.iaload, 1) := by decide +kernel
theorem dX19_before_39 : decode cX19_before 39 = .ok (.iload_n 2, 1) := by decide +kernel
theorem dX19_before_40 : decode cX19_before 40 = .ok (.if_icmp .gt 33, 3) := by decide +kernel
theorem dX19_before_43 : decode cX19_before 43 = .ok (.iload_n 3, 1) := by decide +kernel
theorem dX19_before_44 : decode cX19_before 44 = .ok (.iconst (-1), 1) := by decide +kernel
theorem dX19_before_45 : decode cX19_before 45 = .ok (.if_icmp .eq 23, 3) := by decide +kernel
theorem dX19_before_48 : decode cX19_before 48 = .ok (.aload_n 0, 1) := by decide +kernel
theorem dX19_before_49 : decode cX19_before 49 = .ok (.getfield 35, 3) := by decide +kernel
theorem dX19_before_52 : decode cX19_before 52 = .ok (.iload_n 1, 1) := by decide +kernel
theorem dX19_before_53 : decode cX19_before 53 = .ok (.aaload, 1) := by decide +kernel
theorem dX19_before_54 : decode cX19_before 54 = .ok (.iload 4, 2) := by decide +kernel
theorem dX19_before_56 : decode cX19_before 56 = .ok (.iaload, 1) := by decide +kernel
theorem dX19_before_57 : decode cX19_before 57 = .ok (.aload_n 0, 1) := by decide +kernel
theorem dX19_before_58 : decode cX19_before 58 = .ok (.getfield 35, 3) := by decide +kernel
theorem dX19_before_61 : decode cX19_before 61 = .ok (.iload_n 1, 1) := by decide +kernel
theorem dX19_before_62 : decode cX19_before 62 = .ok (.aaload, 1) := by decide +kernel
theorem dX19_before_63 : decode cX19_before 63 = .ok (.iload_n 3, 1) := by decide +kernel
theorem dX19_before_64 : decode cX19_before 64 = .ok (.iaload, 1) := by decide +kernel
theorem dX19_before_65 : decode cX19_before 65 = .ok (.if_icmp .lt 8, 3) := by decide +kernel
theorem dX19_before_68 : decode cX19_before 68 = .ok (.iload 4, 2) := by decide +kernel
theorem dX19_before_70 : decode cX19_before 70 = .ok (.goto 4, 3) := by decide +kernel
theorem dX19_before_73 : decode cX19_before 73 = .ok (.iload_n 3, 1) := by decide +kernel
theorem dX19_before_74 : decode cX19_before 74 = .ok (.istore_n 3, 1) := by decide +kernel
theorem dX19_before_75 : decode cX19_before 75 = .ok (.iinc 4 1, 3) := by decide +kernel
theorem dX19_before_78 : decode cX19_before 78 = .ok (.goto (-68), 3) := by decide +kernel
theorem dX19_before_81 : decode cX19_before 81 = .ok (.iload_n 3, 1) := by decide +kernel
theorem dX19_before_82 : decode cX19_before 82 = .ok (.ireturn, 1) := by decide +kernel
